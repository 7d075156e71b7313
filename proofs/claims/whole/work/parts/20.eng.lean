/-! evaluating programs: small ints are nI n; side conditions by omega -/
theorem ne_i0 : (0 : Int32) = nI 0 := rfl
theorem ne_i1 : (1 : Int32) = nI 1 := rfl
theorem ne_i2 : (2 : Int32) = nI 2 := rfl
theorem ne_i3 : (3 : Int32) = nI 3 := rfl
theorem ne_i4 : (4 : Int32) = nI 4 := rfl
theorem ne_i5 : (5 : Int32) = nI 5 := rfl
theorem ne_i6 : (6 : Int32) = nI 6 := rfl
theorem ne_i7 : (7 : Int32) = nI 7 := rfl
theorem ne_i8 : (8 : Int32) = nI 8 := rfl
theorem ne_i9 : (9 : Int32) = nI 9 := rfl
theorem ne_i10 : (10 : Int32) = nI 10 := rfl
theorem ne_i12 : (12 : Int32) = nI 12 := rfl
theorem ne_i14 : (14 : Int32) = nI 14 := rfl
theorem ne_i16 : (16 : Int32) = nI 16 := rfl
theorem ne_i18 : (18 : Int32) = nI 18 := rfl
theorem ne_i19 : (19 : Int32) = nI 19 := rfl
theorem ne_i20 : (20 : Int32) = nI 20 := rfl
theorem ne_i23 : (23 : Int32) = nI 23 := rfl
theorem ne_i24 : (24 : Int32) = nI 24 := rfl
theorem ne_i27 : (27 : Int32) = nI 27 := rfl
theorem ne_i29 : (29 : Int32) = nI 29 := rfl
theorem ne_i30 : (30 : Int32) = nI 30 := rfl
theorem ne_i31 : (31 : Int32) = nI 31 := rfl
theorem ne_i32 : (32 : Int32) = nI 32 := rfl
theorem ne_i35 : (35 : Int32) = nI 35 := rfl
theorem ne_i48 : (48 : Int32) = nI 48 := rfl
theorem ne_i52 : (52 : Int32) = nI 52 := rfl
theorem ne_i54 : (54 : Int32) = nI 54 := rfl
theorem ne_i57 : (57 : Int32) = nI 57 := rfl
theorem ne_i59 : (59 : Int32) = nI 59 := rfl
theorem ne_i63 : (63 : Int32) = nI 63 := rfl
theorem ne_i64 : (64 : Int32) = nI 64 := rfl
theorem ne_i76 : (76 : Int32) = nI 76 := rfl
theorem ne_i77 : (77 : Int32) = nI 77 := rfl
theorem ne_i78 : (78 : Int32) = nI 78 := rfl
theorem ne_i79 : (79 : Int32) = nI 79 := rfl
theorem ne_i80 : (80 : Int32) = nI 80 := rfl
theorem ne_i81 : (81 : Int32) = nI 81 := rfl
theorem ne_i97 : (97 : Int32) = nI 97 := rfl
theorem ne_i99 : (99 : Int32) = nI 99 := rfl
theorem ne_i100 : (100 : Int32) = nI 100 := rfl
theorem ne_i101 : (101 : Int32) = nI 101 := rfl
theorem ne_i104 : (104 : Int32) = nI 104 := rfl
theorem ne_i105 : (105 : Int32) = nI 105 := rfl
theorem ne_i108 : (108 : Int32) = nI 108 := rfl
theorem ne_i110 : (110 : Int32) = nI 110 := rfl
theorem ne_i111 : (111 : Int32) = nI 111 := rfl
theorem ne_i116 : (116 : Int32) = nI 116 := rfl
theorem ne_i117 : (117 : Int32) = nI 117 := rfl
theorem ne_i122 : (122 : Int32) = nI 122 := rfl
theorem ne_i103 : (103 : Int32) = nI 103 := rfl
theorem ne_i200 : (200 : Int32) = nI 200 := rfl
theorem ne_i255 : (255 : Int32) = nI 255 := rfl
theorem ne_i256 : (256 : Int32) = nI 256 := rfl
theorem ne_i320 : (320 : Int32) = nI 320 := rfl
theorem ne_i384 : (384 : Int32) = nI 384 := rfl
theorem ne_i1000 : (1000 : Int32) = nI 1000 := rfl
theorem ne_l0 : (0 : Int64) = lN 0 := rfl
theorem ne_l1 : (1 : Int64) = lN 1 := rfl
theorem ne_l2 : (2 : Int64) = lN 2 := rfl
theorem ne_l3 : (3 : Int64) = lN 3 := rfl
theorem ne_l4 : (4 : Int64) = lN 4 := rfl
theorem ne_l5 : (5 : Int64) = lN 5 := rfl
theorem ne_l8 : (8 : Int64) = lN 8 := rfl
theorem ne_l12 : (12 : Int64) = lN 12 := rfl
theorem ne_l31 : (31 : Int64) = lN 31 := rfl
theorem ne_l48 : (48 : Int64) = lN 48 := rfl
theorem ne_l57 : (57 : Int64) = lN 57 := rfl
theorem ne_l97 : (97 : Int64) = lN 97 := rfl
theorem ne_l99 : (99 : Int64) = lN 99 := rfl
theorem ne_l122 : (122 : Int64) = lN 122 := rfl
theorem ne_l255 : (255 : Int64) = lN 255 := rfl
theorem ne_l673 : (673 : Int64) = lN 673 := rfl
theorem ne_l1073741823 : (1073741823 : Int64) = lN 1073741823 := rfl
theorem ne_l1073741824 : (1073741824 : Int64) = lN 1073741824 := rfl
theorem ne_addneg {a b : Nat} (h : b ≤ a) : nI a + -nI b = nI (a - b) := by
  rw [← Int32.sub_eq_add_neg, pk_sub h]
theorem ne_ltT {a b : Nat} (h : a < b) (hb : b < 2 ^ 31) : (nI a < nI b) = True := eq_true (nI_lt h hb)
theorem ne_ltF {a b : Nat} (h : b ≤ a) (ha : a < 2 ^ 31) : (nI a < nI b) = False := eq_false (nI_nlt h ha)
theorem ne_leT {a b : Nat} (h : a ≤ b) (hb : b < 2 ^ 31) : (nI a ≤ nI b) = True := eq_true (nI_le h hb)
theorem ne_leF {a b : Nat} (h : b < a) (ha : a < 2 ^ 31) : (nI a ≤ nI b) = False := eq_false (nI_ge h ha)
theorem ne_eqT {a b : Nat} (h : a = b) : (nI a = nI b) = True := eq_true (by rw [h])
theorem ne_eqF {a b : Nat} (h : a ≠ b) (ha : a < 2 ^ 31) (hb : b < 2 ^ 31) : (nI a = nI b) = False := eq_false (fun q => h ((nI_eq ha hb).mp q))
section
variable {S : sm_St} {p q k : Nat} {v : Int32} {w : Int64}
theorem ne_sI1s : (sm_sI S p k v).1 p = upd (S.1 p) k v := by simp [sm_sI, va_up]
theorem ne_sI1n (h : q ≠ p) : (sm_sI S p k v).1 q = S.1 q := by simp [sm_sI, va_up, h]
theorem ne_sI2 : (sm_sI S p k v).2.1 = S.2.1 := rfl
theorem ne_sI3 : (sm_sI S p k v).2.2 = S.2.2 := rfl
theorem ne_sL1 : (sm_sL S p k w).1 = S.1 := rfl
theorem ne_sL2s : (sm_sL S p k w).2.1 p = vp_updL (S.2.1 p) k w := by simp [sm_sL, va_up]
theorem ne_sL2n (h : q ≠ p) : (sm_sL S p k w).2.1 q = S.2.1 q := by simp [sm_sL, va_up, h]
theorem ne_sL3 : (sm_sL S p k w).2.2 = S.2.2 := rfl
theorem ne_rz0 : sm_rz (nI 0) S = some (nI 0, S) := rfl
theorem ne_rz1 : sm_rz (nI 1) S = some (nI 1, S) := rfl
theorem ne_up_s {α : Type} {f : Nat → α} {x : α} : va_up f k x k = x := if_pos rfl
theorem ne_up_n {α : Type} {f : Nat → α} {x : α} {j : Nat} (h : j ≠ k) : va_up f k x j = f j := if_neg h
end
/-- a loop that may end early: F fuel index state -/
theorem ne_loop {σ α : Type} (F : Nat → Nat → σ → α) (I : Nat → σ → Prop) (e : Nat) (Q : α → Prop)
    (hs : ∀ f i s, i < e → I i s → (∃ s', I (i + 1) s' ∧ F (f + 1) i s = F f (i + 1) s') ∨ Q (F (f + 1) i s))
    (he : ∀ f s, I e s → Q (F (f + 1) e s)) : ∀ f i s, i ≤ e → e - i < f → I i s → Q (F f i s) := by
  intro f
  induction f with
  | zero => intro i s _ h; omega
  | succ f ih =>
    intro i s hi hf hI
    rcases Nat.lt_or_ge i e with h | h
    · rcases hs f i s h hI with ⟨s', h1, h2⟩ | h1
      · rw [h2]
        exact ih (i + 1) s' h (by omega) h1
      · exact h1
    · obtain rfl : i = e := by omega
      exact he f s hI
/-- a loop that goes to its end -/
theorem ne_for {σ α : Type} (F : Nat → Nat → σ → α) (I : Nat → σ → Prop) (e : Nat)
    (hs : ∀ f i s, i < e → I i s → ∃ s', I (i + 1) s' ∧ F (f + 1) i s = F f (i + 1) s') (f i : Nat) (s : σ) (hi : i ≤ e) (hf : e - i < f) (hI : I i s) : ∃ s' g, I e s' ∧ F f i s = F (g + 1) e s' := by
  exact ne_loop F I e (fun r => ∃ s' g, I e s' ∧ r = F (g + 1) e s') (fun f i s h1 h2 => Or.inl (hs f i s h1 h2)) (fun f s h => ⟨s, f, h, rfl⟩) f i s hi hf hI
/-- an argument: small, or not -/
theorem ne_arg (v : Int32) (m : Nat) (hm : m < 2 ^ 31) : (∃ j, j ≤ m ∧ v = nI j) ∨ (v.toInt < 0 ∨ (m : Int) < v.toInt) := by
  by_cases h : v.toInt < 0 ∨ (m : Int) < v.toInt
  · exact Or.inr h
  · left
    have h0 : ¬ v < 0 := by
      rw [Int32.lt_iff_toInt_lt, Int32.toInt_zero]
      omega
    obtain ⟨j, h1, rfl⟩ := nI_of h0
    rw [nI_toInt h1] at h
    exact ⟨j, by omega, rfl⟩
theorem ne_lT {v : Int64} {w : Int64} : (v < w) = (v.toInt < w.toInt) := propext Int64.lt_iff_toInt_lt
/-- pm_in by numbers -/
theorem ne_in {N : Nat} {S : sm_St} {v lo hi : Int64} : pm_in N S v lo hi = some (if lo.toInt ≤ v.toInt ∧ v.toInt ≤ hi.toInt then nI 1 else nI 0, S) := by
  unfold pm_in
  simp only [ne_lT]
  by_cases h1 : v.toInt < lo.toInt
  · rw [if_pos h1, if_neg (by omega)]
    rfl
  · rw [if_neg h1]
    by_cases h2 : hi.toInt < v.toInt
    · rw [if_pos h2, if_neg (by omega)]
      rfl
    · rw [if_neg h2, if_pos (by omega)]
      rfl
theorem ne_inT {N : Nat} {S : sm_St} {x a b : Nat} (h1 : a ≤ x) (h2 : x ≤ b) (hb : b < 2 ^ 31) : pm_in N S (lN x) (lN a) (lN b) = some (nI 1, S) := by
  rw [ne_in, lN_toInt (by omega), lN_toInt (by omega), lN_toInt (by omega), if_pos (by omega)]
theorem ne_inF {N : Nat} {S : sm_St} {x a b : Nat} (h1 : x < a ∨ b < x) (hx : x < 2 ^ 31) (ha : a < 2 ^ 31) (hb : b < 2 ^ 31) : pm_in N S (lN x) (lN a) (lN b) = some (nI 0, S) := by
  rw [ne_in, lN_toInt (by omega), lN_toInt (by omega), lN_toInt (by omega), if_neg (by omega)]
theorem ne_inB {N : Nat} {S : sm_St} {v : Int32} {b : Nat} (h : v.toInt < 0 ∨ (b : Int) < v.toInt) (hb : b < 2 ^ 31) : pm_in N S v.toInt64 (lN 0) (lN b) = some (nI 0, S) := by
  rw [ne_in, lN_toInt hb, lN_toInt (by omega), Int32.toInt_toInt64, if_neg (by omega)]
theorem ne_inBa {N : Nat} {S : sm_St} {v : Int32} {a b : Nat} (h : v.toInt < (a : Int) ∨ (b : Int) < v.toInt) (ha : a < 2 ^ 31) (hb : b < 2 ^ 31) : pm_in N S v.toInt64 (lN a) (lN b) = some (nI 0, S) := by
  rw [ne_in, lN_toInt hb, lN_toInt ha, Int32.toInt_toInt64, if_neg (by omega)]
/-! the model's numbers, all of them: v s -/
def nA (v : Nat → Nat) (L : Nat → Int64) (Z : Nat → Int32) : Prop := ∀ s, s < 124 → (s < 4 ∨ 7 ≤ s) → nm_N L Z s (v s)
def nP (M : sm_St) (v : Nat → Nat) (S : sm_St) : Prop := ∃ L Z, S = mm M L Z ∧ nA v L Z
theorem nA_bd {v : Nat → Nat} {L : Nat → Int64} {Z : Nat → Int32} (h : nA v L Z) {s : Nat} (hs : s < 124) (hs2 : s < 4 ∨ 7 ≤ s) : v s < nm_B ^ 60 := nm_nd_le.mp (h s hs hs2).1
theorem nP_use {o : Option sm_St} {M : sm_St} {v : Nat → Nat} {L : Nat → Int64} {Z : Nat → Int32} {a w : Nat} (hA : nA v L Z) (h : nm_to o M L Z a w) (hw : w < nm_B ^ 60) : ∃ S', o = some S' ∧ nP M (va_up v a w) S' := by
  obtain ⟨L', Z', h1, h2, h3⟩ := nm_use h (nm_nd_le.mpr hw)
  refine ⟨_, h1, L', Z', rfl, fun s hs hs2 => ?_⟩
  by_cases e : s = a
  · subst e
    rw [ne_up_s]
    exact h2
  · rw [ne_up_n e]
    exact nm_same_N (h3 s e) (hA s hs hs2)
section
variable {N : Nat} {M S : sm_St} {v : Nat → Nat}
theorem nP_set {a x : Nat} (hN : 4000 ≤ N) (h : nP M v S) (ha : a < 124) (hx : x < 2 ^ 60) : ∃ S', pm_set N S (nI a) (lN x) = some S' ∧ nP M (va_up v a x) S' := by
  obtain ⟨L, Z, rfl, hA⟩ := h
  refine nP_use hA (nm_set (by omega) ha hx) (Nat.lt_of_lt_of_le hx ?_)
  rw [nm_B2]
  exact Nat.pow_le_pow_right (by decide) (by decide)
theorem nP_copy {a b : Nat} (hN : 4000 ≤ N) (h : nP M v S) (hab : a ≠ b) (ha : a < 124) (hb : b < 124) (hb2 : b < 4 ∨ 7 ≤ b) : ∃ S', pm_copy N S (nI a) (nI b) = some S' ∧ nP M (va_up v a (v b)) S' := by
  obtain ⟨L, Z, rfl, hA⟩ := h
  exact nP_use hA (nm_copy (by omega) hab ha hb (hA b hb hb2)) (nA_bd hA hb hb2)
theorem nP_times {a m : Nat} (hN : 4000 ≤ N) (h : nP M v S) (ha : a < 124) (ha2 : a < 4 ∨ 7 ≤ a) (hm : m ≤ 1073741824) (hw : v a * m < nm_B ^ 60) : ∃ S', pm_times N S (nI a) (lN m) = some S' ∧ nP M (va_up v a (v a * m)) S' := by
  obtain ⟨L, Z, rfl, hA⟩ := h
  exact nP_use hA (nm_times (by omega) ha hm (hA a ha ha2)) hw
theorem nP_add {a b : Nat} (hN : 4000 ≤ N) (h : nP M v S) (hab : a ≠ b) (ha : a < 124) (hb : b < 124) (ha2 : a < 4 ∨ 7 ≤ a) (hb2 : b < 4 ∨ 7 ≤ b) (hw : v a + v b < nm_B ^ 60) : ∃ S', pm_add N S (nI a) (nI b) = some S' ∧ nP M (va_up v a (v a + v b)) S' := by
  obtain ⟨L, Z, rfl, hA⟩ := h
  exact nP_use hA (nm_add (by omega) hab ha hb (hA a ha ha2) (hA b hb hb2)) hw
theorem nP_compare {a b : Nat} (hN : 4000 ≤ N) (h : nP M v S) (ha : a < 124) (hb : b < 124) (ha2 : a < 4 ∨ 7 ≤ a) (hb2 : b < 4 ∨ 7 ≤ b) : pm_compare N S (nI a) (nI b) = some (nm_cmp (v a) (v b), S) := by
  obtain ⟨L, Z, rfl, hA⟩ := h
  exact nm_compare (by omega) ha hb (hA a ha ha2) (hA b hb hb2)
theorem nP_1 {p : Nat} (h : nP M v S) (hp : p ≠ 6) : S.1 p = M.1 p := by
  obtain ⟨L, Z, rfl, hA⟩ := h
  exact mm_1 hp
theorem nP_2 {p : Nat} (h : nP M v S) (hp : p ≠ 5) : S.2.1 p = M.2.1 p := by
  obtain ⟨L, Z, rfl, hA⟩ := h
  exact mm_2 hp
theorem nP_sI {p k : Nat} {x : Int32} (h : nP M v S) (hp : p ≠ 6) : nP (sm_sI M p k x) v (sm_sI S p k x) := by
  obtain ⟨L, Z, rfl, hA⟩ := h
  exact ⟨L, Z, mm_sIo hp, hA⟩
theorem nP_eq {v' : Nat → Nat} (h : nP M v S) (e : ∀ s, s < 124 → v s = v' s) : nP M v' S := by
  obtain ⟨L, Z, rfl, hA⟩ := h
  exact ⟨L, Z, rfl, fun s hs hs2 => by rw [← e s hs]; exact hA s hs hs2⟩
end
theorem ne_cmp_le (v w : Nat) : (nm_cmp v w ≤ nI 0) = (v ≤ w) := by
  unfold nm_cmp
  rcases Nat.lt_trichotomy v w with h | h | h
  · rw [if_pos h]
    exact eq_true (show (-1 : Int32) ≤ nI 0 by decide) |>.trans (eq_true (by omega)).symm
  · rw [if_neg (by omega), if_pos h]
    exact eq_true (show (0 : Int32) ≤ nI 0 by decide) |>.trans (eq_true (by omega)).symm
  · rw [if_neg (by omega), if_neg (by omega)]
    exact eq_false (show ¬ (1 : Int32) ≤ nI 0 by decide) |>.trans (eq_false (by omega)).symm
theorem ne_cmp_lt (v w : Nat) : (nm_cmp v w < nI 0) = (v < w) := by
  unfold nm_cmp
  rcases Nat.lt_trichotomy v w with h | h | h
  · rw [if_pos h]
    exact eq_true (show (-1 : Int32) < nI 0 by decide) |>.trans (eq_true (by omega)).symm
  · rw [if_neg (by omega), if_pos h]
    exact eq_false (show ¬ (0 : Int32) < nI 0 by decide) |>.trans (eq_false (by omega)).symm
  · rw [if_neg (by omega), if_neg (by omega)]
    exact eq_false (show ¬ (1 : Int32) < nI 0 by decide) |>.trans (eq_false (by omega)).symm
theorem ne_cmp_gt (v w : Nat) : (nI 0 < nm_cmp v w) = (w < v) := by
  unfold nm_cmp
  rcases Nat.lt_trichotomy v w with h | h | h
  · rw [if_pos h]
    exact eq_false (show ¬ nI 0 < (-1 : Int32) by decide) |>.trans (eq_false (by omega)).symm
  · rw [if_neg (by omega), if_pos h]
    exact eq_false (show ¬ nI 0 < (0 : Int32) by decide) |>.trans (eq_false (by omega)).symm
  · rw [if_neg (by omega), if_neg (by omega)]
    exact eq_true (show nI 0 < (1 : Int32) by decide) |>.trans (eq_true (by omega)).symm
theorem ne_cmp_eq (v w : Nat) : (nm_cmp v w = nI 0) = (v = w) := by
  unfold nm_cmp
  rcases Nat.lt_trichotomy v w with h | h | h
  · rw [if_pos h]
    exact eq_false (show ¬ (-1 : Int32) = nI 0 by decide) |>.trans (eq_false (by omega)).symm
  · rw [if_neg (by omega), if_pos h]
    exact eq_true (show (0 : Int32) = nI 0 by decide) |>.trans (eq_true (by omega)).symm
  · rw [if_neg (by omega), if_neg (by omega)]
    exact eq_false (show ¬ (1 : Int32) = nI 0 by decide) |>.trans (eq_false (by omega)).symm
