/-! nights slept and undone -/
def sm_rF (S : sm_St) (p : Nat) (g : Nat → Nat) : sm_St := (S.1, S.2.1, va_up S.2.2 p g)
section
variable {S : sm_St} {p q : Nat} {g : Nat → Nat}
theorem rF_1 : (sm_rF S p g).1 = S.1 := rfl
theorem rF_2 : (sm_rF S p g).2.1 = S.2.1 := rfl
theorem rF_s : (sm_rF S p g).2.2 p = g := by simp [sm_rF, va_up]
theorem rF_n (h : q ≠ p) : (sm_rF S p g).2.2 q = S.2.2 q := by simp [sm_rF, va_up, h]
theorem rF_sR {k x : Nat} : sm_sR (sm_rF S p g) p k x = sm_rF S p (va_up g k x) := by
  unfold sm_rF sm_sR
  simp [va_up, bx_uu]
theorem rF_self : sm_rF S p (S.2.2 p) = S := by
  unfold sm_rF
  have h1 : va_up S.2.2 p (S.2.2 p) = S.2.2 := by funext q; by_cases h : q = p <;> simp [va_up, h]
  rw [h1]
end
theorem zx_sh16 : ∀ s, s < 6 → (decide (zx_sy.1 (1 + 14 + 2 * s) = (16, 0))) = true := by decide
theorem hpl_16 {X : sm_St} (h : hpl X 1) {j : Nat} (hj : j < 6) : (decide (zx_sy.1 (X.2.2 14 j) = (16, 0))) = true := by
  obtain ⟨s, s1, s2⟩ := h.1 j hj
  have s2 : X.2.2 14 j = 1 + 14 + 2 * s := s2
  rw [s2]
  exact zx_sh16 s s1
section
variable {N : Nat} {X S : sm_St} {a b v ik tx : Nat → Nat} {len : Nat}
/-- the references rotate -/
theorem xq_rot {q : Nat} (hN : 4000 ≤ N) (hP : hpl X 1) : ∃ g, px_House_wakeUpWith_b18 N 1 q N (X.2.2 14 0) (nI 1) X = px_House_wakeUpWith_b61 N 1 q (sm_sI (sm_rF X 14 g) 1 12 ((sm_rF X 14 g).1 1 12 - nI 1)) ∧ (∀ j, j < 5 → g j = X.2.2 14 (j + 1)) ∧ g 5 = X.2.2 14 0 := by
  have qq := ne_loop (fun f i (g : Nat → Nat) => px_House_wakeUpWith_b18 N 1 q f (X.2.2 14 0) (nI (i + 1)) (sm_rF X 14 g)) (fun i g => (∀ j, j < i → g j = X.2.2 14 (j + 1)) ∧ ∀ j, i ≤ j → j < 6 → g j = X.2.2 14 j) 5 (fun r => ∃ g, r = px_House_wakeUpWith_b61 N 1 q (sm_sI (sm_rF X 14 g) 1 12 ((sm_rF X 14 g).1 1 12 - nI 1)) ∧ (∀ j, j < 5 → g j = X.2.2 14 (j + 1)) ∧ g 5 = X.2.2 14 0) ?_ ?_ N 0 (X.2.2 14) (by omega) (by omega) ⟨fun j hj => by omega, fun j _ _ => rfl⟩
  · simp only [rF_self] at qq
    exact qq
  · rintro f i g hi ⟨i1, i2⟩
    left
    have e := i2 (i + 1) (by omega) (by omega)
    have d := hpl_16 hP (show i + 1 < 6 by omega)
    refine ⟨va_up g i (X.2.2 14 (i + 1)), ⟨fun j hj => ?_, fun j hj hj2 => ?_⟩, ?_⟩
    · by_cases q : j = i
      · subst q
        exact ne_up_s
      · rw [ne_up_n q]
        exact i1 j (by omega)
    · rw [ne_up_n (by omega)]
      exact i2 j (by omega) hj2
    · show px_House_wakeUpWith_b18 N 1 q (f + 1) _ _ _ = _
      rw [px_House_wakeUpWith_b18]
      have e14 : (1 + 13) = 14 := rfl
      simp (disch := omega) only [sm_lt, sm_b1s, sm_b2s, ↓reduceIte, sm_in_nI, nI_clamp, nI_add, pk_mul, pk_sub, ne_addneg, nI_l, ne_ltT, ne_ltF, ne_leT, ne_leF, ne_eqT, ne_eqF, ne_sI1s, ne_sI1n, ne_sI2, ne_sI3, ne_sL1, ne_sL2s, ne_sL2n, ne_sL3, pk_us, pk_un, pk_uLs, pk_uLn, mm_Z, mm_L, mm_1, mm_2, mm_3, ne_rz0, ne_rz1, not_true_eq_false, not_false_eq_true, ne_i0, ne_i1, ne_i2, ne_i3, ne_i4, ne_i5, ne_i6, ne_i7, ne_i8, ne_i9, ne_i10, ne_i12, ne_i14, ne_i16, ne_i18, ne_i19, ne_i20, ne_i23, ne_i24, ne_i27, ne_i29, ne_i30, ne_i31, ne_i32, ne_i35, ne_i48, ne_i52, ne_i54, ne_i57, ne_i59, ne_i63, ne_i64, ne_i76, ne_i77, ne_i78, ne_i79, ne_i80, ne_i81, ne_i97, ne_i99, ne_i100, ne_i101, ne_i104, ne_i105, ne_i108, ne_i110, ne_i111, ne_i116, ne_i117, ne_i122, ne_i103, ne_i200, ne_i255, ne_i256, ne_i320, ne_i384, ne_i1000, ne_l0, ne_l1, ne_l2, ne_l3, ne_l4, ne_l5, ne_l8, ne_l12, ne_l31, ne_l48, ne_l57, ne_l97, ne_l99, ne_l122, ne_l255, ne_l673, ne_l1073741823, ne_l1073741824, e14, rF_s, e, d, Nat.add_sub_cancel, rF_sR]
  · rintro f g ⟨i1, i2⟩
    show ∃ g', px_House_wakeUpWith_b18 N 1 q (f + 1) _ _ _ = _ ∧ _
    rw [px_House_wakeUpWith_b18]
    have e14 : (1 + 13) = 14 := rfl
    simp (disch := omega) only [sm_lt, sm_b1s, sm_b2s, ↓reduceIte, sm_in_nI, nI_clamp, nI_add, pk_mul, pk_sub, ne_addneg, nI_l, ne_ltT, ne_ltF, ne_leT, ne_leF, ne_eqT, ne_eqF, ne_sI1s, ne_sI1n, ne_sI2, ne_sI3, ne_sL1, ne_sL2s, ne_sL2n, ne_sL3, pk_us, pk_un, pk_uLs, pk_uLn, mm_Z, mm_L, mm_1, mm_2, mm_3, ne_rz0, ne_rz1, not_true_eq_false, not_false_eq_true, ne_i0, ne_i1, ne_i2, ne_i3, ne_i4, ne_i5, ne_i6, ne_i7, ne_i8, ne_i9, ne_i10, ne_i12, ne_i14, ne_i16, ne_i18, ne_i19, ne_i20, ne_i23, ne_i24, ne_i27, ne_i29, ne_i30, ne_i31, ne_i32, ne_i35, ne_i48, ne_i52, ne_i54, ne_i57, ne_i59, ne_i63, ne_i64, ne_i76, ne_i77, ne_i78, ne_i79, ne_i80, ne_i81, ne_i97, ne_i99, ne_i100, ne_i101, ne_i104, ne_i105, ne_i108, ne_i110, ne_i111, ne_i116, ne_i117, ne_i122, ne_i103, ne_i200, ne_i255, ne_i256, ne_i320, ne_i384, ne_i1000, ne_l0, ne_l1, ne_l2, ne_l3, ne_l4, ne_l5, ne_l8, ne_l12, ne_l31, ne_l48, ne_l57, ne_l97, ne_l99, ne_l122, ne_l255, ne_l673, ne_l1073741823, ne_l1073741824, e14, rF_sR]
    exact ⟨_, rfl, fun j hj => by rw [ne_up_n (by omega)]; exact i1 j hj, ne_up_s⟩
/-- now goes to the past, the next shades are now -/
theorem xq_wake1 {q n k : Nat} {w w' : Nat → Nat} {pw : Nat → Nat → Nat} (hN : 4000 ≤ N) (hP : hpl X 1) (hn : n < 6) (hk : k ≤ 4) (h12 : X.1 1 12 = nI n) (hx : xsh X 12 k w) (hq : q = 122 ∨ q = 124) (hy : xsh X q k w') (hp : ∀ j, j < n → xsh X (X.2.2 14 j) k (pw j)) : ∃ X', px_House_wakeUpWith_b61 N 1 q X = some X' ∧ X'.1 1 12 = nI (n + 1) ∧ X'.1 1 11 = X.1 1 11 + nI 1 ∧ (∀ j, j ≠ 11 → j ≠ 12 → X'.1 1 j = X.1 1 j) ∧ xsh X' 12 k w' ∧ xsh X' (X.2.2 14 n) k w ∧ (∀ j, j < n → xsh X' (X.2.2 14 j) k (pw j)) ∧ (∀ p, p ≠ 1 → ¬ (12 ≤ p ∧ p < 27) → X'.1 p = X.1 p) ∧ X'.2 = X.2 := by
  obtain ⟨s, s1, s2⟩ := hP.1 n hn
  have s2 : X.2.2 14 n = 1 + 14 + 2 * s := s2
  obtain ⟨X1, e1, a1, a2, a3⟩ := xsh_copyFrom (N := N) (p := X.2.2 14 n) (q := 12) hx hk (by omega) (by omega)
  generalize hX2 : sm_sI X1 1 12 (nI (n + 1)) = X2
  have f2 : ∀ p, p ≠ 1 → X2.1 p = X1.1 p := fun p hp => by rw [← hX2, ne_sI1n hp]
  have hy2 : xsh X2 q k w' := xsh_fr (by rw [f2 _ (by omega), a2 _ (by omega) (by omega)]) (by rw [f2 _ (by omega), a2 _ (by omega) (by omega)]) hy
  obtain ⟨X3, e3, b1, b2, b3⟩ := xsh_copyFrom (N := N) (p := 12) (q := q) hy2 hk (by omega) (by omega)
  have c12 : X1.1 1 12 = nI n := by rw [a2 1 (by omega) (by omega)]; exact h12
  have keep : ∀ z (w : Nat → Nat), (∃ s', z = 1 + 14 + 2 * s') → xsh X1 z k w → xsh (sm_sI X3 1 11 (X3.1 1 11 + nI 1)) z k w := by
    rintro z w ⟨s', hs'⟩ hz
    exact xsh_fr (by rw [ne_sI1n (by omega), b2 _ (by omega) (by omega), f2 _ (by omega)]) (by rw [ne_sI1n (by omega), b2 _ (by omega) (by omega), f2 _ (by omega)]) hz
  refine ⟨sm_sI X3 1 11 (X3.1 1 11 + nI 1), ?_, ?_, ?_, fun j h1 h2 => ?_, ?_, ?_, fun j hj => ?_, fun p hp hp2 => ?_, ?_⟩
  · have d := hpl_16 hP hn
    have e14 : (1 + 13) = 14 := rfl
    have e12 : (1 + 11) = 12 := rfl
    unfold px_House_wakeUpWith_b61
    simp (disch := omega) only [sm_lt, sm_b1s, sm_b2s, ↓reduceIte, sm_in_nI, nI_clamp, nI_add, pk_mul, pk_sub, ne_addneg, nI_l, ne_ltT, ne_ltF, ne_leT, ne_leF, ne_eqT, ne_eqF, ne_sI1s, ne_sI1n, ne_sI2, ne_sI3, ne_sL1, ne_sL2s, ne_sL2n, ne_sL3, pk_us, pk_un, pk_uLs, pk_uLn, mm_Z, mm_L, mm_1, mm_2, mm_3, ne_rz0, ne_rz1, not_true_eq_false, not_false_eq_true, ne_i0, ne_i1, ne_i2, ne_i3, ne_i4, ne_i5, ne_i6, ne_i7, ne_i8, ne_i9, ne_i10, ne_i12, ne_i14, ne_i16, ne_i18, ne_i19, ne_i20, ne_i23, ne_i24, ne_i27, ne_i29, ne_i30, ne_i31, ne_i32, ne_i35, ne_i48, ne_i52, ne_i54, ne_i57, ne_i59, ne_i63, ne_i64, ne_i76, ne_i77, ne_i78, ne_i79, ne_i80, ne_i81, ne_i97, ne_i99, ne_i100, ne_i101, ne_i104, ne_i105, ne_i108, ne_i110, ne_i111, ne_i116, ne_i117, ne_i122, ne_i103, ne_i200, ne_i255, ne_i256, ne_i320, ne_i384, ne_i1000, ne_l0, ne_l1, ne_l2, ne_l3, ne_l4, ne_l5, ne_l8, ne_l12, ne_l31, ne_l48, ne_l57, ne_l97, ne_l99, ne_l122, ne_l255, ne_l673, ne_l1073741823, ne_l1073741824, e14, e12, h12, d, e1, c12, hX2, e3]
  · rw [ne_sI1s, pk_un (by decide), b2 1 (by decide) (by decide), ← hX2, ne_sI1s, pk_us]
  · rw [ne_sI1s, pk_us, b2 1 (by decide) (by decide), ← hX2, ne_sI1s, pk_un (by decide), a2 1 (by omega) (by omega)]
  · rw [ne_sI1s, pk_un h1, b2 1 (by decide) (by decide), ← hX2, ne_sI1s, pk_un h2, a2 1 (by omega) (by omega)]
  · exact xsh_fr (ne_sI1n (by decide)) (ne_sI1n (by decide)) b1
  · exact keep _ _ ⟨s, s2⟩ a1
  · obtain ⟨t, t1, t2⟩ := hP.1 j (by omega)
    have t2 : X.2.2 14 j = 1 + 14 + 2 * t := t2
    have hne : X.2.2 14 j ≠ X.2.2 14 n := fun e => by have := hP.2 j n (by omega) hn e; omega
    refine keep _ _ ⟨t, t2⟩ (xsh_fr (a2 _ hne (by omega)) (a2 _ (by omega) (by omega)) (hp j hj))
  · rw [ne_sI1n hp, b2 p (by omega) (by omega), f2 p hp, a2 p (by omega) (by omega)]
  · show X3.2 = X.2
    rw [b3, ← hX2]
    exact a3
theorem nP_cs {to from' : Nat} {M : sm_St} (hN : 4000 ≤ N) (h : nP M v S) (h1 : 7 ≤ to) (h2 : to + 5 ≤ 124) (h3 : 7 ≤ from') (h4 : from' + 5 ≤ 124) (hd : to + 5 ≤ from' ∨ from' + 5 ≤ to) : ∃ S', pm_copyState N S (nI to) (nI from') = some S' ∧ nP M (fun s => if to ≤ s ∧ s < to + 5 then v (from' + (s - to)) else v s) S' := by
  unfold pm_copyState
  simp (disch := omega) only [sm_lt, sm_b1s, sm_b2s, ↓reduceIte, sm_in_nI, nI_clamp, nI_add, pk_mul, pk_sub, ne_addneg, nI_l, ne_ltT, ne_ltF, ne_leT, ne_leF, ne_eqT, ne_eqF, ne_sI1s, ne_sI1n, ne_sI2, ne_sI3, ne_sL1, ne_sL2s, ne_sL2n, ne_sL3, pk_us, pk_un, pk_uLs, pk_uLn, mm_Z, mm_L, mm_1, mm_2, mm_3, ne_rz0, ne_rz1, not_true_eq_false, not_false_eq_true, ne_i0, ne_i1, ne_i2, ne_i3, ne_i4, ne_i5, ne_i6, ne_i7, ne_i8, ne_i9, ne_i10, ne_i12, ne_i14, ne_i16, ne_i18, ne_i19, ne_i20, ne_i23, ne_i24, ne_i27, ne_i29, ne_i30, ne_i31, ne_i32, ne_i35, ne_i48, ne_i52, ne_i54, ne_i57, ne_i59, ne_i63, ne_i64, ne_i76, ne_i77, ne_i78, ne_i79, ne_i80, ne_i81, ne_i97, ne_i99, ne_i100, ne_i101, ne_i104, ne_i105, ne_i108, ne_i110, ne_i111, ne_i116, ne_i117, ne_i122, ne_i103, ne_i200, ne_i255, ne_i256, ne_i320, ne_i384, ne_i1000, ne_l0, ne_l1, ne_l2, ne_l3, ne_l4, ne_l5, ne_l8, ne_l12, ne_l31, ne_l48, ne_l57, ne_l97, ne_l99, ne_l122, ne_l255, ne_l673, ne_l1073741823, ne_l1073741824]
  refine ne_loop (fun f i (s : sm_St) => pm_copyState_b2 N f (nI to) (nI from') (nI i) s) (fun i s => nP M (fun s => if to ≤ s ∧ s < to + i then v (from' + (s - to)) else v s) s) 5 (fun r => ∃ S', r = some S' ∧ nP M (fun s => if to ≤ s ∧ s < to + 5 then v (from' + (s - to)) else v s) S') ?_ ?_ N 0 S (by omega) (by omega) (nP_eq h (fun s _ => by rw [if_neg (by omega)]))
  · intro f i s hi hI
    left
    obtain ⟨S1, e1, g1⟩ := nP_copy (a := to + i) (b := from' + i) hN hI (by omega) (by omega) (by omega) (by omega)
    refine ⟨S1, nP_eq g1 (fun s _ => ?_), ?_⟩
    · by_cases e : s = to + i
      · subst e
        rw [ne_up_s, if_neg (by omega), if_pos (by omega)]
        congr 1
        omega
      · rw [ne_up_n e]
        by_cases q : to ≤ s ∧ s < to + i
        · rw [if_pos q, if_pos (by omega)]
        · rw [if_neg q, if_neg (by omega)]
    · show pm_copyState_b2 N (f + 1) _ _ _ _ = _
      rw [pm_copyState_b2]
      simp (disch := omega) only [sm_lt, sm_b1s, sm_b2s, ↓reduceIte, sm_in_nI, nI_clamp, nI_add, pk_mul, pk_sub, ne_addneg, nI_l, ne_ltT, ne_ltF, ne_leT, ne_leF, ne_eqT, ne_eqF, ne_sI1s, ne_sI1n, ne_sI2, ne_sI3, ne_sL1, ne_sL2s, ne_sL2n, ne_sL3, pk_us, pk_un, pk_uLs, pk_uLn, mm_Z, mm_L, mm_1, mm_2, mm_3, ne_rz0, ne_rz1, not_true_eq_false, not_false_eq_true, ne_i0, ne_i1, ne_i2, ne_i3, ne_i4, ne_i5, ne_i6, ne_i7, ne_i8, ne_i9, ne_i10, ne_i12, ne_i14, ne_i16, ne_i18, ne_i19, ne_i20, ne_i23, ne_i24, ne_i27, ne_i29, ne_i30, ne_i31, ne_i32, ne_i35, ne_i48, ne_i52, ne_i54, ne_i57, ne_i59, ne_i63, ne_i64, ne_i76, ne_i77, ne_i78, ne_i79, ne_i80, ne_i81, ne_i97, ne_i99, ne_i100, ne_i101, ne_i104, ne_i105, ne_i108, ne_i110, ne_i111, ne_i116, ne_i117, ne_i122, ne_i103, ne_i200, ne_i255, ne_i256, ne_i320, ne_i384, ne_i1000, ne_l0, ne_l1, ne_l2, ne_l3, ne_l4, ne_l5, ne_l8, ne_l12, ne_l31, ne_l48, ne_l57, ne_l97, ne_l99, ne_l122, ne_l255, ne_l673, ne_l1073741823, ne_l1073741824, e1]
  · intro f s hI
    show ∃ S', pm_copyState_b2 N (f + 1) _ _ _ _ = _ ∧ _
    rw [pm_copyState_b2]
    simp (disch := omega) only [sm_lt, sm_b1s, sm_b2s, ↓reduceIte, sm_in_nI, nI_clamp, nI_add, pk_mul, pk_sub, ne_addneg, nI_l, ne_ltT, ne_ltF, ne_leT, ne_leF, ne_eqT, ne_eqF, ne_sI1s, ne_sI1n, ne_sI2, ne_sI3, ne_sL1, ne_sL2s, ne_sL2n, ne_sL3, pk_us, pk_un, pk_uLs, pk_uLn, mm_Z, mm_L, mm_1, mm_2, mm_3, ne_rz0, ne_rz1, not_true_eq_false, not_false_eq_true, ne_i0, ne_i1, ne_i2, ne_i3, ne_i4, ne_i5, ne_i6, ne_i7, ne_i8, ne_i9, ne_i10, ne_i12, ne_i14, ne_i16, ne_i18, ne_i19, ne_i20, ne_i23, ne_i24, ne_i27, ne_i29, ne_i30, ne_i31, ne_i32, ne_i35, ne_i48, ne_i52, ne_i54, ne_i57, ne_i59, ne_i63, ne_i64, ne_i76, ne_i77, ne_i78, ne_i79, ne_i80, ne_i81, ne_i97, ne_i99, ne_i100, ne_i101, ne_i104, ne_i105, ne_i108, ne_i110, ne_i111, ne_i116, ne_i117, ne_i122, ne_i103, ne_i200, ne_i255, ne_i256, ne_i320, ne_i384, ne_i1000, ne_l0, ne_l1, ne_l2, ne_l3, ne_l4, ne_l5, ne_l8, ne_l12, ne_l31, ne_l48, ne_l57, ne_l97, ne_l99, ne_l122, ne_l255, ne_l673, ne_l1073741823, ne_l1073741824]
    exact ⟨s, rfl, hI⟩
/-- one step of the shift -/
theorem np_shift (hN : 4000 ≤ N) (h : nP S v S) : ∃ S', pm_sleep_b31 N N (nI 0) S = pm_sleep_b68 N (sm_sI S' 1 79 (nI 5)) ∧ nP S (fun s => if 24 ≤ s ∧ s < 49 then v (s + 5) else v s) S' := by
  refine ne_loop (fun f i (s : sm_St) => pm_sleep_b31 N f (nI i) s) (fun i s => nP S (fun s => if 24 ≤ s ∧ s < 24 + 5 * i then v (s + 5) else v s) s) 5 (fun r => ∃ S', r = pm_sleep_b68 N (sm_sI S' 1 79 (nI 5)) ∧ nP S (fun s => if 24 ≤ s ∧ s < 49 then v (s + 5) else v s) S') ?_ ?_ N 0 S (by omega) (by omega) (nP_eq h (fun s _ => by rw [if_neg (by omega)]))
  · intro f i s hi hI
    left
    obtain ⟨S1, e1, g1⟩ := nP_cs (N := N) (to := 24 + 5 * i) (from' := 24 + 5 * i + 5) hN hI (by omega) (by omega) (by omega) (by omega) (by omega)
    refine ⟨S1, nP_eq g1 (fun s _ => ?_), ?_⟩
    · by_cases q : 24 + 5 * i ≤ s ∧ s < 24 + 5 * i + 5
      · rw [if_pos q, if_neg (by omega), if_pos (by omega)]
        congr 1
        omega
      · rw [if_neg q]
        by_cases q2 : 24 ≤ s ∧ s < 24 + 5 * i
        · rw [if_pos q2, if_pos (by omega)]
        · rw [if_neg q2, if_neg (by omega)]
    · show pm_sleep_b31 N (f + 1) _ _ = _
      rw [pm_sleep_b31]
      simp (disch := omega) only [sm_lt, sm_b1s, sm_b2s, ↓reduceIte, sm_in_nI, nI_clamp, nI_add, pk_mul, pk_sub, ne_addneg, nI_l, ne_ltT, ne_ltF, ne_leT, ne_leF, ne_eqT, ne_eqF, ne_sI1s, ne_sI1n, ne_sI2, ne_sI3, ne_sL1, ne_sL2s, ne_sL2n, ne_sL3, pk_us, pk_un, pk_uLs, pk_uLn, mm_Z, mm_L, mm_1, mm_2, mm_3, ne_rz0, ne_rz1, not_true_eq_false, not_false_eq_true, ne_i0, ne_i1, ne_i2, ne_i3, ne_i4, ne_i5, ne_i6, ne_i7, ne_i8, ne_i9, ne_i10, ne_i12, ne_i14, ne_i16, ne_i18, ne_i19, ne_i20, ne_i23, ne_i24, ne_i27, ne_i29, ne_i30, ne_i31, ne_i32, ne_i35, ne_i48, ne_i52, ne_i54, ne_i57, ne_i59, ne_i63, ne_i64, ne_i76, ne_i77, ne_i78, ne_i79, ne_i80, ne_i81, ne_i97, ne_i99, ne_i100, ne_i101, ne_i104, ne_i105, ne_i108, ne_i110, ne_i111, ne_i116, ne_i117, ne_i122, ne_i103, ne_i200, ne_i255, ne_i256, ne_i320, ne_i384, ne_i1000, ne_l0, ne_l1, ne_l2, ne_l3, ne_l4, ne_l5, ne_l8, ne_l12, ne_l31, ne_l48, ne_l57, ne_l97, ne_l99, ne_l122, ne_l255, ne_l673, ne_l1073741823, ne_l1073741824, e1]
  · intro f s hI
    show ∃ S', pm_sleep_b31 N (f + 1) _ _ = _ ∧ _
    rw [pm_sleep_b31]
    simp (disch := omega) only [sm_lt, sm_b1s, sm_b2s, ↓reduceIte, sm_in_nI, nI_clamp, nI_add, pk_mul, pk_sub, ne_addneg, nI_l, ne_ltT, ne_ltF, ne_leT, ne_leF, ne_eqT, ne_eqF, ne_sI1s, ne_sI1n, ne_sI2, ne_sI3, ne_sL1, ne_sL2s, ne_sL2n, ne_sL3, pk_us, pk_un, pk_uLs, pk_uLn, mm_Z, mm_L, mm_1, mm_2, mm_3, ne_rz0, ne_rz1, not_true_eq_false, not_false_eq_true, ne_i0, ne_i1, ne_i2, ne_i3, ne_i4, ne_i5, ne_i6, ne_i7, ne_i8, ne_i9, ne_i10, ne_i12, ne_i14, ne_i16, ne_i18, ne_i19, ne_i20, ne_i23, ne_i24, ne_i27, ne_i29, ne_i30, ne_i31, ne_i32, ne_i35, ne_i48, ne_i52, ne_i54, ne_i57, ne_i59, ne_i63, ne_i64, ne_i76, ne_i77, ne_i78, ne_i79, ne_i80, ne_i81, ne_i97, ne_i99, ne_i100, ne_i101, ne_i104, ne_i105, ne_i108, ne_i110, ne_i111, ne_i116, ne_i117, ne_i122, ne_i103, ne_i200, ne_i255, ne_i256, ne_i320, ne_i384, ne_i1000, ne_l0, ne_l1, ne_l2, ne_l3, ne_l4, ne_l5, ne_l8, ne_l12, ne_l31, ne_l48, ne_l57, ne_l97, ne_l99, ne_l122, ne_l255, ne_l673, ne_l1073741823, ne_l1073741824]
    exact ⟨s, rfl, hI⟩
theorem sc_a {a' t co : Nat → Nat} (h : sc a t co) (e : ∀ k, k < 78 → a' k = a k) : sc a' t co := by
  obtain ⟨h1, h2, h3, h4, h5⟩ := h
  refine ⟨by rw [e 76 (by omega)]; exact h1, by rw [e 77 (by omega)]; exact h2, fun c hc => ?_, fun c x hc hx => ?_, fun i hi => ?_⟩
  · rw [e 76 (by omega)] at hc
    rw [e _ (by omega), e _ (by omega)]
    exact h3 c hc
  · rw [e 76 (by omega)] at hc
    exact h4 c x hc hx
  · rw [e 77 (by omega)] at hi
    exact h5 i hi
/-- nothing of a night rests on what is behind place 77 -/
theorem sp_nw_a {a' t co w : Nat → Nat} (hk : a 76 ≤ 4) (e : ∀ k, k < 78 → a' k = a k) : sp_nw a' t co w = sp_nw a t co w := by
  have tk : ∀ c x, c < 4 → sp_tk a' t c x = sp_tk a t c x := fun c x hc => by
    unfold sp_tk
    rw [e (4 * c) (by omega), e (4 * c + 1) (by omega), e 76 (by omega), e 77 (by omega)]
    by_cases h4 : x < 4
    · rw [e (4 * x) (by omega)]
    · rw [if_neg h4, if_neg h4]
  have ts : ∀ c n, c < 4 → sp_ts a' t c n = sp_ts a t c n := fun c n hc => by
    induction n with
    | zero => rfl
    | succ n ih => rw [sp_ts, sp_ts, ih, tk c n hc]
  have al : ∀ c, c < 4 → sp_all a' t c = sp_all a t c := fun c hc => by
    unfold sp_all
    rw [ts c 8 hc, e (4 * c) (by omega)]
  have by' : ∀ n, n ≤ 4 → sp_by a' t n = sp_by a t n := fun n => by
    induction n with
    | zero => intro _; rfl
    | succ n ih => intro hn; rw [sp_by, sp_by, ih (by omega), al n (by omega)]
  have sm : ∀ c n, c < 4 → sp_sm a' t co w c n = sp_sm a t co w c n := fun c n hc => by
    induction n with
    | zero => rfl
    | succ n ih => rw [sp_sm, sp_sm, ih, tk c n hc]
  have tc : ∀ c x, c < 4 → sp_tc a' t c x = sp_tc a t c x := fun c x hc => by
    unfold sp_tc
    rw [e 76 (by omega), e 77 (by omega)]
    by_cases h4 : x < 4
    · rw [e (4 * x) (by omega)]
    · have : ¬ x < a 76 := by omega
      simp [this]
  have gr : ∀ c n, c < 4 → sp_gr a' t co w c n = sp_gr a t co w c n := fun c n hc => by
    induction n with
    | zero => rfl
    | succ n ih => rw [sp_gr, sp_gr, ih, tc c n hc]
  funext c
  unfold sp_nw
  rw [e 76 (by omega), by' (a 76) hk]
  by_cases h4 : c = 4
  · rw [if_pos h4, if_pos h4]
  · rw [if_neg h4, if_neg h4]
    by_cases hc : c < a 76
    · rw [if_pos hc, if_pos hc]
      unfold sp_nt
      rw [e (4 * c) (by omega), e 76 (by omega), by' (a 76) hk, gr c 8 (by omega), ts c 8 (by omega), sm c 8 (by omega)]
    · rw [if_neg hc, if_neg hc]
end
