/-! the model's night -/
theorem np_divL {N : Nat} {S : sm_St} : ∀ (y x f : Nat), x < 2 ^ 31 → y < 2 ^ 31 → y < f → pm_divisor_b4 N f (nI x) (nI y) S = some (nI (Nat.gcd x y), S) := by
  intro y
  induction y using Nat.strongRecOn with
  | ind y ih =>
    intro x f hx hy hf
    obtain ⟨f, rfl⟩ : ∃ g, f = g + 1 := ⟨f - 1, by omega⟩
    rw [pm_divisor_b4]
    rcases Nat.eq_zero_or_pos y with e | e
    · subst e
      rw [if_pos (show nI 0 = 0 from rfl), Nat.gcd_zero_right]
    · rw [if_neg (nI_ne0 e hy), if_neg (nI_ne0 e hy), pk_rem hx e hy]
      simp only [sm_lt]
      rw [ih (x % y) (Nat.mod_lt _ e) y f hy (Nat.lt_trans (Nat.mod_lt _ e) hy) (by have := Nat.mod_lt x e; omega), Nat.gcd_comm y, ← Nat.gcd_rec, Nat.gcd_comm]
theorem np_divisor {N x y : Nat} {S : sm_St} (hx : x < 2 ^ 31) (hy : y < N) (hy2 : y < 2 ^ 31) : pm_divisor N S (nI x) (nI y) = some (nI (Nat.gcd x y), S) := by
  unfold pm_divisor
  simp only [sm_lt]
  exact np_divL y x N hx hy2 hy
def sp_all (a t : Nat → Nat) (c : Nat) : Nat := if a (4 * c) ≠ 4 ∧ 0 < sp_ts a t c 8 then sp_ts a t c 8 else 1
def sp_by (a t : Nat → Nat) : Nat → Nat
  | 0 => 1
  | n + 1 => sp_by a t n / Nat.gcd (sp_by a t n) (sp_all a t n) * sp_all a t n
theorem sp_tk_le {a t co : Nat → Nat} (hs : sc a t co) {c x : Nat} (hc : c < a 76) (hx : x < 8) : sp_tk a t c x ≤ if x = c then 4 else if x < 4 then 3 else 6 := by
  have h1 := (hs.2.2.1 c hc).2
  have h2 := hs.2.2.2.1 c x hc hx
  unfold sp_tk
  split
  · split <;> omega
  · split
    · split <;> omega
    · split
      · split <;> omega
      · omega
theorem sp_ts_le {a t co : Nat → Nat} (hs : sc a t co) {c : Nat} (hc : c < a 76) : sp_ts a t c 8 ≤ 37 := by
  have h := fun x hx => sp_tk_le hs (x := x) hc hx
  have hc4 : c < 4 := by have := hs.1; omega
  have e : sp_ts a t c 8 = sp_tk a t c 0 + sp_tk a t c 1 + sp_tk a t c 2 + sp_tk a t c 3 + sp_tk a t c 4 + sp_tk a t c 5 + sp_tk a t c 6 + sp_tk a t c 7 := by
    simp only [sp_ts, Nat.zero_add]
  have g0 := h 0 (by decide)
  have g1 := h 1 (by decide)
  have g2 := h 2 (by decide)
  have g3 := h 3 (by decide)
  have g4 := h 4 (by decide)
  have g5 := h 5 (by decide)
  have g6 := h 6 (by decide)
  have g7 := h 7 (by decide)
  rw [e]
  have hc' : c = 0 ∨ c = 1 ∨ c = 2 ∨ c = 3 := by omega
  rcases hc' with rfl | rfl | rfl | rfl <;> simp at g0 g1 g2 g3 g4 g5 g6 g7 <;> omega
theorem sp_all_le {a t co : Nat → Nat} (hs : sc a t co) {c : Nat} (hc : c < a 76) : 0 < sp_all a t c ∧ sp_all a t c ≤ 37 := by
  have := sp_ts_le hs hc
  unfold sp_all
  split <;> omega
theorem sp_by_le {a t co : Nat → Nat} (hs : sc a t co) : ∀ n, n ≤ a 76 → 0 < sp_by a t n ∧ sp_by a t n ≤ 37 ^ n
  | 0, _ => ⟨Nat.one_pos, Nat.le_refl _⟩
  | n + 1, h => by
    have ih := sp_by_le hs n (by omega)
    have k := sp_all_le hs (c := n) (by omega)
    have g := Nat.gcd_pos_of_pos_left (sp_all a t n) ih.1
    have g2 : 0 < sp_by a t n / Nat.gcd (sp_by a t n) (sp_all a t n) := Nat.div_pos (Nat.gcd_le_left _ ih.1) g
    refine ⟨Nat.mul_pos g2 k.1, ?_⟩
    rw [Nat.pow_succ]
    exact Nat.mul_le_mul (Nat.le_trans (Nat.div_le_self _ _) ih.2) k.2
theorem sp_by_4 {a t co : Nat → Nat} (hs : sc a t co) {n : Nat} (h : n ≤ a 76) : sp_by a t n ≤ 1874161 := Nat.le_trans (sp_by_le hs n h).2 (Nat.le_trans (Nat.pow_le_pow_right (by decide) (Nat.le_trans h hs.1)) (by decide))
def sp_val (w co : Nat → Nat) (x : Nat) : Nat := if x < 4 then w x else w 4 * co (x - 4)
def sp_sm (a t co w : Nat → Nat) (c : Nat) : Nat → Nat
  | 0 => 0
  | n + 1 => sp_sm a t co w c n + sp_val w co n * sp_tk a t c n
def sp_tc (a t : Nat → Nat) (c x : Nat) : Bool := decide (x ≠ c) && (decide (x < a 76 ∧ a (4 * x) ≠ 2 ∧ a (4 * x) ≠ 4) || decide (4 ≤ x ∧ x < 4 + a 77)) && decide (0 < t (8 * c + x))
def sp_gr (a t co w : Nat → Nat) (c : Nat) : Nat → Option Nat
  | 0 => none
  | n + 1 => if sp_tc a t c n = true then (match sp_gr a t co w c n with | none => some (sp_val w co n) | some m => some (if m < sp_val w co n then sp_val w co n else m)) else sp_gr a t co w c n
def sp_nt (a t co w : Nat → Nat) (c : Nat) : Nat :=
  if a (4 * c) = 4 then ((sp_gr a t co w c 8).getD (w c)) * sp_by a t (a 76)
  else if 0 < sp_ts a t c 8 then sp_sm a t co w c 8 * (sp_by a t (a 76) / sp_ts a t c 8)
  else w c * sp_by a t (a 76)
/-- all shades behind one night -/
def sp_nw (a t co w : Nat → Nat) : Nat → Nat := fun c => if c = 4 then w 4 * sp_by a t (a 76) else if c < a 76 then sp_nt a t co w c else w c
/-- shades are of 12 parts at most -/
def sp_w (a w : Nat → Nat) : Prop := ∀ c, c < a 76 → w c ≤ 12 * w 4
theorem sp_val_le {a t co w : Nat → Nat} (hs : sc a t co) (hw : sp_w a w) {x : Nat} (h : x < a 76 ∨ 4 ≤ x ∧ x < 4 + a 77) : sp_val w co x ≤ 12 * w 4 := by
  have hk4 := hs.1
  unfold sp_val
  by_cases h4 : x < 4
  · rw [if_pos h4]
    exact hw x (by omega)
  · rw [if_neg h4, Nat.mul_comm]
    exact Nat.mul_le_mul_right _ (hs.2.2.2.2 (x - 4) (by omega))
theorem sp_tk_num {a t : Nat → Nat} {c x : Nat} (hc : c < a 76) (h : 0 < sp_tk a t c x) : x < a 76 ∨ 4 ≤ x ∧ x < 4 + a 77 := by
  unfold sp_tk at h
  split at h
  · omega
  · split at h
    · split at h <;> omega
    · split at h <;> omega
theorem sp_sm_le {a t co w : Nat → Nat} (hs : sc a t co) (hw : sp_w a w) {c : Nat} (hc : c < a 76) : ∀ n, sp_sm a t co w c n ≤ sp_ts a t c n * (12 * w 4)
  | 0 => by simp [sp_sm]
  | n + 1 => by
    have ih := sp_sm_le hs hw hc n
    simp only [sp_sm, sp_ts, Nat.add_mul]
    refine Nat.add_le_add ih ?_
    rcases Nat.eq_zero_or_pos (sp_tk a t c n) with e | e
    · rw [e]; simp
    · rw [Nat.mul_comm]
      exact Nat.mul_le_mul_left _ (sp_val_le hs hw (sp_tk_num hc e))
theorem sp_gr_le {a t co w : Nat → Nat} (hs : sc a t co) (hw : sp_w a w) {c : Nat} : ∀ n m, sp_gr a t co w c n = some m → m ≤ 12 * w 4
  | 0, m, h => by simp [sp_gr] at h
  | n + 1, m, h => by
    have ih := sp_gr_le hs hw (c := c) n
    rw [sp_gr] at h
    split at h
    · rename_i q
      have hv : sp_val w co n ≤ 12 * w 4 := by
        refine sp_val_le hs hw ?_
        unfold sp_tc at q
        simp only [Bool.and_eq_true, Bool.or_eq_true, decide_eq_true_eq] at q
        omega
      cases e : sp_gr a t co w c n with
      | none =>
        rw [e] at h
        simp only [Option.some.injEq] at h
        omega
      | some k =>
        rw [e] at h
        have := ih k e
        simp only [Option.some.injEq] at h
        split at h <;> omega
    · exact ih m h
/-- 2 ^ 1000 times what one night can bring stays small -/
theorem sp_big {x m : Nat} (h : x < 2 ^ 1000) (hm : m ≤ 2 ^ 64) : x * m < nm_B ^ 60 := by
  rw [nm_B2]
  calc x * m ≤ x * 2 ^ 64 := Nat.mul_le_mul_left _ hm
    _ < 2 ^ 1000 * 2 ^ 64 := Nat.mul_lt_mul_of_pos_right h (by decide)
    _ = 2 ^ 1064 := by rw [← Nat.pow_add]
    _ ≤ 2 ^ (30 * 60) := Nat.pow_le_pow_right (by decide) (by decide)
section
variable {N : Nat} {M S : sm_St} {v a t co : Nat → Nat}
theorem np_lay {to x : Nat} (hN : 4000 ≤ N) (h : nP M v S) (ht : nt t co M) (hto : to < 14) (hto2 : 7 ≤ to) (hx : x < 8) (hco : 4 ≤ x → co (x - 4) ≤ 12) (hb : v 18 < 2 ^ 1000) : ∃ S', pm_lay N S (nI to) (nI x) = some S' ∧ nP M (va_up v to (sp_val (fun i => v (14 + i)) co x)) S' := by
  unfold pm_lay
  by_cases hx4 : x < 4
  · obtain ⟨S1, e1, h1⟩ := nP_copy (a := to) (b := 14 + x) hN h (by omega) (by omega) (by omega) (by omega)
    refine ⟨S1, ?_, ?_⟩
    · simp (disch := omega) only [sm_lt, sm_b1s, sm_b2s, ↓reduceIte, sm_in_nI, nI_clamp, nI_add, pk_mul, pk_sub, ne_addneg, nI_l, ne_ltT, ne_ltF, ne_leT, ne_leF, ne_eqT, ne_eqF, ne_sI1s, ne_sI1n, ne_sI2, ne_sI3, ne_sL1, ne_sL2s, ne_sL2n, ne_sL3, pk_us, pk_un, pk_uLs, pk_uLn, mm_Z, mm_L, mm_1, mm_2, mm_3, ne_rz0, ne_rz1, not_true_eq_false, not_false_eq_true, ne_i0, ne_i1, ne_i2, ne_i3, ne_i4, ne_i5, ne_i6, ne_i7, ne_i8, ne_i9, ne_i10, ne_i12, ne_i14, ne_i16, ne_i18, ne_i19, ne_i20, ne_i23, ne_i24, ne_i27, ne_i29, ne_i30, ne_i31, ne_i32, ne_i35, ne_i48, ne_i52, ne_i54, ne_i57, ne_i59, ne_i63, ne_i64, ne_i76, ne_i77, ne_i78, ne_i79, ne_i80, ne_i81, ne_i97, ne_i99, ne_i100, ne_i101, ne_i104, ne_i105, ne_i108, ne_i110, ne_i111, ne_i116, ne_i117, ne_i122, ne_i103, ne_i200, ne_i255, ne_i256, ne_i320, ne_i384, ne_i1000, ne_l0, ne_l1, ne_l2, ne_l3, ne_l4, ne_l5, ne_l8, ne_l12, ne_l31, ne_l48, ne_l57, ne_l97, ne_l99, ne_l122, ne_l255, ne_l673, ne_l1073741823, ne_l1073741824, e1]
    · unfold sp_val
      rw [if_pos hx4]
      exact h1
  · have hco' := hco (by omega)
    obtain ⟨S1, e1, h1⟩ := nP_copy (a := to) (b := 18) hN h (by omega) (by omega) (by omega) (by omega)
    obtain ⟨S2, e2, h2⟩ := nP_times (a := to) (m := co (x - 4)) hN h1 (by omega) (by omega) (by omega) (by
      rw [ne_up_s]
      exact sp_big hb (by omega))
    have hc : S1.1 8 (x - 4) = nI (co (x - 4)) := (nP_nt h1 ht).2 _ (by omega)
    refine ⟨S2, ?_, ?_⟩
    · simp (disch := omega) only [sm_lt, sm_b1s, sm_b2s, ↓reduceIte, sm_in_nI, nI_clamp, nI_add, pk_mul, pk_sub, ne_addneg, nI_l, ne_ltT, ne_ltF, ne_leT, ne_leF, ne_eqT, ne_eqF, ne_sI1s, ne_sI1n, ne_sI2, ne_sI3, ne_sL1, ne_sL2s, ne_sL2n, ne_sL3, pk_us, pk_un, pk_uLs, pk_uLn, mm_Z, mm_L, mm_1, mm_2, mm_3, ne_rz0, ne_rz1, not_true_eq_false, not_false_eq_true, ne_i0, ne_i1, ne_i2, ne_i3, ne_i4, ne_i5, ne_i6, ne_i7, ne_i8, ne_i9, ne_i10, ne_i12, ne_i14, ne_i16, ne_i18, ne_i19, ne_i20, ne_i23, ne_i24, ne_i27, ne_i29, ne_i30, ne_i31, ne_i32, ne_i35, ne_i48, ne_i52, ne_i54, ne_i57, ne_i59, ne_i63, ne_i64, ne_i76, ne_i77, ne_i78, ne_i79, ne_i80, ne_i81, ne_i97, ne_i99, ne_i100, ne_i101, ne_i104, ne_i105, ne_i108, ne_i110, ne_i111, ne_i116, ne_i117, ne_i122, ne_i103, ne_i200, ne_i255, ne_i256, ne_i320, ne_i384, ne_i1000, ne_l0, ne_l1, ne_l2, ne_l3, ne_l4, ne_l5, ne_l8, ne_l12, ne_l31, ne_l48, ne_l57, ne_l97, ne_l99, ne_l122, ne_l255, ne_l673, ne_l1073741823, ne_l1073741824, e1, hc, e2]
    · unfold sp_val
      rw [if_neg hx4]
      rw [ne_up_s, bx_uu] at h2
      exact h2
theorem np_layMean {c b : Nat} (hN : 4000 ≤ N) (h : nP M v S) (hw : nw a M) (ht : nt t co M) (hs : sc a t co) (hc : c < a 76) (hv : sp_w a (fun i => v (14 + i))) (hb : v 18 < 2 ^ 1000) (hby : b ≤ 1874161) (hp : 0 < sp_ts a t c 8) : ∃ S' v', pm_layMean N S (nI c) (nI b) = some S' ∧ nP M v' S' ∧ v' (10 + c) = sp_sm a t co (fun i => v (14 + i)) c 8 * (b / sp_ts a t c 8) ∧ ∀ s, s ≠ 7 → s ≠ 8 → s ≠ 10 + c → v' s = v s := by
  have hc4 : c < 4 := by have := hs.1; omega
  have hk4 := hs.1
  have hl := sp_ts_le hs hc
  obtain ⟨S0, e0, h0⟩ := nP_set (a := 7) (x := 0) hN h (by decide) (by decide)
  have smb : ∀ n, n ≤ 8 → sp_sm a t co (fun i => v (14 + i)) c n ≤ 48 * (12 * v 18) := fun n hn => by
    refine Nat.le_trans (sp_sm_le hs hv hc n) (Nat.mul_le_mul_right _ ?_)
    have q : ∀ n, n ≤ 8 → sp_ts a t c n ≤ 6 * n := fun n => by
      induction n with
      | zero => intro _; simp [sp_ts]
      | succ n ih =>
        intro hn
        have k1 := ih (by omega)
        have k2 := sp_tk_le hs (x := n) hc (by omega)
        simp only [sp_ts]
        split at k2
        · omega
        · split at k2 <;> omega
    have := q n hn
    omega
  unfold pm_layMean
  simp (disch := omega) only [sm_lt, sm_b1s, sm_b2s, ↓reduceIte, sm_in_nI, nI_clamp, nI_add, pk_mul, pk_sub, ne_addneg, nI_l, ne_ltT, ne_ltF, ne_leT, ne_leF, ne_eqT, ne_eqF, ne_sI1s, ne_sI1n, ne_sI2, ne_sI3, ne_sL1, ne_sL2s, ne_sL2n, ne_sL3, pk_us, pk_un, pk_uLs, pk_uLn, mm_Z, mm_L, mm_1, mm_2, mm_3, ne_rz0, ne_rz1, not_true_eq_false, not_false_eq_true, ne_i0, ne_i1, ne_i2, ne_i3, ne_i4, ne_i5, ne_i6, ne_i7, ne_i8, ne_i9, ne_i10, ne_i12, ne_i14, ne_i16, ne_i18, ne_i19, ne_i20, ne_i23, ne_i24, ne_i27, ne_i29, ne_i30, ne_i31, ne_i32, ne_i35, ne_i48, ne_i52, ne_i54, ne_i57, ne_i59, ne_i63, ne_i64, ne_i76, ne_i77, ne_i78, ne_i79, ne_i80, ne_i81, ne_i97, ne_i99, ne_i100, ne_i101, ne_i104, ne_i105, ne_i108, ne_i110, ne_i111, ne_i116, ne_i117, ne_i122, ne_i103, ne_i200, ne_i255, ne_i256, ne_i320, ne_i384, ne_i1000, ne_l0, ne_l1, ne_l2, ne_l3, ne_l4, ne_l5, ne_l8, ne_l12, ne_l31, ne_l48, ne_l57, ne_l97, ne_l99, ne_l122, ne_l255, ne_l673, ne_l1073741823, ne_l1073741824, e0]
  refine ne_loop (fun f i (s : sm_St) => pm_layMean_b9 N f (nI c) (nI b) (nI i) s) (fun i s => ∃ v', nP M v' s ∧ v' 7 = sp_sm a t co (fun i => v (14 + i)) c i ∧ ∀ s, s ≠ 7 → s ≠ 8 → s ≠ 10 + c → v' s = v s) 8 (fun r => ∃ S' v', r = some S' ∧ nP M v' S' ∧ v' (10 + c) = sp_sm a t co (fun i => v (14 + i)) c 8 * (b / sp_ts a t c 8) ∧ ∀ s, s ≠ 7 → s ≠ 8 → s ≠ 10 + c → v' s = v s) ?_ ?_ N 0 S0 (by omega) (by omega) ⟨_, h0, ne_up_s, fun s h7 _ _ => ne_up_n h7⟩
  · intro f i s hi hI
    obtain ⟨v', g, g7, gf⟩ := hI
    left
    show ∃ s', _ ∧ pm_layMean_b9 N (f + 1) _ _ _ _ = pm_layMean_b9 N f _ _ _ _
    have tkl := sp_tk_le hs hc hi
    have tk6 : sp_tk a t c i ≤ 6 := by
      split at tkl
      · omega
      · split at tkl <;> omega
    have etk : pm_takes N s (nI c) (nI i) = some (nI (sp_tk a t c i), s) := np_takes (nP_nw g hw) (nP_nt g ht) hs hc hi
    rw [pm_layMean_b9]
    rcases Nat.eq_zero_or_pos (sp_tk a t c i) with e | e
    · refine ⟨s, ⟨v', g, ?_, gf⟩, ?_⟩
      · rw [g7, sp_sm, e]; simp
      · unfold pm_layMean_b52
        rw [e] at etk
        simp (disch := omega) only [sm_lt, sm_b1s, sm_b2s, ↓reduceIte, sm_in_nI, nI_clamp, nI_add, pk_mul, pk_sub, ne_addneg, nI_l, ne_ltT, ne_ltF, ne_leT, ne_leF, ne_eqT, ne_eqF, ne_sI1s, ne_sI1n, ne_sI2, ne_sI3, ne_sL1, ne_sL2s, ne_sL2n, ne_sL3, pk_us, pk_un, pk_uLs, pk_uLn, mm_Z, mm_L, mm_1, mm_2, mm_3, ne_rz0, ne_rz1, not_true_eq_false, not_false_eq_true, ne_i0, ne_i1, ne_i2, ne_i3, ne_i4, ne_i5, ne_i6, ne_i7, ne_i8, ne_i9, ne_i10, ne_i12, ne_i14, ne_i16, ne_i18, ne_i19, ne_i20, ne_i23, ne_i24, ne_i27, ne_i29, ne_i30, ne_i31, ne_i32, ne_i35, ne_i48, ne_i52, ne_i54, ne_i57, ne_i59, ne_i63, ne_i64, ne_i76, ne_i77, ne_i78, ne_i79, ne_i80, ne_i81, ne_i97, ne_i99, ne_i100, ne_i101, ne_i104, ne_i105, ne_i108, ne_i110, ne_i111, ne_i116, ne_i117, ne_i122, ne_i103, ne_i200, ne_i255, ne_i256, ne_i320, ne_i384, ne_i1000, ne_l0, ne_l1, ne_l2, ne_l3, ne_l4, ne_l5, ne_l8, ne_l12, ne_l31, ne_l48, ne_l57, ne_l97, ne_l99, ne_l122, ne_l255, ne_l673, ne_l1073741823, ne_l1073741824, etk]
    · have hnum := sp_tk_num hc e
      have g18 : v' 18 = v 18 := gf 18 (by decide) (by decide) (by omega)
      obtain ⟨S1, e1, h1⟩ := np_lay (to := 8) (x := i) hN g ht (by decide) (by decide) hi (fun h4 => hs.2.2.2.2 _ (by omega)) (by rw [g18]; exact hb)
      have evl : sp_val (fun i => v' (14 + i)) co i = sp_val (fun i => v (14 + i)) co i := by
        unfold sp_val
        by_cases h4 : i < 4
        · rw [if_pos h4, if_pos h4]
          exact gf _ (by omega) (by omega) (by omega)
        · rw [if_neg h4, if_neg h4]
          show v' 18 * _ = v 18 * _
          rw [g18]
      rw [evl] at h1
      have vle : sp_val (fun i => v (14 + i)) co i ≤ 12 * v 18 := sp_val_le hs hv hnum
      obtain ⟨S2, e2, h2⟩ := nP_times (a := 8) (m := sp_tk a t c i) hN h1 (by omega) (by omega) (by omega) (by
        rw [ne_up_s]
        calc sp_val (fun i => v (14 + i)) co i * sp_tk a t c i ≤ (12 * v 18) * 6 := Nat.mul_le_mul vle tk6
          _ = v 18 * 72 := by omega
          _ < nm_B ^ 60 := sp_big hb (by decide))
      rw [ne_up_s, bx_uu] at h2
      have etk2 : pm_takes N S1 (nI c) (nI i) = some (nI (sp_tk a t c i), S1) := np_takes (nP_nw h1 hw) (nP_nt h1 ht) hs hc hi
      have s7 : sp_sm a t co (fun i => v (14 + i)) c (i + 1) = va_up v' 8 (sp_val (fun i => v (14 + i)) co i * sp_tk a t c i) 7 + va_up v' 8 (sp_val (fun i => v (14 + i)) co i * sp_tk a t c i) 8 := by
        rw [ne_up_s, ne_up_n (by decide), g7, sp_sm]
      obtain ⟨S3, e3, h3⟩ := nP_add (a := 7) (b := 8) hN h2 (by omega) (by omega) (by omega) (by omega) (by omega) (by
        rw [← s7]
        calc sp_sm a t co (fun i => v (14 + i)) c (i + 1) ≤ 48 * (12 * v 18) := smb _ hi
          _ = v 18 * 576 := by omega
          _ < nm_B ^ 60 := sp_big hb (by decide))
      rw [← s7] at h3
      refine ⟨S3, ⟨_, h3, ne_up_s, fun s q7 q8 qc => by rw [ne_up_n q7, ne_up_n q8]; exact gf s q7 q8 qc⟩, ?_⟩
      unfold pm_layMean_b52
      simp (disch := omega) only [sm_lt, sm_b1s, sm_b2s, ↓reduceIte, sm_in_nI, nI_clamp, nI_add, pk_mul, pk_sub, ne_addneg, nI_l, ne_ltT, ne_ltF, ne_leT, ne_leF, ne_eqT, ne_eqF, ne_sI1s, ne_sI1n, ne_sI2, ne_sI3, ne_sL1, ne_sL2s, ne_sL2n, ne_sL3, pk_us, pk_un, pk_uLs, pk_uLn, mm_Z, mm_L, mm_1, mm_2, mm_3, ne_rz0, ne_rz1, not_true_eq_false, not_false_eq_true, ne_i0, ne_i1, ne_i2, ne_i3, ne_i4, ne_i5, ne_i6, ne_i7, ne_i8, ne_i9, ne_i10, ne_i12, ne_i14, ne_i16, ne_i18, ne_i19, ne_i20, ne_i23, ne_i24, ne_i27, ne_i29, ne_i30, ne_i31, ne_i32, ne_i35, ne_i48, ne_i52, ne_i54, ne_i57, ne_i59, ne_i63, ne_i64, ne_i76, ne_i77, ne_i78, ne_i79, ne_i80, ne_i81, ne_i97, ne_i99, ne_i100, ne_i101, ne_i104, ne_i105, ne_i108, ne_i110, ne_i111, ne_i116, ne_i117, ne_i122, ne_i103, ne_i200, ne_i255, ne_i256, ne_i320, ne_i384, ne_i1000, ne_l0, ne_l1, ne_l2, ne_l3, ne_l4, ne_l5, ne_l8, ne_l12, ne_l31, ne_l48, ne_l57, ne_l97, ne_l99, ne_l122, ne_l255, ne_l673, ne_l1073741823, ne_l1073741824, etk, e1, etk2, e2, e3]
  · intro f s hI
    obtain ⟨v', g, g7, gf⟩ := hI
    show ∃ S' v'', pm_layMean_b9 N (f + 1) _ _ _ _ = some S' ∧ _
    have eta : pm_takesAll N s (nI c) = some (nI (sp_ts a t c 8), s) := np_takesAll hN (nP_nw g hw) (nP_nt g ht) hs hc
    have hq : b / sp_ts a t c 8 ≤ b := Nat.div_le_self _ _
    obtain ⟨S1, e1, h1⟩ := nP_times (a := 7) (m := b / sp_ts a t c 8) hN g (by omega) (by omega) (by omega) (by
      rw [g7]
      calc sp_sm a t co (fun i => v (14 + i)) c 8 * (b / sp_ts a t c 8) ≤ (48 * (12 * v 18)) * 1874161 := Nat.mul_le_mul (smb 8 (Nat.le_refl 8)) (by omega)
        _ = v 18 * 1079516736 := by omega
        _ < nm_B ^ 60 := sp_big hb (by decide))
    obtain ⟨S2, e2, h2⟩ := nP_copy (a := 10 + c) (b := 7) hN h1 (by omega) (by omega) (by omega) (by omega)
    rw [ne_up_s, g7] at h2
    refine ⟨S2, _, ?_, h2, ne_up_s, fun s q7 q8 qc => by rw [ne_up_n qc, ne_up_n q7]; exact gf s q7 q8 qc⟩
    rw [pm_layMean_b9]
    simp (disch := omega) only [sm_lt, sm_b1s, sm_b2s, ↓reduceIte, sm_in_nI, nI_clamp, nI_add, pk_mul, pk_sub, ne_addneg, nI_l, ne_ltT, ne_ltF, ne_leT, ne_leF, ne_eqT, ne_eqF, ne_sI1s, ne_sI1n, ne_sI2, ne_sI3, ne_sL1, ne_sL2s, ne_sL2n, ne_sL3, pk_us, pk_un, pk_uLs, pk_uLn, mm_Z, mm_L, mm_1, mm_2, mm_3, ne_rz0, ne_rz1, not_true_eq_false, not_false_eq_true, ne_i0, ne_i1, ne_i2, ne_i3, ne_i4, ne_i5, ne_i6, ne_i7, ne_i8, ne_i9, ne_i10, ne_i12, ne_i14, ne_i16, ne_i18, ne_i19, ne_i20, ne_i23, ne_i24, ne_i27, ne_i29, ne_i30, ne_i31, ne_i32, ne_i35, ne_i48, ne_i52, ne_i54, ne_i57, ne_i59, ne_i63, ne_i64, ne_i76, ne_i77, ne_i78, ne_i79, ne_i80, ne_i81, ne_i97, ne_i99, ne_i100, ne_i101, ne_i104, ne_i105, ne_i108, ne_i110, ne_i111, ne_i116, ne_i117, ne_i122, ne_i103, ne_i200, ne_i255, ne_i256, ne_i320, ne_i384, ne_i1000, ne_l0, ne_l1, ne_l2, ne_l3, ne_l4, ne_l5, ne_l8, ne_l12, ne_l31, ne_l48, ne_l57, ne_l97, ne_l99, ne_l122, ne_l255, ne_l673, ne_l1073741823, ne_l1073741824, eta, e1, e2, pk_div]
end
