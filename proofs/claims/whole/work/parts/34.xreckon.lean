/-! the reckoning of who takes how much -/
theorem xq_gcdL {N : Nat} {X : sm_St} : ∀ (y x c f : Nat), x < 2 ^ 31 → y + c ≤ 63 → y < f → px_L_greatestDivisor_b7 N f (nI x) (nI y) (nI c) X = some (nI (Nat.gcd x y), X) := by
  intro y
  induction y using Nat.strongRecOn with
  | ind y ih =>
    intro x c f hx hy hf
    obtain ⟨f, rfl⟩ : ∃ g, f = g + 1 := ⟨f - 1, by omega⟩
    rw [px_L_greatestDivisor_b7, show (64 : Int32) = nI 64 from rfl, if_neg (nI_ge (by omega) (by omega))]
    rcases Nat.eq_zero_or_pos y with e | e
    · subst e
      rw [if_pos (show nI 0 = 0 from rfl), Nat.gcd_zero_right]
    · rw [if_neg (nI_ne0 e (by omega)), if_neg (nI_ne0 e (by omega)), pk_rem hx e (by omega)]
      simp only [sm_lt]
      have := Nat.mod_lt x e
      rw [nI_1, ih (x % y) this y (c + 1) f (by omega) (by omega) (by omega), Nat.gcd_comm y, ← Nat.gcd_rec, Nat.gcd_comm]
theorem xq_gcd {N x y : Nat} {X : sm_St} (hN : 4000 ≤ N) (hx : x < 2 ^ 31) (hy : y ≤ 63) : px_L_greatestDivisor N X (nI x) (nI y) = some (nI (Nat.gcd x y), X) := by
  unfold px_L_greatestDivisor
  simp only [sm_lt]
  exact xq_gcdL y x 0 N hx (by omega) (by omega)
theorem ne_lem {n : Nat} (h : n < 2 ^ 31) : (nI n ≤ -nI 1) = False := by
  refine eq_false (fun e => ?_)
  rw [Int32.le_iff_toInt_le, nI_toInt h] at e
  have : (-nI 1).toInt = -1 := by decide
  omega
theorem ne_nb0 : vp_nar .boolean (nI 0) = nI 0 := by decide
theorem ne_nb1 : vp_nar .boolean (nI 1) = nI 1 := by decide
/-- the house at place 1 for the reckoning, hours at q2, colours at q3 -/
def xhd (X : sm_St) (a t co : Nat → Nat) (q2 q3 : Nat) : Prop := X.1 1 9 = nI (a 76) ∧ X.1 1 10 = nI (a 77) ∧ (∀ i, i < a 76 → X.1 2 i = nI (a (4 * i)) ∧ X.1 3 i = nI (a (4 * i + 1))) ∧ (∀ i x, i < a 76 → x < 8 → X.1 (q2 + 1 + i) x = nI (t (8 * i + x))) ∧ ∀ x, x < a 77 → X.1 q3 x = nI (co x)
def xdq (q2 q3 : Nat) : Prop := (q2 = 7 ∨ q2 = 133 ∨ q2 = 139) ∧ (q3 = 6 ∨ q3 = 146)
theorem xdq_2 {q2 q3 : Nat} (h : xdq q2 q3) : (zx_sh q2).2 = 4 := by rcases h.1 with rfl | rfl | rfl <;> rfl
theorem xdq_3 {q2 q3 : Nat} (h : xdq q2 q3) : (zx_sh q3).2 = 4 := by rcases h.2 with rfl | rfl <;> rfl
theorem xdq_r {q2 q3 i : Nat} (h : xdq q2 q3) (hi : i < 4) : (zx_sh (q2 + 1 + i)).2 = 8 := by
  have hi' : i = 0 ∨ i = 1 ∨ i = 2 ∨ i = 3 := by omega
  rcases h.1 with rfl | rfl | rfl <;> rcases hi' with rfl | rfl | rfl | rfl <;> rfl
theorem xdq_p {i : Nat} (hi : i < 4) : (zx_sh (115 + i)).2 = 5 := by
  have hi' : i = 0 ∨ i = 1 ∨ i = 2 ∨ i = 3 := by omega
  rcases hi' with rfl | rfl | rfl | rfl <;> rfl
theorem xhd_fr {X X' : sm_St} {a t co : Nat → Nat} {q2 q3 : Nat} (hk : a 76 ≤ 4) (hq : xdq q2 q3) (h : xhd X a t co q2 q3) (hf : ∀ p, p < 110 ∨ 126 ≤ p → X'.1 p = X.1 p) : xhd X' a t co q2 q3 := by
  obtain ⟨h1, h2, h3, h4, h5⟩ := h
  have z2 := hq.1
  have z3 := hq.2
  refine ⟨by rw [hf 1 (by decide)]; exact h1, by rw [hf 1 (by decide)]; exact h2, fun i hi => by rw [hf 2 (by decide), hf 3 (by decide)]; exact h3 i hi, fun i x hi hx => by rw [hf _ (by omega)]; exact h4 i x hi hx, fun x hx => by rw [hf _ (by omega)]; exact h5 x hx⟩
def sp_t0 (a t : Nat → Nat) (i : Nat) : Nat → Nat
  | 0 => 0
  | n + 1 => sp_t0 a t i n + (if n = i then 0 else sp_tk a t i n)
section
variable {N : Nat} {X : sm_St} {a t co w : Nat → Nat} {q2 q3 : Nat}
theorem sp_t0_ts (i : Nat) : ∀ n, sp_t0 a t i n + (if i < n then sp_tk a t i i else 0) = sp_ts a t i n
  | 0 => rfl
  | n + 1 => by
    have ih := sp_t0_ts i n
    rw [sp_t0, sp_ts, ← ih]
    by_cases e : n = i
    · subst e
      rw [if_pos rfl, if_pos (by omega), if_neg (by omega)]
    · rw [if_neg e]
      by_cases l : i < n
      · rw [if_pos l, if_pos (by omega)]; omega
      · rw [if_neg l, if_neg (by omega)]; omega
theorem sp_ts_k (hs : sc a t co) {i : Nat} (hi : i < a 76) : sp_ts a t i 4 = sp_ts a t i (a 76) := by
  have h4 := hs.1
  have q : ∀ d, a 76 + d ≤ 4 → sp_ts a t i (a 76 + d) = sp_ts a t i (a 76) := fun d => by
    induction d with
    | zero => intro _; rfl
    | succ d ih =>
      intro hd
      rw [← Nat.add_assoc, sp_ts, ih (by omega), sp_tk_mid hi (by omega) (by omega), Nat.add_zero]
  have := q (4 - a 76) (by omega)
  rwa [show a 76 + (4 - a 76) = 4 by omega] at this
theorem sp_ts_6 (hs : sc a t co) {i : Nat} (hi : i < a 76) : ∀ n, n ≤ 8 → sp_ts a t i n ≤ 6 * n
  | 0, _ => Nat.le_refl _
  | n + 1, h => by
    have k1 := sp_ts_6 hs hi n (by omega)
    have k2 := sp_tk_6 hs hi (x := n) (by omega)
    rw [sp_ts]
    omega
theorem xq_lT {j : Nat} (h : X.1 2 j = nI (a (4 * j))) (hj : j < 4) (hk : a (4 * j) ≤ 4) (hg : a (4 * j) ≠ 2 ∧ a (4 * j) ≠ 4) : px_House_lends N X 1 (nI j) = some (nI 1, X) := by
  unfold px_House_lends
  simp (disch := omega) only [sm_lt, sm_b1s, sm_b2s, ↓reduceIte, sm_in_nI, nI_clamp, nI_add, pk_mul, pk_sub, ne_addneg, nI_l, ne_ltT, ne_ltF, ne_leT, ne_leF, ne_eqT, ne_eqF, ne_sI1s, ne_sI1n, ne_sI2, ne_sI3, ne_sL1, ne_sL2s, ne_sL2n, ne_sL3, pk_us, pk_un, pk_uLs, pk_uLn, mm_Z, mm_L, mm_1, mm_2, mm_3, ne_rz0, ne_rz1, not_true_eq_false, not_false_eq_true, ne_i0, ne_i1, ne_i2, ne_i3, ne_i4, ne_i5, ne_i6, ne_i7, ne_i8, ne_i9, ne_i10, ne_i12, ne_i14, ne_i16, ne_i18, ne_i19, ne_i20, ne_i23, ne_i24, ne_i27, ne_i29, ne_i30, ne_i31, ne_i32, ne_i35, ne_i48, ne_i52, ne_i54, ne_i57, ne_i59, ne_i63, ne_i64, ne_i76, ne_i77, ne_i78, ne_i79, ne_i80, ne_i81, ne_i97, ne_i99, ne_i100, ne_i101, ne_i104, ne_i105, ne_i108, ne_i110, ne_i111, ne_i116, ne_i117, ne_i122, ne_i103, ne_i200, ne_i255, ne_i256, ne_i320, ne_i384, ne_i1000, ne_l0, ne_l1, ne_l2, ne_l3, ne_l4, ne_l5, ne_l8, ne_l12, ne_l31, ne_l48, ne_l57, ne_l97, ne_l99, ne_l122, ne_l255, ne_l673, ne_l1073741823, ne_l1073741824, h]
theorem xq_lF {j : Nat} (h : X.1 2 j = nI (a (4 * j))) (hj : j < 4) (hk : a (4 * j) ≤ 4) (hg : ¬ (a (4 * j) ≠ 2 ∧ a (4 * j) ≠ 4)) : px_House_lends N X 1 (nI j) = some (nI 0, X) := by
  unfold px_House_lends
  by_cases e : a (4 * j) = 2
  · simp (disch := omega) only [sm_lt, sm_b1s, sm_b2s, ↓reduceIte, sm_in_nI, nI_clamp, nI_add, pk_mul, pk_sub, ne_addneg, nI_l, ne_ltT, ne_ltF, ne_leT, ne_leF, ne_eqT, ne_eqF, ne_sI1s, ne_sI1n, ne_sI2, ne_sI3, ne_sL1, ne_sL2s, ne_sL2n, ne_sL3, pk_us, pk_un, pk_uLs, pk_uLn, mm_Z, mm_L, mm_1, mm_2, mm_3, ne_rz0, ne_rz1, not_true_eq_false, not_false_eq_true, ne_i0, ne_i1, ne_i2, ne_i3, ne_i4, ne_i5, ne_i6, ne_i7, ne_i8, ne_i9, ne_i10, ne_i12, ne_i14, ne_i16, ne_i18, ne_i19, ne_i20, ne_i23, ne_i24, ne_i27, ne_i29, ne_i30, ne_i31, ne_i32, ne_i35, ne_i48, ne_i52, ne_i54, ne_i57, ne_i59, ne_i63, ne_i64, ne_i76, ne_i77, ne_i78, ne_i79, ne_i80, ne_i81, ne_i97, ne_i99, ne_i100, ne_i101, ne_i104, ne_i105, ne_i108, ne_i110, ne_i111, ne_i116, ne_i117, ne_i122, ne_i103, ne_i200, ne_i255, ne_i256, ne_i320, ne_i384, ne_i1000, ne_l0, ne_l1, ne_l2, ne_l3, ne_l4, ne_l5, ne_l8, ne_l12, ne_l31, ne_l48, ne_l57, ne_l97, ne_l99, ne_l122, ne_l255, ne_l673, ne_l1073741823, ne_l1073741824, h]
  · simp (disch := omega) only [sm_lt, sm_b1s, sm_b2s, ↓reduceIte, sm_in_nI, nI_clamp, nI_add, pk_mul, pk_sub, ne_addneg, nI_l, ne_ltT, ne_ltF, ne_leT, ne_leF, ne_eqT, ne_eqF, ne_sI1s, ne_sI1n, ne_sI2, ne_sI3, ne_sL1, ne_sL2s, ne_sL2n, ne_sL3, pk_us, pk_un, pk_uLs, pk_uLn, mm_Z, mm_L, mm_1, mm_2, mm_3, ne_rz0, ne_rz1, not_true_eq_false, not_false_eq_true, ne_i0, ne_i1, ne_i2, ne_i3, ne_i4, ne_i5, ne_i6, ne_i7, ne_i8, ne_i9, ne_i10, ne_i12, ne_i14, ne_i16, ne_i18, ne_i19, ne_i20, ne_i23, ne_i24, ne_i27, ne_i29, ne_i30, ne_i31, ne_i32, ne_i35, ne_i48, ne_i52, ne_i54, ne_i57, ne_i59, ne_i63, ne_i64, ne_i76, ne_i77, ne_i78, ne_i79, ne_i80, ne_i81, ne_i97, ne_i99, ne_i100, ne_i101, ne_i104, ne_i105, ne_i108, ne_i110, ne_i111, ne_i116, ne_i117, ne_i122, ne_i103, ne_i200, ne_i255, ne_i256, ne_i320, ne_i384, ne_i1000, ne_l0, ne_l1, ne_l2, ne_l3, ne_l4, ne_l5, ne_l8, ne_l12, ne_l31, ne_l48, ne_l57, ne_l97, ne_l99, ne_l122, ne_l255, ne_l673, ne_l1073741823, ne_l1073741824, h]
theorem xq_ofCloths {i : Nat} (hN : 4000 ≤ N) (hs : sc a t co) (hq : xdq q2 q3) (h : xhd X a t co q2 q3) (hi : i < a 76) (hk5 : X.1 110 5 = nI (a 76)) : ∃ X', px_Takings_ofCloths N X 1 (nI i) (q2 + 1 + i) = some (nI (sp_ts a t i 4), X') ∧ (∀ j, j < a 76 → X'.1 (115 + i) j = nI (sp_tk a t i j)) ∧ (∀ p, p ≠ 115 + i → X'.1 p = X.1 p) ∧ X'.2 = X.2 := by
  have k4 := hs.1
  have hkd := (hs.2.2.1 i hi)
  obtain ⟨d1, d2, d3, d4, d5⟩ := h
  obtain ⟨e1, e2⟩ := d3 i hi
  have z2 := hq.1
  have hzr := xdq_r hq (show i < 4 by omega)
  have hzp := xdq_p (show i < 4 by omega)
  have nq : q2 + 1 + i ≠ 115 + i := by omega
  have tii : sp_tk a t i i = if a (4 * i) = 1 ∨ a (4 * i) = 3 then a (4 * i + 1) + 1 else 0 := by unfold sp_tk; rw [if_pos rfl]
  have t0le : ∀ n, n ≤ 8 → sp_t0 a t i n ≤ 6 * n := fun n hn => by
    have := sp_t0_ts (a := a) (t := t) i n
    have := sp_ts_6 hs hi n hn
    omega
  unfold px_Takings_ofCloths
  simp (disch := omega) only [sm_lt, sm_b1s, sm_b2s, ↓reduceIte, sm_in_nI, nI_clamp, nI_add, pk_mul, pk_sub, ne_addneg, nI_l, ne_ltT, ne_ltF, ne_leT, ne_leF, ne_eqT, ne_eqF, ne_sI1s, ne_sI1n, ne_sI2, ne_sI3, ne_sL1, ne_sL2s, ne_sL2n, ne_sL3, pk_us, pk_un, pk_uLs, pk_uLn, mm_Z, mm_L, mm_1, mm_2, mm_3, ne_rz0, ne_rz1, not_true_eq_false, not_false_eq_true, ne_i0, ne_i1, ne_i2, ne_i3, ne_i4, ne_i5, ne_i6, ne_i7, ne_i8, ne_i9, ne_i10, ne_i12, ne_i14, ne_i16, ne_i18, ne_i19, ne_i20, ne_i23, ne_i24, ne_i27, ne_i29, ne_i30, ne_i31, ne_i32, ne_i35, ne_i48, ne_i52, ne_i54, ne_i57, ne_i59, ne_i63, ne_i64, ne_i76, ne_i77, ne_i78, ne_i79, ne_i80, ne_i81, ne_i97, ne_i99, ne_i100, ne_i101, ne_i104, ne_i105, ne_i108, ne_i110, ne_i111, ne_i116, ne_i117, ne_i122, ne_i103, ne_i200, ne_i255, ne_i256, ne_i320, ne_i384, ne_i1000, ne_l0, ne_l1, ne_l2, ne_l3, ne_l4, ne_l5, ne_l8, ne_l12, ne_l31, ne_l48, ne_l57, ne_l97, ne_l99, ne_l122, ne_l255, ne_l673, ne_l1073741823, ne_l1073741824]
  have q := ne_loop (fun f j (s : Nat × (Nat → Int32)) => px_Takings_ofCloths_b6 N 1 (q2 + 1 + i) f (nI i) (nI s.1) (nI j) (sm_sF X (115 + i) s.2)) (fun j s => s.1 = sp_t0 a t i j ∧ ∀ x, x < j → s.2 x = nI (if x = i then 0 else sp_tk a t i x)) (a 76) (fun r => ∃ X', r = some (nI (sp_ts a t i 4), X') ∧ (∀ j, j < a 76 → X'.1 (115 + i) j = nI (sp_tk a t i j)) ∧ (∀ p, p ≠ 115 + i → X'.1 p = X.1 p) ∧ X'.2 = X.2) ?_ ?_ N 0 (0, X.1 (115 + i)) (by omega) (by omega) ⟨rfl, fun x hx => by omega⟩
  · simp only [sF_self] at q
    exact q
  · rintro f j ⟨s, g⟩ hj ⟨i1, i2⟩
    simp only at i1 i2
    subst i1
    left
    have htk := sp_tk_6 hs hi (x := j) (by omega)
    have hl := t0le j (by omega)
    refine ⟨(sp_t0 a t i (j + 1), upd g j (nI (if j = i then 0 else sp_tk a t i j))), ⟨rfl, fun x hx => ?_⟩, ?_⟩
    · by_cases e : x = j
      · subst e
        exact pk_us
      · show upd g _ _ _ = _
        rw [pk_un e]
        exact i2 x (by omega)
    · show px_Takings_ofCloths_b6 N 1 (q2 + 1 + i) (f + 1) _ _ _ _ = px_Takings_ofCloths_b6 N 1 (q2 + 1 + i) f _ _ _ _
      obtain ⟨d31, d32⟩ := d3 j hj
      have hkj := (hs.2.2.1 j hj).1
      have core : ∀ x, x = (if j = i then 0 else sp_tk a t i j) → px_Takings_ofCloths_b46 N 1 (q2 + 1 + i) (px_Takings_ofCloths_b6 N 1 (q2 + 1 + i) f) (nI i) (nI (sp_t0 a t i j)) (nI j) (115 + i) (nI j) (nI x) (sm_sF X (115 + i) g) = px_Takings_ofCloths_b6 N 1 (q2 + 1 + i) f (nI i) (nI (sp_t0 a t i (j + 1))) (nI (j + 1)) (sm_sF X (115 + i) (upd g j (nI (if j = i then 0 else sp_tk a t i j)))) := by
        intro x ex
        rw [← ex]
        have e2 : sp_t0 a t i (j + 1) = sp_t0 a t i j + x := by rw [ex]; rfl
        unfold px_Takings_ofCloths_b46
        simp (disch := omega) only [sm_lt, sm_b1s, sm_b2s, ↓reduceIte, sm_in_nI, nI_clamp, nI_add, pk_mul, pk_sub, ne_addneg, nI_l, ne_ltT, ne_ltF, ne_leT, ne_leF, ne_eqT, ne_eqF, ne_sI1s, ne_sI1n, ne_sI2, ne_sI3, ne_sL1, ne_sL2s, ne_sL2n, ne_sL3, pk_us, pk_un, pk_uLs, pk_uLn, mm_Z, mm_L, mm_1, mm_2, mm_3, ne_rz0, ne_rz1, not_true_eq_false, not_false_eq_true, ne_i0, ne_i1, ne_i2, ne_i3, ne_i4, ne_i5, ne_i6, ne_i7, ne_i8, ne_i9, ne_i10, ne_i12, ne_i14, ne_i16, ne_i18, ne_i19, ne_i20, ne_i23, ne_i24, ne_i27, ne_i29, ne_i30, ne_i31, ne_i32, ne_i35, ne_i48, ne_i52, ne_i54, ne_i57, ne_i59, ne_i63, ne_i64, ne_i76, ne_i77, ne_i78, ne_i79, ne_i80, ne_i81, ne_i97, ne_i99, ne_i100, ne_i101, ne_i104, ne_i105, ne_i108, ne_i110, ne_i111, ne_i116, ne_i117, ne_i122, ne_i103, ne_i200, ne_i255, ne_i256, ne_i320, ne_i384, ne_i1000, ne_l0, ne_l1, ne_l2, ne_l3, ne_l4, ne_l5, ne_l8, ne_l12, ne_l31, ne_l48, ne_l57, ne_l97, ne_l99, ne_l122, ne_l255, ne_l673, ne_l1073741823, ne_l1073741824, hzp, sF_sI, sF_s, e2]
      rw [px_Takings_ofCloths_b6]
      unfold px_Takings_ofCloths_b45
      have l1 : (sm_sF X (115 + i) g).1 2 j = nI (a (4 * j)) := by rw [sF_n (by omega)]; exact d31
      by_cases e : j = i
      · have c0 := core 0 (by rw [if_pos e])
        simp (disch := omega) only [sm_lt, sm_b1s, sm_b2s, ↓reduceIte, sm_in_nI, nI_clamp, nI_add, pk_mul, pk_sub, ne_addneg, nI_l, ne_ltT, ne_ltF, ne_leT, ne_leF, ne_eqT, ne_eqF, ne_sI1s, ne_sI1n, ne_sI2, ne_sI3, ne_sL1, ne_sL2s, ne_sL2n, ne_sL3, pk_us, pk_un, pk_uLs, pk_uLn, mm_Z, mm_L, mm_1, mm_2, mm_3, ne_rz0, ne_rz1, not_true_eq_false, not_false_eq_true, ne_i0, ne_i1, ne_i2, ne_i3, ne_i4, ne_i5, ne_i6, ne_i7, ne_i8, ne_i9, ne_i10, ne_i12, ne_i14, ne_i16, ne_i18, ne_i19, ne_i20, ne_i23, ne_i24, ne_i27, ne_i29, ne_i30, ne_i31, ne_i32, ne_i35, ne_i48, ne_i52, ne_i54, ne_i57, ne_i59, ne_i63, ne_i64, ne_i76, ne_i77, ne_i78, ne_i79, ne_i80, ne_i81, ne_i97, ne_i99, ne_i100, ne_i101, ne_i104, ne_i105, ne_i108, ne_i110, ne_i111, ne_i116, ne_i117, ne_i122, ne_i103, ne_i200, ne_i255, ne_i256, ne_i320, ne_i384, ne_i1000, ne_l0, ne_l1, ne_l2, ne_l3, ne_l4, ne_l5, ne_l8, ne_l12, ne_l31, ne_l48, ne_l57, ne_l97, ne_l99, ne_l122, ne_l255, ne_l673, ne_l1073741823, ne_l1073741824, sF_n, hk5]
        exact c0
      · by_cases hg : a (4 * j) ≠ 2 ∧ a (4 * j) ≠ 4
        · have et : sp_tk a t i j = t (8 * i + j) := by unfold sp_tk; rw [if_neg e, if_pos (by omega), if_pos ⟨hj, hg⟩]
          have c0 := core (t (8 * i + j)) (by rw [if_neg e, et])
          simp (disch := omega) only [sm_lt, sm_b1s, sm_b2s, ↓reduceIte, sm_in_nI, nI_clamp, nI_add, pk_mul, pk_sub, ne_addneg, nI_l, ne_ltT, ne_ltF, ne_leT, ne_leF, ne_eqT, ne_eqF, ne_sI1s, ne_sI1n, ne_sI2, ne_sI3, ne_sL1, ne_sL2s, ne_sL2n, ne_sL3, pk_us, pk_un, pk_uLs, pk_uLn, mm_Z, mm_L, mm_1, mm_2, mm_3, ne_rz0, ne_rz1, not_true_eq_false, not_false_eq_true, ne_i0, ne_i1, ne_i2, ne_i3, ne_i4, ne_i5, ne_i6, ne_i7, ne_i8, ne_i9, ne_i10, ne_i12, ne_i14, ne_i16, ne_i18, ne_i19, ne_i20, ne_i23, ne_i24, ne_i27, ne_i29, ne_i30, ne_i31, ne_i32, ne_i35, ne_i48, ne_i52, ne_i54, ne_i57, ne_i59, ne_i63, ne_i64, ne_i76, ne_i77, ne_i78, ne_i79, ne_i80, ne_i81, ne_i97, ne_i99, ne_i100, ne_i101, ne_i104, ne_i105, ne_i108, ne_i110, ne_i111, ne_i116, ne_i117, ne_i122, ne_i103, ne_i200, ne_i255, ne_i256, ne_i320, ne_i384, ne_i1000, ne_l0, ne_l1, ne_l2, ne_l3, ne_l4, ne_l5, ne_l8, ne_l12, ne_l31, ne_l48, ne_l57, ne_l97, ne_l99, ne_l122, ne_l255, ne_l673, ne_l1073741823, ne_l1073741824, sF_n, hk5, xq_lT l1 (by omega) hkj hg, hzr, d4 i j hi (by omega)]
          exact c0
        · have et : sp_tk a t i j = 0 := by unfold sp_tk; rw [if_neg e, if_pos (by omega), if_neg (fun q => hg q.2)]
          have c0 := core 0 (by rw [if_neg e, et])
          simp (disch := omega) only [sm_lt, sm_b1s, sm_b2s, ↓reduceIte, sm_in_nI, nI_clamp, nI_add, pk_mul, pk_sub, ne_addneg, nI_l, ne_ltT, ne_ltF, ne_leT, ne_leF, ne_eqT, ne_eqF, ne_sI1s, ne_sI1n, ne_sI2, ne_sI3, ne_sL1, ne_sL2s, ne_sL2n, ne_sL3, pk_us, pk_un, pk_uLs, pk_uLn, mm_Z, mm_L, mm_1, mm_2, mm_3, ne_rz0, ne_rz1, not_true_eq_false, not_false_eq_true, ne_i0, ne_i1, ne_i2, ne_i3, ne_i4, ne_i5, ne_i6, ne_i7, ne_i8, ne_i9, ne_i10, ne_i12, ne_i14, ne_i16, ne_i18, ne_i19, ne_i20, ne_i23, ne_i24, ne_i27, ne_i29, ne_i30, ne_i31, ne_i32, ne_i35, ne_i48, ne_i52, ne_i54, ne_i57, ne_i59, ne_i63, ne_i64, ne_i76, ne_i77, ne_i78, ne_i79, ne_i80, ne_i81, ne_i97, ne_i99, ne_i100, ne_i101, ne_i104, ne_i105, ne_i108, ne_i110, ne_i111, ne_i116, ne_i117, ne_i122, ne_i103, ne_i200, ne_i255, ne_i256, ne_i320, ne_i384, ne_i1000, ne_l0, ne_l1, ne_l2, ne_l3, ne_l4, ne_l5, ne_l8, ne_l12, ne_l31, ne_l48, ne_l57, ne_l97, ne_l99, ne_l122, ne_l255, ne_l673, ne_l1073741823, ne_l1073741824, sF_n, hk5, xq_lF l1 (by omega) hkj hg]
          exact c0
  · rintro f ⟨s, g⟩ ⟨i1, i2⟩
    simp only at i1 i2
    subst i1
    show ∃ X', px_Takings_ofCloths_b6 N 1 (q2 + 1 + i) (f + 1) _ _ _ _ = _ ∧ _
    have hsum := sp_t0_ts (a := a) (t := t) i (a 76)
    rw [if_pos hi, ← sp_ts_k hs hi] at hsum
    rw [px_Takings_ofCloths_b6]
    unfold px_Takings_ofCloths_b87
    by_cases hk : a (4 * i) = 1 ∨ a (4 * i) = 3
    · rw [if_pos hk] at tii
      have fin : ∃ X', some (nI (sp_ts a t i 4), sm_sF X (115 + i) (upd g i (nI (a (4 * i + 1) + 1)))) = some (nI (sp_ts a t i 4), X') ∧ (∀ j, j < a 76 → X'.1 (115 + i) j = nI (sp_tk a t i j)) ∧ (∀ p, p ≠ 115 + i → X'.1 p = X.1 p) ∧ X'.2 = X.2 := by
        refine ⟨_, rfl, fun j hj => ?_, fun p hp => sF_n hp, rfl⟩
        rw [sF_s]
        by_cases e : j = i
        · subst e
          rw [pk_us, tii]
        · rw [pk_un e, i2 j hj, if_neg e]
      have e4 : sp_t0 a t i (a 76) + (a (4 * i + 1) + 1) = sp_ts a t i 4 := by rw [← hsum, tii]
      by_cases h1 : a (4 * i) = 1
      · simp (disch := omega) only [sm_lt, sm_b1s, sm_b2s, ↓reduceIte, sm_in_nI, nI_clamp, nI_add, pk_mul, pk_sub, ne_addneg, nI_l, ne_ltT, ne_ltF, ne_leT, ne_leF, ne_eqT, ne_eqF, ne_sI1s, ne_sI1n, ne_sI2, ne_sI3, ne_sL1, ne_sL2s, ne_sL2n, ne_sL3, pk_us, pk_un, pk_uLs, pk_uLn, mm_Z, mm_L, mm_1, mm_2, mm_3, ne_rz0, ne_rz1, not_true_eq_false, not_false_eq_true, ne_i0, ne_i1, ne_i2, ne_i3, ne_i4, ne_i5, ne_i6, ne_i7, ne_i8, ne_i9, ne_i10, ne_i12, ne_i14, ne_i16, ne_i18, ne_i19, ne_i20, ne_i23, ne_i24, ne_i27, ne_i29, ne_i30, ne_i31, ne_i32, ne_i35, ne_i48, ne_i52, ne_i54, ne_i57, ne_i59, ne_i63, ne_i64, ne_i76, ne_i77, ne_i78, ne_i79, ne_i80, ne_i81, ne_i97, ne_i99, ne_i100, ne_i101, ne_i104, ne_i105, ne_i108, ne_i110, ne_i111, ne_i116, ne_i117, ne_i122, ne_i103, ne_i200, ne_i255, ne_i256, ne_i320, ne_i384, ne_i1000, ne_l0, ne_l1, ne_l2, ne_l3, ne_l4, ne_l5, ne_l8, ne_l12, ne_l31, ne_l48, ne_l57, ne_l97, ne_l99, ne_l122, ne_l255, ne_l673, ne_l1073741823, ne_l1073741824, sF_n, sF_s, hk5, e1, e2, sF_sI, e4]
        exact fin
      · simp (disch := omega) only [sm_lt, sm_b1s, sm_b2s, ↓reduceIte, sm_in_nI, nI_clamp, nI_add, pk_mul, pk_sub, ne_addneg, nI_l, ne_ltT, ne_ltF, ne_leT, ne_leF, ne_eqT, ne_eqF, ne_sI1s, ne_sI1n, ne_sI2, ne_sI3, ne_sL1, ne_sL2s, ne_sL2n, ne_sL3, pk_us, pk_un, pk_uLs, pk_uLn, mm_Z, mm_L, mm_1, mm_2, mm_3, ne_rz0, ne_rz1, not_true_eq_false, not_false_eq_true, ne_i0, ne_i1, ne_i2, ne_i3, ne_i4, ne_i5, ne_i6, ne_i7, ne_i8, ne_i9, ne_i10, ne_i12, ne_i14, ne_i16, ne_i18, ne_i19, ne_i20, ne_i23, ne_i24, ne_i27, ne_i29, ne_i30, ne_i31, ne_i32, ne_i35, ne_i48, ne_i52, ne_i54, ne_i57, ne_i59, ne_i63, ne_i64, ne_i76, ne_i77, ne_i78, ne_i79, ne_i80, ne_i81, ne_i97, ne_i99, ne_i100, ne_i101, ne_i104, ne_i105, ne_i108, ne_i110, ne_i111, ne_i116, ne_i117, ne_i122, ne_i103, ne_i200, ne_i255, ne_i256, ne_i320, ne_i384, ne_i1000, ne_l0, ne_l1, ne_l2, ne_l3, ne_l4, ne_l5, ne_l8, ne_l12, ne_l31, ne_l48, ne_l57, ne_l97, ne_l99, ne_l122, ne_l255, ne_l673, ne_l1073741823, ne_l1073741824, sF_n, sF_s, hk5, e1, e2, sF_sI, e4]
        exact fin
    · rw [if_neg hk] at tii
      have e4 : sp_t0 a t i (a 76) = sp_ts a t i 4 := by rw [← hsum, tii]; rfl
      simp (disch := omega) only [sm_lt, sm_b1s, sm_b2s, ↓reduceIte, sm_in_nI, nI_clamp, nI_add, pk_mul, pk_sub, ne_addneg, nI_l, ne_ltT, ne_ltF, ne_leT, ne_leF, ne_eqT, ne_eqF, ne_sI1s, ne_sI1n, ne_sI2, ne_sI3, ne_sL1, ne_sL2s, ne_sL2n, ne_sL3, pk_us, pk_un, pk_uLs, pk_uLn, mm_Z, mm_L, mm_1, mm_2, mm_3, ne_rz0, ne_rz1, not_true_eq_false, not_false_eq_true, ne_i0, ne_i1, ne_i2, ne_i3, ne_i4, ne_i5, ne_i6, ne_i7, ne_i8, ne_i9, ne_i10, ne_i12, ne_i14, ne_i16, ne_i18, ne_i19, ne_i20, ne_i23, ne_i24, ne_i27, ne_i29, ne_i30, ne_i31, ne_i32, ne_i35, ne_i48, ne_i52, ne_i54, ne_i57, ne_i59, ne_i63, ne_i64, ne_i76, ne_i77, ne_i78, ne_i79, ne_i80, ne_i81, ne_i97, ne_i99, ne_i100, ne_i101, ne_i104, ne_i105, ne_i108, ne_i110, ne_i111, ne_i116, ne_i117, ne_i122, ne_i103, ne_i200, ne_i255, ne_i256, ne_i320, ne_i384, ne_i1000, ne_l0, ne_l1, ne_l2, ne_l3, ne_l4, ne_l5, ne_l8, ne_l12, ne_l31, ne_l48, ne_l57, ne_l97, ne_l99, ne_l122, ne_l255, ne_l673, ne_l1073741823, ne_l1073741824, sF_n, hk5, e1, e4]
      refine ⟨_, rfl, fun j hj => ?_, fun p hp => sF_n hp, rfl⟩
      rw [sF_s, i2 j hj]
      by_cases e : j = i
      · subst e
        rw [if_pos rfl, tii]
      · rw [if_neg e]
theorem xq_ofThings {i : Nat} (hN : 4000 ≤ N) (hs : sc a t co) (hq : xdq q2 q3) (h : xhd X a t co q2 q3) (hi : i < a 76) : ∃ X', px_Takings_ofThings N X 1 (nI i) (q2 + 1 + i) q3 = some (nI (sp_t2 a t i (a 77)), X') ∧ X'.1 (115 + i) 4 = nI (sp_tp a t co i (a 77)) ∧ (∀ j, j ≠ 4 → X'.1 (115 + i) j = X.1 (115 + i) j) ∧ X'.1 121 i = sp_og (sp_tg a t co i (a 77)) ∧ (∀ j, j ≠ i → X'.1 121 j = X.1 121 j) ∧ (∀ p, p ≠ 115 + i → p ≠ 121 → X'.1 p = X.1 p) ∧ X'.2 = X.2 := by
  have k4 := hs.1
  have t4 := hs.2.1
  have hkd := (hs.2.2.1 i hi).1
  obtain ⟨d1, d2, d3, d4, d5⟩ := h
  obtain ⟨e1, e2⟩ := d3 i hi
  have z2 := hq.1
  have z3 := hq.2
  have hzr := xdq_r hq (show i < 4 by omega)
  have hz3 := xdq_3 hq
  have nq : q2 + 1 + i ≠ 115 + i := by omega
  have nq2 : q2 + 1 + i ≠ 121 := by omega
  have n3 : q3 ≠ 115 + i := by omega
  have n4 : q3 ≠ 121 := by omega
  have n5 : 115 + i ≠ 121 := by omega
  have tpl : ∀ n, n ≤ a 77 → sp_tp a t co i n ≤ 72 * n := fun n => by
    induction n with
    | zero => intro _; simp [sp_tp]
    | succ n ih =>
      intro hn
      have k1 := ih (by omega)
      have k2 : sp_tk a t i (4 + n) * co n ≤ 6 * 12 := Nat.mul_le_mul (sp_tk_6 hs hi (by omega)) (hs.2.2.2.2 n (by omega))
      rw [sp_tp]
      omega
  have t2l : ∀ n, n ≤ a 77 → sp_t2 a t i n ≤ 6 * n := fun n => by
    induction n with
    | zero => intro _; simp [sp_t2]
    | succ n ih =>
      intro hn
      have k1 := ih (by omega)
      have k2 := sp_tk_6 hs hi (x := 4 + n) (by omega)
      rw [sp_t2]
      omega
  have core : ∀ m, m = (if a (4 * i) = 3 then 2 else 1) → ∃ X', px_Takings_ofThings_b18 N 1 (q2 + 1 + i) q3 (nI i) (nI 0) (nI m) X = some (nI (sp_t2 a t i (a 77)), X') ∧ X'.1 (115 + i) 4 = nI (sp_tp a t co i (a 77)) ∧ (∀ j, j ≠ 4 → X'.1 (115 + i) j = X.1 (115 + i) j) ∧ X'.1 121 i = sp_og (sp_tg a t co i (a 77)) ∧ (∀ j, j ≠ i → X'.1 121 j = X.1 121 j) ∧ (∀ p, p ≠ 115 + i → p ≠ 121 → X'.1 p = X.1 p) ∧ X'.2 = X.2 := by
    intro m hm
    have hm2 : m ≤ 2 := by rw [hm]; split <;> omega
    have htk : ∀ x, x < a 77 → m * t (8 * i + (4 + x)) = sp_tk a t i (4 + x) := fun x hx => by
      unfold sp_tk
      rw [if_neg (by omega), if_neg (by omega), if_pos (by omega), hm]
      split <;> omega
    unfold px_Takings_ofThings_b18
    simp (disch := omega) only [sm_lt, sm_b1s, sm_b2s, ↓reduceIte, sm_in_nI, nI_clamp, nI_add, pk_mul, pk_sub, ne_addneg, nI_l, ne_ltT, ne_ltF, ne_leT, ne_leF, ne_eqT, ne_eqF, ne_sI1s, ne_sI1n, ne_sI2, ne_sI3, ne_sL1, ne_sL2s, ne_sL2n, ne_sL3, pk_us, pk_un, pk_uLs, pk_uLn, mm_Z, mm_L, mm_1, mm_2, mm_3, ne_rz0, ne_rz1, not_true_eq_false, not_false_eq_true, ne_i0, ne_i1, ne_i2, ne_i3, ne_i4, ne_i5, ne_i6, ne_i7, ne_i8, ne_i9, ne_i10, ne_i12, ne_i14, ne_i16, ne_i18, ne_i19, ne_i20, ne_i23, ne_i24, ne_i27, ne_i29, ne_i30, ne_i31, ne_i32, ne_i35, ne_i48, ne_i52, ne_i54, ne_i57, ne_i59, ne_i63, ne_i64, ne_i76, ne_i77, ne_i78, ne_i79, ne_i80, ne_i81, ne_i97, ne_i99, ne_i100, ne_i101, ne_i104, ne_i105, ne_i108, ne_i110, ne_i111, ne_i116, ne_i117, ne_i122, ne_i103, ne_i200, ne_i255, ne_i256, ne_i320, ne_i384, ne_i1000, ne_l0, ne_l1, ne_l2, ne_l3, ne_l4, ne_l5, ne_l8, ne_l12, ne_l31, ne_l48, ne_l57, ne_l97, ne_l99, ne_l122, ne_l255, ne_l673, ne_l1073741823, ne_l1073741824]
    have q := ne_loop (fun f x (s : Nat × (Nat → Int32) × (Nat → Int32)) => px_Takings_ofThings_b39 N 1 (q2 + 1 + i) q3 f (nI i) (nI s.1) (nI m) (nI x) (sm_sF (sm_sF X (115 + i) s.2.1) 121 s.2.2)) (fun x s => s.1 = sp_t2 a t i x ∧ s.2.1 4 = nI (sp_tp a t co i x) ∧ (∀ j, j ≠ 4 → s.2.1 j = X.1 (115 + i) j) ∧ s.2.2 i = sp_og (sp_tg a t co i x) ∧ ∀ j, j ≠ i → s.2.2 j = X.1 121 j) (a 77) (fun r => ∃ X', r = some (nI (sp_t2 a t i (a 77)), X') ∧ X'.1 (115 + i) 4 = nI (sp_tp a t co i (a 77)) ∧ (∀ j, j ≠ 4 → X'.1 (115 + i) j = X.1 (115 + i) j) ∧ X'.1 121 i = sp_og (sp_tg a t co i (a 77)) ∧ (∀ j, j ≠ i → X'.1 121 j = X.1 121 j) ∧ (∀ p, p ≠ 115 + i → p ≠ 121 → X'.1 p = X.1 p) ∧ X'.2 = X.2) ?_ ?_ N 0 (0, upd (X.1 (115 + i)) 4 (nI 0), upd (X.1 121) i (-nI 1)) (by omega) (by omega) ⟨rfl, by show upd (X.1 (115 + i)) 4 (nI 0) 4 = nI 0; exact pk_us, fun j hj => pk_un hj, by show upd (X.1 121) i (-nI 1) i = -nI 1; exact pk_us, fun j hj => pk_un hj⟩
    · have es : sm_sI (sm_sI X (115 + i) 4 (nI 0)) 121 i (-nI 1) = sm_sF (sm_sF X (115 + i) (upd (X.1 (115 + i)) 4 (nI 0))) 121 (upd (X.1 121) i (-nI 1)) := by
        conv => lhs; rw [← sF_self (S := X) (p := 115 + i), sF_sI, ← sF_self (S := sm_sF X (115 + i) (upd (X.1 (115 + i)) 4 (nI 0))) (p := 121), sF_sI]
        rw [sF_n (Ne.symm n5)]
      rw [es]
      exact q
    · rintro f x ⟨s, g, h⟩ hx ⟨i1, i2, i3, i4, i5⟩
      simp only at i1 i2 i3 i4 i5
      subst i1
      left
      have hco := hs.2.2.2.2 x hx
      have h6 := sp_tk_6 hs hi (x := 4 + x) (by omega)
      have b1 := tpl x (by omega)
      have b2 := t2l x (by omega)
      have b3 : sp_tk a t i (4 + x) * co x ≤ 6 * 12 := Nat.mul_le_mul h6 hco
      have em := htk x hx
      have e5 := d5 x hx
      have e4 := d4 i (4 + x) hi (by omega)
      have g4 : upd g 4 (nI (sp_tp a t co i x + sp_tk a t i (4 + x) * co x)) 4 = nI (sp_tp a t co i (x + 1)) := pk_us
      have g5 : ∀ j, j ≠ 4 → upd g 4 (nI (sp_tp a t co i x + sp_tk a t i (4 + x) * co x)) j = X.1 (115 + i) j := fun j hj => by rw [pk_un hj]; exact i3 j hj
      have sw : ∀ (g' h' : Nat → Int32) (k : Nat) (v : Int32), sm_sI (sm_sF (sm_sF X (115 + i) g') 121 h') (115 + i) k v = sm_sF (sm_sF X (115 + i) (upd g' k v)) 121 h' := by
        intro g' h' k v
        unfold sm_sI sm_sF
        refine Prod.ext ?_ rfl
        funext p
        by_cases p1 : p = 121
        · subst p1
          simp [va_up, Ne.symm n5]
        · by_cases p2 : p = 115 + i
          · subst p2
            simp [va_up, n5]
          · simp [va_up, p1, p2]
      show ∃ s', _ ∧ px_Takings_ofThings_b39 N 1 (q2 + 1 + i) q3 (f + 1) _ _ _ _ _ = px_Takings_ofThings_b39 N 1 (q2 + 1 + i) q3 f _ _ _ _ _
      rw [px_Takings_ofThings_b39]
      unfold px_Takings_ofThings_b115
      by_cases hp : 0 < sp_tk a t i (4 + x)
      · have etg : sp_tg a t co i (x + 1) = (match sp_tg a t co i x with | none => some (co x) | some m => some (if m < co x then co x else m)) := by
          rw [sp_tg, if_pos hp]
          cases sp_tg a t co i x <;> rfl
        have put : ∀ v, sp_og (sp_tg a t co i (x + 1)) = v → ∀ h', h' = upd h i v → (h' i = sp_og (sp_tg a t co i (x + 1)) ∧ ∀ j, j ≠ i → h' j = X.1 121 j) := fun v hv h' eh => by
          subst eh
          refine ⟨by rw [pk_us, hv], fun j hj => by rw [pk_un hj]; exact i5 j hj⟩
        cases eo : sp_tg a t co i x with
        | none =>
          rw [eo] at i4 etg
          simp only [sp_og] at i4 etg
          refine ⟨(sp_t2 a t i (x + 1), upd g 4 (nI (sp_tp a t co i x + sp_tk a t i (4 + x) * co x)), upd h i (nI (co x))), ⟨rfl, g4, g5, (put _ (by rw [etg]; rfl) _ rfl).1, (put _ (by rw [etg]; rfl) _ rfl).2⟩, ?_⟩
          simp (disch := omega) only [sm_lt, sm_b1s, sm_b2s, ↓reduceIte, sm_in_nI, nI_clamp, nI_add, pk_mul, pk_sub, ne_addneg, nI_l, ne_ltT, ne_ltF, ne_leT, ne_leF, ne_eqT, ne_eqF, ne_sI1s, ne_sI1n, ne_sI2, ne_sI3, ne_sL1, ne_sL2s, ne_sL2n, ne_sL3, pk_us, pk_un, pk_uLs, pk_uLn, mm_Z, mm_L, mm_1, mm_2, mm_3, ne_rz0, ne_rz1, not_true_eq_false, not_false_eq_true, ne_i0, ne_i1, ne_i2, ne_i3, ne_i4, ne_i5, ne_i6, ne_i7, ne_i8, ne_i9, ne_i10, ne_i12, ne_i14, ne_i16, ne_i18, ne_i19, ne_i20, ne_i23, ne_i24, ne_i27, ne_i29, ne_i30, ne_i31, ne_i32, ne_i35, ne_i48, ne_i52, ne_i54, ne_i57, ne_i59, ne_i63, ne_i64, ne_i76, ne_i77, ne_i78, ne_i79, ne_i80, ne_i81, ne_i97, ne_i99, ne_i100, ne_i101, ne_i104, ne_i105, ne_i108, ne_i110, ne_i111, ne_i116, ne_i117, ne_i122, ne_i103, ne_i200, ne_i255, ne_i256, ne_i320, ne_i384, ne_i1000, ne_l0, ne_l1, ne_l2, ne_l3, ne_l4, ne_l5, ne_l8, ne_l12, ne_l31, ne_l48, ne_l57, ne_l97, ne_l99, ne_l122, ne_l255, ne_l673, ne_l1073741823, ne_l1073741824, sF_n, sF_s, d2, hzr, e4, em, hz3, e5, i2, i4, ne_lem, sw, sF_sI]
          rfl
        | some m0 =>
          have hm0 : m0 ≤ 12 := by
            rcases sp_tg_is (a := a) (t := t) (co := co) i x with ⟨g1, _⟩ | ⟨m', g1, ⟨y, y1, _, y3⟩, _⟩
            · rw [eo] at g1; cases g1
            · rw [eo] at g1; cases g1
              rw [← y3]
              exact hs.2.2.2.2 y (by omega)
          rw [eo] at i4 etg
          simp only [sp_og] at i4 etg
          by_cases hlt : m0 < co x
          · rw [if_pos hlt] at etg
            refine ⟨(sp_t2 a t i (x + 1), upd g 4 (nI (sp_tp a t co i x + sp_tk a t i (4 + x) * co x)), upd h i (nI (co x))), ⟨rfl, g4, g5, (put _ (by rw [etg]; rfl) _ rfl).1, (put _ (by rw [etg]; rfl) _ rfl).2⟩, ?_⟩
            simp (disch := omega) only [sm_lt, sm_b1s, sm_b2s, ↓reduceIte, sm_in_nI, nI_clamp, nI_add, pk_mul, pk_sub, ne_addneg, nI_l, ne_ltT, ne_ltF, ne_leT, ne_leF, ne_eqT, ne_eqF, ne_sI1s, ne_sI1n, ne_sI2, ne_sI3, ne_sL1, ne_sL2s, ne_sL2n, ne_sL3, pk_us, pk_un, pk_uLs, pk_uLn, mm_Z, mm_L, mm_1, mm_2, mm_3, ne_rz0, ne_rz1, not_true_eq_false, not_false_eq_true, ne_i0, ne_i1, ne_i2, ne_i3, ne_i4, ne_i5, ne_i6, ne_i7, ne_i8, ne_i9, ne_i10, ne_i12, ne_i14, ne_i16, ne_i18, ne_i19, ne_i20, ne_i23, ne_i24, ne_i27, ne_i29, ne_i30, ne_i31, ne_i32, ne_i35, ne_i48, ne_i52, ne_i54, ne_i57, ne_i59, ne_i63, ne_i64, ne_i76, ne_i77, ne_i78, ne_i79, ne_i80, ne_i81, ne_i97, ne_i99, ne_i100, ne_i101, ne_i104, ne_i105, ne_i108, ne_i110, ne_i111, ne_i116, ne_i117, ne_i122, ne_i103, ne_i200, ne_i255, ne_i256, ne_i320, ne_i384, ne_i1000, ne_l0, ne_l1, ne_l2, ne_l3, ne_l4, ne_l5, ne_l8, ne_l12, ne_l31, ne_l48, ne_l57, ne_l97, ne_l99, ne_l122, ne_l255, ne_l673, ne_l1073741823, ne_l1073741824, sF_n, sF_s, d2, hzr, e4, em, hz3, e5, i2, i4, sw, sF_sI]
            rfl
          · rw [if_neg hlt] at etg
            refine ⟨(sp_t2 a t i (x + 1), upd g 4 (nI (sp_tp a t co i x + sp_tk a t i (4 + x) * co x)), h), ⟨rfl, g4, g5, by rw [etg]; exact i4, i5⟩, ?_⟩
            simp (disch := omega) only [sm_lt, sm_b1s, sm_b2s, ↓reduceIte, sm_in_nI, nI_clamp, nI_add, pk_mul, pk_sub, ne_addneg, nI_l, ne_ltT, ne_ltF, ne_leT, ne_leF, ne_eqT, ne_eqF, ne_sI1s, ne_sI1n, ne_sI2, ne_sI3, ne_sL1, ne_sL2s, ne_sL2n, ne_sL3, pk_us, pk_un, pk_uLs, pk_uLn, mm_Z, mm_L, mm_1, mm_2, mm_3, ne_rz0, ne_rz1, not_true_eq_false, not_false_eq_true, ne_i0, ne_i1, ne_i2, ne_i3, ne_i4, ne_i5, ne_i6, ne_i7, ne_i8, ne_i9, ne_i10, ne_i12, ne_i14, ne_i16, ne_i18, ne_i19, ne_i20, ne_i23, ne_i24, ne_i27, ne_i29, ne_i30, ne_i31, ne_i32, ne_i35, ne_i48, ne_i52, ne_i54, ne_i57, ne_i59, ne_i63, ne_i64, ne_i76, ne_i77, ne_i78, ne_i79, ne_i80, ne_i81, ne_i97, ne_i99, ne_i100, ne_i101, ne_i104, ne_i105, ne_i108, ne_i110, ne_i111, ne_i116, ne_i117, ne_i122, ne_i103, ne_i200, ne_i255, ne_i256, ne_i320, ne_i384, ne_i1000, ne_l0, ne_l1, ne_l2, ne_l3, ne_l4, ne_l5, ne_l8, ne_l12, ne_l31, ne_l48, ne_l57, ne_l97, ne_l99, ne_l122, ne_l255, ne_l673, ne_l1073741823, ne_l1073741824, sF_n, sF_s, d2, hzr, e4, em, hz3, e5, i2, i4, sw, sF_sI]
            rfl
      · have etg : sp_tg a t co i (x + 1) = sp_tg a t co i x := by rw [sp_tg, if_neg hp]
        refine ⟨(sp_t2 a t i (x + 1), upd g 4 (nI (sp_tp a t co i x + sp_tk a t i (4 + x) * co x)), h), ⟨rfl, g4, g5, by rw [etg]; exact i4, i5⟩, ?_⟩
        simp (disch := omega) only [sm_lt, sm_b1s, sm_b2s, ↓reduceIte, sm_in_nI, nI_clamp, nI_add, pk_mul, pk_sub, ne_addneg, nI_l, ne_ltT, ne_ltF, ne_leT, ne_leF, ne_eqT, ne_eqF, ne_sI1s, ne_sI1n, ne_sI2, ne_sI3, ne_sL1, ne_sL2s, ne_sL2n, ne_sL3, pk_us, pk_un, pk_uLs, pk_uLn, mm_Z, mm_L, mm_1, mm_2, mm_3, ne_rz0, ne_rz1, not_true_eq_false, not_false_eq_true, ne_i0, ne_i1, ne_i2, ne_i3, ne_i4, ne_i5, ne_i6, ne_i7, ne_i8, ne_i9, ne_i10, ne_i12, ne_i14, ne_i16, ne_i18, ne_i19, ne_i20, ne_i23, ne_i24, ne_i27, ne_i29, ne_i30, ne_i31, ne_i32, ne_i35, ne_i48, ne_i52, ne_i54, ne_i57, ne_i59, ne_i63, ne_i64, ne_i76, ne_i77, ne_i78, ne_i79, ne_i80, ne_i81, ne_i97, ne_i99, ne_i100, ne_i101, ne_i104, ne_i105, ne_i108, ne_i110, ne_i111, ne_i116, ne_i117, ne_i122, ne_i103, ne_i200, ne_i255, ne_i256, ne_i320, ne_i384, ne_i1000, ne_l0, ne_l1, ne_l2, ne_l3, ne_l4, ne_l5, ne_l8, ne_l12, ne_l31, ne_l48, ne_l57, ne_l97, ne_l99, ne_l122, ne_l255, ne_l673, ne_l1073741823, ne_l1073741824, sF_n, sF_s, d2, hzr, e4, em, hz3, e5, i2, sw]
        rfl
    · rintro f ⟨s, g, h⟩ ⟨i1, i2, i3, i4, i5⟩
      simp only at i1 i2 i3 i4 i5
      subst i1
      show ∃ X', px_Takings_ofThings_b39 N 1 (q2 + 1 + i) q3 (f + 1) _ _ _ _ _ = _ ∧ _
      rw [px_Takings_ofThings_b39]
      simp (disch := omega) only [sm_lt, sm_b1s, sm_b2s, ↓reduceIte, sm_in_nI, nI_clamp, nI_add, pk_mul, pk_sub, ne_addneg, nI_l, ne_ltT, ne_ltF, ne_leT, ne_leF, ne_eqT, ne_eqF, ne_sI1s, ne_sI1n, ne_sI2, ne_sI3, ne_sL1, ne_sL2s, ne_sL2n, ne_sL3, pk_us, pk_un, pk_uLs, pk_uLn, mm_Z, mm_L, mm_1, mm_2, mm_3, ne_rz0, ne_rz1, not_true_eq_false, not_false_eq_true, ne_i0, ne_i1, ne_i2, ne_i3, ne_i4, ne_i5, ne_i6, ne_i7, ne_i8, ne_i9, ne_i10, ne_i12, ne_i14, ne_i16, ne_i18, ne_i19, ne_i20, ne_i23, ne_i24, ne_i27, ne_i29, ne_i30, ne_i31, ne_i32, ne_i35, ne_i48, ne_i52, ne_i54, ne_i57, ne_i59, ne_i63, ne_i64, ne_i76, ne_i77, ne_i78, ne_i79, ne_i80, ne_i81, ne_i97, ne_i99, ne_i100, ne_i101, ne_i104, ne_i105, ne_i108, ne_i110, ne_i111, ne_i116, ne_i117, ne_i122, ne_i103, ne_i200, ne_i255, ne_i256, ne_i320, ne_i384, ne_i1000, ne_l0, ne_l1, ne_l2, ne_l3, ne_l4, ne_l5, ne_l8, ne_l12, ne_l31, ne_l48, ne_l57, ne_l97, ne_l99, ne_l122, ne_l255, ne_l673, ne_l1073741823, ne_l1073741824, sF_n, d2]
      refine ⟨_, rfl, ?_, fun j hj => ?_, ?_, fun j hj => ?_, fun p hp hp2 => by rw [sF_n hp2, sF_n hp], rfl⟩
      · rw [sF_n n5, sF_s]; exact i2
      · rw [sF_n n5, sF_s]; exact i3 j hj
      · rw [sF_s]; exact i4
      · rw [sF_s]; exact i5 j hj
  unfold px_Takings_ofThings
  by_cases hk : a (4 * i) = 3
  · simp (disch := omega) only [sm_lt, sm_b1s, sm_b2s, ↓reduceIte, sm_in_nI, nI_clamp, nI_add, pk_mul, pk_sub, ne_addneg, nI_l, ne_ltT, ne_ltF, ne_leT, ne_leF, ne_eqT, ne_eqF, ne_sI1s, ne_sI1n, ne_sI2, ne_sI3, ne_sL1, ne_sL2s, ne_sL2n, ne_sL3, pk_us, pk_un, pk_uLs, pk_uLn, mm_Z, mm_L, mm_1, mm_2, mm_3, ne_rz0, ne_rz1, not_true_eq_false, not_false_eq_true, ne_i0, ne_i1, ne_i2, ne_i3, ne_i4, ne_i5, ne_i6, ne_i7, ne_i8, ne_i9, ne_i10, ne_i12, ne_i14, ne_i16, ne_i18, ne_i19, ne_i20, ne_i23, ne_i24, ne_i27, ne_i29, ne_i30, ne_i31, ne_i32, ne_i35, ne_i48, ne_i52, ne_i54, ne_i57, ne_i59, ne_i63, ne_i64, ne_i76, ne_i77, ne_i78, ne_i79, ne_i80, ne_i81, ne_i97, ne_i99, ne_i100, ne_i101, ne_i104, ne_i105, ne_i108, ne_i110, ne_i111, ne_i116, ne_i117, ne_i122, ne_i103, ne_i200, ne_i255, ne_i256, ne_i320, ne_i384, ne_i1000, ne_l0, ne_l1, ne_l2, ne_l3, ne_l4, ne_l5, ne_l8, ne_l12, ne_l31, ne_l48, ne_l57, ne_l97, ne_l99, ne_l122, ne_l255, ne_l673, ne_l1073741823, ne_l1073741824, e1]
    exact core 2 (by rw [if_pos hk])
  · simp (disch := omega) only [sm_lt, sm_b1s, sm_b2s, ↓reduceIte, sm_in_nI, nI_clamp, nI_add, pk_mul, pk_sub, ne_addneg, nI_l, ne_ltT, ne_ltF, ne_leT, ne_leF, ne_eqT, ne_eqF, ne_sI1s, ne_sI1n, ne_sI2, ne_sI3, ne_sL1, ne_sL2s, ne_sL2n, ne_sL3, pk_us, pk_un, pk_uLs, pk_uLn, mm_Z, mm_L, mm_1, mm_2, mm_3, ne_rz0, ne_rz1, not_true_eq_false, not_false_eq_true, ne_i0, ne_i1, ne_i2, ne_i3, ne_i4, ne_i5, ne_i6, ne_i7, ne_i8, ne_i9, ne_i10, ne_i12, ne_i14, ne_i16, ne_i18, ne_i19, ne_i20, ne_i23, ne_i24, ne_i27, ne_i29, ne_i30, ne_i31, ne_i32, ne_i35, ne_i48, ne_i52, ne_i54, ne_i57, ne_i59, ne_i63, ne_i64, ne_i76, ne_i77, ne_i78, ne_i79, ne_i80, ne_i81, ne_i97, ne_i99, ne_i100, ne_i101, ne_i104, ne_i105, ne_i108, ne_i110, ne_i111, ne_i116, ne_i117, ne_i122, ne_i103, ne_i200, ne_i255, ne_i256, ne_i320, ne_i384, ne_i1000, ne_l0, ne_l1, ne_l2, ne_l3, ne_l4, ne_l5, ne_l8, ne_l12, ne_l31, ne_l48, ne_l57, ne_l97, ne_l99, ne_l122, ne_l255, ne_l673, ne_l1073741823, ne_l1073741824, e1]
    exact core 1 (by rw [if_neg hk])
end
