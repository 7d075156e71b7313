section
variable {N : Nat} {X : sm_St} {a t co w : Nat → Nat} {q2 q3 : Nat}
/-- who takes how much, of the first n -/
def xtn (X : sm_St) (a t co : Nat → Nat) (n : Nat) : Prop := X.1 110 5 = nI (a 76) ∧ X.1 110 6 = nI (sp_by a t n) ∧ ∀ i, i < n → xtr X a t co i
theorem xtr_fr {X' : sm_St} {i : Nat} (h : xtr X a t co i) (h0 : X'.1 120 i = X.1 120 i) (h1 : X'.1 119 i = X.1 119 i) (h2 : X'.1 (115 + i) = X.1 (115 + i)) (h3 : X'.1 121 i = X.1 121 i) : xtr X' a t co i := by
  unfold xtr
  rw [h0, h1, h2, h3]
  exact h
theorem xq_reckon1 {i f : Nat} (hN : 4000 ≤ N) (hs : sc a t co) (hq : xdq q2 q3) (h : xhd X a t co q2 q3) (ht : xtn X a t co i) (hi : i < a 76) : ∃ X', px_Takings_reckon_b16 N 1 q2 q3 (f + 1) (nI i) X = px_Takings_reckon_b16 N 1 q2 q3 f (nI (i + 1)) X' ∧ xtn X' a t co (i + 1) ∧ (∀ p, p < 110 ∨ 122 ≤ p → X'.1 p = X.1 p) ∧ X'.2 = X.2 := by
  have k4 := hs.1
  have hk := (hs.2.2.1 i hi).1
  obtain ⟨h1, h2, h3⟩ := ht
  have hkd := (h.2.2.1 i hi).1
  have hz2 := xdq_2 hq
  have tl := sp_ts_le hs hi
  have b0 := sp_by_le hs i (by omega)
  have b1 := sp_by_4 hs (n := i) (by omega)
  have b2 := sp_by_4 hs (n := i + 1) (by omega)
  have kal := sp_all_le hs hi
  have ga := Nat.gcd_pos_of_pos_left (sp_all a t i) b0.1
  have gl := Nat.gcd_le_left (sp_all a t i) b0.1
  have esum : sp_ts a t i 4 + sp_t2 a t i (a 77) = sp_ts a t i 8 := by rw [sp_ts_4, sp_t24 hs hi]
  -- behind the mark of a vain one
  have core : ∀ m, m = (if a (4 * i) = 4 then 1 else 0) → ∃ X', px_Takings_reckon_b47 N 1 q2 q3 (px_Takings_reckon_b16 N 1 q2 q3 f) (nI i) (nI i) (nI m) X = px_Takings_reckon_b16 N 1 q2 q3 f (nI (i + 1)) X' ∧ xtn X' a t co (i + 1) ∧ (∀ p, p < 110 ∨ 122 ≤ p → X'.1 p = X.1 p) ∧ X'.2 = X.2 := by
    intro m hm
    have en : vp_nar .boolean (nI m) = nI m := by
      rw [hm]
      split
      · exact ne_nb1
      · exact ne_nb0
    have hm1 : m ≤ 1 := by rw [hm]; split <;> omega
    have f1 : ∀ p, p ≠ 120 → (sm_sI X 120 i (nI m)).1 p = X.1 p := fun p hp => ne_sI1n hp
    obtain ⟨X2, e2, c1, c2, c3⟩ := xq_ofCloths (X := sm_sI X 120 i (nI m)) (N := N) hN hs hq (xhd_fr k4 hq h (fun p hp => f1 p (by omega))) hi (by rw [f1 _ (by decide)]; exact h1)
    obtain ⟨X3, e3, t1, t2, t3, t5, t6, t7⟩ := xq_ofThings (X := X2) (N := N) hN hs hq (xhd_fr k4 hq h (fun p hp => by rw [c2 p (by omega)]; exact f1 p (by omega))) hi
    have g120 : X3.1 120 i = nI m := by rw [t6 120 (by omega) (by omega), c2 120 (by omega), ne_sI1s, pk_us]
    have g110 : X3.1 110 = X.1 110 := by rw [t6 110 (by omega) (by omega), c2 110 (by omega), f1 110 (by omega)]
    have fr3 : ∀ p, p ≠ 115 + i → p ≠ 120 → p ≠ 121 → X3.1 p = X.1 p := fun p p1 p2 p3 => by rw [t6 p p1 p3, c2 p p1, f1 p p2]
    -- the row of i, whatever the sum that is written
    have rows : ∀ X', (∀ p, p ≠ 110 → p ≠ 119 → X'.1 p = X3.1 p) → (∀ j, j ≠ i → X'.1 119 j = X3.1 119 j) → X'.1 119 i = nI (if a (4 * i) = 4 then 0 else sp_ts a t i 8) → ∀ i', i' < i + 1 → xtr X' a t co i' := by
      intro X' w1 w2 w3 i' hi'
      by_cases e : i' = i
      · subst e
        refine ⟨by rw [w1 120 (by omega) (by omega), g120, hm], w3, fun j hj => ?_, by rw [w1 _ (by omega) (by omega)]; exact t1, by rw [w1 121 (by omega) (by omega)]; exact t3⟩
        rw [w1 _ (by omega) (by omega), t2 j (by omega)]
        exact c1 j hj
      · refine xtr_fr (h3 i' (by omega)) ?_ ?_ ?_ ?_
        · rw [w1 120 (by omega) (by omega), t6 120 (by omega) (by omega), c2 120 (by omega), ne_sI1s, pk_un e]
        · rw [w2 i' e, fr3 119 (by omega) (by omega) (by omega)]
        · rw [w1 _ (by omega) (by omega), fr3 _ (by omega) (by omega) (by omega)]
        · rw [w1 121 (by omega) (by omega), t5 i' e, c2 121 (by omega), f1 121 (by omega)]
    have last : ∀ s2, s2 = (if a (4 * i) = 4 then 0 else sp_ts a t i 8) → ∃ X', px_Takings_reckon_b96 N 1 q2 q3 (px_Takings_reckon_b16 N 1 q2 q3 f) (nI i) (nI i) (nI s2) X3 = px_Takings_reckon_b16 N 1 q2 q3 f (nI (i + 1)) X' ∧ xtn X' a t co (i + 1) ∧ (∀ p, p < 110 ∨ 122 ≤ p → X'.1 p = X.1 p) ∧ X'.2 = X.2 := by
      intro s2 hs2
      have hs2l : s2 ≤ 37 := by rw [hs2]; split <;> omega
      have s110 : (sm_sI X3 119 i (nI s2)).1 110 6 = nI (sp_by a t i) := by rw [ne_sI1n (by decide), g110]; exact h2
      have eg := xq_gcd (N := N) (X := sm_sI X3 119 i (nI s2)) (x := sp_by a t i) (y := s2) hN (by omega) (by omega)
      unfold px_Takings_reckon_b96 px_Takings_reckon_b147
      by_cases hz : s2 = 0
      · refine ⟨sm_sI X3 119 i (nI s2), ?_, ⟨?_, ?_, rows _ (fun p _ p2 => ne_sI1n p2) (fun j hj => by rw [ne_sI1s, pk_un hj]) (by rw [ne_sI1s, pk_us, hs2])⟩, fun p hp => ?_, ?_⟩
        · simp (disch := omega) only [sm_lt, sm_b1s, sm_b2s, ↓reduceIte, sm_in_nI, nI_clamp, nI_add, pk_mul, pk_sub, ne_addneg, nI_l, ne_ltT, ne_ltF, ne_leT, ne_leF, ne_eqT, ne_eqF, ne_sI1s, ne_sI1n, ne_sI2, ne_sI3, ne_sL1, ne_sL2s, ne_sL2n, ne_sL3, pk_us, pk_un, pk_uLs, pk_uLn, mm_Z, mm_L, mm_1, mm_2, mm_3, ne_rz0, ne_rz1, not_true_eq_false, not_false_eq_true, ne_i0, ne_i1, ne_i2, ne_i3, ne_i4, ne_i5, ne_i6, ne_i7, ne_i8, ne_i9, ne_i10, ne_i12, ne_i14, ne_i16, ne_i18, ne_i19, ne_i20, ne_i23, ne_i24, ne_i27, ne_i29, ne_i30, ne_i31, ne_i32, ne_i35, ne_i48, ne_i52, ne_i54, ne_i57, ne_i59, ne_i63, ne_i64, ne_i76, ne_i77, ne_i78, ne_i79, ne_i80, ne_i81, ne_i97, ne_i99, ne_i100, ne_i101, ne_i104, ne_i105, ne_i108, ne_i110, ne_i111, ne_i116, ne_i117, ne_i122, ne_i103, ne_i200, ne_i255, ne_i256, ne_i320, ne_i384, ne_i1000, ne_l0, ne_l1, ne_l2, ne_l3, ne_l4, ne_l5, ne_l8, ne_l12, ne_l31, ne_l48, ne_l57, ne_l97, ne_l99, ne_l122, ne_l255, ne_l673, ne_l1073741823, ne_l1073741824, s110, eg]
        · rw [ne_sI1n (by decide), g110]; exact h1
        · rw [s110]
          have : sp_all a t i = 1 := by
            unfold sp_all
            by_cases h4 : a (4 * i) = 4
            · rw [if_neg (by omega)]
            · rw [if_neg h4] at hs2
              rw [if_neg (by omega)]
          rw [sp_by, this, Nat.gcd_one_right, Nat.div_one, Nat.mul_one]
        · rw [ne_sI1n (by omega)]; exact fr3 p (by omega) (by omega) (by omega)
        · show X3.2 = X.2
          rw [t7, c3]
          rfl
      · have h4 : ¬ a (4 * i) = 4 := fun e => by rw [if_pos e] at hs2; exact hz hs2
        rw [if_neg h4] at hs2
        have eall : sp_all a t i = s2 := by unfold sp_all; rw [if_pos ⟨h4, by omega⟩, hs2]
        rw [eall] at ga gl
        have eby : sp_by a t (i + 1) = sp_by a t i / Nat.gcd (sp_by a t i) s2 * s2 := by rw [sp_by, eall]
        refine ⟨sm_sI (sm_sI X3 119 i (nI s2)) 110 6 (nI (sp_by a t (i + 1))), ?_, ⟨?_, ?_, rows _ (fun p p1 p2 => by rw [ne_sI1n p1, ne_sI1n p2]) (fun j hj => by rw [ne_sI1n (by decide), ne_sI1s, pk_un hj]) (by rw [ne_sI1n (by decide), ne_sI1s, pk_us, if_neg h4, hs2])⟩, fun p hp => ?_, ?_⟩
        · simp (disch := omega) only [sm_lt, sm_b1s, sm_b2s, ↓reduceIte, sm_in_nI, nI_clamp, nI_add, pk_mul, pk_sub, ne_addneg, nI_l, ne_ltT, ne_ltF, ne_leT, ne_leF, ne_eqT, ne_eqF, ne_sI1s, ne_sI1n, ne_sI2, ne_sI3, ne_sL1, ne_sL2s, ne_sL2n, ne_sL3, pk_us, pk_un, pk_uLs, pk_uLn, mm_Z, mm_L, mm_1, mm_2, mm_3, ne_rz0, ne_rz1, not_true_eq_false, not_false_eq_true, ne_i0, ne_i1, ne_i2, ne_i3, ne_i4, ne_i5, ne_i6, ne_i7, ne_i8, ne_i9, ne_i10, ne_i12, ne_i14, ne_i16, ne_i18, ne_i19, ne_i20, ne_i23, ne_i24, ne_i27, ne_i29, ne_i30, ne_i31, ne_i32, ne_i35, ne_i48, ne_i52, ne_i54, ne_i57, ne_i59, ne_i63, ne_i64, ne_i76, ne_i77, ne_i78, ne_i79, ne_i80, ne_i81, ne_i97, ne_i99, ne_i100, ne_i101, ne_i104, ne_i105, ne_i108, ne_i110, ne_i111, ne_i116, ne_i117, ne_i122, ne_i103, ne_i200, ne_i255, ne_i256, ne_i320, ne_i384, ne_i1000, ne_l0, ne_l1, ne_l2, ne_l3, ne_l4, ne_l5, ne_l8, ne_l12, ne_l31, ne_l48, ne_l57, ne_l97, ne_l99, ne_l122, ne_l255, ne_l673, ne_l1073741823, ne_l1073741824, s110, eg, pk_div, eby]
        · rw [ne_sI1s, pk_un (by decide), ne_sI1n (by decide), g110]; exact h1
        · rw [ne_sI1s, pk_us]
        · rw [ne_sI1n (by omega), ne_sI1n (by omega)]; exact fr3 p (by omega) (by omega) (by omega)
        · show X3.2 = X.2
          rw [t7, c3]
          rfl
    unfold px_Takings_reckon_b47
    by_cases h4 : a (4 * i) = 4
    · rw [if_pos h4] at hm
      subst hm
      simp (disch := omega) only [sm_lt, sm_b1s, sm_b2s, ↓reduceIte, sm_in_nI, nI_clamp, nI_add, pk_mul, pk_sub, ne_addneg, nI_l, ne_ltT, ne_ltF, ne_leT, ne_leF, ne_eqT, ne_eqF, ne_sI1s, ne_sI1n, ne_sI2, ne_sI3, ne_sL1, ne_sL2s, ne_sL2n, ne_sL3, pk_us, pk_un, pk_uLs, pk_uLn, mm_Z, mm_L, mm_1, mm_2, mm_3, ne_rz0, ne_rz1, not_true_eq_false, not_false_eq_true, ne_i0, ne_i1, ne_i2, ne_i3, ne_i4, ne_i5, ne_i6, ne_i7, ne_i8, ne_i9, ne_i10, ne_i12, ne_i14, ne_i16, ne_i18, ne_i19, ne_i20, ne_i23, ne_i24, ne_i27, ne_i29, ne_i30, ne_i31, ne_i32, ne_i35, ne_i48, ne_i52, ne_i54, ne_i57, ne_i59, ne_i63, ne_i64, ne_i76, ne_i77, ne_i78, ne_i79, ne_i80, ne_i81, ne_i97, ne_i99, ne_i100, ne_i101, ne_i104, ne_i105, ne_i108, ne_i110, ne_i111, ne_i116, ne_i117, ne_i122, ne_i103, ne_i200, ne_i255, ne_i256, ne_i320, ne_i384, ne_i1000, ne_l0, ne_l1, ne_l2, ne_l3, ne_l4, ne_l5, ne_l8, ne_l12, ne_l31, ne_l48, ne_l57, ne_l97, ne_l99, ne_l122, ne_l255, ne_l673, ne_l1073741823, ne_l1073741824, ne_nb1, hz2, e2, e3, g120, esum]
      exact last 0 (by rw [if_pos h4])
    · rw [if_neg h4] at hm
      subst hm
      simp (disch := omega) only [sm_lt, sm_b1s, sm_b2s, ↓reduceIte, sm_in_nI, nI_clamp, nI_add, pk_mul, pk_sub, ne_addneg, nI_l, ne_ltT, ne_ltF, ne_leT, ne_leF, ne_eqT, ne_eqF, ne_sI1s, ne_sI1n, ne_sI2, ne_sI3, ne_sL1, ne_sL2s, ne_sL2n, ne_sL3, pk_us, pk_un, pk_uLs, pk_uLn, mm_Z, mm_L, mm_1, mm_2, mm_3, ne_rz0, ne_rz1, not_true_eq_false, not_false_eq_true, ne_i0, ne_i1, ne_i2, ne_i3, ne_i4, ne_i5, ne_i6, ne_i7, ne_i8, ne_i9, ne_i10, ne_i12, ne_i14, ne_i16, ne_i18, ne_i19, ne_i20, ne_i23, ne_i24, ne_i27, ne_i29, ne_i30, ne_i31, ne_i32, ne_i35, ne_i48, ne_i52, ne_i54, ne_i57, ne_i59, ne_i63, ne_i64, ne_i76, ne_i77, ne_i78, ne_i79, ne_i80, ne_i81, ne_i97, ne_i99, ne_i100, ne_i101, ne_i104, ne_i105, ne_i108, ne_i110, ne_i111, ne_i116, ne_i117, ne_i122, ne_i103, ne_i200, ne_i255, ne_i256, ne_i320, ne_i384, ne_i1000, ne_l0, ne_l1, ne_l2, ne_l3, ne_l4, ne_l5, ne_l8, ne_l12, ne_l31, ne_l48, ne_l57, ne_l97, ne_l99, ne_l122, ne_l255, ne_l673, ne_l1073741823, ne_l1073741824, ne_nb0, hz2, e2, e3, g120, esum]
      exact last _ (by rw [if_neg h4])
  rw [px_Takings_reckon_b16]
  by_cases h4 : a (4 * i) = 4
  · simp (disch := omega) only [sm_lt, sm_b1s, sm_b2s, ↓reduceIte, sm_in_nI, nI_clamp, nI_add, pk_mul, pk_sub, ne_addneg, nI_l, ne_ltT, ne_ltF, ne_leT, ne_leF, ne_eqT, ne_eqF, ne_sI1s, ne_sI1n, ne_sI2, ne_sI3, ne_sL1, ne_sL2s, ne_sL2n, ne_sL3, pk_us, pk_un, pk_uLs, pk_uLn, mm_Z, mm_L, mm_1, mm_2, mm_3, ne_rz0, ne_rz1, not_true_eq_false, not_false_eq_true, ne_i0, ne_i1, ne_i2, ne_i3, ne_i4, ne_i5, ne_i6, ne_i7, ne_i8, ne_i9, ne_i10, ne_i12, ne_i14, ne_i16, ne_i18, ne_i19, ne_i20, ne_i23, ne_i24, ne_i27, ne_i29, ne_i30, ne_i31, ne_i32, ne_i35, ne_i48, ne_i52, ne_i54, ne_i57, ne_i59, ne_i63, ne_i64, ne_i76, ne_i77, ne_i78, ne_i79, ne_i80, ne_i81, ne_i97, ne_i99, ne_i100, ne_i101, ne_i104, ne_i105, ne_i108, ne_i110, ne_i111, ne_i116, ne_i117, ne_i122, ne_i103, ne_i200, ne_i255, ne_i256, ne_i320, ne_i384, ne_i1000, ne_l0, ne_l1, ne_l2, ne_l3, ne_l4, ne_l5, ne_l8, ne_l12, ne_l31, ne_l48, ne_l57, ne_l97, ne_l99, ne_l122, ne_l255, ne_l673, ne_l1073741823, ne_l1073741824, h1, hkd]
    exact core 1 (by rw [if_pos h4])
  · simp (disch := omega) only [sm_lt, sm_b1s, sm_b2s, ↓reduceIte, sm_in_nI, nI_clamp, nI_add, pk_mul, pk_sub, ne_addneg, nI_l, ne_ltT, ne_ltF, ne_leT, ne_leF, ne_eqT, ne_eqF, ne_sI1s, ne_sI1n, ne_sI2, ne_sI3, ne_sL1, ne_sL2s, ne_sL2n, ne_sL3, pk_us, pk_un, pk_uLs, pk_uLn, mm_Z, mm_L, mm_1, mm_2, mm_3, ne_rz0, ne_rz1, not_true_eq_false, not_false_eq_true, ne_i0, ne_i1, ne_i2, ne_i3, ne_i4, ne_i5, ne_i6, ne_i7, ne_i8, ne_i9, ne_i10, ne_i12, ne_i14, ne_i16, ne_i18, ne_i19, ne_i20, ne_i23, ne_i24, ne_i27, ne_i29, ne_i30, ne_i31, ne_i32, ne_i35, ne_i48, ne_i52, ne_i54, ne_i57, ne_i59, ne_i63, ne_i64, ne_i76, ne_i77, ne_i78, ne_i79, ne_i80, ne_i81, ne_i97, ne_i99, ne_i100, ne_i101, ne_i104, ne_i105, ne_i108, ne_i110, ne_i111, ne_i116, ne_i117, ne_i122, ne_i103, ne_i200, ne_i255, ne_i256, ne_i320, ne_i384, ne_i1000, ne_l0, ne_l1, ne_l2, ne_l3, ne_l4, ne_l5, ne_l8, ne_l12, ne_l31, ne_l48, ne_l57, ne_l97, ne_l99, ne_l122, ne_l255, ne_l673, ne_l1073741823, ne_l1073741824, h1, hkd]
    exact core 0 (by rw [if_neg h4])
theorem xq_reckon (hN : 4000 ≤ N) (hs : sc a t co) (hq : xdq q2 q3) (h : xhd X a t co q2 q3) : ∃ X', px_Takings_reckon N X 1 q2 q3 = some X' ∧ xt X' a t co ∧ (∀ p, p < 110 ∨ 122 ≤ p → X'.1 p = X.1 p) ∧ X'.2 = X.2 := by
  have k4 := hs.1
  unfold px_Takings_reckon
  simp (disch := omega) only [sm_lt, sm_b1s, sm_b2s, ↓reduceIte, sm_in_nI, nI_clamp, nI_add, pk_mul, pk_sub, ne_addneg, nI_l, ne_ltT, ne_ltF, ne_leT, ne_leF, ne_eqT, ne_eqF, ne_sI1s, ne_sI1n, ne_sI2, ne_sI3, ne_sL1, ne_sL2s, ne_sL2n, ne_sL3, pk_us, pk_un, pk_uLs, pk_uLn, mm_Z, mm_L, mm_1, mm_2, mm_3, ne_rz0, ne_rz1, not_true_eq_false, not_false_eq_true, ne_i0, ne_i1, ne_i2, ne_i3, ne_i4, ne_i5, ne_i6, ne_i7, ne_i8, ne_i9, ne_i10, ne_i12, ne_i14, ne_i16, ne_i18, ne_i19, ne_i20, ne_i23, ne_i24, ne_i27, ne_i29, ne_i30, ne_i31, ne_i32, ne_i35, ne_i48, ne_i52, ne_i54, ne_i57, ne_i59, ne_i63, ne_i64, ne_i76, ne_i77, ne_i78, ne_i79, ne_i80, ne_i81, ne_i97, ne_i99, ne_i100, ne_i101, ne_i104, ne_i105, ne_i108, ne_i110, ne_i111, ne_i116, ne_i117, ne_i122, ne_i103, ne_i200, ne_i255, ne_i256, ne_i320, ne_i384, ne_i1000, ne_l0, ne_l1, ne_l2, ne_l3, ne_l4, ne_l5, ne_l8, ne_l12, ne_l31, ne_l48, ne_l57, ne_l97, ne_l99, ne_l122, ne_l255, ne_l673, ne_l1073741823, ne_l1073741824, h.1]
  refine ne_loop (fun f i (s : sm_St) => px_Takings_reckon_b16 N 1 q2 q3 f (nI i) s) (fun i s => xtn s a t co i ∧ (∀ p, p < 110 ∨ 122 ≤ p → s.1 p = X.1 p) ∧ s.2 = X.2) (a 76) (fun r => ∃ X', r = some X' ∧ xt X' a t co ∧ (∀ p, p < 110 ∨ 122 ≤ p → X'.1 p = X.1 p) ∧ X'.2 = X.2) ?_ ?_ N 0 _ (by omega) (by omega) ⟨⟨by rw [ne_sI1s, pk_un (by decide), ne_sI1s, pk_us], by rw [ne_sI1s, pk_us]; rfl, fun i hi => by omega⟩, fun p hp => by rw [ne_sI1n (by omega), ne_sI1n (by omega)], rfl⟩
  · rintro f i s hi ⟨i1, i2, i3⟩
    left
    obtain ⟨X', e, j1, j2, j3⟩ := xq_reckon1 (X := s) (N := N) (f := f) hN hs hq (xhd_fr k4 hq h (fun p hp => i2 p (by omega))) i1 hi
    exact ⟨X', ⟨j1, fun p hp => by rw [j2 p hp]; exact i2 p hp, by rw [j3]; exact i3⟩, e⟩
  · rintro f s ⟨i1, i2, i3⟩
    show ∃ X', px_Takings_reckon_b16 N 1 q2 q3 (f + 1) _ _ = _ ∧ _
    rw [px_Takings_reckon_b16]
    simp (disch := omega) only [sm_lt, sm_b1s, sm_b2s, ↓reduceIte, sm_in_nI, nI_clamp, nI_add, pk_mul, pk_sub, ne_addneg, nI_l, ne_ltT, ne_ltF, ne_leT, ne_leF, ne_eqT, ne_eqF, ne_sI1s, ne_sI1n, ne_sI2, ne_sI3, ne_sL1, ne_sL2s, ne_sL2n, ne_sL3, pk_us, pk_un, pk_uLs, pk_uLn, mm_Z, mm_L, mm_1, mm_2, mm_3, ne_rz0, ne_rz1, not_true_eq_false, not_false_eq_true, ne_i0, ne_i1, ne_i2, ne_i3, ne_i4, ne_i5, ne_i6, ne_i7, ne_i8, ne_i9, ne_i10, ne_i12, ne_i14, ne_i16, ne_i18, ne_i19, ne_i20, ne_i23, ne_i24, ne_i27, ne_i29, ne_i30, ne_i31, ne_i32, ne_i35, ne_i48, ne_i52, ne_i54, ne_i57, ne_i59, ne_i63, ne_i64, ne_i76, ne_i77, ne_i78, ne_i79, ne_i80, ne_i81, ne_i97, ne_i99, ne_i100, ne_i101, ne_i104, ne_i105, ne_i108, ne_i110, ne_i111, ne_i116, ne_i117, ne_i122, ne_i103, ne_i200, ne_i255, ne_i256, ne_i320, ne_i384, ne_i1000, ne_l0, ne_l1, ne_l2, ne_l3, ne_l4, ne_l5, ne_l8, ne_l12, ne_l31, ne_l48, ne_l57, ne_l97, ne_l99, ne_l122, ne_l255, ne_l673, ne_l1073741823, ne_l1073741824, i1.1]
    exact ⟨s, rfl, i1, i2, i3⟩
end
