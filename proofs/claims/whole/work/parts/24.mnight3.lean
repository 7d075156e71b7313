section
variable {N : Nat} {M S : sm_St} {v a t co : Nat → Nat}
theorem np_mT {c : Nat} (hN : 4000 ≤ N) (hw : nw a S) (ht : nt t co S) (hs : sc a t co) (hc : c < a 76) (h : a (4 * c) ≠ 4 ∧ 0 < sp_ts a t c 8) : pm_isMean N S (nI c) = some (nI 1, S) := by
  have hc4 : c < 4 := by have := hs.1; omega
  have hk := (hs.2.2.1 c hc).1
  have hl := sp_ts_le hs hc
  unfold pm_isMean
  simp (disch := omega) only [sm_lt, sm_b1s, sm_b2s, ↓reduceIte, sm_in_nI, nI_clamp, nI_add, pk_mul, pk_sub, ne_addneg, nI_l, ne_ltT, ne_ltF, ne_leT, ne_leF, ne_eqT, ne_eqF, ne_sI1s, ne_sI1n, ne_sI2, ne_sI3, ne_sL1, ne_sL2s, ne_sL2n, ne_sL3, pk_us, pk_un, pk_uLs, pk_uLn, mm_Z, mm_L, mm_1, mm_2, mm_3, ne_rz0, ne_rz1, not_true_eq_false, not_false_eq_true, ne_i0, ne_i1, ne_i2, ne_i3, ne_i4, ne_i5, ne_i6, ne_i7, ne_i8, ne_i9, ne_i10, ne_i12, ne_i14, ne_i16, ne_i18, ne_i19, ne_i20, ne_i23, ne_i24, ne_i27, ne_i29, ne_i30, ne_i31, ne_i32, ne_i35, ne_i48, ne_i52, ne_i54, ne_i57, ne_i59, ne_i63, ne_i64, ne_i76, ne_i77, ne_i78, ne_i79, ne_i80, ne_i81, ne_i97, ne_i99, ne_i100, ne_i101, ne_i104, ne_i105, ne_i108, ne_i110, ne_i111, ne_i116, ne_i117, ne_i122, ne_i103, ne_i200, ne_i255, ne_i256, ne_i320, ne_i384, ne_i1000, ne_l0, ne_l1, ne_l2, ne_l3, ne_l4, ne_l5, ne_l8, ne_l12, ne_l31, ne_l48, ne_l57, ne_l97, ne_l99, ne_l122, ne_l255, ne_l673, ne_l1073741823, ne_l1073741824, np_kindOf hw hc4, np_takesAll hN hw ht hs hc]
theorem np_mF {c : Nat} (hN : 4000 ≤ N) (hw : nw a S) (ht : nt t co S) (hs : sc a t co) (hc : c < a 76) (h : ¬ (a (4 * c) ≠ 4 ∧ 0 < sp_ts a t c 8)) : pm_isMean N S (nI c) = some (nI 0, S) := by
  have hc4 : c < 4 := by have := hs.1; omega
  have hk := (hs.2.2.1 c hc).1
  have hl := sp_ts_le hs hc
  unfold pm_isMean
  by_cases h4 : a (4 * c) = 4
  · simp (disch := omega) only [sm_lt, sm_b1s, sm_b2s, ↓reduceIte, sm_in_nI, nI_clamp, nI_add, pk_mul, pk_sub, ne_addneg, nI_l, ne_ltT, ne_ltF, ne_leT, ne_leF, ne_eqT, ne_eqF, ne_sI1s, ne_sI1n, ne_sI2, ne_sI3, ne_sL1, ne_sL2s, ne_sL2n, ne_sL3, pk_us, pk_un, pk_uLs, pk_uLn, mm_Z, mm_L, mm_1, mm_2, mm_3, ne_rz0, ne_rz1, not_true_eq_false, not_false_eq_true, ne_i0, ne_i1, ne_i2, ne_i3, ne_i4, ne_i5, ne_i6, ne_i7, ne_i8, ne_i9, ne_i10, ne_i12, ne_i14, ne_i16, ne_i18, ne_i19, ne_i20, ne_i23, ne_i24, ne_i27, ne_i29, ne_i30, ne_i31, ne_i32, ne_i35, ne_i48, ne_i52, ne_i54, ne_i57, ne_i59, ne_i63, ne_i64, ne_i76, ne_i77, ne_i78, ne_i79, ne_i80, ne_i81, ne_i97, ne_i99, ne_i100, ne_i101, ne_i104, ne_i105, ne_i108, ne_i110, ne_i111, ne_i116, ne_i117, ne_i122, ne_i103, ne_i200, ne_i255, ne_i256, ne_i320, ne_i384, ne_i1000, ne_l0, ne_l1, ne_l2, ne_l3, ne_l4, ne_l5, ne_l8, ne_l12, ne_l31, ne_l48, ne_l57, ne_l97, ne_l99, ne_l122, ne_l255, ne_l673, ne_l1073741823, ne_l1073741824, np_kindOf hw hc4]
  · simp (disch := omega) only [sm_lt, sm_b1s, sm_b2s, ↓reduceIte, sm_in_nI, nI_clamp, nI_add, pk_mul, pk_sub, ne_addneg, nI_l, ne_ltT, ne_ltF, ne_leT, ne_leF, ne_eqT, ne_eqF, ne_sI1s, ne_sI1n, ne_sI2, ne_sI3, ne_sL1, ne_sL2s, ne_sL2n, ne_sL3, pk_us, pk_un, pk_uLs, pk_uLn, mm_Z, mm_L, mm_1, mm_2, mm_3, ne_rz0, ne_rz1, not_true_eq_false, not_false_eq_true, ne_i0, ne_i1, ne_i2, ne_i3, ne_i4, ne_i5, ne_i6, ne_i7, ne_i8, ne_i9, ne_i10, ne_i12, ne_i14, ne_i16, ne_i18, ne_i19, ne_i20, ne_i23, ne_i24, ne_i27, ne_i29, ne_i30, ne_i31, ne_i32, ne_i35, ne_i48, ne_i52, ne_i54, ne_i57, ne_i59, ne_i63, ne_i64, ne_i76, ne_i77, ne_i78, ne_i79, ne_i80, ne_i81, ne_i97, ne_i99, ne_i100, ne_i101, ne_i104, ne_i105, ne_i108, ne_i110, ne_i111, ne_i116, ne_i117, ne_i122, ne_i103, ne_i200, ne_i255, ne_i256, ne_i320, ne_i384, ne_i1000, ne_l0, ne_l1, ne_l2, ne_l3, ne_l4, ne_l5, ne_l8, ne_l12, ne_l31, ne_l48, ne_l57, ne_l97, ne_l99, ne_l122, ne_l255, ne_l673, ne_l1073741823, ne_l1073741824, np_kindOf hw hc4, np_takesAll hN hw ht hs hc]
theorem np_night1 (hN : 4000 ≤ N) (hw : nw a S) (ht : nt t co S) (hs : sc a t co) : pm_night N S = pm_night_b48 N N (nI (sp_by a t (a 76))) (nI 0) S := by
  have h1 := hs.1
  unfold pm_night
  simp (disch := omega) only [sm_lt, sm_b1s, sm_b2s, ↓reduceIte, sm_in_nI, nI_clamp, nI_add, pk_mul, pk_sub, ne_addneg, nI_l, ne_ltT, ne_ltF, ne_leT, ne_leF, ne_eqT, ne_eqF, ne_sI1s, ne_sI1n, ne_sI2, ne_sI3, ne_sL1, ne_sL2s, ne_sL2n, ne_sL3, pk_us, pk_un, pk_uLs, pk_uLn, mm_Z, mm_L, mm_1, mm_2, mm_3, ne_rz0, ne_rz1, not_true_eq_false, not_false_eq_true, ne_i0, ne_i1, ne_i2, ne_i3, ne_i4, ne_i5, ne_i6, ne_i7, ne_i8, ne_i9, ne_i10, ne_i12, ne_i14, ne_i16, ne_i18, ne_i19, ne_i20, ne_i23, ne_i24, ne_i27, ne_i29, ne_i30, ne_i31, ne_i32, ne_i35, ne_i48, ne_i52, ne_i54, ne_i57, ne_i59, ne_i63, ne_i64, ne_i76, ne_i77, ne_i78, ne_i79, ne_i80, ne_i81, ne_i97, ne_i99, ne_i100, ne_i101, ne_i104, ne_i105, ne_i108, ne_i110, ne_i111, ne_i116, ne_i117, ne_i122, ne_i103, ne_i200, ne_i255, ne_i256, ne_i320, ne_i384, ne_i1000, ne_l0, ne_l1, ne_l2, ne_l3, ne_l4, ne_l5, ne_l8, ne_l12, ne_l31, ne_l48, ne_l57, ne_l97, ne_l99, ne_l122, ne_l255, ne_l673, ne_l1073741823, ne_l1073741824]
  refine ne_loop (fun f i (s : Nat) => pm_night_b4 N f (nI s) (nI i) S) (fun i s => s = sp_by a t i) (a 76) (fun r => r = pm_night_b48 N N (nI (sp_by a t (a 76))) (nI 0) S) ?_ ?_ N 0 1 (by omega) (by omega) rfl
  · intro f i s hi hI
    subst hI
    left
    refine ⟨_, rfl, ?_⟩
    show pm_night_b4 N (f + 1) _ _ _ = _
    have b0 := sp_by_le hs i (by omega)
    have b1 := sp_by_4 hs (n := i) (by omega)
    have b2 := sp_by_4 hs (n := i + 1) (by omega)
    have k := sp_all_le hs hi
    have g := Nat.gcd_pos_of_pos_left (sp_all a t i) b0.1
    have g1 := Nat.gcd_le_left (sp_all a t i) b0.1
    have d1 := np_divisor (N := N) (S := S) (x := sp_by a t i) (y := sp_all a t i) (by omega) (by omega) (by omega)
    have last : ∀ s0, s0 = nI (sp_all a t i) → pm_night_b29 N (pm_night_b4 N f) (nI (sp_by a t i)) (nI i) s0 S = pm_night_b4 N f (nI (sp_by a t (i + 1))) (nI (i + 1)) S := by
      intro s0 e
      subst e
      unfold pm_night_b29
      simp (disch := omega) only [sm_lt, sm_b1s, sm_b2s, ↓reduceIte, sm_in_nI, nI_clamp, nI_add, pk_mul, pk_sub, ne_addneg, nI_l, ne_ltT, ne_ltF, ne_leT, ne_leF, ne_eqT, ne_eqF, ne_sI1s, ne_sI1n, ne_sI2, ne_sI3, ne_sL1, ne_sL2s, ne_sL2n, ne_sL3, pk_us, pk_un, pk_uLs, pk_uLn, mm_Z, mm_L, mm_1, mm_2, mm_3, ne_rz0, ne_rz1, not_true_eq_false, not_false_eq_true, ne_i0, ne_i1, ne_i2, ne_i3, ne_i4, ne_i5, ne_i6, ne_i7, ne_i8, ne_i9, ne_i10, ne_i12, ne_i14, ne_i16, ne_i18, ne_i19, ne_i20, ne_i23, ne_i24, ne_i27, ne_i29, ne_i30, ne_i31, ne_i32, ne_i35, ne_i48, ne_i52, ne_i54, ne_i57, ne_i59, ne_i63, ne_i64, ne_i76, ne_i77, ne_i78, ne_i79, ne_i80, ne_i81, ne_i97, ne_i99, ne_i100, ne_i101, ne_i104, ne_i105, ne_i108, ne_i110, ne_i111, ne_i116, ne_i117, ne_i122, ne_i103, ne_i200, ne_i255, ne_i256, ne_i320, ne_i384, ne_i1000, ne_l0, ne_l1, ne_l2, ne_l3, ne_l4, ne_l5, ne_l8, ne_l12, ne_l31, ne_l48, ne_l57, ne_l97, ne_l99, ne_l122, ne_l255, ne_l673, ne_l1073741823, ne_l1073741824, d1, pk_div]
      rfl
    rw [pm_night_b4]
    by_cases hm : a (4 * i) ≠ 4 ∧ 0 < sp_ts a t i 8
    · simp (disch := omega) only [sm_lt, sm_b1s, sm_b2s, ↓reduceIte, sm_in_nI, nI_clamp, nI_add, pk_mul, pk_sub, ne_addneg, nI_l, ne_ltT, ne_ltF, ne_leT, ne_leF, ne_eqT, ne_eqF, ne_sI1s, ne_sI1n, ne_sI2, ne_sI3, ne_sL1, ne_sL2s, ne_sL2n, ne_sL3, pk_us, pk_un, pk_uLs, pk_uLn, mm_Z, mm_L, mm_1, mm_2, mm_3, ne_rz0, ne_rz1, not_true_eq_false, not_false_eq_true, ne_i0, ne_i1, ne_i2, ne_i3, ne_i4, ne_i5, ne_i6, ne_i7, ne_i8, ne_i9, ne_i10, ne_i12, ne_i14, ne_i16, ne_i18, ne_i19, ne_i20, ne_i23, ne_i24, ne_i27, ne_i29, ne_i30, ne_i31, ne_i32, ne_i35, ne_i48, ne_i52, ne_i54, ne_i57, ne_i59, ne_i63, ne_i64, ne_i76, ne_i77, ne_i78, ne_i79, ne_i80, ne_i81, ne_i97, ne_i99, ne_i100, ne_i101, ne_i104, ne_i105, ne_i108, ne_i110, ne_i111, ne_i116, ne_i117, ne_i122, ne_i103, ne_i200, ne_i255, ne_i256, ne_i320, ne_i384, ne_i1000, ne_l0, ne_l1, ne_l2, ne_l3, ne_l4, ne_l5, ne_l8, ne_l12, ne_l31, ne_l48, ne_l57, ne_l97, ne_l99, ne_l122, ne_l255, ne_l673, ne_l1073741823, ne_l1073741824, np_cloths hw, np_mT hN hw ht hs hi hm, np_takesAll hN hw ht hs hi]
      exact last _ (by unfold sp_all; rw [if_pos hm])
    · simp (disch := omega) only [sm_lt, sm_b1s, sm_b2s, ↓reduceIte, sm_in_nI, nI_clamp, nI_add, pk_mul, pk_sub, ne_addneg, nI_l, ne_ltT, ne_ltF, ne_leT, ne_leF, ne_eqT, ne_eqF, ne_sI1s, ne_sI1n, ne_sI2, ne_sI3, ne_sL1, ne_sL2s, ne_sL2n, ne_sL3, pk_us, pk_un, pk_uLs, pk_uLn, mm_Z, mm_L, mm_1, mm_2, mm_3, ne_rz0, ne_rz1, not_true_eq_false, not_false_eq_true, ne_i0, ne_i1, ne_i2, ne_i3, ne_i4, ne_i5, ne_i6, ne_i7, ne_i8, ne_i9, ne_i10, ne_i12, ne_i14, ne_i16, ne_i18, ne_i19, ne_i20, ne_i23, ne_i24, ne_i27, ne_i29, ne_i30, ne_i31, ne_i32, ne_i35, ne_i48, ne_i52, ne_i54, ne_i57, ne_i59, ne_i63, ne_i64, ne_i76, ne_i77, ne_i78, ne_i79, ne_i80, ne_i81, ne_i97, ne_i99, ne_i100, ne_i101, ne_i104, ne_i105, ne_i108, ne_i110, ne_i111, ne_i116, ne_i117, ne_i122, ne_i103, ne_i200, ne_i255, ne_i256, ne_i320, ne_i384, ne_i1000, ne_l0, ne_l1, ne_l2, ne_l3, ne_l4, ne_l5, ne_l8, ne_l12, ne_l31, ne_l48, ne_l57, ne_l97, ne_l99, ne_l122, ne_l255, ne_l673, ne_l1073741823, ne_l1073741824, np_cloths hw, np_mF hN hw ht hs hi hm]
      exact last _ (by unfold sp_all; rw [if_neg hm])
  · intro f s hI
    subst hI
    show pm_night_b4 N (f + 1) _ _ _ = _
    rw [pm_night_b4]
    simp (disch := omega) only [sm_lt, sm_b1s, sm_b2s, ↓reduceIte, sm_in_nI, nI_clamp, nI_add, pk_mul, pk_sub, ne_addneg, nI_l, ne_ltT, ne_ltF, ne_leT, ne_leF, ne_eqT, ne_eqF, ne_sI1s, ne_sI1n, ne_sI2, ne_sI3, ne_sL1, ne_sL2s, ne_sL2n, ne_sL3, pk_us, pk_un, pk_uLs, pk_uLn, mm_Z, mm_L, mm_1, mm_2, mm_3, ne_rz0, ne_rz1, not_true_eq_false, not_false_eq_true, ne_i0, ne_i1, ne_i2, ne_i3, ne_i4, ne_i5, ne_i6, ne_i7, ne_i8, ne_i9, ne_i10, ne_i12, ne_i14, ne_i16, ne_i18, ne_i19, ne_i20, ne_i23, ne_i24, ne_i27, ne_i29, ne_i30, ne_i31, ne_i32, ne_i35, ne_i48, ne_i52, ne_i54, ne_i57, ne_i59, ne_i63, ne_i64, ne_i76, ne_i77, ne_i78, ne_i79, ne_i80, ne_i81, ne_i97, ne_i99, ne_i100, ne_i101, ne_i104, ne_i105, ne_i108, ne_i110, ne_i111, ne_i116, ne_i117, ne_i122, ne_i103, ne_i200, ne_i255, ne_i256, ne_i320, ne_i384, ne_i1000, ne_l0, ne_l1, ne_l2, ne_l3, ne_l4, ne_l5, ne_l8, ne_l12, ne_l31, ne_l48, ne_l57, ne_l97, ne_l99, ne_l122, ne_l255, ne_l673, ne_l1073741823, ne_l1073741824, np_cloths hw]
theorem np_night2 (hN : 4000 ≤ N) (h : nP M v S) (hw : nw a M) (ht : nt t co M) (hs : sc a t co) (hv : sp_w a (fun i => v (14 + i))) (hb : v 18 < 2 ^ 1000) : ∃ S' v', pm_night_b48 N N (nI (sp_by a t (a 76))) (nI 0) S = pm_night_b121 N N (nI (sp_by a t (a 76))) (nI 0) S' ∧ nP M v' S' ∧ (∀ j, j < a 76 → v' (10 + j) = sp_nt a t co (fun i => v (14 + i)) j) ∧ ∀ s, s < 7 ∨ 14 ≤ s → v' s = v s := by
  have h1 := hs.1
  have b4 := sp_by_4 hs (n := a 76) (Nat.le_refl _)
  refine ne_loop (fun f i (s : sm_St) => pm_night_b48 N f (nI (sp_by a t (a 76))) (nI i) s) (fun i s => ∃ v', nP M v' s ∧ (∀ j, j < i → v' (10 + j) = sp_nt a t co (fun i => v (14 + i)) j) ∧ ∀ s, s < 7 ∨ 14 ≤ s → v' s = v s) (a 76) (fun r => ∃ S' v', r = pm_night_b121 N N (nI (sp_by a t (a 76))) (nI 0) S' ∧ nP M v' S' ∧ (∀ j, j < a 76 → v' (10 + j) = sp_nt a t co (fun i => v (14 + i)) j) ∧ ∀ s, s < 7 ∨ 14 ≤ s → v' s = v s) ?_ ?_ N 0 S (by omega) (by omega) ⟨v, h, fun j hj => by omega, fun _ _ => rfl⟩
  · rintro f c s hc ⟨v', g, g10, gf⟩
    left
    show ∃ s', _ ∧ pm_night_b48 N (f + 1) _ _ _ = pm_night_b48 N f _ _ _
    have hwS := nP_nw g hw
    have htS := nP_nt g ht
    have hk := (hs.2.2.1 c hc).1
    have hvc := hv c hc
    simp only at hvc
    have ew : (fun i => v' (14 + i)) = (fun i => v (14 + i)) := by
      funext i
      exact gf _ (by omega)
    have g18 : v' 18 = v 18 := gf 18 (by decide)
    have g14 : v' (14 + c) = v (14 + c) := gf _ (by omega)
    rw [pm_night_b48]
    by_cases h4 : a (4 * c) = 4
    · obtain ⟨S1, v1, e1, h1', r1, f1⟩ := np_layGreatest (b := sp_by a t (a 76)) hN g hw ht hs hc (by rw [ew]; exact hv) (by rw [g18]; exact hb) b4
      refine ⟨S1, ⟨v1, h1', fun j hj => ?_, fun s hs' => by rw [f1 s (by omega) (by omega) (by omega)]; exact gf s hs'⟩, ?_⟩
      · by_cases hjc : j = c
        · subst hjc
          rw [r1, ew, g14, sp_nt, if_pos h4]
        · rw [f1 _ (by omega) (by omega) (by omega)]
          exact g10 j (by omega)
      · unfold pm_night_b113
        simp (disch := omega) only [sm_lt, sm_b1s, sm_b2s, ↓reduceIte, sm_in_nI, nI_clamp, nI_add, pk_mul, pk_sub, ne_addneg, nI_l, ne_ltT, ne_ltF, ne_leT, ne_leF, ne_eqT, ne_eqF, ne_sI1s, ne_sI1n, ne_sI2, ne_sI3, ne_sL1, ne_sL2s, ne_sL2n, ne_sL3, pk_us, pk_un, pk_uLs, pk_uLn, mm_Z, mm_L, mm_1, mm_2, mm_3, ne_rz0, ne_rz1, not_true_eq_false, not_false_eq_true, ne_i0, ne_i1, ne_i2, ne_i3, ne_i4, ne_i5, ne_i6, ne_i7, ne_i8, ne_i9, ne_i10, ne_i12, ne_i14, ne_i16, ne_i18, ne_i19, ne_i20, ne_i23, ne_i24, ne_i27, ne_i29, ne_i30, ne_i31, ne_i32, ne_i35, ne_i48, ne_i52, ne_i54, ne_i57, ne_i59, ne_i63, ne_i64, ne_i76, ne_i77, ne_i78, ne_i79, ne_i80, ne_i81, ne_i97, ne_i99, ne_i100, ne_i101, ne_i104, ne_i105, ne_i108, ne_i110, ne_i111, ne_i116, ne_i117, ne_i122, ne_i103, ne_i200, ne_i255, ne_i256, ne_i320, ne_i384, ne_i1000, ne_l0, ne_l1, ne_l2, ne_l3, ne_l4, ne_l5, ne_l8, ne_l12, ne_l31, ne_l48, ne_l57, ne_l97, ne_l99, ne_l122, ne_l255, ne_l673, ne_l1073741823, ne_l1073741824, np_cloths hwS, np_mF hN hwS htS hs hc, np_kindOf hwS, e1]
    · by_cases h0 : 0 < sp_ts a t c 8
      · obtain ⟨S1, v1, e1, h1', r1, f1⟩ := np_layMean (b := sp_by a t (a 76)) hN g hw ht hs hc (by rw [ew]; exact hv) (by rw [g18]; exact hb) b4 h0
        refine ⟨S1, ⟨v1, h1', fun j hj => ?_, fun s hs' => by rw [f1 s (by omega) (by omega) (by omega)]; exact gf s hs'⟩, ?_⟩
        · by_cases hjc : j = c
          · subst hjc
            rw [r1, ew, sp_nt, if_neg h4, if_pos h0]
          · rw [f1 _ (by omega) (by omega) (by omega)]
            exact g10 j (by omega)
        · unfold pm_night_b113
          simp (disch := omega) only [sm_lt, sm_b1s, sm_b2s, ↓reduceIte, sm_in_nI, nI_clamp, nI_add, pk_mul, pk_sub, ne_addneg, nI_l, ne_ltT, ne_ltF, ne_leT, ne_leF, ne_eqT, ne_eqF, ne_sI1s, ne_sI1n, ne_sI2, ne_sI3, ne_sL1, ne_sL2s, ne_sL2n, ne_sL3, pk_us, pk_un, pk_uLs, pk_uLn, mm_Z, mm_L, mm_1, mm_2, mm_3, ne_rz0, ne_rz1, not_true_eq_false, not_false_eq_true, ne_i0, ne_i1, ne_i2, ne_i3, ne_i4, ne_i5, ne_i6, ne_i7, ne_i8, ne_i9, ne_i10, ne_i12, ne_i14, ne_i16, ne_i18, ne_i19, ne_i20, ne_i23, ne_i24, ne_i27, ne_i29, ne_i30, ne_i31, ne_i32, ne_i35, ne_i48, ne_i52, ne_i54, ne_i57, ne_i59, ne_i63, ne_i64, ne_i76, ne_i77, ne_i78, ne_i79, ne_i80, ne_i81, ne_i97, ne_i99, ne_i100, ne_i101, ne_i104, ne_i105, ne_i108, ne_i110, ne_i111, ne_i116, ne_i117, ne_i122, ne_i103, ne_i200, ne_i255, ne_i256, ne_i320, ne_i384, ne_i1000, ne_l0, ne_l1, ne_l2, ne_l3, ne_l4, ne_l5, ne_l8, ne_l12, ne_l31, ne_l48, ne_l57, ne_l97, ne_l99, ne_l122, ne_l255, ne_l673, ne_l1073741823, ne_l1073741824, np_cloths hwS, np_mT hN hwS htS hs hc ⟨h4, h0⟩, np_kindOf hwS, e1]
      · obtain ⟨S1, e1, h1'⟩ := nP_copy (a := 10 + c) (b := 14 + c) hN g (by omega) (by omega) (by omega) (by omega)
        obtain ⟨S2, e2, h2'⟩ := nP_times (a := 10 + c) (m := sp_by a t (a 76)) hN h1' (by omega) (by omega) (by omega) (by
          rw [ne_up_s, g14]
          calc v (14 + c) * sp_by a t (a 76) ≤ (12 * v 18) * 1874161 := Nat.mul_le_mul hvc b4
            _ = v 18 * 22489932 := by omega
            _ < nm_B ^ 60 := sp_big hb (by decide))
        rw [ne_up_s, bx_uu, g14] at h2'
        refine ⟨S2, ⟨_, h2', fun j hj => ?_, fun s hs' => by rw [ne_up_n (by omega)]; exact gf s hs'⟩, ?_⟩
        · by_cases hjc : j = c
          · subst hjc
            rw [ne_up_s, sp_nt, if_neg h4, if_neg h0]
          · rw [ne_up_n (by omega)]
            exact g10 j (by omega)
        · unfold pm_night_b113
          simp (disch := omega) only [sm_lt, sm_b1s, sm_b2s, ↓reduceIte, sm_in_nI, nI_clamp, nI_add, pk_mul, pk_sub, ne_addneg, nI_l, ne_ltT, ne_ltF, ne_leT, ne_leF, ne_eqT, ne_eqF, ne_sI1s, ne_sI1n, ne_sI2, ne_sI3, ne_sL1, ne_sL2s, ne_sL2n, ne_sL3, pk_us, pk_un, pk_uLs, pk_uLn, mm_Z, mm_L, mm_1, mm_2, mm_3, ne_rz0, ne_rz1, not_true_eq_false, not_false_eq_true, ne_i0, ne_i1, ne_i2, ne_i3, ne_i4, ne_i5, ne_i6, ne_i7, ne_i8, ne_i9, ne_i10, ne_i12, ne_i14, ne_i16, ne_i18, ne_i19, ne_i20, ne_i23, ne_i24, ne_i27, ne_i29, ne_i30, ne_i31, ne_i32, ne_i35, ne_i48, ne_i52, ne_i54, ne_i57, ne_i59, ne_i63, ne_i64, ne_i76, ne_i77, ne_i78, ne_i79, ne_i80, ne_i81, ne_i97, ne_i99, ne_i100, ne_i101, ne_i104, ne_i105, ne_i108, ne_i110, ne_i111, ne_i116, ne_i117, ne_i122, ne_i103, ne_i200, ne_i255, ne_i256, ne_i320, ne_i384, ne_i1000, ne_l0, ne_l1, ne_l2, ne_l3, ne_l4, ne_l5, ne_l8, ne_l12, ne_l31, ne_l48, ne_l57, ne_l97, ne_l99, ne_l122, ne_l255, ne_l673, ne_l1073741823, ne_l1073741824, np_cloths hwS, np_mF hN hwS htS hs hc, np_kindOf hwS, e1, e2]
  · rintro f s ⟨v', g, g10, gf⟩
    show ∃ S' v'', pm_night_b48 N (f + 1) _ _ _ = _ ∧ _
    have hwS := nP_nw g hw
    rw [pm_night_b48]
    simp (disch := omega) only [sm_lt, sm_b1s, sm_b2s, ↓reduceIte, sm_in_nI, nI_clamp, nI_add, pk_mul, pk_sub, ne_addneg, nI_l, ne_ltT, ne_ltF, ne_leT, ne_leF, ne_eqT, ne_eqF, ne_sI1s, ne_sI1n, ne_sI2, ne_sI3, ne_sL1, ne_sL2s, ne_sL2n, ne_sL3, pk_us, pk_un, pk_uLs, pk_uLn, mm_Z, mm_L, mm_1, mm_2, mm_3, ne_rz0, ne_rz1, not_true_eq_false, not_false_eq_true, ne_i0, ne_i1, ne_i2, ne_i3, ne_i4, ne_i5, ne_i6, ne_i7, ne_i8, ne_i9, ne_i10, ne_i12, ne_i14, ne_i16, ne_i18, ne_i19, ne_i20, ne_i23, ne_i24, ne_i27, ne_i29, ne_i30, ne_i31, ne_i32, ne_i35, ne_i48, ne_i52, ne_i54, ne_i57, ne_i59, ne_i63, ne_i64, ne_i76, ne_i77, ne_i78, ne_i79, ne_i80, ne_i81, ne_i97, ne_i99, ne_i100, ne_i101, ne_i104, ne_i105, ne_i108, ne_i110, ne_i111, ne_i116, ne_i117, ne_i122, ne_i103, ne_i200, ne_i255, ne_i256, ne_i320, ne_i384, ne_i1000, ne_l0, ne_l1, ne_l2, ne_l3, ne_l4, ne_l5, ne_l8, ne_l12, ne_l31, ne_l48, ne_l57, ne_l97, ne_l99, ne_l122, ne_l255, ne_l673, ne_l1073741823, ne_l1073741824, np_cloths hwS]
    exact ⟨s, v', rfl, g, g10, gf⟩
theorem np_night3 {w : Nat → Nat} (hN : 4000 ≤ N) (h : nP M v S) (hw : nw a M) (hs : sc a t co) (hb : v 18 < 2 ^ 1000) (h10 : ∀ j, j < a 76 → v (10 + j) = w j) : ∃ S' v', pm_night_b121 N N (nI (sp_by a t (a 76))) (nI 0) S = some S' ∧ nP M v' S' ∧ (∀ j, j < a 76 → v' (14 + j) = w j) ∧ v' 18 = v 18 * sp_by a t (a 76) ∧ ∀ s, s ≠ 18 → (s < 14 ∨ 14 + a 76 ≤ s) → v' s = v s := by
  have h1 := hs.1
  have b4 := sp_by_4 hs (n := a 76) (Nat.le_refl _)
  refine ne_loop (fun f i (s : sm_St) => pm_night_b121 N f (nI (sp_by a t (a 76))) (nI i) s) (fun i s => ∃ v', nP M v' s ∧ (∀ j, j < i → v' (14 + j) = w j) ∧ ∀ s, (s < 14 ∨ 14 + i ≤ s) → v' s = v s) (a 76) (fun r => ∃ S' v', r = some S' ∧ nP M v' S' ∧ (∀ j, j < a 76 → v' (14 + j) = w j) ∧ v' 18 = v 18 * sp_by a t (a 76) ∧ ∀ s, s ≠ 18 → (s < 14 ∨ 14 + a 76 ≤ s) → v' s = v s) ?_ ?_ N 0 S (by omega) (by omega) ⟨v, h, fun j hj => by omega, fun _ _ => rfl⟩
  · rintro f c s hc ⟨v', g, g14, gf⟩
    left
    show ∃ s', _ ∧ pm_night_b121 N (f + 1) _ _ _ = pm_night_b121 N f _ _ _
    have hwS := nP_nw g hw
    obtain ⟨S1, e1, h1'⟩ := nP_copy (a := 14 + c) (b := 10 + c) hN g (by omega) (by omega) (by omega) (by omega)
    refine ⟨S1, ⟨_, h1', fun j hj => ?_, fun s hs' => by rw [ne_up_n (by omega)]; exact gf s (by omega)⟩, ?_⟩
    · by_cases hjc : j = c
      · subst hjc
        rw [ne_up_s, gf _ (by omega)]
        exact h10 j hc
      · rw [ne_up_n (by omega)]
        exact g14 j (by omega)
    · rw [pm_night_b121]
      simp (disch := omega) only [sm_lt, sm_b1s, sm_b2s, ↓reduceIte, sm_in_nI, nI_clamp, nI_add, pk_mul, pk_sub, ne_addneg, nI_l, ne_ltT, ne_ltF, ne_leT, ne_leF, ne_eqT, ne_eqF, ne_sI1s, ne_sI1n, ne_sI2, ne_sI3, ne_sL1, ne_sL2s, ne_sL2n, ne_sL3, pk_us, pk_un, pk_uLs, pk_uLn, mm_Z, mm_L, mm_1, mm_2, mm_3, ne_rz0, ne_rz1, not_true_eq_false, not_false_eq_true, ne_i0, ne_i1, ne_i2, ne_i3, ne_i4, ne_i5, ne_i6, ne_i7, ne_i8, ne_i9, ne_i10, ne_i12, ne_i14, ne_i16, ne_i18, ne_i19, ne_i20, ne_i23, ne_i24, ne_i27, ne_i29, ne_i30, ne_i31, ne_i32, ne_i35, ne_i48, ne_i52, ne_i54, ne_i57, ne_i59, ne_i63, ne_i64, ne_i76, ne_i77, ne_i78, ne_i79, ne_i80, ne_i81, ne_i97, ne_i99, ne_i100, ne_i101, ne_i104, ne_i105, ne_i108, ne_i110, ne_i111, ne_i116, ne_i117, ne_i122, ne_i103, ne_i200, ne_i255, ne_i256, ne_i320, ne_i384, ne_i1000, ne_l0, ne_l1, ne_l2, ne_l3, ne_l4, ne_l5, ne_l8, ne_l12, ne_l31, ne_l48, ne_l57, ne_l97, ne_l99, ne_l122, ne_l255, ne_l673, ne_l1073741823, ne_l1073741824, np_cloths hwS, e1]
  · rintro f s ⟨v', g, g14, gf⟩
    show ∃ S' v'', pm_night_b121 N (f + 1) _ _ _ = _ ∧ _
    have hwS := nP_nw g hw
    have g18 : v' 18 = v 18 := gf 18 (by omega)
    obtain ⟨S2, e2, h2'⟩ := nP_times (a := 18) (m := sp_by a t (a 76)) hN g (by omega) (by omega) (by omega) (by
      rw [g18]
      exact sp_big hb (Nat.le_trans b4 (by decide)))
    refine ⟨S2, _, ?_, h2', fun j hj => by rw [ne_up_n (by omega)]; exact g14 j hj, by rw [ne_up_s, g18], fun s h18 hs' => by rw [ne_up_n h18]; exact gf s hs'⟩
    rw [pm_night_b121]
    simp (disch := omega) only [sm_lt, sm_b1s, sm_b2s, ↓reduceIte, sm_in_nI, nI_clamp, nI_add, pk_mul, pk_sub, ne_addneg, nI_l, ne_ltT, ne_ltF, ne_leT, ne_leF, ne_eqT, ne_eqF, ne_sI1s, ne_sI1n, ne_sI2, ne_sI3, ne_sL1, ne_sL2s, ne_sL2n, ne_sL3, pk_us, pk_un, pk_uLs, pk_uLn, mm_Z, mm_L, mm_1, mm_2, mm_3, ne_rz0, ne_rz1, not_true_eq_false, not_false_eq_true, ne_i0, ne_i1, ne_i2, ne_i3, ne_i4, ne_i5, ne_i6, ne_i7, ne_i8, ne_i9, ne_i10, ne_i12, ne_i14, ne_i16, ne_i18, ne_i19, ne_i20, ne_i23, ne_i24, ne_i27, ne_i29, ne_i30, ne_i31, ne_i32, ne_i35, ne_i48, ne_i52, ne_i54, ne_i57, ne_i59, ne_i63, ne_i64, ne_i76, ne_i77, ne_i78, ne_i79, ne_i80, ne_i81, ne_i97, ne_i99, ne_i100, ne_i101, ne_i104, ne_i105, ne_i108, ne_i110, ne_i111, ne_i116, ne_i117, ne_i122, ne_i103, ne_i200, ne_i255, ne_i256, ne_i320, ne_i384, ne_i1000, ne_l0, ne_l1, ne_l2, ne_l3, ne_l4, ne_l5, ne_l8, ne_l12, ne_l31, ne_l48, ne_l57, ne_l97, ne_l99, ne_l122, ne_l255, ne_l673, ne_l1073741823, ne_l1073741824, np_cloths hwS, e2]
/-- a night of the reference -/
theorem np_night (hN : 4000 ≤ N) (h : nP M v S) (hw : nw a M) (ht : nt t co M) (hs : sc a t co) (hv : sp_w a (fun i => v (14 + i))) (hb : v 18 < 2 ^ 1000) : ∃ S' v', pm_night N S = some S' ∧ nP M v' S' ∧ (fun i => v' (14 + i)) = sp_nw a t co (fun i => v (14 + i)) ∧ ∀ s, s < 7 → v' s = v s := by
  have h1 := hs.1
  obtain ⟨S1, v1, e1, h1', r1, f1⟩ := np_night2 hN h hw ht hs hv hb
  obtain ⟨S2, v2, e2, h2', r2, q2, f2⟩ := np_night3 (w := sp_nt a t co (fun i => v (14 + i))) hN h1' hw hs (by rw [f1 18 (by decide)]; exact hb) r1
  refine ⟨S2, v2, ?_, h2', ?_, fun s h7 => by rw [f2 s (by omega) (by omega)]; exact f1 s (by omega)⟩
  · rw [np_night1 hN (nP_nw h hw) (nP_nt h ht) hs, e1, e2]
  · funext i
    unfold sp_nw
    by_cases h4 : i = 4
    · subst h4
      rw [if_pos rfl, q2, f1 18 (by decide)]
    · rw [if_neg h4]
      by_cases hk : i < a 76
      · rw [if_pos hk]
        exact r2 i hk
      · rw [if_neg hk, f2 _ (by omega) (by omega)]
        exact f1 _ (by omega)
end
