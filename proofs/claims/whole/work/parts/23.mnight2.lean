section
variable {N : Nat} {M S : sm_St} {v a t co : Nat → Nat}
def sp_any (o : Option Nat) : Nat := match o with
  | none => 0
  | some _ => 1
theorem np_layGreatest {c b : Nat} (hN : 4000 ≤ N) (h : nP M v S) (hw : nw a M) (ht : nt t co M) (hs : sc a t co) (hc : c < a 76) (hv : sp_w a (fun i => v (14 + i))) (hb : v 18 < 2 ^ 1000) (hby : b ≤ 1874161) : ∃ S' v', pm_layGreatest N S (nI c) (nI b) = some S' ∧ nP M v' S' ∧ v' (10 + c) = ((sp_gr a t co (fun i => v (14 + i)) c 8).getD (v (14 + c))) * b ∧ ∀ s, s ≠ 8 → s ≠ 9 → s ≠ 10 + c → v' s = v s := by
  have hc4 : c < 4 := by have := hs.1; omega
  have grl := sp_gr_le hs hv (c := c)
  unfold pm_layGreatest
  simp (disch := omega) only [sm_lt, sm_b1s, sm_b2s, ↓reduceIte, sm_in_nI, nI_clamp, nI_add, pk_mul, pk_sub, ne_addneg, nI_l, ne_ltT, ne_ltF, ne_leT, ne_leF, ne_eqT, ne_eqF, ne_sI1s, ne_sI1n, ne_sI2, ne_sI3, ne_sL1, ne_sL2s, ne_sL2n, ne_sL3, pk_us, pk_un, pk_uLs, pk_uLn, mm_Z, mm_L, mm_1, mm_2, mm_3, ne_rz0, ne_rz1, not_true_eq_false, not_false_eq_true, ne_i0, ne_i1, ne_i2, ne_i3, ne_i4, ne_i5, ne_i6, ne_i7, ne_i8, ne_i9, ne_i10, ne_i12, ne_i14, ne_i16, ne_i18, ne_i19, ne_i20, ne_i23, ne_i24, ne_i27, ne_i29, ne_i30, ne_i31, ne_i32, ne_i35, ne_i48, ne_i52, ne_i54, ne_i57, ne_i59, ne_i63, ne_i64, ne_i76, ne_i77, ne_i78, ne_i79, ne_i80, ne_i81, ne_i97, ne_i99, ne_i100, ne_i101, ne_i104, ne_i105, ne_i108, ne_i110, ne_i111, ne_i116, ne_i117, ne_i122, ne_i103, ne_i200, ne_i255, ne_i256, ne_i320, ne_i384, ne_i1000, ne_l0, ne_l1, ne_l2, ne_l3, ne_l4, ne_l5, ne_l8, ne_l12, ne_l31, ne_l48, ne_l57, ne_l97, ne_l99, ne_l122, ne_l255, ne_l673, ne_l1073741823, ne_l1073741824]
  refine ne_loop (fun f i (s : Nat × sm_St) => pm_layGreatest_b5 N f (nI c) (nI b) (nI s.1) (nI i) s.2) (fun i s => s.1 = sp_any (sp_gr a t co (fun i => v (14 + i)) c i) ∧ ∃ v', nP M v' s.2 ∧ (∀ m, sp_gr a t co (fun i => v (14 + i)) c i = some m → v' 9 = m) ∧ ∀ s, s ≠ 8 → s ≠ 9 → s ≠ 10 + c → v' s = v s) 8 (fun r => ∃ S' v', r = some S' ∧ nP M v' S' ∧ v' (10 + c) = ((sp_gr a t co (fun i => v (14 + i)) c 8).getD (v (14 + c))) * b ∧ ∀ s, s ≠ 8 → s ≠ 9 → s ≠ 10 + c → v' s = v s) ?_ ?_ N 0 (0, S) (by omega) (by omega) ⟨rfl, v, h, fun m q => by simp [sp_gr] at q, fun _ _ _ _ => rfl⟩
  · rintro f i ⟨s0, s⟩ hi ⟨hany, v', g, g9, gf⟩
    left
    show ∃ s', _ ∧ pm_layGreatest_b5 N (f + 1) _ _ _ _ _ = pm_layGreatest_b5 N f _ _ _ _ _
    simp only at hany g
    have hwS := nP_nw g hw
    have htS := nP_nt g ht
    have ht1 := htS.1
    have htl := hs.2.2.2.1 c i hc hi
    have h1 := hs.1
    have h2 := hs.2.1
    -- not touched: nothing changes
    have no : sp_tc a t c i = false → pm_layGreatest_b61 N (pm_layGreatest_b5 N f) (nI c) (nI b) (nI s0) (nI i) s = pm_layGreatest_b5 N f (nI c) (nI b) (nI s0) (nI (i + 1)) s ∧ sp_gr a t co (fun i => v (14 + i)) c (i + 1) = sp_gr a t co (fun i => v (14 + i)) c i := by
      intro q
      unfold pm_layGreatest_b61 pm_layGreatest_b62 pm_layGreatest_b102
      rw [sp_gr, q]
      simp (disch := omega) only [sm_lt, sm_b1s, sm_b2s, ↓reduceIte, sm_in_nI, nI_clamp, nI_add, pk_mul, pk_sub, ne_addneg, nI_l, ne_ltT, ne_ltF, ne_leT, ne_leF, ne_eqT, ne_eqF, ne_sI1s, ne_sI1n, ne_sI2, ne_sI3, ne_sL1, ne_sL2s, ne_sL2n, ne_sL3, pk_us, pk_un, pk_uLs, pk_uLn, mm_Z, mm_L, mm_1, mm_2, mm_3, ne_rz0, ne_rz1, not_true_eq_false, not_false_eq_true, ne_i0, ne_i1, ne_i2, ne_i3, ne_i4, ne_i5, ne_i6, ne_i7, ne_i8, ne_i9, ne_i10, ne_i12, ne_i14, ne_i16, ne_i18, ne_i19, ne_i20, ne_i23, ne_i24, ne_i27, ne_i29, ne_i30, ne_i31, ne_i32, ne_i35, ne_i48, ne_i52, ne_i54, ne_i57, ne_i59, ne_i63, ne_i64, ne_i76, ne_i77, ne_i78, ne_i79, ne_i80, ne_i81, ne_i97, ne_i99, ne_i100, ne_i101, ne_i104, ne_i105, ne_i108, ne_i110, ne_i111, ne_i116, ne_i117, ne_i122, ne_i103, ne_i200, ne_i255, ne_i256, ne_i320, ne_i384, ne_i1000, ne_l0, ne_l1, ne_l2, ne_l3, ne_l4, ne_l5, ne_l8, ne_l12, ne_l31, ne_l48, ne_l57, ne_l97, ne_l99, ne_l122, ne_l255, ne_l673, ne_l1073741823, ne_l1073741824, Bool.false_eq_true]
      exact ⟨trivial, trivial⟩
    have yes : sp_tc a t c i = true → ∃ s' : Nat × sm_St, (s'.1 = sp_any (sp_gr a t co (fun i => v (14 + i)) c (i + 1)) ∧ ∃ v', nP M v' s'.2 ∧ (∀ m, sp_gr a t co (fun i => v (14 + i)) c (i + 1) = some m → v' 9 = m) ∧ ∀ s, s ≠ 8 → s ≠ 9 → s ≠ 10 + c → v' s = v s) ∧ pm_layGreatest_b57 N (pm_layGreatest_b5 N f) (nI c) (nI b) (nI s0) (nI i) s = pm_layGreatest_b5 N f (nI c) (nI b) (nI s'.1) (nI (i + 1)) s'.2 := by
      intro q
      have hnum : i < a 76 ∨ 4 ≤ i ∧ i < 4 + a 77 := by
        unfold sp_tc at q
        simp only [Bool.and_eq_true, Bool.or_eq_true, decide_eq_true_eq] at q
        omega
      have g18 : v' 18 = v 18 := gf 18 (by decide) (by decide) (by omega)
      obtain ⟨S1, e1, h1'⟩ := np_lay (to := 8) (x := i) hN g ht (by decide) (by decide) hi (fun h4 => hs.2.2.2.2 _ (by omega)) (by rw [g18]; exact hb)
      have evl : sp_val (fun i => v' (14 + i)) co i = sp_val (fun i => v (14 + i)) co i := by
        unfold sp_val
        by_cases h4 : i < 4
        · rw [if_pos h4, if_pos h4]
          exact gf _ (by omega) (by omega) (by omega)
        · rw [if_neg h4, if_neg h4]
          show v' 18 * _ = v 18 * _
          rw [g18]
      rw [evl] at h1'
      obtain ⟨S2, e2, h2'⟩ := nP_copy (a := 9) (b := 8) hN h1' (by omega) (by omega) (by omega) (by omega)
      rw [ne_up_s] at h2'
      have ecmp := nP_compare (a := 8) (b := 9) hN h1' (by omega) (by omega) (by omega) (by omega)
      rw [ne_up_s, ne_up_n (by decide)] at ecmp
      have egr : sp_gr a t co (fun i => v (14 + i)) c (i + 1) = (match sp_gr a t co (fun i => v (14 + i)) c i with | none => some (sp_val (fun i => v (14 + i)) co i) | some m => some (if m < sp_val (fun i => v (14 + i)) co i then sp_val (fun i => v (14 + i)) co i else m)) := by
        rw [sp_gr, if_pos q]
        cases sp_gr a t co (fun i => v (14 + i)) c i <;> rfl
      unfold pm_layGreatest_b57 pm_layGreatest_b62 pm_layGreatest_b92 pm_layGreatest_b100 pm_layGreatest_b102
      cases eo : sp_gr a t co (fun i => v (14 + i)) c i with
      | none =>
        rw [eo] at hany egr
        simp only [sp_any] at hany
        subst hany
        refine ⟨(1, S2), ⟨by rw [egr]; rfl, _, h2', fun m hm => ?_, fun s q8 q9 qc => by rw [ne_up_n q9, ne_up_n q8]; exact gf s q8 q9 qc⟩, ?_⟩
        · rw [egr] at hm
          simp only [Option.some.injEq] at hm
          rw [ne_up_s, hm]
        · simp (disch := omega) only [sm_lt, sm_b1s, sm_b2s, ↓reduceIte, sm_in_nI, nI_clamp, nI_add, pk_mul, pk_sub, ne_addneg, nI_l, ne_ltT, ne_ltF, ne_leT, ne_leF, ne_eqT, ne_eqF, ne_sI1s, ne_sI1n, ne_sI2, ne_sI3, ne_sL1, ne_sL2s, ne_sL2n, ne_sL3, pk_us, pk_un, pk_uLs, pk_uLn, mm_Z, mm_L, mm_1, mm_2, mm_3, ne_rz0, ne_rz1, not_true_eq_false, not_false_eq_true, ne_i0, ne_i1, ne_i2, ne_i3, ne_i4, ne_i5, ne_i6, ne_i7, ne_i8, ne_i9, ne_i10, ne_i12, ne_i14, ne_i16, ne_i18, ne_i19, ne_i20, ne_i23, ne_i24, ne_i27, ne_i29, ne_i30, ne_i31, ne_i32, ne_i35, ne_i48, ne_i52, ne_i54, ne_i57, ne_i59, ne_i63, ne_i64, ne_i76, ne_i77, ne_i78, ne_i79, ne_i80, ne_i81, ne_i97, ne_i99, ne_i100, ne_i101, ne_i104, ne_i105, ne_i108, ne_i110, ne_i111, ne_i116, ne_i117, ne_i122, ne_i103, ne_i200, ne_i255, ne_i256, ne_i320, ne_i384, ne_i1000, ne_l0, ne_l1, ne_l2, ne_l3, ne_l4, ne_l5, ne_l8, ne_l12, ne_l31, ne_l48, ne_l57, ne_l97, ne_l99, ne_l122, ne_l255, ne_l673, ne_l1073741823, ne_l1073741824, e1, e2]
      | some m0 =>
        rw [eo] at hany egr
        simp only [sp_any] at hany
        subst hany
        have h9 := g9 m0 eo
        rw [h9] at ecmp
        by_cases hlt : m0 < sp_val (fun i => v (14 + i)) co i
        · refine ⟨(1, S2), ⟨by rw [egr]; rfl, _, h2', fun m hm => ?_, fun s q8 q9 qc => by rw [ne_up_n q9, ne_up_n q8]; exact gf s q8 q9 qc⟩, ?_⟩
          · rw [egr] at hm
            simp only [Option.some.injEq, if_pos hlt] at hm
            rw [ne_up_s, hm]
          · have hle : ¬ sp_val (fun i => v (14 + i)) co i ≤ m0 := by omega
            simp (disch := omega) only [sm_lt, sm_b1s, sm_b2s, ↓reduceIte, sm_in_nI, nI_clamp, nI_add, pk_mul, pk_sub, ne_addneg, nI_l, ne_ltT, ne_ltF, ne_leT, ne_leF, ne_eqT, ne_eqF, ne_sI1s, ne_sI1n, ne_sI2, ne_sI3, ne_sL1, ne_sL2s, ne_sL2n, ne_sL3, pk_us, pk_un, pk_uLs, pk_uLn, mm_Z, mm_L, mm_1, mm_2, mm_3, ne_rz0, ne_rz1, not_true_eq_false, not_false_eq_true, ne_i0, ne_i1, ne_i2, ne_i3, ne_i4, ne_i5, ne_i6, ne_i7, ne_i8, ne_i9, ne_i10, ne_i12, ne_i14, ne_i16, ne_i18, ne_i19, ne_i20, ne_i23, ne_i24, ne_i27, ne_i29, ne_i30, ne_i31, ne_i32, ne_i35, ne_i48, ne_i52, ne_i54, ne_i57, ne_i59, ne_i63, ne_i64, ne_i76, ne_i77, ne_i78, ne_i79, ne_i80, ne_i81, ne_i97, ne_i99, ne_i100, ne_i101, ne_i104, ne_i105, ne_i108, ne_i110, ne_i111, ne_i116, ne_i117, ne_i122, ne_i103, ne_i200, ne_i255, ne_i256, ne_i320, ne_i384, ne_i1000, ne_l0, ne_l1, ne_l2, ne_l3, ne_l4, ne_l5, ne_l8, ne_l12, ne_l31, ne_l48, ne_l57, ne_l97, ne_l99, ne_l122, ne_l255, ne_l673, ne_l1073741823, ne_l1073741824, e1, ecmp, ne_cmp_le, hle, e2]
        · refine ⟨(1, S1), ⟨by rw [egr]; rfl, _, h1', fun m hm => ?_, fun s q8 q9 qc => by rw [ne_up_n q8]; exact gf s q8 q9 qc⟩, ?_⟩
          · rw [egr] at hm
            simp only [Option.some.injEq, if_neg hlt] at hm
            rw [ne_up_n (by decide), h9, hm]
          · have hle : sp_val (fun i => v (14 + i)) co i ≤ m0 := by omega
            simp (disch := omega) only [sm_lt, sm_b1s, sm_b2s, ↓reduceIte, sm_in_nI, nI_clamp, nI_add, pk_mul, pk_sub, ne_addneg, nI_l, ne_ltT, ne_ltF, ne_leT, ne_leF, ne_eqT, ne_eqF, ne_sI1s, ne_sI1n, ne_sI2, ne_sI3, ne_sL1, ne_sL2s, ne_sL2n, ne_sL3, pk_us, pk_un, pk_uLs, pk_uLn, mm_Z, mm_L, mm_1, mm_2, mm_3, ne_rz0, ne_rz1, not_true_eq_false, not_false_eq_true, ne_i0, ne_i1, ne_i2, ne_i3, ne_i4, ne_i5, ne_i6, ne_i7, ne_i8, ne_i9, ne_i10, ne_i12, ne_i14, ne_i16, ne_i18, ne_i19, ne_i20, ne_i23, ne_i24, ne_i27, ne_i29, ne_i30, ne_i31, ne_i32, ne_i35, ne_i48, ne_i52, ne_i54, ne_i57, ne_i59, ne_i63, ne_i64, ne_i76, ne_i77, ne_i78, ne_i79, ne_i80, ne_i81, ne_i97, ne_i99, ne_i100, ne_i101, ne_i104, ne_i105, ne_i108, ne_i110, ne_i111, ne_i116, ne_i117, ne_i122, ne_i103, ne_i200, ne_i255, ne_i256, ne_i320, ne_i384, ne_i1000, ne_l0, ne_l1, ne_l2, ne_l3, ne_l4, ne_l5, ne_l8, ne_l12, ne_l31, ne_l48, ne_l57, ne_l97, ne_l99, ne_l122, ne_l255, ne_l673, ne_l1073741823, ne_l1073741824, e1, ecmp, ne_cmp_le, hle]
    -- the step in itself
    have fin_no : sp_tc a t c i = false → pm_layGreatest_b5 N (f + 1) (nI c) (nI b) (nI s0) (nI i) s = pm_layGreatest_b61 N (pm_layGreatest_b5 N f) (nI c) (nI b) (nI s0) (nI i) s → ∃ s' : Nat × sm_St, (s'.1 = sp_any (sp_gr a t co (fun i => v (14 + i)) c (i + 1)) ∧ ∃ v', nP M v' s'.2 ∧ (∀ m, sp_gr a t co (fun i => v (14 + i)) c (i + 1) = some m → v' 9 = m) ∧ ∀ s, s ≠ 8 → s ≠ 9 → s ≠ 10 + c → v' s = v s) ∧ pm_layGreatest_b5 N (f + 1) (nI c) (nI b) (nI s0) (nI i) s = pm_layGreatest_b5 N f (nI c) (nI b) (nI s'.1) (nI (i + 1)) s'.2 := by
      intro q e
      have := no q
      refine ⟨(s0, s), ⟨by rw [this.2]; exact hany, v', g, by rw [this.2]; exact g9, gf⟩, by rw [e, this.1]⟩
    have fin_yes : sp_tc a t c i = true → pm_layGreatest_b5 N (f + 1) (nI c) (nI b) (nI s0) (nI i) s = pm_layGreatest_b57 N (pm_layGreatest_b5 N f) (nI c) (nI b) (nI s0) (nI i) s → ∃ s' : Nat × sm_St, (s'.1 = sp_any (sp_gr a t co (fun i => v (14 + i)) c (i + 1)) ∧ ∃ v', nP M v' s'.2 ∧ (∀ m, sp_gr a t co (fun i => v (14 + i)) c (i + 1) = some m → v' 9 = m) ∧ ∀ s, s ≠ 8 → s ≠ 9 → s ≠ 10 + c → v' s = v s) ∧ pm_layGreatest_b5 N (f + 1) (nI c) (nI b) (nI s0) (nI i) s = pm_layGreatest_b5 N f (nI c) (nI b) (nI s'.1) (nI (i + 1)) s'.2 := by
      intro q e
      rw [e]
      exact yes q
    have tc : ∀ p : Prop, (sp_tc a t c i = true ↔ p) → (¬ p → sp_tc a t c i = false) := fun p hp np => by
      rw [← hp] at np
      exact Bool.eq_false_iff.mpr np
    have tci : sp_tc a t c i = true ↔ i ≠ c ∧ ((i < a 76 ∧ a (4 * i) ≠ 2 ∧ a (4 * i) ≠ 4) ∨ 4 ≤ i ∧ i < 4 + a 77) ∧ 0 < t (8 * c + i) := by
      unfold sp_tc
      simp only [Bool.and_eq_true, Bool.or_eq_true, decide_eq_true_eq]
      omega
    by_cases hic : i = c
    · refine fin_no (tc _ tci (by omega)) ?_
      rw [pm_layGreatest_b5]
      simp (disch := omega) only [sm_lt, sm_b1s, sm_b2s, ↓reduceIte, sm_in_nI, nI_clamp, nI_add, pk_mul, pk_sub, ne_addneg, nI_l, ne_ltT, ne_ltF, ne_leT, ne_leF, ne_eqT, ne_eqF, ne_sI1s, ne_sI1n, ne_sI2, ne_sI3, ne_sL1, ne_sL2s, ne_sL2n, ne_sL3, pk_us, pk_un, pk_uLs, pk_uLn, mm_Z, mm_L, mm_1, mm_2, mm_3, ne_rz0, ne_rz1, not_true_eq_false, not_false_eq_true, ne_i0, ne_i1, ne_i2, ne_i3, ne_i4, ne_i5, ne_i6, ne_i7, ne_i8, ne_i9, ne_i10, ne_i12, ne_i14, ne_i16, ne_i18, ne_i19, ne_i20, ne_i23, ne_i24, ne_i27, ne_i29, ne_i30, ne_i31, ne_i32, ne_i35, ne_i48, ne_i52, ne_i54, ne_i57, ne_i59, ne_i63, ne_i64, ne_i76, ne_i77, ne_i78, ne_i79, ne_i80, ne_i81, ne_i97, ne_i99, ne_i100, ne_i101, ne_i104, ne_i105, ne_i108, ne_i110, ne_i111, ne_i116, ne_i117, ne_i122, ne_i103, ne_i200, ne_i255, ne_i256, ne_i320, ne_i384, ne_i1000, ne_l0, ne_l1, ne_l2, ne_l3, ne_l4, ne_l5, ne_l8, ne_l12, ne_l31, ne_l48, ne_l57, ne_l97, ne_l99, ne_l122, ne_l255, ne_l673, ne_l1073741823, ne_l1073741824]
    · by_cases hn : i < a 76 ∨ 4 ≤ i ∧ i < 4 + a 77
      · have en := np_numT (N := N) hwS h1 h2 hn
        by_cases h0 : 0 < t (8 * c + i)
        · by_cases hi4 : 3 < i
          · refine fin_yes (tci.mpr ⟨hic, Or.inr (by omega), h0⟩) ?_
            rw [pm_layGreatest_b5]
            simp (disch := omega) only [sm_lt, sm_b1s, sm_b2s, ↓reduceIte, sm_in_nI, nI_clamp, nI_add, pk_mul, pk_sub, ne_addneg, nI_l, ne_ltT, ne_ltF, ne_leT, ne_leF, ne_eqT, ne_eqF, ne_sI1s, ne_sI1n, ne_sI2, ne_sI3, ne_sL1, ne_sL2s, ne_sL2n, ne_sL3, pk_us, pk_un, pk_uLs, pk_uLn, mm_Z, mm_L, mm_1, mm_2, mm_3, ne_rz0, ne_rz1, not_true_eq_false, not_false_eq_true, ne_i0, ne_i1, ne_i2, ne_i3, ne_i4, ne_i5, ne_i6, ne_i7, ne_i8, ne_i9, ne_i10, ne_i12, ne_i14, ne_i16, ne_i18, ne_i19, ne_i20, ne_i23, ne_i24, ne_i27, ne_i29, ne_i30, ne_i31, ne_i32, ne_i35, ne_i48, ne_i52, ne_i54, ne_i57, ne_i59, ne_i63, ne_i64, ne_i76, ne_i77, ne_i78, ne_i79, ne_i80, ne_i81, ne_i97, ne_i99, ne_i100, ne_i101, ne_i104, ne_i105, ne_i108, ne_i110, ne_i111, ne_i116, ne_i117, ne_i122, ne_i103, ne_i200, ne_i255, ne_i256, ne_i320, ne_i384, ne_i1000, ne_l0, ne_l1, ne_l2, ne_l3, ne_l4, ne_l5, ne_l8, ne_l12, ne_l31, ne_l48, ne_l57, ne_l97, ne_l99, ne_l122, ne_l255, ne_l673, ne_l1073741823, ne_l1073741824, en, ht1]
          · have k3 := (hs.2.2.1 i (by omega)).1
            by_cases hg : a (4 * i) ≠ 2 ∧ a (4 * i) ≠ 4
            · refine fin_yes (tci.mpr ⟨hic, Or.inl ⟨by omega, hg⟩, h0⟩) ?_
              rw [pm_layGreatest_b5]
              simp (disch := omega) only [sm_lt, sm_b1s, sm_b2s, ↓reduceIte, sm_in_nI, nI_clamp, nI_add, pk_mul, pk_sub, ne_addneg, nI_l, ne_ltT, ne_ltF, ne_leT, ne_leF, ne_eqT, ne_eqF, ne_sI1s, ne_sI1n, ne_sI2, ne_sI3, ne_sL1, ne_sL2s, ne_sL2n, ne_sL3, pk_us, pk_un, pk_uLs, pk_uLn, mm_Z, mm_L, mm_1, mm_2, mm_3, ne_rz0, ne_rz1, not_true_eq_false, not_false_eq_true, ne_i0, ne_i1, ne_i2, ne_i3, ne_i4, ne_i5, ne_i6, ne_i7, ne_i8, ne_i9, ne_i10, ne_i12, ne_i14, ne_i16, ne_i18, ne_i19, ne_i20, ne_i23, ne_i24, ne_i27, ne_i29, ne_i30, ne_i31, ne_i32, ne_i35, ne_i48, ne_i52, ne_i54, ne_i57, ne_i59, ne_i63, ne_i64, ne_i76, ne_i77, ne_i78, ne_i79, ne_i80, ne_i81, ne_i97, ne_i99, ne_i100, ne_i101, ne_i104, ne_i105, ne_i108, ne_i110, ne_i111, ne_i116, ne_i117, ne_i122, ne_i103, ne_i200, ne_i255, ne_i256, ne_i320, ne_i384, ne_i1000, ne_l0, ne_l1, ne_l2, ne_l3, ne_l4, ne_l5, ne_l8, ne_l12, ne_l31, ne_l48, ne_l57, ne_l97, ne_l99, ne_l122, ne_l255, ne_l673, ne_l1073741823, ne_l1073741824, en, ht1, np_gT hwS (by omega) k3 hg]
            · refine fin_no (tc _ tci (by omega)) ?_
              rw [pm_layGreatest_b5]
              simp (disch := omega) only [sm_lt, sm_b1s, sm_b2s, ↓reduceIte, sm_in_nI, nI_clamp, nI_add, pk_mul, pk_sub, ne_addneg, nI_l, ne_ltT, ne_ltF, ne_leT, ne_leF, ne_eqT, ne_eqF, ne_sI1s, ne_sI1n, ne_sI2, ne_sI3, ne_sL1, ne_sL2s, ne_sL2n, ne_sL3, pk_us, pk_un, pk_uLs, pk_uLn, mm_Z, mm_L, mm_1, mm_2, mm_3, ne_rz0, ne_rz1, not_true_eq_false, not_false_eq_true, ne_i0, ne_i1, ne_i2, ne_i3, ne_i4, ne_i5, ne_i6, ne_i7, ne_i8, ne_i9, ne_i10, ne_i12, ne_i14, ne_i16, ne_i18, ne_i19, ne_i20, ne_i23, ne_i24, ne_i27, ne_i29, ne_i30, ne_i31, ne_i32, ne_i35, ne_i48, ne_i52, ne_i54, ne_i57, ne_i59, ne_i63, ne_i64, ne_i76, ne_i77, ne_i78, ne_i79, ne_i80, ne_i81, ne_i97, ne_i99, ne_i100, ne_i101, ne_i104, ne_i105, ne_i108, ne_i110, ne_i111, ne_i116, ne_i117, ne_i122, ne_i103, ne_i200, ne_i255, ne_i256, ne_i320, ne_i384, ne_i1000, ne_l0, ne_l1, ne_l2, ne_l3, ne_l4, ne_l5, ne_l8, ne_l12, ne_l31, ne_l48, ne_l57, ne_l97, ne_l99, ne_l122, ne_l255, ne_l673, ne_l1073741823, ne_l1073741824, en, ht1, np_gF hwS (by omega) k3 hg]
        · refine fin_no (tc _ tci (by omega)) ?_
          rw [pm_layGreatest_b5]
          simp (disch := omega) only [sm_lt, sm_b1s, sm_b2s, ↓reduceIte, sm_in_nI, nI_clamp, nI_add, pk_mul, pk_sub, ne_addneg, nI_l, ne_ltT, ne_ltF, ne_leT, ne_leF, ne_eqT, ne_eqF, ne_sI1s, ne_sI1n, ne_sI2, ne_sI3, ne_sL1, ne_sL2s, ne_sL2n, ne_sL3, pk_us, pk_un, pk_uLs, pk_uLn, mm_Z, mm_L, mm_1, mm_2, mm_3, ne_rz0, ne_rz1, not_true_eq_false, not_false_eq_true, ne_i0, ne_i1, ne_i2, ne_i3, ne_i4, ne_i5, ne_i6, ne_i7, ne_i8, ne_i9, ne_i10, ne_i12, ne_i14, ne_i16, ne_i18, ne_i19, ne_i20, ne_i23, ne_i24, ne_i27, ne_i29, ne_i30, ne_i31, ne_i32, ne_i35, ne_i48, ne_i52, ne_i54, ne_i57, ne_i59, ne_i63, ne_i64, ne_i76, ne_i77, ne_i78, ne_i79, ne_i80, ne_i81, ne_i97, ne_i99, ne_i100, ne_i101, ne_i104, ne_i105, ne_i108, ne_i110, ne_i111, ne_i116, ne_i117, ne_i122, ne_i103, ne_i200, ne_i255, ne_i256, ne_i320, ne_i384, ne_i1000, ne_l0, ne_l1, ne_l2, ne_l3, ne_l4, ne_l5, ne_l8, ne_l12, ne_l31, ne_l48, ne_l57, ne_l97, ne_l99, ne_l122, ne_l255, ne_l673, ne_l1073741823, ne_l1073741824, en, ht1]
      · have en := np_numF (N := N) hwS h1 h2 hn (by omega)
        refine fin_no (tc _ tci (by omega)) ?_
        rw [pm_layGreatest_b5]
        simp (disch := omega) only [sm_lt, sm_b1s, sm_b2s, ↓reduceIte, sm_in_nI, nI_clamp, nI_add, pk_mul, pk_sub, ne_addneg, nI_l, ne_ltT, ne_ltF, ne_leT, ne_leF, ne_eqT, ne_eqF, ne_sI1s, ne_sI1n, ne_sI2, ne_sI3, ne_sL1, ne_sL2s, ne_sL2n, ne_sL3, pk_us, pk_un, pk_uLs, pk_uLn, mm_Z, mm_L, mm_1, mm_2, mm_3, ne_rz0, ne_rz1, not_true_eq_false, not_false_eq_true, ne_i0, ne_i1, ne_i2, ne_i3, ne_i4, ne_i5, ne_i6, ne_i7, ne_i8, ne_i9, ne_i10, ne_i12, ne_i14, ne_i16, ne_i18, ne_i19, ne_i20, ne_i23, ne_i24, ne_i27, ne_i29, ne_i30, ne_i31, ne_i32, ne_i35, ne_i48, ne_i52, ne_i54, ne_i57, ne_i59, ne_i63, ne_i64, ne_i76, ne_i77, ne_i78, ne_i79, ne_i80, ne_i81, ne_i97, ne_i99, ne_i100, ne_i101, ne_i104, ne_i105, ne_i108, ne_i110, ne_i111, ne_i116, ne_i117, ne_i122, ne_i103, ne_i200, ne_i255, ne_i256, ne_i320, ne_i384, ne_i1000, ne_l0, ne_l1, ne_l2, ne_l3, ne_l4, ne_l5, ne_l8, ne_l12, ne_l31, ne_l48, ne_l57, ne_l97, ne_l99, ne_l122, ne_l255, ne_l673, ne_l1073741823, ne_l1073741824, en]
  · rintro f ⟨s0, s⟩ ⟨hany, v', g, g9, gf⟩
    show ∃ S' v'', pm_layGreatest_b5 N (f + 1) _ _ _ _ _ = some S' ∧ _
    simp only at hany g
    have g14 : v' (14 + c) = v (14 + c) := gf _ (by omega) (by omega) (by omega)
    have hvc := hv c hc
    simp only at hvc
    rw [pm_layGreatest_b5]
    unfold pm_layGreatest_b126
    cases eo : sp_gr a t co (fun i => v (14 + i)) c 8 with
    | none =>
      rw [eo] at hany
      simp only [sp_any] at hany
      subst hany
      obtain ⟨S1, e1, h1⟩ := nP_copy (a := 10 + c) (b := 14 + c) hN g (by omega) (by omega) (by omega) (by omega)
      obtain ⟨S2, e2, h2⟩ := nP_times (a := 10 + c) (m := b) hN h1 (by omega) (by omega) (by omega) (by
        rw [ne_up_s, g14]
        calc v (14 + c) * b ≤ (12 * v 18) * 1874161 := Nat.mul_le_mul hvc hby
          _ = v 18 * 22489932 := by omega
          _ < nm_B ^ 60 := sp_big hb (by decide))
      rw [ne_up_s, bx_uu, g14] at h2
      refine ⟨S2, _, ?_, h2, ne_up_s, fun s q8 q9 qc => by rw [ne_up_n qc]; exact gf s q8 q9 qc⟩
      simp (disch := omega) only [sm_lt, sm_b1s, sm_b2s, ↓reduceIte, sm_in_nI, nI_clamp, nI_add, pk_mul, pk_sub, ne_addneg, nI_l, ne_ltT, ne_ltF, ne_leT, ne_leF, ne_eqT, ne_eqF, ne_sI1s, ne_sI1n, ne_sI2, ne_sI3, ne_sL1, ne_sL2s, ne_sL2n, ne_sL3, pk_us, pk_un, pk_uLs, pk_uLn, mm_Z, mm_L, mm_1, mm_2, mm_3, ne_rz0, ne_rz1, not_true_eq_false, not_false_eq_true, ne_i0, ne_i1, ne_i2, ne_i3, ne_i4, ne_i5, ne_i6, ne_i7, ne_i8, ne_i9, ne_i10, ne_i12, ne_i14, ne_i16, ne_i18, ne_i19, ne_i20, ne_i23, ne_i24, ne_i27, ne_i29, ne_i30, ne_i31, ne_i32, ne_i35, ne_i48, ne_i52, ne_i54, ne_i57, ne_i59, ne_i63, ne_i64, ne_i76, ne_i77, ne_i78, ne_i79, ne_i80, ne_i81, ne_i97, ne_i99, ne_i100, ne_i101, ne_i104, ne_i105, ne_i108, ne_i110, ne_i111, ne_i116, ne_i117, ne_i122, ne_i103, ne_i200, ne_i255, ne_i256, ne_i320, ne_i384, ne_i1000, ne_l0, ne_l1, ne_l2, ne_l3, ne_l4, ne_l5, ne_l8, ne_l12, ne_l31, ne_l48, ne_l57, ne_l97, ne_l99, ne_l122, ne_l255, ne_l673, ne_l1073741823, ne_l1073741824, e1, e2]
    | some m =>
      rw [eo] at hany
      simp only [sp_any] at hany
      subst hany
      have h9 := g9 m eo
      have hm := grl 8 m eo
      obtain ⟨S1, e1, h1⟩ := nP_copy (a := 10 + c) (b := 9) hN g (by omega) (by omega) (by omega) (by omega)
      obtain ⟨S2, e2, h2⟩ := nP_times (a := 10 + c) (m := b) hN h1 (by omega) (by omega) (by omega) (by
        rw [ne_up_s, h9]
        calc m * b ≤ (12 * v 18) * 1874161 := Nat.mul_le_mul hm hby
          _ = v 18 * 22489932 := by omega
          _ < nm_B ^ 60 := sp_big hb (by decide))
      rw [ne_up_s, bx_uu, h9] at h2
      refine ⟨S2, _, ?_, h2, ne_up_s, fun s q8 q9 qc => by rw [ne_up_n qc]; exact gf s q8 q9 qc⟩
      simp (disch := omega) only [sm_lt, sm_b1s, sm_b2s, ↓reduceIte, sm_in_nI, nI_clamp, nI_add, pk_mul, pk_sub, ne_addneg, nI_l, ne_ltT, ne_ltF, ne_leT, ne_leF, ne_eqT, ne_eqF, ne_sI1s, ne_sI1n, ne_sI2, ne_sI3, ne_sL1, ne_sL2s, ne_sL2n, ne_sL3, pk_us, pk_un, pk_uLs, pk_uLn, mm_Z, mm_L, mm_1, mm_2, mm_3, ne_rz0, ne_rz1, not_true_eq_false, not_false_eq_true, ne_i0, ne_i1, ne_i2, ne_i3, ne_i4, ne_i5, ne_i6, ne_i7, ne_i8, ne_i9, ne_i10, ne_i12, ne_i14, ne_i16, ne_i18, ne_i19, ne_i20, ne_i23, ne_i24, ne_i27, ne_i29, ne_i30, ne_i31, ne_i32, ne_i35, ne_i48, ne_i52, ne_i54, ne_i57, ne_i59, ne_i63, ne_i64, ne_i76, ne_i77, ne_i78, ne_i79, ne_i80, ne_i81, ne_i97, ne_i99, ne_i100, ne_i101, ne_i104, ne_i105, ne_i108, ne_i110, ne_i111, ne_i116, ne_i117, ne_i122, ne_i103, ne_i200, ne_i255, ne_i256, ne_i320, ne_i384, ne_i1000, ne_l0, ne_l1, ne_l2, ne_l3, ne_l4, ne_l5, ne_l8, ne_l12, ne_l31, ne_l48, ne_l57, ne_l97, ne_l99, ne_l122, ne_l255, ne_l673, ne_l1073741823, ne_l1073741824, e1, e2]
end
