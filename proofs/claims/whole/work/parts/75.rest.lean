def sp_av (a : Nat → Nat) : Nat → Bool
  | 0 => false
  | n + 1 => sp_av a n || decide (a (4 * n) = 4)
theorem sp_av_t {a : Nat → Nat} {i : Nat} (h : a (4 * i) = 4) : ∀ n, i < n → sp_av a n = true
  | 0, hn => by omega
  | n + 1, hn => by
    rw [sp_av]
    by_cases q : i = n
    · rw [← q, decide_eq_true h, Bool.or_true]
    · rw [sp_av_t h n (by omega), Bool.true_or]
theorem sp_av_f {a : Nat → Nat} : ∀ n, (∀ i, i < n → a (4 * i) ≠ 4) → sp_av a n = false
  | 0, _ => rfl
  | n + 1, h => by
    rw [sp_av, sp_av_f n (fun i hi => h i (by omega)), decide_eq_false (h n (by omega))]
    rfl
section
variable {N : Nat} {M S : sm_St} {v a t co F : Nat → Nat}
theorem np_vain (hN : 4000 ≤ N) (hw : nw a S) (k4 : a 76 ≤ 4) (hk : ∀ i, i < a 76 → a (4 * i) ≤ 4) : pm_isAnyVain N S = some (nI (sp_b (sp_av a (a 76))), S) := by
  have hc := np_cloths (N := N) hw
  have e1 : sp_b true = 1 := rfl
  have e0 : sp_b false = 0 := rfl
  unfold pm_isAnyVain
  simp only [sm_lt]
  have st : pm_isAnyVain_b4 N N (0 : Int32) (0 : Int32) S = pm_isAnyVain_b4 N N (nI (sp_b (sp_av a 0))) (nI 0) S := rfl
  rw [st]
  refine ne_loop (fun f i (_ : Unit) => pm_isAnyVain_b4 N f (nI (sp_b (sp_av a i))) (nI i) S) (fun _ _ => True) (a 76) (fun r => r = some (nI (sp_b (sp_av a (a 76))), S)) ?_ ?_ N 0 () (by omega) (by omega) trivial
  · intro f i _ hi _
    left
    have hki := hk i hi
    refine ⟨(), trivial, ?_⟩
    show pm_isAnyVain_b4 N (f + 1) _ _ _ = pm_isAnyVain_b4 N f _ _ _
    rw [pm_isAnyVain_b4]
    unfold pm_isAnyVain_b25 pm_isAnyVain_b30
    cases hv : sp_av a i with
    | true =>
      have e : sp_av a (i + 1) = true := by rw [sp_av, hv]; rfl
      rw [e, e1]
      simp (disch := omega) only [sm_lt, sm_b1s, sm_b2s, ↓reduceIte, sm_in_nI, nI_clamp, nI_add, pk_mul, pk_sub, ne_addneg, nI_l, ne_ltT, ne_ltF, ne_leT, ne_leF, ne_eqT, ne_eqF, ne_sI1s, ne_sI1n, ne_sI2, ne_sI3, ne_sL1, ne_sL2s, ne_sL2n, ne_sL3, pk_us, pk_un, pk_uLs, pk_uLn, mm_Z, mm_L, mm_1, mm_2, mm_3, ne_rz0, ne_rz1, not_true_eq_false, not_false_eq_true, ne_i0, ne_i1, ne_i2, ne_i3, ne_i4, ne_i5, ne_i6, ne_i7, ne_i8, ne_i9, ne_i10, ne_i12, ne_i14, ne_i16, ne_i18, ne_i19, ne_i20, ne_i23, ne_i24, ne_i27, ne_i29, ne_i30, ne_i31, ne_i32, ne_i35, ne_i48, ne_i52, ne_i54, ne_i57, ne_i59, ne_i63, ne_i64, ne_i76, ne_i77, ne_i78, ne_i79, ne_i80, ne_i81, ne_i97, ne_i99, ne_i100, ne_i101, ne_i104, ne_i105, ne_i108, ne_i110, ne_i111, ne_i116, ne_i117, ne_i122, ne_i103, ne_i200, ne_i255, ne_i256, ne_i320, ne_i384, ne_i1000, ne_l0, ne_l1, ne_l2, ne_l3, ne_l4, ne_l5, ne_l8, ne_l12, ne_l31, ne_l48, ne_l57, ne_l97, ne_l99, ne_l122, ne_l255, ne_l673, ne_l1073741823, ne_l1073741824, hc]
    | false =>
      by_cases q : a (4 * i) = 4
      · have e : sp_av a (i + 1) = true := by rw [sp_av, hv, decide_eq_true q]; rfl
        rw [e, e1, e0]
        simp (disch := omega) only [sm_lt, sm_b1s, sm_b2s, ↓reduceIte, sm_in_nI, nI_clamp, nI_add, pk_mul, pk_sub, ne_addneg, nI_l, ne_ltT, ne_ltF, ne_leT, ne_leF, ne_eqT, ne_eqF, ne_sI1s, ne_sI1n, ne_sI2, ne_sI3, ne_sL1, ne_sL2s, ne_sL2n, ne_sL3, pk_us, pk_un, pk_uLs, pk_uLn, mm_Z, mm_L, mm_1, mm_2, mm_3, ne_rz0, ne_rz1, not_true_eq_false, not_false_eq_true, ne_i0, ne_i1, ne_i2, ne_i3, ne_i4, ne_i5, ne_i6, ne_i7, ne_i8, ne_i9, ne_i10, ne_i12, ne_i14, ne_i16, ne_i18, ne_i19, ne_i20, ne_i23, ne_i24, ne_i27, ne_i29, ne_i30, ne_i31, ne_i32, ne_i35, ne_i48, ne_i52, ne_i54, ne_i57, ne_i59, ne_i63, ne_i64, ne_i76, ne_i77, ne_i78, ne_i79, ne_i80, ne_i81, ne_i97, ne_i99, ne_i100, ne_i101, ne_i104, ne_i105, ne_i108, ne_i110, ne_i111, ne_i116, ne_i117, ne_i122, ne_i103, ne_i200, ne_i255, ne_i256, ne_i320, ne_i384, ne_i1000, ne_l0, ne_l1, ne_l2, ne_l3, ne_l4, ne_l5, ne_l8, ne_l12, ne_l31, ne_l48, ne_l57, ne_l97, ne_l99, ne_l122, ne_l255, ne_l673, ne_l1073741823, ne_l1073741824, hc, np_kindOf hw]
      · have e : sp_av a (i + 1) = false := by rw [sp_av, hv, decide_eq_false q]; rfl
        rw [e, e0]
        simp (disch := omega) only [sm_lt, sm_b1s, sm_b2s, ↓reduceIte, sm_in_nI, nI_clamp, nI_add, pk_mul, pk_sub, ne_addneg, nI_l, ne_ltT, ne_ltF, ne_leT, ne_leF, ne_eqT, ne_eqF, ne_sI1s, ne_sI1n, ne_sI2, ne_sI3, ne_sL1, ne_sL2s, ne_sL2n, ne_sL3, pk_us, pk_un, pk_uLs, pk_uLn, mm_Z, mm_L, mm_1, mm_2, mm_3, ne_rz0, ne_rz1, not_true_eq_false, not_false_eq_true, ne_i0, ne_i1, ne_i2, ne_i3, ne_i4, ne_i5, ne_i6, ne_i7, ne_i8, ne_i9, ne_i10, ne_i12, ne_i14, ne_i16, ne_i18, ne_i19, ne_i20, ne_i23, ne_i24, ne_i27, ne_i29, ne_i30, ne_i31, ne_i32, ne_i35, ne_i48, ne_i52, ne_i54, ne_i57, ne_i59, ne_i63, ne_i64, ne_i76, ne_i77, ne_i78, ne_i79, ne_i80, ne_i81, ne_i97, ne_i99, ne_i100, ne_i101, ne_i104, ne_i105, ne_i108, ne_i110, ne_i111, ne_i116, ne_i117, ne_i122, ne_i103, ne_i200, ne_i255, ne_i256, ne_i320, ne_i384, ne_i1000, ne_l0, ne_l1, ne_l2, ne_l3, ne_l4, ne_l5, ne_l8, ne_l12, ne_l31, ne_l48, ne_l57, ne_l97, ne_l99, ne_l122, ne_l255, ne_l673, ne_l1073741823, ne_l1073741824, hc, np_kindOf hw]
  · intro f _ _
    show pm_isAnyVain_b4 N (f + 1) _ _ _ = _
    rw [pm_isAnyVain_b4]
    cases hv : sp_av a (a 76) with
    | true =>
      rw [e1]
      simp (disch := omega) only [sm_lt, sm_b1s, sm_b2s, ↓reduceIte, sm_in_nI, nI_clamp, nI_add, pk_mul, pk_sub, ne_addneg, nI_l, ne_ltT, ne_ltF, ne_leT, ne_leF, ne_eqT, ne_eqF, ne_sI1s, ne_sI1n, ne_sI2, ne_sI3, ne_sL1, ne_sL2s, ne_sL2n, ne_sL3, pk_us, pk_un, pk_uLs, pk_uLn, mm_Z, mm_L, mm_1, mm_2, mm_3, ne_rz0, ne_rz1, not_true_eq_false, not_false_eq_true, ne_i0, ne_i1, ne_i2, ne_i3, ne_i4, ne_i5, ne_i6, ne_i7, ne_i8, ne_i9, ne_i10, ne_i12, ne_i14, ne_i16, ne_i18, ne_i19, ne_i20, ne_i23, ne_i24, ne_i27, ne_i29, ne_i30, ne_i31, ne_i32, ne_i35, ne_i48, ne_i52, ne_i54, ne_i57, ne_i59, ne_i63, ne_i64, ne_i76, ne_i77, ne_i78, ne_i79, ne_i80, ne_i81, ne_i97, ne_i99, ne_i100, ne_i101, ne_i104, ne_i105, ne_i108, ne_i110, ne_i111, ne_i116, ne_i117, ne_i122, ne_i103, ne_i200, ne_i255, ne_i256, ne_i320, ne_i384, ne_i1000, ne_l0, ne_l1, ne_l2, ne_l3, ne_l4, ne_l5, ne_l8, ne_l12, ne_l31, ne_l48, ne_l57, ne_l97, ne_l99, ne_l122, ne_l255, ne_l673, ne_l1073741823, ne_l1073741824, hc]
    | false =>
      rw [e0]
      simp (disch := omega) only [sm_lt, sm_b1s, sm_b2s, ↓reduceIte, sm_in_nI, nI_clamp, nI_add, pk_mul, pk_sub, ne_addneg, nI_l, ne_ltT, ne_ltF, ne_leT, ne_leF, ne_eqT, ne_eqF, ne_sI1s, ne_sI1n, ne_sI2, ne_sI3, ne_sL1, ne_sL2s, ne_sL2n, ne_sL3, pk_us, pk_un, pk_uLs, pk_uLn, mm_Z, mm_L, mm_1, mm_2, mm_3, ne_rz0, ne_rz1, not_true_eq_false, not_false_eq_true, ne_i0, ne_i1, ne_i2, ne_i3, ne_i4, ne_i5, ne_i6, ne_i7, ne_i8, ne_i9, ne_i10, ne_i12, ne_i14, ne_i16, ne_i18, ne_i19, ne_i20, ne_i23, ne_i24, ne_i27, ne_i29, ne_i30, ne_i31, ne_i32, ne_i35, ne_i48, ne_i52, ne_i54, ne_i57, ne_i59, ne_i63, ne_i64, ne_i76, ne_i77, ne_i78, ne_i79, ne_i80, ne_i81, ne_i97, ne_i99, ne_i100, ne_i101, ne_i104, ne_i105, ne_i108, ne_i110, ne_i111, ne_i116, ne_i117, ne_i122, ne_i103, ne_i200, ne_i255, ne_i256, ne_i320, ne_i384, ne_i1000, ne_l0, ne_l1, ne_l2, ne_l3, ne_l4, ne_l5, ne_l8, ne_l12, ne_l31, ne_l48, ne_l57, ne_l97, ne_l99, ne_l122, ne_l255, ne_l673, ne_l1073741823, ne_l1073741824, hc]
/-- what a cloth has of what is fixed -/
theorem np_layFixed {c : Nat} (hN : 4000 ≤ N) (h : nP M v S) (hw : nw a M) (ht : nt t co M) (hs : sc a t co) (hc : c < a 76) (hb : v 18 < 2 ^ 1000) : ∃ S' v', pm_layFixed N S (nI c) = some S' ∧ nP M v' S' ∧ v' 7 = (if 0 < sp_ts a t c 8 then v 18 * sp_tp a t co c (a 77) else v (14 + c)) ∧ ∀ s, s ≠ 7 → s ≠ 8 → v' s = v s := by
  have hk4 := hs.1
  have tl := sp_ts_le hs hc
  have eta := np_takesAll (N := N) hN (nP_nw h hw) (nP_nt h ht) hs hc
  have tpb : ∀ n, n ≤ 4 → sp_tp a t co c n ≤ 288 := fun n hn => by
    have mono : ∀ m, m ≤ 4 → ∀ d, m + d ≤ 4 → sp_tp a t co c m ≤ sp_tp a t co c (m + d) := fun m _ d => by
      induction d with
      | zero => intro _; exact Nat.le_refl _
      | succ d ih =>
        intro hd
        rw [← Nat.add_assoc, sp_tp]
        exact Nat.le_trans (ih (by omega)) (Nat.le_add_right _ _)
    have := mono n hn (4 - n) (by omega)
    rw [show n + (4 - n) = 4 by omega, sp_tp4 hs hc] at this
    exact Nat.le_trans this (sp_tp_le hs hc)
  unfold pm_layFixed
  by_cases h0 : 0 < sp_ts a t c 8
  · rw [if_pos h0]
    obtain ⟨S0, e0, p0⟩ := nP_set (N := N) (a := 7) (x := 0) hN h (by decide) (by decide)
    simp (disch := omega) only [sm_lt, sm_b1s, sm_b2s, ↓reduceIte, sm_in_nI, nI_clamp, nI_add, pk_mul, pk_sub, ne_addneg, nI_l, ne_ltT, ne_ltF, ne_leT, ne_leF, ne_eqT, ne_eqF, ne_sI1s, ne_sI1n, ne_sI2, ne_sI3, ne_sL1, ne_sL2s, ne_sL2n, ne_sL3, pk_us, pk_un, pk_uLs, pk_uLn, mm_Z, mm_L, mm_1, mm_2, mm_3, ne_rz0, ne_rz1, not_true_eq_false, not_false_eq_true, ne_i0, ne_i1, ne_i2, ne_i3, ne_i4, ne_i5, ne_i6, ne_i7, ne_i8, ne_i9, ne_i10, ne_i12, ne_i14, ne_i16, ne_i18, ne_i19, ne_i20, ne_i23, ne_i24, ne_i27, ne_i29, ne_i30, ne_i31, ne_i32, ne_i35, ne_i48, ne_i52, ne_i54, ne_i57, ne_i59, ne_i63, ne_i64, ne_i76, ne_i77, ne_i78, ne_i79, ne_i80, ne_i81, ne_i97, ne_i99, ne_i100, ne_i101, ne_i104, ne_i105, ne_i108, ne_i110, ne_i111, ne_i116, ne_i117, ne_i122, ne_i103, ne_i200, ne_i255, ne_i256, ne_i320, ne_i384, ne_i1000, ne_l0, ne_l1, ne_l2, ne_l3, ne_l4, ne_l5, ne_l8, ne_l12, ne_l31, ne_l48, ne_l57, ne_l97, ne_l99, ne_l122, ne_l255, ne_l673, ne_l1073741823, ne_l1073741824, eta, e0]
    refine ne_loop (fun f j (s : sm_St) => pm_layFixed_b28 N f (nI c) (nI (4 + j)) s) (fun j s => ∃ v', nP M v' s ∧ v' 7 = v 18 * sp_tp a t co c j ∧ ∀ s, s ≠ 7 → s ≠ 8 → v' s = v s) 4 (fun r => ∃ S' v', r = some S' ∧ nP M v' S' ∧ v' 7 = v 18 * sp_tp a t co c (a 77) ∧ ∀ s, s ≠ 7 → s ≠ 8 → v' s = v s) ?_ ?_ N 0 S0 (by omega) (by omega) ⟨_, p0, by rw [ne_up_s, sp_tp, Nat.mul_zero], fun s h7 _ => ne_up_n h7⟩
    · rintro f j s hj ⟨v', g, g7, gf⟩
      left
      have etk := np_takes (N := N) (c := c) (x := 4 + j) (nP_nw g hw) (nP_nt g ht) hs hc (by omega)
      have tk6 := sp_tk_6 hs hc (x := 4 + j) (by omega)
      have g18 : v' 18 = v 18 := gf 18 (by decide) (by decide)
      show ∃ s', _ ∧ pm_layFixed_b28 N (f + 1) _ _ _ = pm_layFixed_b28 N f _ _ _
      rw [pm_layFixed_b28]
      unfold pm_layFixed_b71
      rcases Nat.eq_zero_or_pos (sp_tk a t c (4 + j)) with e | e
      · refine ⟨s, ⟨v', g, by rw [g7, sp_tp, e, Nat.zero_mul, Nat.add_zero], gf⟩, ?_⟩
        simp (disch := omega) only [sm_lt, sm_b1s, sm_b2s, ↓reduceIte, sm_in_nI, nI_clamp, nI_add, pk_mul, pk_sub, ne_addneg, nI_l, ne_ltT, ne_ltF, ne_leT, ne_leF, ne_eqT, ne_eqF, ne_sI1s, ne_sI1n, ne_sI2, ne_sI3, ne_sL1, ne_sL2s, ne_sL2n, ne_sL3, pk_us, pk_un, pk_uLs, pk_uLn, mm_Z, mm_L, mm_1, mm_2, mm_3, ne_rz0, ne_rz1, not_true_eq_false, not_false_eq_true, ne_i0, ne_i1, ne_i2, ne_i3, ne_i4, ne_i5, ne_i6, ne_i7, ne_i8, ne_i9, ne_i10, ne_i12, ne_i14, ne_i16, ne_i18, ne_i19, ne_i20, ne_i23, ne_i24, ne_i27, ne_i29, ne_i30, ne_i31, ne_i32, ne_i35, ne_i48, ne_i52, ne_i54, ne_i57, ne_i59, ne_i63, ne_i64, ne_i76, ne_i77, ne_i78, ne_i79, ne_i80, ne_i81, ne_i97, ne_i99, ne_i100, ne_i101, ne_i104, ne_i105, ne_i108, ne_i110, ne_i111, ne_i116, ne_i117, ne_i122, ne_i103, ne_i200, ne_i255, ne_i256, ne_i320, ne_i384, ne_i1000, ne_l0, ne_l1, ne_l2, ne_l3, ne_l4, ne_l5, ne_l8, ne_l12, ne_l31, ne_l48, ne_l57, ne_l97, ne_l99, ne_l122, ne_l255, ne_l673, ne_l1073741823, ne_l1073741824, etk, Nat.add_assoc]
      · have hnum := sp_tk_num hc e
        have hco := hs.2.2.2.2 j (by omega)
        obtain ⟨S1, e1, h1⟩ := np_lay (N := N) (to := 8) (x := 4 + j) hN g ht (by decide) (by decide) (by omega) (fun _ => by rw [show 4 + j - 4 = j by omega]; exact hco) (by rw [g18]; exact hb)
        have evl : sp_val (fun i => v' (14 + i)) co (4 + j) = v 18 * co j := by
          unfold sp_val
          rw [if_neg (by omega), show 4 + j - 4 = j by omega]
          show v' 18 * _ = _
          rw [g18]
        rw [evl] at h1
        have c12 : v 18 * co j * sp_tk a t c (4 + j) ≤ v 18 * 72 := by
          rw [Nat.mul_assoc]
          exact Nat.mul_le_mul_left _ (Nat.mul_le_mul hco tk6)
        obtain ⟨S2, e2, h2⟩ := nP_times (N := N) (a := 8) (m := sp_tk a t c (4 + j)) hN h1 (by omega) (by omega) (by omega) (by
          rw [ne_up_s]
          exact Nat.lt_of_le_of_lt c12 (sp_big hb (by decide)))
        rw [ne_up_s, bx_uu] at h2
        have etk2 := np_takes (N := N) (c := c) (x := 4 + j) (nP_nw h1 hw) (nP_nt h1 ht) hs hc (by omega)
        have s7 : v 18 * sp_tp a t co c (j + 1) = va_up v' 8 (v 18 * co j * sp_tk a t c (4 + j)) 7 + va_up v' 8 (v 18 * co j * sp_tk a t c (4 + j)) 8 := by
          rw [ne_up_s, ne_up_n (by decide), g7, sp_tp, Nat.mul_add, Nat.mul_assoc, Nat.mul_comm (co j)]
        obtain ⟨S3, e3, h3⟩ := nP_add (N := N) (a := 7) (b := 8) hN h2 (by omega) (by omega) (by omega) (by omega) (by omega) (by
          rw [← s7]
          exact Nat.lt_of_le_of_lt (Nat.mul_le_mul_left _ (tpb (j + 1) (by omega))) (sp_big hb (by decide)))
        rw [← s7] at h3
        refine ⟨S3, ⟨_, h3, ne_up_s, fun s q7 q8 => by rw [ne_up_n q7, ne_up_n q8]; exact gf s q7 q8⟩, ?_⟩
        simp (disch := omega) only [sm_lt, sm_b1s, sm_b2s, ↓reduceIte, sm_in_nI, nI_clamp, nI_add, pk_mul, pk_sub, ne_addneg, nI_l, ne_ltT, ne_ltF, ne_leT, ne_leF, ne_eqT, ne_eqF, ne_sI1s, ne_sI1n, ne_sI2, ne_sI3, ne_sL1, ne_sL2s, ne_sL2n, ne_sL3, pk_us, pk_un, pk_uLs, pk_uLn, mm_Z, mm_L, mm_1, mm_2, mm_3, ne_rz0, ne_rz1, not_true_eq_false, not_false_eq_true, ne_i0, ne_i1, ne_i2, ne_i3, ne_i4, ne_i5, ne_i6, ne_i7, ne_i8, ne_i9, ne_i10, ne_i12, ne_i14, ne_i16, ne_i18, ne_i19, ne_i20, ne_i23, ne_i24, ne_i27, ne_i29, ne_i30, ne_i31, ne_i32, ne_i35, ne_i48, ne_i52, ne_i54, ne_i57, ne_i59, ne_i63, ne_i64, ne_i76, ne_i77, ne_i78, ne_i79, ne_i80, ne_i81, ne_i97, ne_i99, ne_i100, ne_i101, ne_i104, ne_i105, ne_i108, ne_i110, ne_i111, ne_i116, ne_i117, ne_i122, ne_i103, ne_i200, ne_i255, ne_i256, ne_i320, ne_i384, ne_i1000, ne_l0, ne_l1, ne_l2, ne_l3, ne_l4, ne_l5, ne_l8, ne_l12, ne_l31, ne_l48, ne_l57, ne_l97, ne_l99, ne_l122, ne_l255, ne_l673, ne_l1073741823, ne_l1073741824, etk, e1, etk2, e2, e3, Nat.add_assoc]
    · rintro f s ⟨v', g, g7, gf⟩
      show ∃ S' v'', pm_layFixed_b28 N (f + 1) _ _ _ = _ ∧ _
      rw [pm_layFixed_b28]
      refine ⟨s, v', ?_, g, by rw [g7, sp_tp4 hs hc], gf⟩
      simp (disch := omega) only [sm_lt, sm_b1s, sm_b2s, ↓reduceIte, sm_in_nI, nI_clamp, nI_add, pk_mul, pk_sub, ne_addneg, nI_l, ne_ltT, ne_ltF, ne_leT, ne_leF, ne_eqT, ne_eqF, ne_sI1s, ne_sI1n, ne_sI2, ne_sI3, ne_sL1, ne_sL2s, ne_sL2n, ne_sL3, pk_us, pk_un, pk_uLs, pk_uLn, mm_Z, mm_L, mm_1, mm_2, mm_3, ne_rz0, ne_rz1, not_true_eq_false, not_false_eq_true, ne_i0, ne_i1, ne_i2, ne_i3, ne_i4, ne_i5, ne_i6, ne_i7, ne_i8, ne_i9, ne_i10, ne_i12, ne_i14, ne_i16, ne_i18, ne_i19, ne_i20, ne_i23, ne_i24, ne_i27, ne_i29, ne_i30, ne_i31, ne_i32, ne_i35, ne_i48, ne_i52, ne_i54, ne_i57, ne_i59, ne_i63, ne_i64, ne_i76, ne_i77, ne_i78, ne_i79, ne_i80, ne_i81, ne_i97, ne_i99, ne_i100, ne_i101, ne_i104, ne_i105, ne_i108, ne_i110, ne_i111, ne_i116, ne_i117, ne_i122, ne_i103, ne_i200, ne_i255, ne_i256, ne_i320, ne_i384, ne_i1000, ne_l0, ne_l1, ne_l2, ne_l3, ne_l4, ne_l5, ne_l8, ne_l12, ne_l31, ne_l48, ne_l57, ne_l97, ne_l99, ne_l122, ne_l255, ne_l673, ne_l1073741823, ne_l1073741824]
  · rw [if_neg h0]
    obtain ⟨S1, e1, h1⟩ := nP_copy (N := N) (a := 7) (b := 14 + c) hN h (by omega) (by omega) (by omega) (by omega)
    refine ⟨S1, _, ?_, h1, ne_up_s, fun s q7 _ => ne_up_n q7⟩
    simp (disch := omega) only [sm_lt, sm_b1s, sm_b2s, ↓reduceIte, sm_in_nI, nI_clamp, nI_add, pk_mul, pk_sub, ne_addneg, nI_l, ne_ltT, ne_ltF, ne_leT, ne_leF, ne_eqT, ne_eqF, ne_sI1s, ne_sI1n, ne_sI2, ne_sI3, ne_sL1, ne_sL2s, ne_sL2n, ne_sL3, pk_us, pk_un, pk_uLs, pk_uLn, mm_Z, mm_L, mm_1, mm_2, mm_3, ne_rz0, ne_rz1, not_true_eq_false, not_false_eq_true, ne_i0, ne_i1, ne_i2, ne_i3, ne_i4, ne_i5, ne_i6, ne_i7, ne_i8, ne_i9, ne_i10, ne_i12, ne_i14, ne_i16, ne_i18, ne_i19, ne_i20, ne_i23, ne_i24, ne_i27, ne_i29, ne_i30, ne_i31, ne_i32, ne_i35, ne_i48, ne_i52, ne_i54, ne_i57, ne_i59, ne_i63, ne_i64, ne_i76, ne_i77, ne_i78, ne_i79, ne_i80, ne_i81, ne_i97, ne_i99, ne_i100, ne_i101, ne_i104, ne_i105, ne_i108, ne_i110, ne_i111, ne_i116, ne_i117, ne_i122, ne_i103, ne_i200, ne_i255, ne_i256, ne_i320, ne_i384, ne_i1000, ne_l0, ne_l1, ne_l2, ne_l3, ne_l4, ne_l5, ne_l8, ne_l12, ne_l31, ne_l48, ne_l57, ne_l97, ne_l99, ne_l122, ne_l255, ne_l673, ne_l1073741823, ne_l1073741824, eta, e1]
theorem rs_fx_le {w : Nat → Nat} (hs : sc a t co) (hw : sp_w a w) {k : Nat} (hk : k < a 76) : (if 0 < sp_ts a t k 8 then w 4 * sp_tp a t co k (a 77) else w k) ≤ w 4 * 288 := by
  split
  · exact Nat.mul_le_mul_left _ (sp_tp_le hs hk)
  · have := hw k hk
    omega
theorem rs_V_le {w : Nat → Nat} (hs : sc a t co) (hw : sp_w a w) (hF : ∀ r, r < 4 → F r ≤ 303918) : ∀ k, k ≤ 4 → rs_V a t co F w k ≤ w 4 * (87528384 * k)
  | 0, _ => by rw [rs_V]; exact Nat.zero_le _
  | k + 1, hk => by
    have ih := rs_V_le hs hw hF k (by omega)
    rw [rs_V, Nat.mul_add, Nat.mul_add]
    refine Nat.add_le_add ih ?_
    by_cases q : k < a 76
    · rw [if_pos q]
      have := Nat.mul_le_mul (hF k (by omega)) (rs_fx_le (t := t) hs hw q)
      refine Nat.le_trans this ?_
      rw [Nat.mul_left_comm]
      exact Nat.mul_le_mul_left _ (by decide)
    · rw [if_neg q]
      exact Nat.zero_le _
/-- the sum of what is fixed, each by its cofactor -/
theorem np_restL {cl D : Nat} (hN : 4000 ≤ N) (h : nP M v S) (hw : nw a M) (ht : nt t co M) (hs : sc a t co) (hsw : sp_w a (fun i => v (14 + i))) (hv0 : 0 < v 18) (hb : v 18 < 2 ^ 1000) (hcl : cl < 4) (hA : ∀ i j, i < 4 → j < 4 → M.2.1 9 (4 * i + j) = Int64.ofInt (rs_A a t i j)) (hF : ∀ r, r < 4 → rs_cf (rs_A a t) r cl = (F r : Int)) (hFb : ∀ r, r < 4 → F r ≤ 303918) (hD : 0 < D) (hD2 : D ≤ 44979864) (h9 : v 9 = 0) : ∃ M' S' v', pm_rest_b63 N N (nI cl) (lN D) (nI 0) S = some (nI 1, S') ∧ nP (sm_sI M' 0 6 (nI (if rs_V a t co F (fun i => v (14 + i)) (a 76) = 0 then 0 else 1))) v' S' ∧ (∀ p, p ≠ 10 → p ≠ 11 → p ≠ 12 → M'.1 p = M.1 p) ∧ v' 0 = rs_V a t co F (fun i => v (14 + i)) (a 76) / Nat.gcd (rs_V a t co F (fun i => v (14 + i)) (a 76)) (v 18 * (12 * D)) ∧ v' 1 = v 18 * (12 * D) / Nat.gcd (rs_V a t co F (fun i => v (14 + i)) (a 76)) (v 18 * (12 * D)) ∧ ∀ s, 10 ≤ s → v' s = v s := by
  have k4 := hs.1
  have vb := rs_V_le (F := F) hs hsw hFb
  have w4 : (fun i => v (14 + i)) 4 = v 18 := rfl
  refine ne_loop (fun f k (s : sm_St) => pm_rest_b63 N f (nI cl) (lN D) (nI k) s) (fun k s => ∃ M1 v', nP M1 v' s ∧ (∀ p, p ≠ 10 → p ≠ 11 → p ≠ 12 → M1.1 p = M.1 p) ∧ M1.2 = M.2 ∧ v' 9 = rs_V a t co F (fun i => v (14 + i)) k ∧ ∀ s, s ≠ 7 → s ≠ 8 → s ≠ 9 → v' s = v s) (a 76) (fun r => ∃ M' S' v', r = some (nI 1, S') ∧ nP (sm_sI M' 0 6 (nI (if rs_V a t co F (fun i => v (14 + i)) (a 76) = 0 then 0 else 1))) v' S' ∧ (∀ p, p ≠ 10 → p ≠ 11 → p ≠ 12 → M'.1 p = M.1 p) ∧ v' 0 = rs_V a t co F (fun i => v (14 + i)) (a 76) / Nat.gcd (rs_V a t co F (fun i => v (14 + i)) (a 76)) (v 18 * (12 * D)) ∧ v' 1 = v 18 * (12 * D) / Nat.gcd (rs_V a t co F (fun i => v (14 + i)) (a 76)) (v 18 * (12 * D)) ∧ ∀ s, 10 ≤ s → v' s = v s) ?_ ?_ N 0 S (by omega) (by omega) ⟨M, v, h, fun _ _ _ _ => rfl, rfl, h9, fun _ _ _ _ => rfl⟩
  · rintro f k s hk ⟨M1, v1, i1, i2, i3, i4, i5⟩
    left
    have hw1 : nw a M1 := fun j hj => by rw [i2 1 (by decide) (by decide) (by decide)]; exact hw j hj
    have ec := np_cloths (N := N) (nP_nw i1 hw1)
    obtain ⟨M2, S2, e2, p2, f2, g2⟩ := np_whole3 (N := N) (A := rs_A a t) hN (show k < 4 by omega) hcl i1 (fun i j hi hj => by rw [i3]; exact hA i j hi hj)
    have hw2 : nw a M2 := fun j hj => by rw [f2 1 (by decide) (by decide) (by decide)]; exact hw1 j hj
    have ht2 : nt t co M2 := ⟨fun j hj => by rw [f2 7 (by decide) (by decide) (by decide), i2 7 (by decide) (by decide) (by decide)]; exact ht.1 j hj, fun j hj => by rw [f2 8 (by decide) (by decide) (by decide), i2 8 (by decide) (by decide) (by decide)]; exact ht.2 j hj⟩
    have v118 : v1 18 = v 18 := i5 18 (by decide) (by decide) (by decide)
    obtain ⟨S3, v3, e3, p3, r7, r8⟩ := np_layFixed (N := N) hN p2 hw2 ht2 hs hk (by rw [v118]; exact hb)
    have r7' : v3 7 = (if 0 < sp_ts a t k 8 then (fun i => v (14 + i)) 4 * sp_tp a t co k (a 77) else (fun i => v (14 + i)) k) := by
      rw [r7, v118]
      have : v1 (14 + k) = v (14 + k) := i5 _ (by omega) (by omega) (by omega)
      rw [this]
    have fxl := rs_fx_le (t := t) (w := fun i => v (14 + i)) hs hsw hk
    rw [← r7'] at fxl
    have fxl' : v3 7 ≤ v 18 * 288 := fxl
    have hfk := hFb k (by omega)
    have mul1 : v3 7 * F k ≤ v 18 * 87528384 := by
      refine Nat.le_trans (Nat.mul_le_mul fxl' hfk) ?_
      rw [Nat.mul_assoc]
      exact Nat.mul_le_mul_left _ (by decide)
    obtain ⟨S4, e4, p4⟩ := nP_times (N := N) (a := 7) (m := F k) hN p3 (by omega) (by omega) (by omega) (Nat.lt_of_le_of_lt mul1 (sp_big hb (by decide)))
    have s9 : rs_V a t co F (fun i => v (14 + i)) (k + 1) = va_up v3 7 (v3 7 * F k) 9 + va_up v3 7 (v3 7 * F k) 7 := by
      rw [ne_up_s, ne_up_n (by decide), r8 9 (by decide) (by decide), i4, rs_V, if_pos hk, ← r7', Nat.mul_comm (F k)]
    have vb1 := vb (k + 1) (by omega)
    obtain ⟨S5, e5, p5⟩ := nP_add (N := N) (a := 9) (b := 7) hN p4 (by omega) (by omega) (by omega) (by omega) (by omega) (by
      rw [← s9]
      exact Nat.lt_of_le_of_lt vb1 (sp_big hb (by have : 87528384 * (k + 1) ≤ 87528384 * 4 := Nat.mul_le_mul_left _ (by omega)
                                                  omega)))
    rw [← s9] at p5
    refine ⟨S5, ⟨M2, _, p5, fun p p1 p2 p3 => by rw [f2 p p1 p2 p3]; exact i2 p p1 p2 p3, by rw [g2]; exact i3, ne_up_s, fun s q7 q8 q9 => by rw [ne_up_n q9, ne_up_n q7, r8 s q7 q8]; exact i5 s q7 q8 q9⟩, ?_⟩
    show pm_rest_b63 N (f + 1) _ _ _ _ = pm_rest_b63 N f _ _ _ _
    have ep : nI (k + cl) - nI (k + cl) / nI 2 * nI 2 = nI ((k + cl) % 2) := pk_rem (by omega) (by decide) (by decide)
    have core : pm_rest_b99 N (pm_rest_b63 N f) (nI cl) (lN D) (nI k) (lN (F k)) S2 = pm_rest_b63 N f (nI cl) (lN D) (nI (k + 1)) S5 := by
      unfold pm_rest_b99
      simp (disch := omega) only [sm_lt, sm_b1s, sm_b2s, ↓reduceIte, sm_in_nI, nI_clamp, nI_add, pk_mul, pk_sub, ne_addneg, nI_l, ne_ltT, ne_ltF, ne_leT, ne_leF, ne_eqT, ne_eqF, ne_sI1s, ne_sI1n, ne_sI2, ne_sI3, ne_sL1, ne_sL2s, ne_sL2n, ne_sL3, pk_us, pk_un, pk_uLs, pk_uLn, mm_Z, mm_L, mm_1, mm_2, mm_3, ne_rz0, ne_rz1, not_true_eq_false, not_false_eq_true, ne_i0, ne_i1, ne_i2, ne_i3, ne_i4, ne_i5, ne_i6, ne_i7, ne_i8, ne_i9, ne_i10, ne_i12, ne_i14, ne_i16, ne_i18, ne_i19, ne_i20, ne_i23, ne_i24, ne_i27, ne_i29, ne_i30, ne_i31, ne_i32, ne_i35, ne_i48, ne_i52, ne_i54, ne_i57, ne_i59, ne_i63, ne_i64, ne_i76, ne_i77, ne_i78, ne_i79, ne_i80, ne_i81, ne_i97, ne_i99, ne_i100, ne_i101, ne_i104, ne_i105, ne_i108, ne_i110, ne_i111, ne_i116, ne_i117, ne_i122, ne_i103, ne_i200, ne_i255, ne_i256, ne_i320, ne_i384, ne_i1000, ne_l0, ne_l1, ne_l2, ne_l3, ne_l4, ne_l5, ne_l8, ne_l12, ne_l31, ne_l48, ne_l57, ne_l97, ne_l99, ne_l122, ne_l255, ne_l673, ne_l1073741823, ne_l1073741824, e3, e4, e5]
    rw [pm_rest_b63]
    have mnF := hF k (by omega)
    unfold rs_cf at mnF
    by_cases p : (k + cl) % 2 = 0
    · rw [if_pos p] at mnF
      rw [mnF, ← nm_lI] at e2
      simp (disch := omega) only [sm_lt, sm_b1s, sm_b2s, ↓reduceIte, sm_in_nI, nI_clamp, nI_add, pk_mul, pk_sub, ne_addneg, nI_l, ne_ltT, ne_ltF, ne_leT, ne_leF, ne_eqT, ne_eqF, ne_sI1s, ne_sI1n, ne_sI2, ne_sI3, ne_sL1, ne_sL2s, ne_sL2n, ne_sL3, pk_us, pk_un, pk_uLs, pk_uLn, mm_Z, mm_L, mm_1, mm_2, mm_3, ne_rz0, ne_rz1, not_true_eq_false, not_false_eq_true, ne_i0, ne_i1, ne_i2, ne_i3, ne_i4, ne_i5, ne_i6, ne_i7, ne_i8, ne_i9, ne_i10, ne_i12, ne_i14, ne_i16, ne_i18, ne_i19, ne_i20, ne_i23, ne_i24, ne_i27, ne_i29, ne_i30, ne_i31, ne_i32, ne_i35, ne_i48, ne_i52, ne_i54, ne_i57, ne_i59, ne_i63, ne_i64, ne_i76, ne_i77, ne_i78, ne_i79, ne_i80, ne_i81, ne_i97, ne_i99, ne_i100, ne_i101, ne_i104, ne_i105, ne_i108, ne_i110, ne_i111, ne_i116, ne_i117, ne_i122, ne_i103, ne_i200, ne_i255, ne_i256, ne_i320, ne_i384, ne_i1000, ne_l0, ne_l1, ne_l2, ne_l3, ne_l4, ne_l5, ne_l8, ne_l12, ne_l31, ne_l48, ne_l57, ne_l97, ne_l99, ne_l122, ne_l255, ne_l673, ne_l1073741823, ne_l1073741824, ec, e2, ep]
      exact core
    · rw [if_neg p] at mnF
      have en : -Int64.ofInt (rs_mn (rs_A a t) k cl) = lN (F k) := by rw [← Int64.ofInt_neg, mnF, nm_lI]
      simp (disch := omega) only [sm_lt, sm_b1s, sm_b2s, ↓reduceIte, sm_in_nI, nI_clamp, nI_add, pk_mul, pk_sub, ne_addneg, nI_l, ne_ltT, ne_ltF, ne_leT, ne_leF, ne_eqT, ne_eqF, ne_sI1s, ne_sI1n, ne_sI2, ne_sI3, ne_sL1, ne_sL2s, ne_sL2n, ne_sL3, pk_us, pk_un, pk_uLs, pk_uLn, mm_Z, mm_L, mm_1, mm_2, mm_3, ne_rz0, ne_rz1, not_true_eq_false, not_false_eq_true, ne_i0, ne_i1, ne_i2, ne_i3, ne_i4, ne_i5, ne_i6, ne_i7, ne_i8, ne_i9, ne_i10, ne_i12, ne_i14, ne_i16, ne_i18, ne_i19, ne_i20, ne_i23, ne_i24, ne_i27, ne_i29, ne_i30, ne_i31, ne_i32, ne_i35, ne_i48, ne_i52, ne_i54, ne_i57, ne_i59, ne_i63, ne_i64, ne_i76, ne_i77, ne_i78, ne_i79, ne_i80, ne_i81, ne_i97, ne_i99, ne_i100, ne_i101, ne_i104, ne_i105, ne_i108, ne_i110, ne_i111, ne_i116, ne_i117, ne_i122, ne_i103, ne_i200, ne_i255, ne_i256, ne_i320, ne_i384, ne_i1000, ne_l0, ne_l1, ne_l2, ne_l3, ne_l4, ne_l5, ne_l8, ne_l12, ne_l31, ne_l48, ne_l57, ne_l97, ne_l99, ne_l122, ne_l255, ne_l673, ne_l1073741823, ne_l1073741824, ec, e2, ep, en]
      exact core
  · rintro f s ⟨M1, v1, i1, i2, i3, i4, i5⟩
    show ∃ M' S' v', pm_rest_b63 N (f + 1) _ _ _ _ = _ ∧ _
    have hw1 : nw a M1 := fun j hj => by rw [i2 1 (by decide) (by decide) (by decide)]; exact hw j hj
    have ec := np_cloths (N := N) (nP_nw i1 hw1)
    have v118 : v1 18 = v 18 := i5 18 (by decide) (by decide) (by decide)
    obtain ⟨S2, v2, e2, p2, t0, t1, t2⟩ := nW_tell (N := N) (src := 9) (by' := 12 * D) hN i1 (by decide) (by decide) (by rw [v118]; exact hv0) (by rw [v118]; exact hb) (by omega) (by omega)
    rw [i4] at p2 t0 t1
    rw [v118] at t0 t1
    refine ⟨M1, S2, v2, ?_, p2, i2, t0, t1, fun s hs' => by rw [t2 s (by omega)]; exact i5 s (by omega) (by omega) (by omega)⟩
    rw [pm_rest_b63]
    simp (disch := omega) only [sm_lt, sm_b1s, sm_b2s, ↓reduceIte, sm_in_nI, nI_clamp, nI_add, pk_mul, pk_sub, ne_addneg, nI_l, ne_ltT, ne_ltF, ne_leT, ne_leF, ne_eqT, ne_eqF, ne_sI1s, ne_sI1n, ne_sI2, ne_sI3, ne_sL1, ne_sL2s, ne_sL2n, ne_sL3, pk_us, pk_un, pk_uLs, pk_uLn, mm_Z, mm_L, mm_1, mm_2, mm_3, ne_rz0, ne_rz1, not_true_eq_false, not_false_eq_true, ne_i0, ne_i1, ne_i2, ne_i3, ne_i4, ne_i5, ne_i6, ne_i7, ne_i8, ne_i9, ne_i10, ne_i12, ne_i14, ne_i16, ne_i18, ne_i19, ne_i20, ne_i23, ne_i24, ne_i27, ne_i29, ne_i30, ne_i31, ne_i32, ne_i35, ne_i48, ne_i52, ne_i54, ne_i57, ne_i59, ne_i63, ne_i64, ne_i76, ne_i77, ne_i78, ne_i79, ne_i80, ne_i81, ne_i97, ne_i99, ne_i100, ne_i101, ne_i104, ne_i105, ne_i108, ne_i110, ne_i111, ne_i116, ne_i117, ne_i122, ne_i103, ne_i200, ne_i255, ne_i256, ne_i320, ne_i384, ne_i1000, ne_l0, ne_l1, ne_l2, ne_l3, ne_l4, ne_l5, ne_l8, ne_l12, ne_l31, ne_l48, ne_l57, ne_l97, ne_l99, ne_l122, ne_l255, ne_l673, ne_l1073741823, ne_l1073741824, ec, lN_mul, e2]
end
section
variable {N : Nat} {X S : sm_St} {a b v ik tx : Nat → Nat} {len : Nat}
theorem c_rest {v1 : Int32} (hN : 4000 ≤ N) (h : R X S) : OKr (px_L_rest N X v1) (pm_rest N S v1) := by
  obtain ⟨a, b, v, ik, tx, len, h⟩ := h
  have hk := RR_ok h
  have k4 := hk.1
  have hs := RR_sc h
  obtain ⟨q1, q2⟩ := RR_cl h
  have hwv := RR_wv h
  have n12 := hk.2.2.1
  have hx0 := RR_xhd h
  unfold px_L_rest pm_rest
  rcases cl_or (N := N) h v1 with ⟨c, rfl, hc⟩ | ⟨e1, e2⟩
  · have n1 := xq_clT (N := N) q1 hc k4
    have n2 := np_clT (N := N) h.1 k4 hc
    have kd : ∀ i, i < a 76 → a (4 * i) ≤ 4 ∧ X.1 2 i = nI (a (4 * i)) := fun i hi => ⟨(hs.2.2.1 i hi).1, (hx0.2.2.1 i hi).1⟩
    have va := np_vain (N := N) hN h.1 k4 (fun i hi => (kd i hi).1)
    rcases xq_vain (N := N) hN k4 q1 kd with ⟨⟨i, hi, hv⟩, e1⟩ | ⟨hv, e1⟩
    · rw [sp_av_t hv _ hi, show sp_b true = 1 from rfl] at va
      simp (disch := omega) only [sm_lt, sm_b1s, sm_b2s, ↓reduceIte, sm_in_nI, nI_clamp, nI_add, pk_mul, pk_sub, ne_addneg, nI_l, ne_ltT, ne_ltF, ne_leT, ne_leF, ne_eqT, ne_eqF, ne_sI1s, ne_sI1n, ne_sI2, ne_sI3, ne_sL1, ne_sL2s, ne_sL2n, ne_sL3, pk_us, pk_un, pk_uLs, pk_uLn, mm_Z, mm_L, mm_1, mm_2, mm_3, ne_rz0, ne_rz1, not_true_eq_false, not_false_eq_true, ne_i0, ne_i1, ne_i2, ne_i3, ne_i4, ne_i5, ne_i6, ne_i7, ne_i8, ne_i9, ne_i10, ne_i12, ne_i14, ne_i16, ne_i18, ne_i19, ne_i20, ne_i23, ne_i24, ne_i27, ne_i29, ne_i30, ne_i31, ne_i32, ne_i35, ne_i48, ne_i52, ne_i54, ne_i57, ne_i59, ne_i63, ne_i64, ne_i76, ne_i77, ne_i78, ne_i79, ne_i80, ne_i81, ne_i97, ne_i99, ne_i100, ne_i101, ne_i104, ne_i105, ne_i108, ne_i110, ne_i111, ne_i116, ne_i117, ne_i122, ne_i103, ne_i200, ne_i255, ne_i256, ne_i320, ne_i384, ne_i1000, ne_l0, ne_l1, ne_l2, ne_l3, ne_l4, ne_l5, ne_l8, ne_l12, ne_l31, ne_l48, ne_l57, ne_l97, ne_l99, ne_l122, ne_l255, ne_l673, ne_l1073741823, ne_l1073741824, n1, n2, e1, va, xq_no, np_no]
      exact ⟨_, _, _, rfl, rfl, R_no (RR_R h)⟩
    · rw [sp_av_f _ hv, show sp_b false = 0 from rfl] at va
      obtain ⟨⟨X1, r1, x1, x2, x3, x4⟩, S1, r2, s1⟩ := RR_begin (N := N) hN h
      obtain ⟨v0, p1, w1, w3⟩ := s1
      have hw1 : nw a (sm_tn a S) := tn_nw h.1
      obtain ⟨X2, e3, y1, y2, y3⟩ := rx_solve (N := N) (c := c) hN hs (rx_T_of x1 hv) (by omega)
      obtain ⟨M2, S2, e4, p2, m2, A2⟩ := np_rows (N := N) hN p1 hw1 (tn_t (M := S)) hs
      obtain ⟨M3, S3, e5, p3, f3, g3⟩ := np_whole4 (N := N) (A := rs_A a (at_ a)) hN p2 A2
      have hM := rs_A_M (a := a) (t := at_ a)
      have hB := rs_A_bd hs
      have L0 := rs_L0 hM
      have Lb := rs_dt_b hB (show 0 < 4 by decide) 4 (Nat.le_refl _)
      rw [rs_dt_L (show 0 < 4 by decide)] at Lb
      obtain ⟨D, hD⟩ : ∃ D : Nat, rs_L (rs_A a (at_ a)) = (D : Int) := ⟨_, (Int.toNat_of_nonneg L0).symm⟩
      rw [hD] at Lb e3 e5
      rw [← ri_I] at e3
      rw [← nm_lI] at e5
      have Db : D ≤ 44979864 := by omega
      have fM : ∀ p, p ≠ 7 → p ≠ 8 → p ≠ 10 → p ≠ 11 → p ≠ 12 → M3.1 p = S.1 p := fun p p7 p8 a1 a2 a3 => by rw [f3 p a1 a2 a3, m2, tn_1 p7 p8]
      have fX : ∀ p, p < 102 ∨ 103 ≤ p ∧ p < 107 → X2.1 p = X.1 p := fun p hp => by rw [y2 p (by omega), x3 p (by omega)]
      have fX102 : X2.1 102 1 = X.1 102 1 := by rw [y2 102 (by omega), x3 102 (by omega)]
      by_cases hD0 : D = 0
      · have R2 : R X2 S3 := RR_end (M := M3) h ⟨v0, p3, w1, w3⟩ (fun i hi => wn_hi hi) (fun p hp => fM p (by omega) (by omega) (by omega) (by omega) (by omega)) (by rw [fM 0 (by decide) (by decide) (by decide) (by decide) (by decide)]) (by rw [fM 0 (by decide) (by decide) (by decide) (by decide) (by decide)]) fX fX102 (by rw [y3, x4])
        subst hD0
        have el : (lN 0 = lN 0) = True := eq_true rfl
        simp (disch := omega) only [sm_lt, sm_b1s, sm_b2s, ↓reduceIte, sm_in_nI, nI_clamp, nI_add, pk_mul, pk_sub, ne_addneg, nI_l, ne_ltT, ne_ltF, ne_leT, ne_leF, ne_eqT, ne_eqF, ne_sI1s, ne_sI1n, ne_sI2, ne_sI3, ne_sL1, ne_sL2s, ne_sL2n, ne_sL3, pk_us, pk_un, pk_uLs, pk_uLn, mm_Z, mm_L, mm_1, mm_2, mm_3, ne_rz0, ne_rz1, not_true_eq_false, not_false_eq_true, ne_i0, ne_i1, ne_i2, ne_i3, ne_i4, ne_i5, ne_i6, ne_i7, ne_i8, ne_i9, ne_i10, ne_i12, ne_i14, ne_i16, ne_i18, ne_i19, ne_i20, ne_i23, ne_i24, ne_i27, ne_i29, ne_i30, ne_i31, ne_i32, ne_i35, ne_i48, ne_i52, ne_i54, ne_i57, ne_i59, ne_i63, ne_i64, ne_i76, ne_i77, ne_i78, ne_i79, ne_i80, ne_i81, ne_i97, ne_i99, ne_i100, ne_i101, ne_i104, ne_i105, ne_i108, ne_i110, ne_i111, ne_i116, ne_i117, ne_i122, ne_i103, ne_i200, ne_i255, ne_i256, ne_i320, ne_i384, ne_i1000, ne_l0, ne_l1, ne_l2, ne_l3, ne_l4, ne_l5, ne_l8, ne_l12, ne_l31, ne_l48, ne_l57, ne_l97, ne_l99, ne_l122, ne_l255, ne_l673, ne_l1073741823, ne_l1073741824, n1, n2, e1, va, r1, r2, e3, e4, e5, el, xq_no, np_no]
        exact ⟨_, _, _, rfl, rfl, R_no R2⟩
      · generalize hF : (fun r => (rs_cf (rs_A a (at_ a)) r c).toNat) = F at y1
        have hFr : ∀ r, r < 4 → rs_cf (rs_A a (at_ a)) r c = (F r : Int) := fun r hr => by
          rw [← hF]
          exact (Int.toNat_of_nonneg (rs_po hM hr (by omega))).symm
        have hFb : ∀ r, r < 4 → F r ≤ 303918 := fun r hr => by
          have := rs_cf_b hB r c
          rw [hFr r hr] at this
          omega
        have hcf := rs_xcf (w := wn v) hs hFb y1
        have now2 : xsh X2 12 (a 76) (wn v) := xsh_fr (y2 12 (by omega)) (y2 13 (by omega)) x2
        obtain ⟨X3, e6, z1, z2⟩ := xq_put (N := N) (X := X2) (q := 12) (T := D) hN k4 (Or.inl rfl) now2 hcf (by omega) (by omega) hwv.2.1 hwv.2.2.1
        -- the reference
        obtain ⟨S4, e7, p4⟩ := nP_set (N := N) (a := 9) (x := 0) hN p3 (by decide) (by decide)
        have w18 : v0 18 = wn v 4 := congrFun w1 4
        have hw3 : nw a M3 := fun j hj => by rw [fM 1 (by decide) (by decide) (by decide) (by decide) (by decide)]; exact h.1 j hj
        have ht3 : nt (at_ a) (ac_ a) M3 := ⟨fun j hj => by rw [f3 7 (by decide) (by decide) (by decide), m2]; exact (tn_t (M := S)).1 j hj, fun j hj => by rw [f3 8 (by decide) (by decide) (by decide), m2]; exact (tn_t (M := S)).2 j hj⟩
        have ew : (fun i => va_up v0 9 0 (14 + i)) = wn v := by
          rw [← w1]
          funext i
          exact ne_up_n (by omega)
        have e18 : va_up v0 9 0 18 = wn v 4 := by rw [ne_up_n (by decide)]; exact w18
        obtain ⟨M5, S5, v5, e8, t1, t2, t3, t4, t5⟩ := np_restL (N := N) (cl := c) (D := D) (F := F) hN p4 hw3 ht3 hs (by rw [ew]; exact hwv.1) (by rw [e18]; exact hwv.2.1) (by rw [e18]; exact sp_1000 hwv.2.2.2 (by omega)) (by omega) (fun i j hi hj => by rw [g3]; exact A2 i j hi hj) hFr hFb (by omega) Db ne_up_s
        rw [ew] at t1 t3 t4
        rw [e18] at t3 t4
        have eD : (lN D = lN 0) = False := ne_LeqF hD0 (by omega) (by decide)
        refine ⟨nI 1, X3, S5, ?_, ?_, RR_frac h t1 z1 t3 t4 (fun s hs' => ?_) (fun p hp => ?_) ?_ (fun p hp => ?_) ?_ ?_⟩
        · simp (disch := omega) only [sm_lt, sm_b1s, sm_b2s, ↓reduceIte, sm_in_nI, nI_clamp, nI_add, pk_mul, pk_sub, ne_addneg, nI_l, ne_ltT, ne_ltF, ne_leT, ne_leF, ne_eqT, ne_eqF, ne_sI1s, ne_sI1n, ne_sI2, ne_sI3, ne_sL1, ne_sL2s, ne_sL2n, ne_sL3, pk_us, pk_un, pk_uLs, pk_uLn, mm_Z, mm_L, mm_1, mm_2, mm_3, ne_rz0, ne_rz1, not_true_eq_false, not_false_eq_true, ne_i0, ne_i1, ne_i2, ne_i3, ne_i4, ne_i5, ne_i6, ne_i7, ne_i8, ne_i9, ne_i10, ne_i12, ne_i14, ne_i16, ne_i18, ne_i19, ne_i20, ne_i23, ne_i24, ne_i27, ne_i29, ne_i30, ne_i31, ne_i32, ne_i35, ne_i48, ne_i52, ne_i54, ne_i57, ne_i59, ne_i63, ne_i64, ne_i76, ne_i77, ne_i78, ne_i79, ne_i80, ne_i81, ne_i97, ne_i99, ne_i100, ne_i101, ne_i104, ne_i105, ne_i108, ne_i110, ne_i111, ne_i116, ne_i117, ne_i122, ne_i103, ne_i200, ne_i255, ne_i256, ne_i320, ne_i384, ne_i1000, ne_l0, ne_l1, ne_l2, ne_l3, ne_l4, ne_l5, ne_l8, ne_l12, ne_l31, ne_l48, ne_l57, ne_l97, ne_l99, ne_l122, ne_l255, ne_l673, ne_l1073741823, ne_l1073741824, n1, e1, r1, e3, e6]
        · simp (disch := omega) only [sm_lt, sm_b1s, sm_b2s, ↓reduceIte, sm_in_nI, nI_clamp, nI_add, pk_mul, pk_sub, ne_addneg, nI_l, ne_ltT, ne_ltF, ne_leT, ne_leF, ne_eqT, ne_eqF, ne_sI1s, ne_sI1n, ne_sI2, ne_sI3, ne_sL1, ne_sL2s, ne_sL2n, ne_sL3, pk_us, pk_un, pk_uLs, pk_uLn, mm_Z, mm_L, mm_1, mm_2, mm_3, ne_rz0, ne_rz1, not_true_eq_false, not_false_eq_true, ne_i0, ne_i1, ne_i2, ne_i3, ne_i4, ne_i5, ne_i6, ne_i7, ne_i8, ne_i9, ne_i10, ne_i12, ne_i14, ne_i16, ne_i18, ne_i19, ne_i20, ne_i23, ne_i24, ne_i27, ne_i29, ne_i30, ne_i31, ne_i32, ne_i35, ne_i48, ne_i52, ne_i54, ne_i57, ne_i59, ne_i63, ne_i64, ne_i76, ne_i77, ne_i78, ne_i79, ne_i80, ne_i81, ne_i97, ne_i99, ne_i100, ne_i101, ne_i104, ne_i105, ne_i108, ne_i110, ne_i111, ne_i116, ne_i117, ne_i122, ne_i103, ne_i200, ne_i255, ne_i256, ne_i320, ne_i384, ne_i1000, ne_l0, ne_l1, ne_l2, ne_l3, ne_l4, ne_l5, ne_l8, ne_l12, ne_l31, ne_l48, ne_l57, ne_l97, ne_l99, ne_l122, ne_l255, ne_l673, ne_l1073741823, ne_l1073741824, n2, va, r2, e4, e5, eD, e7, e8]
        · rw [t5 s (by omega), ne_up_n (by omega)]
          have := congrFun w1 (s - 14)
          rw [show 14 + (s - 14) = s by omega, wn_hi (by omega), show 14 + (s - 14) = s by omega] at this
          exact this
        · rw [t2 p (by omega) (by omega) (by omega)]
          exact fM p (by omega) (by omega) (by omega) (by omega) (by omega)
        · rw [t2 0 (by decide) (by decide) (by decide), fM 0 (by decide) (by decide) (by decide) (by decide) (by decide)]
        · rw [z2.1 p (by omega) (by omega) (by omega)]
          exact fX p (by omega)
        · rw [z2.1 102 (by omega) (by omega) (by omega)]
          exact fX102
        · rw [z2.2, y3, x4]
  · simp (disch := omega) only [sm_lt, sm_b1s, sm_b2s, ↓reduceIte, sm_in_nI, nI_clamp, nI_add, pk_mul, pk_sub, ne_addneg, nI_l, ne_ltT, ne_ltF, ne_leT, ne_leF, ne_eqT, ne_eqF, ne_sI1s, ne_sI1n, ne_sI2, ne_sI3, ne_sL1, ne_sL2s, ne_sL2n, ne_sL3, pk_us, pk_un, pk_uLs, pk_uLn, mm_Z, mm_L, mm_1, mm_2, mm_3, ne_rz0, ne_rz1, not_true_eq_false, not_false_eq_true, ne_i0, ne_i1, ne_i2, ne_i3, ne_i4, ne_i5, ne_i6, ne_i7, ne_i8, ne_i9, ne_i10, ne_i12, ne_i14, ne_i16, ne_i18, ne_i19, ne_i20, ne_i23, ne_i24, ne_i27, ne_i29, ne_i30, ne_i31, ne_i32, ne_i35, ne_i48, ne_i52, ne_i54, ne_i57, ne_i59, ne_i63, ne_i64, ne_i76, ne_i77, ne_i78, ne_i79, ne_i80, ne_i81, ne_i97, ne_i99, ne_i100, ne_i101, ne_i104, ne_i105, ne_i108, ne_i110, ne_i111, ne_i116, ne_i117, ne_i122, ne_i103, ne_i200, ne_i255, ne_i256, ne_i320, ne_i384, ne_i1000, ne_l0, ne_l1, ne_l2, ne_l3, ne_l4, ne_l5, ne_l8, ne_l12, ne_l31, ne_l48, ne_l57, ne_l97, ne_l99, ne_l122, ne_l255, ne_l673, ne_l1073741823, ne_l1073741824, e1, e2, xq_bad, np_bad]
    exact ⟨_, _, _, rfl, rfl, R_bad (RR_R h)⟩
end
