section
variable {N : Nat} {X S : sm_St} {a b v ik tx : Nat → Nat} {len : Nat}
/-- a shade a by b -/
theorem sh_or (v1 v2 : Int32) : (∃ aa bb, v1 = nI aa ∧ v2 = nI bb ∧ aa ≤ bb ∧ 1 ≤ bb ∧ bb ≤ 99) ∨ (px_L_isShade N X v1 v2 = some (nI 0, X) ∧ (pm_in N S v2.toInt64 (1 : Int64) (99 : Int64) = some (nI 0, S) ∨ pm_in N S v2.toInt64 (1 : Int64) (99 : Int64) = some (nI 1, S) ∧ pm_in N S v1.toInt64 (0 : Int64) v2.toInt64 = some (nI 0, S))) := by
  unfold px_L_isShade
  by_cases h1 : v2.toInt < 1
  · right
    refine ⟨?_, Or.inl (ne_inBa (a := 1) (b := 99) (Or.inl h1) (by decide) (by decide))⟩
    rw [if_pos (show v2 < (1 : Int32) by rw [Int32.lt_iff_toInt_lt]; exact h1)]
    rfl
  · rw [if_neg (show ¬ v2 < (1 : Int32) by rw [Int32.lt_iff_toInt_lt]; exact h1)]
    by_cases h2 : 99 < v2.toInt
    · right
      refine ⟨?_, Or.inl (ne_inBa (a := 1) (b := 99) (Or.inr h2) (by decide) (by decide))⟩
      rw [if_pos (show (99 : Int32) < v2 by rw [Int32.lt_iff_toInt_lt]; exact h2)]
      rfl
    · rw [if_neg (show ¬ (99 : Int32) < v2 by rw [Int32.lt_iff_toInt_lt]; exact h2)]
      obtain ⟨bb, hbb, rfl⟩ : ∃ bb, bb ≤ 99 ∧ v2 = nI bb := by
        rcases ne_arg v2 99 (by decide) with ⟨j, hj, rfl⟩ | hb2
        · exact ⟨j, hj, rfl⟩
        · exact absurd hb2 (by omega)
      rw [nI_toInt (by omega)] at h1 h2
      rcases ne_arg v1 bb (by omega) with ⟨aa, haa, rfl⟩ | hb
      · exact Or.inl ⟨aa, bb, rfl, rfl, haa, by omega, hbb⟩
      · right
        refine ⟨?_, Or.inr ⟨?_, ?_⟩⟩
        · by_cases h3 : v1.toInt < 0
          · rw [if_pos (show v1 < 0 by rw [Int32.lt_iff_toInt_lt]; exact h3)]
            rfl
          · rw [if_neg (show ¬ v1 < 0 by rw [Int32.lt_iff_toInt_lt]; exact h3), if_pos (show nI bb < v1 by rw [Int32.lt_iff_toInt_lt, nI_toInt (by omega)]; omega)]
            rfl
        · rw [nI_l (show bb < 2 ^ 31 by omega)]
          exact ne_inT (a := 1) (b := 99) (by omega) hbb (by decide)
        · rw [nI_l (show bb < 2 ^ 31 by omega)]
          exact ne_inB (b := bb) hb (by omega)
theorem sh_T {aa bb : Nat} (h1 : aa ≤ bb) (h2 : 1 ≤ bb) (h3 : bb ≤ 99) : px_L_isShade N X (nI aa) (nI bb) = some (nI 1, X) ∧ pm_in N S (nI bb).toInt64 (1 : Int64) (99 : Int64) = some (nI 1, S) ∧ pm_in N S (nI aa).toInt64 (0 : Int64) (nI bb).toInt64 = some (nI 1, S) := by
  refine ⟨?_, ?_, ?_⟩
  · unfold px_L_isShade
    simp (disch := omega) only [sm_lt, sm_b1s, sm_b2s, ↓reduceIte, sm_in_nI, nI_clamp, nI_add, pk_mul, pk_sub, ne_addneg, nI_l, ne_ltT, ne_ltF, ne_leT, ne_leF, ne_eqT, ne_eqF, ne_sI1s, ne_sI1n, ne_sI2, ne_sI3, ne_sL1, ne_sL2s, ne_sL2n, ne_sL3, pk_us, pk_un, pk_uLs, pk_uLn, mm_Z, mm_L, mm_1, mm_2, mm_3, ne_rz0, ne_rz1, not_true_eq_false, not_false_eq_true, ne_i0, ne_i1, ne_i2, ne_i3, ne_i4, ne_i5, ne_i6, ne_i7, ne_i8, ne_i9, ne_i10, ne_i12, ne_i14, ne_i16, ne_i18, ne_i19, ne_i20, ne_i23, ne_i24, ne_i27, ne_i29, ne_i30, ne_i31, ne_i32, ne_i35, ne_i48, ne_i52, ne_i54, ne_i57, ne_i59, ne_i63, ne_i64, ne_i76, ne_i77, ne_i78, ne_i79, ne_i80, ne_i81, ne_i97, ne_i99, ne_i100, ne_i101, ne_i104, ne_i105, ne_i108, ne_i110, ne_i111, ne_i116, ne_i117, ne_i122, ne_i103, ne_i200, ne_i255, ne_i256, ne_i320, ne_i384, ne_i1000, ne_l0, ne_l1, ne_l2, ne_l3, ne_l4, ne_l5, ne_l8, ne_l12, ne_l31, ne_l48, ne_l57, ne_l97, ne_l99, ne_l122, ne_l255, ne_l673, ne_l1073741823, ne_l1073741824]
  · rw [nI_l (show bb < 2 ^ 31 by omega)]
    exact ne_inT (a := 1) (b := 99) h2 h3 (by decide)
  · rw [nI_l (show bb < 2 ^ 31 by omega), nI_l (show aa < 2 ^ 31 by omega)]
    exact ne_inT (a := 0) (b := bb) (by omega) h1 (by omega)
/-- both loops over the sets hold their places so -/
def mo_I (X S : sm_St) (a v : Nat → Nat) (s s' : sm_St) : Prop := s.1 = X.1 ∧ s.2.2 = X.2.2 ∧ nW (sm_tn a S) v (wn v) s'
theorem mo_R {s s' : sm_St} (h : RR X S a b v ik tx len) (hI : mo_I X S a v s s') : R s s' := RR_endt h hI.2.2 (fun i hi => wn_hi hi) (fun p _ => by rw [hI.1]) (by rw [hI.1]) hI.2.1
/-- one set on both sides -/
theorem mo_step {s s' : sm_St} {n aa bb : Nat} (hN : 4000 ≤ N) (h : RR X S a b v ik tx len) (hI : mo_I X S a v s s') (h0 : 0 < n) (h8 : n < 256) (h1 : aa ≤ bb) (h3 : bb ≤ 99) : ((nI n &&& (nI (sp_lb a (a 76)) ^^^ -nI 1) = nI 0) = (sp_mt a n 8 = true)) ∧ pm_mayTouch N s' (nI n) = some (nI (if sp_mt a n 8 = true then 1 else 0), s') ∧ (sp_mt a n 8 = true → ∃ t t', mo_I X S a v t t' ∧ ((px_L_gives N s (nI n) (nI aa) (nI bb) = some (nI 1, t) ∧ pm_isMeanOf N s' (nI n) (nI aa) (nI bb) = some (nI 1, t')) ∨ (px_L_gives N s (nI n) (nI aa) (nI bb) = some (nI 0, t) ∧ pm_isMeanOf N s' (nI n) (nI aa) (nI bb) = some (nI 0, t')))) := by
  have hk := RR_ok h
  obtain ⟨o1, o2, o3, o4, o5, o6, o7, o8, o9, o10⟩ := hk
  have hs := RR_sc h
  have hw := RR_wv h
  have hb := sp_1000 hw.2.2.2 (by omega)
  obtain ⟨q1, q2⟩ := RR_cl h
  obtain ⟨i1, i2, i3⟩ := hI
  have nwS := nW_nw i3 (tn_nw h.1)
  refine ⟨sp_lb_mt o1 o2 h8, np_mayTouch hN nwS o1 o2 (fun c hc => (o7 c hc).1) h0 h8, fun hm => ?_⟩
  obtain ⟨S', m1, m2, m3⟩ := np_isMeanOf (N := N) (aa := aa) (bb := bb) hN i3 tn_t hs hw.1 hb hm h8 (by omega) h3
  have hc := (RR_hs h).2.2.1
  obtain ⟨g, g1, g2⟩ := xq_gives (X := s) (N := N) (w := wn v) (aa := aa) (bb := bb) hN o1 o2 (fun t ht => ⟨o9 t ht, by rw [i1]; exact hc t ht⟩) (by rw [i1]; exact q1) (by rw [i1]; exact q2) (xsh_fr (by rw [i1]) (by rw [i1]) (RR_now h)) hm h8 (by omega) h3
  refine ⟨sm_lF s 108 g, S', ⟨i1, i2, m3⟩, ?_⟩
  by_cases hok : sp_ok2 a (wn v) (ac_ a) n aa bb
  · exact Or.inl ⟨g1 hok, m1 hok⟩
  · exact Or.inr ⟨g2 hok, m2 hok⟩
theorem mo_begin (hN : 4000 ≤ N) (h : RR X S a b v ik tx len) : px_House_lenders N X 1 = some (nI (sp_lb a (a 76)), X) ∧ ∃ S1, pm_takeNow N S = some S1 ∧ mo_I X S a v X S1 := by
  obtain ⟨o1, o2, o3, o4, o5, o6, o7, o8, o9, o10⟩ := RR_ok h
  obtain ⟨q1, q2⟩ := RR_cl h
  obtain ⟨_, S1, e1, s1⟩ := RR_begin hN h
  exact ⟨xq_lenders hN q1 q2 o1 o2 (fun c hc => ⟨(o7 c hc).1, ((RR_hs h).2.1 c hc).1⟩), S1, e1, rfl, rfl, s1⟩
theorem c_morning {v1 v2 v3 : Int32} (hN : 4000 ≤ N) (h : R X S) : OKr (px_L_morning N X v1 v2 v3) (pm_morning N S v1 v2 v3) := by
  obtain ⟨a, b, v, ik, tx, len, h⟩ := h
  have hR := RR_R h
  have z1 : ¬ (nI 1 = 0) := by decide
  have z0 : nI 0 = 0 := rfl
  have fin : ∀ {o1 o2 : Option (Int32 × sm_St)}, o1 = some (-nI 10, sm_sI X 0 11 (X.1 0 11 + nI 1)) → o2 = some (-nI 10, sm_sI S 4 0 (S.1 4 0 + nI 1)) → OKr o1 o2 := fun e1 e2 => ⟨_, _, _, e1, e2, R_bad hR⟩
  unfold px_L_morning pm_morning px_L_morning_b13 pm_morning_b28
  rcases sh_or (N := N) (X := X) (S := S) v1 v2 with ⟨aa, bb, rfl, rfl, h1, h2, h3⟩ | ⟨e1, e2⟩
  · obtain ⟨e1, e2, e3⟩ := sh_T (N := N) (X := X) (S := S) h1 h2 h3
    obtain ⟨el, S1, et, i0⟩ := mo_begin (N := N) hN h
    rw [e1, sm_b2s, if_neg z1, e2, sm_b2s, if_neg z1, e3, sm_b2s, if_neg z1]
    by_cases hv : (-1 : Int32) ≤ v3
    · rw [if_pos hv, if_pos hv, el, et, sm_b2s, sm_b1s]
      simp only [sm_lt]
      refine ne_loop (fun f n (s : Nat × sm_St × sm_St) => (px_L_morning_b36 N f (nI aa) (nI bb) v3 (nI (sp_lb a (a 76))) (nI s.1) (nI (n + 1)) s.2.1, pm_morning_b45 N f (nI aa) (nI bb) v3 (nI s.1) (nI (n + 1)) s.2.2)) (fun n s => mo_I X S a v s.2.1 s.2.2) 255 (fun r => OKr r.1 r.2) ?_ ?_ N 0 (0, X, S1) (by omega) (by omega) i0
      · rintro f n ⟨c, s, s'⟩ hn hI
        simp only at hI
        obtain ⟨t1, t2, t3⟩ := mo_step (n := n + 1) (aa := aa) (bb := bb) hN h hI (by omega) (by omega) h1 h3
        dsimp only
        rw [px_L_morning_b36, pm_morning_b45]
        unfold px_L_morning_b77 pm_morning_b85
        by_cases hm : sp_mt a (n + 1) 8 = true
        · have t1' := t1.trans (eq_true hm)
          rw [if_pos hm] at t2
          obtain ⟨t, t', j1, ⟨g1, g2⟩ | ⟨g1, g2⟩⟩ := t3 hm
          · by_cases hc : nI c = v3
            · right
              simp (disch := omega) only [sm_lt, sm_b1s, sm_b2s, ↓reduceIte, sm_in_nI, nI_clamp, nI_add, pk_mul, pk_sub, ne_addneg, nI_l, ne_ltT, ne_ltF, ne_leT, ne_leF, ne_eqT, ne_eqF, ne_sI1s, ne_sI1n, ne_sI2, ne_sI3, ne_sL1, ne_sL2s, ne_sL2n, ne_sL3, pk_us, pk_un, pk_uLs, pk_uLn, mm_Z, mm_L, mm_1, mm_2, mm_3, ne_rz0, ne_rz1, not_true_eq_false, not_false_eq_true, ne_i0, ne_i1, ne_i2, ne_i3, ne_i4, ne_i5, ne_i6, ne_i7, ne_i8, ne_i9, ne_i10, ne_i12, ne_i14, ne_i16, ne_i18, ne_i19, ne_i20, ne_i23, ne_i24, ne_i27, ne_i29, ne_i30, ne_i31, ne_i32, ne_i35, ne_i48, ne_i52, ne_i54, ne_i57, ne_i59, ne_i63, ne_i64, ne_i76, ne_i77, ne_i78, ne_i79, ne_i80, ne_i81, ne_i97, ne_i99, ne_i100, ne_i101, ne_i104, ne_i105, ne_i108, ne_i110, ne_i111, ne_i116, ne_i117, ne_i122, ne_i103, ne_i200, ne_i255, ne_i256, ne_i320, ne_i384, ne_i1000, ne_l0, ne_l1, ne_l2, ne_l3, ne_l4, ne_l5, ne_l8, ne_l12, ne_l31, ne_l48, ne_l57, ne_l97, ne_l99, ne_l122, ne_l255, ne_l673, ne_l1073741823, ne_l1073741824, t1', t2, g1, g2, hc]
              exact ⟨_, _, _, rfl, rfl, mo_R h j1⟩
            · left
              refine ⟨(c + 1, t, t'), j1, ?_⟩
              simp (disch := omega) only [sm_lt, sm_b1s, sm_b2s, ↓reduceIte, sm_in_nI, nI_clamp, nI_add, pk_mul, pk_sub, ne_addneg, nI_l, ne_ltT, ne_ltF, ne_leT, ne_leF, ne_eqT, ne_eqF, ne_sI1s, ne_sI1n, ne_sI2, ne_sI3, ne_sL1, ne_sL2s, ne_sL2n, ne_sL3, pk_us, pk_un, pk_uLs, pk_uLn, mm_Z, mm_L, mm_1, mm_2, mm_3, ne_rz0, ne_rz1, not_true_eq_false, not_false_eq_true, ne_i0, ne_i1, ne_i2, ne_i3, ne_i4, ne_i5, ne_i6, ne_i7, ne_i8, ne_i9, ne_i10, ne_i12, ne_i14, ne_i16, ne_i18, ne_i19, ne_i20, ne_i23, ne_i24, ne_i27, ne_i29, ne_i30, ne_i31, ne_i32, ne_i35, ne_i48, ne_i52, ne_i54, ne_i57, ne_i59, ne_i63, ne_i64, ne_i76, ne_i77, ne_i78, ne_i79, ne_i80, ne_i81, ne_i97, ne_i99, ne_i100, ne_i101, ne_i104, ne_i105, ne_i108, ne_i110, ne_i111, ne_i116, ne_i117, ne_i122, ne_i103, ne_i200, ne_i255, ne_i256, ne_i320, ne_i384, ne_i1000, ne_l0, ne_l1, ne_l2, ne_l3, ne_l4, ne_l5, ne_l8, ne_l12, ne_l31, ne_l48, ne_l57, ne_l97, ne_l99, ne_l122, ne_l255, ne_l673, ne_l1073741823, ne_l1073741824, t1', t2, g1, g2, hc]
          · left
            refine ⟨(c, t, t'), j1, ?_⟩
            simp (disch := omega) only [sm_lt, sm_b1s, sm_b2s, ↓reduceIte, sm_in_nI, nI_clamp, nI_add, pk_mul, pk_sub, ne_addneg, nI_l, ne_ltT, ne_ltF, ne_leT, ne_leF, ne_eqT, ne_eqF, ne_sI1s, ne_sI1n, ne_sI2, ne_sI3, ne_sL1, ne_sL2s, ne_sL2n, ne_sL3, pk_us, pk_un, pk_uLs, pk_uLn, mm_Z, mm_L, mm_1, mm_2, mm_3, ne_rz0, ne_rz1, not_true_eq_false, not_false_eq_true, ne_i0, ne_i1, ne_i2, ne_i3, ne_i4, ne_i5, ne_i6, ne_i7, ne_i8, ne_i9, ne_i10, ne_i12, ne_i14, ne_i16, ne_i18, ne_i19, ne_i20, ne_i23, ne_i24, ne_i27, ne_i29, ne_i30, ne_i31, ne_i32, ne_i35, ne_i48, ne_i52, ne_i54, ne_i57, ne_i59, ne_i63, ne_i64, ne_i76, ne_i77, ne_i78, ne_i79, ne_i80, ne_i81, ne_i97, ne_i99, ne_i100, ne_i101, ne_i104, ne_i105, ne_i108, ne_i110, ne_i111, ne_i116, ne_i117, ne_i122, ne_i103, ne_i200, ne_i255, ne_i256, ne_i320, ne_i384, ne_i1000, ne_l0, ne_l1, ne_l2, ne_l3, ne_l4, ne_l5, ne_l8, ne_l12, ne_l31, ne_l48, ne_l57, ne_l97, ne_l99, ne_l122, ne_l255, ne_l673, ne_l1073741823, ne_l1073741824, t1', t2, g1, g2]
        · left
          have t1' := t1.trans (eq_false hm)
          rw [if_neg hm] at t2
          refine ⟨(c, s, s'), hI, ?_⟩
          simp (disch := omega) only [sm_lt, sm_b1s, sm_b2s, ↓reduceIte, sm_in_nI, nI_clamp, nI_add, pk_mul, pk_sub, ne_addneg, nI_l, ne_ltT, ne_ltF, ne_leT, ne_leF, ne_eqT, ne_eqF, ne_sI1s, ne_sI1n, ne_sI2, ne_sI3, ne_sL1, ne_sL2s, ne_sL2n, ne_sL3, pk_us, pk_un, pk_uLs, pk_uLn, mm_Z, mm_L, mm_1, mm_2, mm_3, ne_rz0, ne_rz1, not_true_eq_false, not_false_eq_true, ne_i0, ne_i1, ne_i2, ne_i3, ne_i4, ne_i5, ne_i6, ne_i7, ne_i8, ne_i9, ne_i10, ne_i12, ne_i14, ne_i16, ne_i18, ne_i19, ne_i20, ne_i23, ne_i24, ne_i27, ne_i29, ne_i30, ne_i31, ne_i32, ne_i35, ne_i48, ne_i52, ne_i54, ne_i57, ne_i59, ne_i63, ne_i64, ne_i76, ne_i77, ne_i78, ne_i79, ne_i80, ne_i81, ne_i97, ne_i99, ne_i100, ne_i101, ne_i104, ne_i105, ne_i108, ne_i110, ne_i111, ne_i116, ne_i117, ne_i122, ne_i103, ne_i200, ne_i255, ne_i256, ne_i320, ne_i384, ne_i1000, ne_l0, ne_l1, ne_l2, ne_l3, ne_l4, ne_l5, ne_l8, ne_l12, ne_l31, ne_l48, ne_l57, ne_l97, ne_l99, ne_l122, ne_l255, ne_l673, ne_l1073741823, ne_l1073741824, t1', t2]
      · rintro f ⟨c, s, s'⟩ hI
        simp only at hI
        dsimp only
        rw [px_L_morning_b36, pm_morning_b45]
        by_cases hc : v3 = -nI 1
        · simp (disch := omega) only [sm_lt, sm_b1s, sm_b2s, ↓reduceIte, sm_in_nI, nI_clamp, nI_add, pk_mul, pk_sub, ne_addneg, nI_l, ne_ltT, ne_ltF, ne_leT, ne_leF, ne_eqT, ne_eqF, ne_sI1s, ne_sI1n, ne_sI2, ne_sI3, ne_sL1, ne_sL2s, ne_sL2n, ne_sL3, pk_us, pk_un, pk_uLs, pk_uLn, mm_Z, mm_L, mm_1, mm_2, mm_3, ne_rz0, ne_rz1, not_true_eq_false, not_false_eq_true, ne_i0, ne_i1, ne_i2, ne_i3, ne_i4, ne_i5, ne_i6, ne_i7, ne_i8, ne_i9, ne_i10, ne_i12, ne_i14, ne_i16, ne_i18, ne_i19, ne_i20, ne_i23, ne_i24, ne_i27, ne_i29, ne_i30, ne_i31, ne_i32, ne_i35, ne_i48, ne_i52, ne_i54, ne_i57, ne_i59, ne_i63, ne_i64, ne_i76, ne_i77, ne_i78, ne_i79, ne_i80, ne_i81, ne_i97, ne_i99, ne_i100, ne_i101, ne_i104, ne_i105, ne_i108, ne_i110, ne_i111, ne_i116, ne_i117, ne_i122, ne_i103, ne_i200, ne_i255, ne_i256, ne_i320, ne_i384, ne_i1000, ne_l0, ne_l1, ne_l2, ne_l3, ne_l4, ne_l5, ne_l8, ne_l12, ne_l31, ne_l48, ne_l57, ne_l97, ne_l99, ne_l122, ne_l255, ne_l673, ne_l1073741823, ne_l1073741824, hc]
          exact ⟨_, _, _, rfl, rfl, mo_R h hI⟩
        · simp (disch := omega) only [sm_lt, sm_b1s, sm_b2s, ↓reduceIte, sm_in_nI, nI_clamp, nI_add, pk_mul, pk_sub, ne_addneg, nI_l, ne_ltT, ne_ltF, ne_leT, ne_leF, ne_eqT, ne_eqF, ne_sI1s, ne_sI1n, ne_sI2, ne_sI3, ne_sL1, ne_sL2s, ne_sL2n, ne_sL3, pk_us, pk_un, pk_uLs, pk_uLn, mm_Z, mm_L, mm_1, mm_2, mm_3, ne_rz0, ne_rz1, not_true_eq_false, not_false_eq_true, ne_i0, ne_i1, ne_i2, ne_i3, ne_i4, ne_i5, ne_i6, ne_i7, ne_i8, ne_i9, ne_i10, ne_i12, ne_i14, ne_i16, ne_i18, ne_i19, ne_i20, ne_i23, ne_i24, ne_i27, ne_i29, ne_i30, ne_i31, ne_i32, ne_i35, ne_i48, ne_i52, ne_i54, ne_i57, ne_i59, ne_i63, ne_i64, ne_i76, ne_i77, ne_i78, ne_i79, ne_i80, ne_i81, ne_i97, ne_i99, ne_i100, ne_i101, ne_i104, ne_i105, ne_i108, ne_i110, ne_i111, ne_i116, ne_i117, ne_i122, ne_i103, ne_i200, ne_i255, ne_i256, ne_i320, ne_i384, ne_i1000, ne_l0, ne_l1, ne_l2, ne_l3, ne_l4, ne_l5, ne_l8, ne_l12, ne_l31, ne_l48, ne_l57, ne_l97, ne_l99, ne_l122, ne_l255, ne_l673, ne_l1073741823, ne_l1073741824, hc]
          exact ⟨_, _, _, rfl, rfl, mo_R h hI⟩
    · rw [if_neg hv, if_neg hv]
      refine fin ?_ ?_
      · simp (disch := omega) only [sm_lt, sm_b1s, sm_b2s, ↓reduceIte, sm_in_nI, nI_clamp, nI_add, pk_mul, pk_sub, ne_addneg, nI_l, ne_ltT, ne_ltF, ne_leT, ne_leF, ne_eqT, ne_eqF, ne_sI1s, ne_sI1n, ne_sI2, ne_sI3, ne_sL1, ne_sL2s, ne_sL2n, ne_sL3, pk_us, pk_un, pk_uLs, pk_uLn, mm_Z, mm_L, mm_1, mm_2, mm_3, ne_rz0, ne_rz1, not_true_eq_false, not_false_eq_true, ne_i0, ne_i1, ne_i2, ne_i3, ne_i4, ne_i5, ne_i6, ne_i7, ne_i8, ne_i9, ne_i10, ne_i12, ne_i14, ne_i16, ne_i18, ne_i19, ne_i20, ne_i23, ne_i24, ne_i27, ne_i29, ne_i30, ne_i31, ne_i32, ne_i35, ne_i48, ne_i52, ne_i54, ne_i57, ne_i59, ne_i63, ne_i64, ne_i76, ne_i77, ne_i78, ne_i79, ne_i80, ne_i81, ne_i97, ne_i99, ne_i100, ne_i101, ne_i104, ne_i105, ne_i108, ne_i110, ne_i111, ne_i116, ne_i117, ne_i122, ne_i103, ne_i200, ne_i255, ne_i256, ne_i320, ne_i384, ne_i1000, ne_l0, ne_l1, ne_l2, ne_l3, ne_l4, ne_l5, ne_l8, ne_l12, ne_l31, ne_l48, ne_l57, ne_l97, ne_l99, ne_l122, ne_l255, ne_l673, ne_l1073741823, ne_l1073741824, xq_bad]
      · simp (disch := omega) only [sm_lt, sm_b1s, sm_b2s, ↓reduceIte, sm_in_nI, nI_clamp, nI_add, pk_mul, pk_sub, ne_addneg, nI_l, ne_ltT, ne_ltF, ne_leT, ne_leF, ne_eqT, ne_eqF, ne_sI1s, ne_sI1n, ne_sI2, ne_sI3, ne_sL1, ne_sL2s, ne_sL2n, ne_sL3, pk_us, pk_un, pk_uLs, pk_uLn, mm_Z, mm_L, mm_1, mm_2, mm_3, ne_rz0, ne_rz1, not_true_eq_false, not_false_eq_true, ne_i0, ne_i1, ne_i2, ne_i3, ne_i4, ne_i5, ne_i6, ne_i7, ne_i8, ne_i9, ne_i10, ne_i12, ne_i14, ne_i16, ne_i18, ne_i19, ne_i20, ne_i23, ne_i24, ne_i27, ne_i29, ne_i30, ne_i31, ne_i32, ne_i35, ne_i48, ne_i52, ne_i54, ne_i57, ne_i59, ne_i63, ne_i64, ne_i76, ne_i77, ne_i78, ne_i79, ne_i80, ne_i81, ne_i97, ne_i99, ne_i100, ne_i101, ne_i104, ne_i105, ne_i108, ne_i110, ne_i111, ne_i116, ne_i117, ne_i122, ne_i103, ne_i200, ne_i255, ne_i256, ne_i320, ne_i384, ne_i1000, ne_l0, ne_l1, ne_l2, ne_l3, ne_l4, ne_l5, ne_l8, ne_l12, ne_l31, ne_l48, ne_l57, ne_l97, ne_l99, ne_l122, ne_l255, ne_l673, ne_l1073741823, ne_l1073741824, np_bad]
  · refine fin ?_ ?_
    · rw [e1, sm_b2s, if_pos z0]
      simp (disch := omega) only [sm_lt, sm_b1s, sm_b2s, ↓reduceIte, sm_in_nI, nI_clamp, nI_add, pk_mul, pk_sub, ne_addneg, nI_l, ne_ltT, ne_ltF, ne_leT, ne_leF, ne_eqT, ne_eqF, ne_sI1s, ne_sI1n, ne_sI2, ne_sI3, ne_sL1, ne_sL2s, ne_sL2n, ne_sL3, pk_us, pk_un, pk_uLs, pk_uLn, mm_Z, mm_L, mm_1, mm_2, mm_3, ne_rz0, ne_rz1, not_true_eq_false, not_false_eq_true, ne_i0, ne_i1, ne_i2, ne_i3, ne_i4, ne_i5, ne_i6, ne_i7, ne_i8, ne_i9, ne_i10, ne_i12, ne_i14, ne_i16, ne_i18, ne_i19, ne_i20, ne_i23, ne_i24, ne_i27, ne_i29, ne_i30, ne_i31, ne_i32, ne_i35, ne_i48, ne_i52, ne_i54, ne_i57, ne_i59, ne_i63, ne_i64, ne_i76, ne_i77, ne_i78, ne_i79, ne_i80, ne_i81, ne_i97, ne_i99, ne_i100, ne_i101, ne_i104, ne_i105, ne_i108, ne_i110, ne_i111, ne_i116, ne_i117, ne_i122, ne_i103, ne_i200, ne_i255, ne_i256, ne_i320, ne_i384, ne_i1000, ne_l0, ne_l1, ne_l2, ne_l3, ne_l4, ne_l5, ne_l8, ne_l12, ne_l31, ne_l48, ne_l57, ne_l97, ne_l99, ne_l122, ne_l255, ne_l673, ne_l1073741823, ne_l1073741824, xq_bad]
    · rcases e2 with e2 | ⟨e2, e3⟩
      · rw [e2, sm_b2s, if_pos z0]
        simp (disch := omega) only [sm_lt, sm_b1s, sm_b2s, ↓reduceIte, sm_in_nI, nI_clamp, nI_add, pk_mul, pk_sub, ne_addneg, nI_l, ne_ltT, ne_ltF, ne_leT, ne_leF, ne_eqT, ne_eqF, ne_sI1s, ne_sI1n, ne_sI2, ne_sI3, ne_sL1, ne_sL2s, ne_sL2n, ne_sL3, pk_us, pk_un, pk_uLs, pk_uLn, mm_Z, mm_L, mm_1, mm_2, mm_3, ne_rz0, ne_rz1, not_true_eq_false, not_false_eq_true, ne_i0, ne_i1, ne_i2, ne_i3, ne_i4, ne_i5, ne_i6, ne_i7, ne_i8, ne_i9, ne_i10, ne_i12, ne_i14, ne_i16, ne_i18, ne_i19, ne_i20, ne_i23, ne_i24, ne_i27, ne_i29, ne_i30, ne_i31, ne_i32, ne_i35, ne_i48, ne_i52, ne_i54, ne_i57, ne_i59, ne_i63, ne_i64, ne_i76, ne_i77, ne_i78, ne_i79, ne_i80, ne_i81, ne_i97, ne_i99, ne_i100, ne_i101, ne_i104, ne_i105, ne_i108, ne_i110, ne_i111, ne_i116, ne_i117, ne_i122, ne_i103, ne_i200, ne_i255, ne_i256, ne_i320, ne_i384, ne_i1000, ne_l0, ne_l1, ne_l2, ne_l3, ne_l4, ne_l5, ne_l8, ne_l12, ne_l31, ne_l48, ne_l57, ne_l97, ne_l99, ne_l122, ne_l255, ne_l673, ne_l1073741823, ne_l1073741824, np_bad]
      · rw [e2, sm_b2s, if_neg z1, e3, sm_b2s, if_pos z0]
        simp (disch := omega) only [sm_lt, sm_b1s, sm_b2s, ↓reduceIte, sm_in_nI, nI_clamp, nI_add, pk_mul, pk_sub, ne_addneg, nI_l, ne_ltT, ne_ltF, ne_leT, ne_leF, ne_eqT, ne_eqF, ne_sI1s, ne_sI1n, ne_sI2, ne_sI3, ne_sL1, ne_sL2s, ne_sL2n, ne_sL3, pk_us, pk_un, pk_uLs, pk_uLn, mm_Z, mm_L, mm_1, mm_2, mm_3, ne_rz0, ne_rz1, not_true_eq_false, not_false_eq_true, ne_i0, ne_i1, ne_i2, ne_i3, ne_i4, ne_i5, ne_i6, ne_i7, ne_i8, ne_i9, ne_i10, ne_i12, ne_i14, ne_i16, ne_i18, ne_i19, ne_i20, ne_i23, ne_i24, ne_i27, ne_i29, ne_i30, ne_i31, ne_i32, ne_i35, ne_i48, ne_i52, ne_i54, ne_i57, ne_i59, ne_i63, ne_i64, ne_i76, ne_i77, ne_i78, ne_i79, ne_i80, ne_i81, ne_i97, ne_i99, ne_i100, ne_i101, ne_i104, ne_i105, ne_i108, ne_i110, ne_i111, ne_i116, ne_i117, ne_i122, ne_i103, ne_i200, ne_i255, ne_i256, ne_i320, ne_i384, ne_i1000, ne_l0, ne_l1, ne_l2, ne_l3, ne_l4, ne_l5, ne_l8, ne_l12, ne_l31, ne_l48, ne_l57, ne_l97, ne_l99, ne_l122, ne_l255, ne_l673, ne_l1073741823, ne_l1073741824, np_bad]
theorem c_surely {v1 v2 : Int32} (hN : 4000 ≤ N) (h : R X S) : OKr (px_L_surely N X v1 v2) (pm_surely N S v1 v2) := by
  obtain ⟨a, b, v, ik, tx, len, h⟩ := h
  have hR := RR_R h
  have z1 : ¬ (nI 1 = 0) := by decide
  have z0 : nI 0 = 0 := rfl
  have fin : ∀ {o1 o2 : Option (Int32 × sm_St)}, o1 = some (-nI 2, sm_sI X 0 11 (X.1 0 11 + nI 1)) → o2 = some (-nI 2, sm_sI S 4 0 (S.1 4 0 + nI 1)) → OKr o1 o2 := fun e1 e2 => ⟨_, _, _, e1, e2, R_bad hR⟩
  unfold px_L_surely pm_surely pm_surely_b23
  rcases sh_or (N := N) (X := X) (S := S) v1 v2 with ⟨aa, bb, rfl, rfl, h1, h2, h3⟩ | ⟨e1, e2⟩
  · obtain ⟨e1, e2, e3⟩ := sh_T (N := N) (X := X) (S := S) h1 h2 h3
    obtain ⟨el, S1, et, i0⟩ := mo_begin (N := N) hN h
    rw [e1, sm_b2s, if_neg z1, e2, sm_b2s, if_neg z1, e3, sm_b2s, if_neg z1, el, et, sm_b2s, sm_b1s]
    simp only [sm_lt]
    refine ne_loop (fun f n (s : Int32 × sm_St × sm_St) => (px_L_surely_b27 N f (nI aa) (nI bb) (nI (sp_lb a (a 76))) s.1 (nI (n + 1)) s.2.1, pm_surely_b39 N f (nI aa) (nI bb) s.1 (nI (n + 1)) s.2.2)) (fun n s => mo_I X S a v s.2.1 s.2.2) 255 (fun r => OKr r.1 r.2) ?_ ?_ N 0 (-1, X, S1) (by omega) (by omega) i0
    · rintro f n ⟨c, s, s'⟩ hn hI
      simp only at hI
      obtain ⟨t1, t2, t3⟩ := mo_step (n := n + 1) (aa := aa) (bb := bb) hN h hI (by omega) (by omega) h1 h3
      dsimp only
      rw [px_L_surely_b27, pm_surely_b39]
      unfold px_L_surely_b62 pm_surely_b74 pm_surely_b75
      left
      by_cases hm : sp_mt a (n + 1) 8 = true
      · have t1' := t1.trans (eq_true hm)
        rw [if_pos hm] at t2
        obtain ⟨t, t', j1, ⟨g1, g2⟩ | ⟨g1, g2⟩⟩ := t3 hm
        · refine ⟨(c &&& nI (n + 1), t, t'), j1, ?_⟩
          simp (disch := omega) only [sm_lt, sm_b1s, sm_b2s, ↓reduceIte, sm_in_nI, nI_clamp, nI_add, pk_mul, pk_sub, ne_addneg, nI_l, ne_ltT, ne_ltF, ne_leT, ne_leF, ne_eqT, ne_eqF, ne_sI1s, ne_sI1n, ne_sI2, ne_sI3, ne_sL1, ne_sL2s, ne_sL2n, ne_sL3, pk_us, pk_un, pk_uLs, pk_uLn, mm_Z, mm_L, mm_1, mm_2, mm_3, ne_rz0, ne_rz1, not_true_eq_false, not_false_eq_true, ne_i0, ne_i1, ne_i2, ne_i3, ne_i4, ne_i5, ne_i6, ne_i7, ne_i8, ne_i9, ne_i10, ne_i12, ne_i14, ne_i16, ne_i18, ne_i19, ne_i20, ne_i23, ne_i24, ne_i27, ne_i29, ne_i30, ne_i31, ne_i32, ne_i35, ne_i48, ne_i52, ne_i54, ne_i57, ne_i59, ne_i63, ne_i64, ne_i76, ne_i77, ne_i78, ne_i79, ne_i80, ne_i81, ne_i97, ne_i99, ne_i100, ne_i101, ne_i104, ne_i105, ne_i108, ne_i110, ne_i111, ne_i116, ne_i117, ne_i122, ne_i103, ne_i200, ne_i255, ne_i256, ne_i320, ne_i384, ne_i1000, ne_l0, ne_l1, ne_l2, ne_l3, ne_l4, ne_l5, ne_l8, ne_l12, ne_l31, ne_l48, ne_l57, ne_l97, ne_l99, ne_l122, ne_l255, ne_l673, ne_l1073741823, ne_l1073741824, t1', t2, g1, g2]
        · refine ⟨(c, t, t'), j1, ?_⟩
          simp (disch := omega) only [sm_lt, sm_b1s, sm_b2s, ↓reduceIte, sm_in_nI, nI_clamp, nI_add, pk_mul, pk_sub, ne_addneg, nI_l, ne_ltT, ne_ltF, ne_leT, ne_leF, ne_eqT, ne_eqF, ne_sI1s, ne_sI1n, ne_sI2, ne_sI3, ne_sL1, ne_sL2s, ne_sL2n, ne_sL3, pk_us, pk_un, pk_uLs, pk_uLn, mm_Z, mm_L, mm_1, mm_2, mm_3, ne_rz0, ne_rz1, not_true_eq_false, not_false_eq_true, ne_i0, ne_i1, ne_i2, ne_i3, ne_i4, ne_i5, ne_i6, ne_i7, ne_i8, ne_i9, ne_i10, ne_i12, ne_i14, ne_i16, ne_i18, ne_i19, ne_i20, ne_i23, ne_i24, ne_i27, ne_i29, ne_i30, ne_i31, ne_i32, ne_i35, ne_i48, ne_i52, ne_i54, ne_i57, ne_i59, ne_i63, ne_i64, ne_i76, ne_i77, ne_i78, ne_i79, ne_i80, ne_i81, ne_i97, ne_i99, ne_i100, ne_i101, ne_i104, ne_i105, ne_i108, ne_i110, ne_i111, ne_i116, ne_i117, ne_i122, ne_i103, ne_i200, ne_i255, ne_i256, ne_i320, ne_i384, ne_i1000, ne_l0, ne_l1, ne_l2, ne_l3, ne_l4, ne_l5, ne_l8, ne_l12, ne_l31, ne_l48, ne_l57, ne_l97, ne_l99, ne_l122, ne_l255, ne_l673, ne_l1073741823, ne_l1073741824, t1', t2, g1, g2]
      · have t1' := t1.trans (eq_false hm)
        rw [if_neg hm] at t2
        refine ⟨(c, s, s'), hI, ?_⟩
        simp (disch := omega) only [sm_lt, sm_b1s, sm_b2s, ↓reduceIte, sm_in_nI, nI_clamp, nI_add, pk_mul, pk_sub, ne_addneg, nI_l, ne_ltT, ne_ltF, ne_leT, ne_leF, ne_eqT, ne_eqF, ne_sI1s, ne_sI1n, ne_sI2, ne_sI3, ne_sL1, ne_sL2s, ne_sL2n, ne_sL3, pk_us, pk_un, pk_uLs, pk_uLn, mm_Z, mm_L, mm_1, mm_2, mm_3, ne_rz0, ne_rz1, not_true_eq_false, not_false_eq_true, ne_i0, ne_i1, ne_i2, ne_i3, ne_i4, ne_i5, ne_i6, ne_i7, ne_i8, ne_i9, ne_i10, ne_i12, ne_i14, ne_i16, ne_i18, ne_i19, ne_i20, ne_i23, ne_i24, ne_i27, ne_i29, ne_i30, ne_i31, ne_i32, ne_i35, ne_i48, ne_i52, ne_i54, ne_i57, ne_i59, ne_i63, ne_i64, ne_i76, ne_i77, ne_i78, ne_i79, ne_i80, ne_i81, ne_i97, ne_i99, ne_i100, ne_i101, ne_i104, ne_i105, ne_i108, ne_i110, ne_i111, ne_i116, ne_i117, ne_i122, ne_i103, ne_i200, ne_i255, ne_i256, ne_i320, ne_i384, ne_i1000, ne_l0, ne_l1, ne_l2, ne_l3, ne_l4, ne_l5, ne_l8, ne_l12, ne_l31, ne_l48, ne_l57, ne_l97, ne_l99, ne_l122, ne_l255, ne_l673, ne_l1073741823, ne_l1073741824, t1', t2]
    · rintro f ⟨c, s, s'⟩ hI
      simp only at hI
      dsimp only
      rw [px_L_surely_b27, pm_surely_b39]
      simp (disch := omega) only [sm_lt, sm_b1s, sm_b2s, ↓reduceIte, sm_in_nI, nI_clamp, nI_add, pk_mul, pk_sub, ne_addneg, nI_l, ne_ltT, ne_ltF, ne_leT, ne_leF, ne_eqT, ne_eqF, ne_sI1s, ne_sI1n, ne_sI2, ne_sI3, ne_sL1, ne_sL2s, ne_sL2n, ne_sL3, pk_us, pk_un, pk_uLs, pk_uLn, mm_Z, mm_L, mm_1, mm_2, mm_3, ne_rz0, ne_rz1, not_true_eq_false, not_false_eq_true, ne_i0, ne_i1, ne_i2, ne_i3, ne_i4, ne_i5, ne_i6, ne_i7, ne_i8, ne_i9, ne_i10, ne_i12, ne_i14, ne_i16, ne_i18, ne_i19, ne_i20, ne_i23, ne_i24, ne_i27, ne_i29, ne_i30, ne_i31, ne_i32, ne_i35, ne_i48, ne_i52, ne_i54, ne_i57, ne_i59, ne_i63, ne_i64, ne_i76, ne_i77, ne_i78, ne_i79, ne_i80, ne_i81, ne_i97, ne_i99, ne_i100, ne_i101, ne_i104, ne_i105, ne_i108, ne_i110, ne_i111, ne_i116, ne_i117, ne_i122, ne_i103, ne_i200, ne_i255, ne_i256, ne_i320, ne_i384, ne_i1000, ne_l0, ne_l1, ne_l2, ne_l3, ne_l4, ne_l5, ne_l8, ne_l12, ne_l31, ne_l48, ne_l57, ne_l97, ne_l99, ne_l122, ne_l255, ne_l673, ne_l1073741823, ne_l1073741824]
      exact ⟨_, _, _, rfl, rfl, mo_R h hI⟩
  · refine fin ?_ ?_
    · rw [e1, sm_b2s, if_pos z0]
      simp (disch := omega) only [sm_lt, sm_b1s, sm_b2s, ↓reduceIte, sm_in_nI, nI_clamp, nI_add, pk_mul, pk_sub, ne_addneg, nI_l, ne_ltT, ne_ltF, ne_leT, ne_leF, ne_eqT, ne_eqF, ne_sI1s, ne_sI1n, ne_sI2, ne_sI3, ne_sL1, ne_sL2s, ne_sL2n, ne_sL3, pk_us, pk_un, pk_uLs, pk_uLn, mm_Z, mm_L, mm_1, mm_2, mm_3, ne_rz0, ne_rz1, not_true_eq_false, not_false_eq_true, ne_i0, ne_i1, ne_i2, ne_i3, ne_i4, ne_i5, ne_i6, ne_i7, ne_i8, ne_i9, ne_i10, ne_i12, ne_i14, ne_i16, ne_i18, ne_i19, ne_i20, ne_i23, ne_i24, ne_i27, ne_i29, ne_i30, ne_i31, ne_i32, ne_i35, ne_i48, ne_i52, ne_i54, ne_i57, ne_i59, ne_i63, ne_i64, ne_i76, ne_i77, ne_i78, ne_i79, ne_i80, ne_i81, ne_i97, ne_i99, ne_i100, ne_i101, ne_i104, ne_i105, ne_i108, ne_i110, ne_i111, ne_i116, ne_i117, ne_i122, ne_i103, ne_i200, ne_i255, ne_i256, ne_i320, ne_i384, ne_i1000, ne_l0, ne_l1, ne_l2, ne_l3, ne_l4, ne_l5, ne_l8, ne_l12, ne_l31, ne_l48, ne_l57, ne_l97, ne_l99, ne_l122, ne_l255, ne_l673, ne_l1073741823, ne_l1073741824, xq_bad]
    · rcases e2 with e2 | ⟨e2, e3⟩
      · rw [e2, sm_b2s, if_pos z0]
        simp (disch := omega) only [sm_lt, sm_b1s, sm_b2s, ↓reduceIte, sm_in_nI, nI_clamp, nI_add, pk_mul, pk_sub, ne_addneg, nI_l, ne_ltT, ne_ltF, ne_leT, ne_leF, ne_eqT, ne_eqF, ne_sI1s, ne_sI1n, ne_sI2, ne_sI3, ne_sL1, ne_sL2s, ne_sL2n, ne_sL3, pk_us, pk_un, pk_uLs, pk_uLn, mm_Z, mm_L, mm_1, mm_2, mm_3, ne_rz0, ne_rz1, not_true_eq_false, not_false_eq_true, ne_i0, ne_i1, ne_i2, ne_i3, ne_i4, ne_i5, ne_i6, ne_i7, ne_i8, ne_i9, ne_i10, ne_i12, ne_i14, ne_i16, ne_i18, ne_i19, ne_i20, ne_i23, ne_i24, ne_i27, ne_i29, ne_i30, ne_i31, ne_i32, ne_i35, ne_i48, ne_i52, ne_i54, ne_i57, ne_i59, ne_i63, ne_i64, ne_i76, ne_i77, ne_i78, ne_i79, ne_i80, ne_i81, ne_i97, ne_i99, ne_i100, ne_i101, ne_i104, ne_i105, ne_i108, ne_i110, ne_i111, ne_i116, ne_i117, ne_i122, ne_i103, ne_i200, ne_i255, ne_i256, ne_i320, ne_i384, ne_i1000, ne_l0, ne_l1, ne_l2, ne_l3, ne_l4, ne_l5, ne_l8, ne_l12, ne_l31, ne_l48, ne_l57, ne_l97, ne_l99, ne_l122, ne_l255, ne_l673, ne_l1073741823, ne_l1073741824, np_bad]
      · rw [e2, sm_b2s, if_neg z1, e3, sm_b2s, if_pos z0]
        simp (disch := omega) only [sm_lt, sm_b1s, sm_b2s, ↓reduceIte, sm_in_nI, nI_clamp, nI_add, pk_mul, pk_sub, ne_addneg, nI_l, ne_ltT, ne_ltF, ne_leT, ne_leF, ne_eqT, ne_eqF, ne_sI1s, ne_sI1n, ne_sI2, ne_sI3, ne_sL1, ne_sL2s, ne_sL2n, ne_sL3, pk_us, pk_un, pk_uLs, pk_uLn, mm_Z, mm_L, mm_1, mm_2, mm_3, ne_rz0, ne_rz1, not_true_eq_false, not_false_eq_true, ne_i0, ne_i1, ne_i2, ne_i3, ne_i4, ne_i5, ne_i6, ne_i7, ne_i8, ne_i9, ne_i10, ne_i12, ne_i14, ne_i16, ne_i18, ne_i19, ne_i20, ne_i23, ne_i24, ne_i27, ne_i29, ne_i30, ne_i31, ne_i32, ne_i35, ne_i48, ne_i52, ne_i54, ne_i57, ne_i59, ne_i63, ne_i64, ne_i76, ne_i77, ne_i78, ne_i79, ne_i80, ne_i81, ne_i97, ne_i99, ne_i100, ne_i101, ne_i104, ne_i105, ne_i108, ne_i110, ne_i111, ne_i116, ne_i117, ne_i122, ne_i103, ne_i200, ne_i255, ne_i256, ne_i320, ne_i384, ne_i1000, ne_l0, ne_l1, ne_l2, ne_l3, ne_l4, ne_l5, ne_l8, ne_l12, ne_l31, ne_l48, ne_l57, ne_l97, ne_l99, ne_l122, ne_l255, ne_l673, ne_l1073741823, ne_l1073741824, np_bad]
end
