section
variable {N : Nat} {X S : sm_St} {a b v ik tx : Nat → Nat} {len : Nat}
theorem c_undo (hN : 4000 ≤ N) (h : R X S) : OKr (px_L_undo N X) (pm_undo N S) := by
  obtain ⟨a, b, v, ik, tx, len, h⟩ := h
  have hR := RR_R h
  have hok := RR_ok h
  obtain ⟨o1, o2, o3, o4, o5, o6, o7, o8, o9, o10⟩ := hok
  obtain ⟨c1, k1, co, hh, hz, wi, now, past⟩ := RR_hs h
  have hw := h.1
  have hpast := h.2.2.1.2.1.2
  have hP := h.2.2.2.2.2.2.2.1
  have b79 : S.1 1 79 = nI (a 79) := hw 79 (by decide)
  have b78 : S.1 1 78 = nI (a 78) := hw 78 (by decide)
  unfold px_L_undo px_House_goBack pm_undo
  by_cases h0 : 0 < a 79
  · obtain ⟨n, hn⟩ : ∃ n, a 79 = n + 1 := ⟨a 79 - 1, by omega⟩
    obtain ⟨s, s1, s2⟩ := hP.1 n (by omega)
    have s2 : X.2.2 14 n = 1 + 14 + 2 * s := s2
    have d16 := hpl_16 hP (show n < 6 by omega)
    generalize hY : sm_sI (sm_sI X 1 12 (nI n)) 1 11 (nI (a 78 - 1)) = Y
    have fY : ∀ p, p ≠ 1 → Y.1 p = X.1 p := fun p hp => by rw [← hY, ne_sI1n hp, ne_sI1n hp]
    have rY : Y.2 = X.2 := by rw [← hY]; rfl
    have y12 : Y.1 1 12 = nI n := by rw [← hY, ne_sI1s, pk_un (by decide), ne_sI1s, pk_us]
    obtain ⟨X', e1, x1, x2, x3⟩ := xsh_copyFrom (X := Y) (N := N) (p := 12) (q := X.2.2 14 n) (xsh_fr (fY _ (by omega)) (fY _ (by omega)) (past n (by omega))) o1 (by omega) (by omega)
    have p1 := nP_sIo (p := 1) (k := 78) (x := nI (a 78 - 1)) (nP_sIo (p := 1) (k := 79) (x := nI n) h.2.1 (by decide)) (by decide)
    have w1 := nw_up (x := a 78 - 1) (k := 78) (nw_up (x := n) (k := 79) hw (by decide)) (by decide)
    have ea : ∀ k, k ≠ 79 → k ≠ 78 → va_up (va_up a 79 n) 78 (a 78 - 1) k = a k := fun k h1 h2 => by rw [ne_up_n h2, ne_up_n h1]
    have ea9 : va_up (va_up a 79 n) 78 (a 78 - 1) 79 = n := by rw [ne_up_n (by decide), ne_up_s]
    have ea8 : va_up (va_up a 79 n) 78 (a 78 - 1) 78 = a 78 - 1 := ne_up_s
    obtain ⟨S1, m1, p2⟩ := nP_cs (N := N) (to := 19) (from' := 24 + 5 * n) hN p1 (by omega) (by omega) (by omega) (by omega) (by omega)
    have w2 : nw _ S1 := nP_nw p2 w1
    generalize va_up (va_up a 79 n) 78 (a 78 - 1) = a' at w1 w2 ea ea9 ea8
    have p3 := nP_own p2
    generalize hv' : (fun s => if 19 ≤ s ∧ s < 19 + 5 then v (24 + 5 * n + (s - 19)) else v s) = v' at p2 p3
    have vn : ∀ c, c ≤ 4 → v' (19 + c) = v (24 + 5 * n + c) := fun c hc => by
      rw [← hv']
      show (if 19 ≤ 19 + c ∧ 19 + c < 19 + 5 then v (24 + 5 * n + (19 + c - 19)) else _) = _
      rw [if_pos (by omega), show 19 + c - 19 = c by omega]
    have vo : ∀ s, ¬ (19 ≤ s ∧ s < 24) → v' s = v s := fun s hs => by
      rw [← hv']
      show (if 19 ≤ s ∧ s < 19 + 5 then _ else v s) = _
      rw [if_neg (by omega)]
    have fS : ∀ p, p ≠ 1 → p ≠ 6 → S1.1 p = S.1 p := fun p h1 h6 => by rw [nP_1 p2 h6, ne_sI1n h1, ne_sI1n h1]
    refine ⟨nI 1, X', S1, ?_, ?_, RR_R (RR_h (a' := a') (v' := v') h w2 p3 ⟨?_, ⟨?_, fun j hj => ?_⟩, ?_⟩ (fun s hs => vo s (by omega)) (fun p hp => fS p (by omega) (by omega)) (by rw [fS 0 (by decide) (by decide)]) (by rw [fS 0 (by decide) (by decide)]) (fun p hp => by rw [x2 p (by omega) (by omega), fY p (by omega)]) (by rw [x2 102 (by omega) (by omega), fY 102 (by omega)]) (hpl_fr (by rw [x3, rY]) hP) (fun p hp => by rw [x3, rY]))⟩
    · have x12 : X.1 1 12 = nI (n + 1) := by rw [← hn]; exact c1.2.2.2.1
      have x11 := c1.2.2.1
      have e14 : (1 + 13) = 14 := rfl
      have rY2 : Y.2.2 = X.2.2 := by rw [rY]
      have e12 : (1 + 11) = 12 := rfl
      simp (disch := omega) only [sm_lt, sm_b1s, sm_b2s, ↓reduceIte, sm_in_nI, nI_clamp, nI_add, pk_mul, pk_sub, ne_addneg, nI_l, ne_ltT, ne_ltF, ne_leT, ne_leF, ne_eqT, ne_eqF, ne_sI1s, ne_sI1n, ne_sI2, ne_sI3, ne_sL1, ne_sL2s, ne_sL2n, ne_sL3, pk_us, pk_un, pk_uLs, pk_uLn, mm_Z, mm_L, mm_1, mm_2, mm_3, ne_rz0, ne_rz1, not_true_eq_false, not_false_eq_true, ne_i0, ne_i1, ne_i2, ne_i3, ne_i4, ne_i5, ne_i6, ne_i7, ne_i8, ne_i9, ne_i10, ne_i12, ne_i14, ne_i16, ne_i18, ne_i19, ne_i20, ne_i23, ne_i24, ne_i27, ne_i29, ne_i30, ne_i31, ne_i32, ne_i35, ne_i48, ne_i52, ne_i54, ne_i57, ne_i59, ne_i63, ne_i64, ne_i76, ne_i77, ne_i78, ne_i79, ne_i80, ne_i81, ne_i97, ne_i99, ne_i100, ne_i101, ne_i104, ne_i105, ne_i108, ne_i110, ne_i111, ne_i116, ne_i117, ne_i122, ne_i103, ne_i200, ne_i255, ne_i256, ne_i320, ne_i384, ne_i1000, ne_l0, ne_l1, ne_l2, ne_l3, ne_l4, ne_l5, ne_l8, ne_l12, ne_l31, ne_l48, ne_l57, ne_l97, ne_l99, ne_l122, ne_l255, ne_l673, ne_l1073741823, ne_l1073741824, x12, x11, Nat.add_sub_cancel, hY, e14, y12, rY2, d16, e12, e1]
    · have z1 : (sm_sI (sm_sI S 1 79 (nI n)) 1 78 (nI (a 78 - 1))).1 1 79 = nI n := by rw [ne_sI1s, pk_un (by decide), ne_sI1s, pk_us]
      rw [hn] at b79
      simp (disch := omega) only [sm_lt, sm_b1s, sm_b2s, ↓reduceIte, sm_in_nI, nI_clamp, nI_add, pk_mul, pk_sub, ne_addneg, nI_l, ne_ltT, ne_ltF, ne_leT, ne_leF, ne_eqT, ne_eqF, ne_sI1s, ne_sI1n, ne_sI2, ne_sI3, ne_sL1, ne_sL2s, ne_sL2n, ne_sL3, pk_us, pk_un, pk_uLs, pk_uLn, mm_Z, mm_L, mm_1, mm_2, mm_3, ne_rz0, ne_rz1, not_true_eq_false, not_false_eq_true, ne_i0, ne_i1, ne_i2, ne_i3, ne_i4, ne_i5, ne_i6, ne_i7, ne_i8, ne_i9, ne_i10, ne_i12, ne_i14, ne_i16, ne_i18, ne_i19, ne_i20, ne_i23, ne_i24, ne_i27, ne_i29, ne_i30, ne_i31, ne_i32, ne_i35, ne_i48, ne_i52, ne_i54, ne_i57, ne_i59, ne_i63, ne_i64, ne_i76, ne_i77, ne_i78, ne_i79, ne_i80, ne_i81, ne_i97, ne_i99, ne_i100, ne_i101, ne_i104, ne_i105, ne_i108, ne_i110, ne_i111, ne_i116, ne_i117, ne_i122, ne_i103, ne_i200, ne_i255, ne_i256, ne_i320, ne_i384, ne_i1000, ne_l0, ne_l1, ne_l2, ne_l3, ne_l4, ne_l5, ne_l8, ne_l12, ne_l31, ne_l48, ne_l57, ne_l97, ne_l99, ne_l122, ne_l255, ne_l673, ne_l1073741823, ne_l1073741824, b79, b78, Nat.add_sub_cancel, m1]
    · refine ⟨by rw [ea 76 (by decide) (by decide)]; exact o1, by rw [ea 77 (by decide) (by decide)]; exact o2, by omega, by omega, by omega, by rw [ea 80 (by decide) (by decide)]; exact o6, fun c hc => ?_, fun c x hc hx => ?_, fun t ht => ?_, fun k hk => ?_⟩
      · rw [ea 76 (by decide) (by decide)] at hc
        rw [ea _ (by omega) (by omega), ea _ (by omega) (by omega), ea _ (by omega) (by omega), ea _ (by omega) (by omega)]
        exact o7 c hc
      · exact sp_h8_eq o1 (ea 76 (by decide) (by decide)) (ea 77 (by decide) (by decide)) (fun k h1 h2 => ea k (by omega) (by omega)) o8 c x hc hx
      · rw [ea 77 (by decide) (by decide)] at ht
        rw [ea _ (by omega) (by omega)]
        exact o9 t ht
      · rw [ea 80 (by decide) (by decide)] at hk
        rw [ea _ (by omega) (by omega), ea _ (by omega) (by omega), ea _ (by omega) (by omega), ea _ (by omega) (by omega)]
        exact o10 k hk
    · obtain ⟨g1, g2, g3, g4⟩ := hpast n (by omega)
      refine ⟨fun c hc => ?_, ?_, ?_, ?_⟩
      · rw [ea 76 (by decide) (by decide)] at hc
        show v' (19 + c) ≤ 12 * v' (19 + 4)
        rw [vn c (by omega), vn 4 (by omega)]
        exact g1 c hc
      · show 0 < v' (19 + 4)
        rw [vn 4 (by omega)]; exact g2
      · show sm0 (v' (19 + 4))
        rw [vn 4 (by omega)]; exact g3
      · show v' (19 + 4) ≤ _
        rw [vn 4 (by omega), ea8, show a 78 - 1 = a 78 - a 79 + n by omega]; exact g4
    · rw [ea9] at hj
      rw [ea8, ea9, show a 78 - 1 - n + j = a 78 - a 79 + j by omega]
      obtain ⟨g1, g2, g3, g4⟩ := hpast j (by omega)
      refine ⟨fun c hc => ?_, ?_, ?_, ?_⟩
      · rw [ea 76 (by decide) (by decide)] at hc
        show v' (24 + 5 * j + c) ≤ 12 * v' (24 + 5 * j + 4)
        rw [vo _ (by omega), vo _ (by omega)]
        exact g1 c hc
      · show 0 < v' (24 + 5 * j + 4)
        rw [vo _ (by omega)]; exact g2
      · show sm0 (v' (24 + 5 * j + 4))
        rw [vo _ (by omega)]; exact g3
      · show v' (24 + 5 * j + 4) ≤ _
        rw [vo _ (by omega)]; exact g4
    · have kX : ∀ p, p ≠ 12 → p ≠ 13 → p ≠ 1 → X'.1 p = X.1 p := fun p h1 h2 h3 => by rw [x2 p h1 h2, fY p h3]
      refine ⟨?_, fun i hi => ?_, fun t ht => ?_, fun i x hi hx => ?_, fun i x hi hi4 hx => ?_, fun k f hk hf' => ?_, ?_, fun j hj => ?_⟩
      · rw [x2 1 (by decide) (by decide), ea8, ea9, ea 76 (by decide) (by decide), ea 77 (by decide) (by decide), ea 80 (by decide) (by decide), ← hY, ne_sI1s]
        refine ⟨?_, ?_, pk_us, ?_, ?_⟩
        · rw [pk_un (by decide), ne_sI1s, pk_un (by decide)]; exact c1.1
        · rw [pk_un (by decide), ne_sI1s, pk_un (by decide)]; exact c1.2.1
        · rw [pk_un (by decide), ne_sI1s, pk_us]
        · rw [pk_un (by decide), ne_sI1s, pk_un (by decide)]; exact c1.2.2.2.2
      · rw [ea 76 (by decide) (by decide)] at hi
        rw [kX _ (by omega) (by omega) (by omega), kX _ (by omega) (by omega) (by omega), kX _ (by omega) (by omega) (by omega), kX _ (by omega) (by omega) (by omega), ea _ (by omega) (by omega), ea _ (by omega) (by omega), ea _ (by omega) (by omega), ea _ (by omega) (by omega)]
        exact k1 i hi
      · rw [ea 77 (by decide) (by decide)] at ht
        rw [kX _ (by omega) (by omega) (by omega), ea _ (by omega) (by omega)]
        exact co t ht
      · rw [ea 76 (by decide) (by decide)] at hi
        rw [kX _ (by omega) (by omega) (by omega), ea _ (by omega) (by omega)]
        exact hh i x hi hx
      · rw [ea 76 (by decide) (by decide)] at hi
        rw [kX _ (by omega) (by omega) (by omega)]
        exact hz i x hi hi4 hx
      · rw [ea 80 (by decide) (by decide)] at hk
        rw [kX _ (by omega) (by omega) (by omega), ea _ (by omega) (by omega)]
        exact wi k f hk hf'
      · rw [ea 76 (by decide) (by decide)]
        exact xsh_eq o1 vn x1
      · rw [ea9] at hj
        rw [ea 76 (by decide) (by decide)]
        have er : X'.2.2 (1 + 13) j = X.2.2 14 j := by rw [x3, rY]
        rw [er]
        obtain ⟨t, t1, t2⟩ := hP.1 j (by omega)
        have t2 : X.2.2 14 j = 1 + 14 + 2 * t := t2
        exact xsh_eq o1 (fun c _ => vo _ (by omega)) (xsh_fr (kX _ (by omega) (by omega) (by omega)) (kX _ (by omega) (by omega) (by omega)) (past j (by omega)))
  · have e0 : a 79 = 0 := by omega
    have x12 : X.1 1 12 = nI 0 := by rw [← e0]; exact c1.2.2.2.1
    rw [e0] at b79
    simp (disch := omega) only [sm_lt, sm_b1s, sm_b2s, ↓reduceIte, sm_in_nI, nI_clamp, nI_add, pk_mul, pk_sub, ne_addneg, nI_l, ne_ltT, ne_ltF, ne_leT, ne_leF, ne_eqT, ne_eqF, ne_sI1s, ne_sI1n, ne_sI2, ne_sI3, ne_sL1, ne_sL2s, ne_sL2n, ne_sL3, pk_us, pk_un, pk_uLs, pk_uLn, mm_Z, mm_L, mm_1, mm_2, mm_3, ne_rz0, ne_rz1, not_true_eq_false, not_false_eq_true, ne_i0, ne_i1, ne_i2, ne_i3, ne_i4, ne_i5, ne_i6, ne_i7, ne_i8, ne_i9, ne_i10, ne_i12, ne_i14, ne_i16, ne_i18, ne_i19, ne_i20, ne_i23, ne_i24, ne_i27, ne_i29, ne_i30, ne_i31, ne_i32, ne_i35, ne_i48, ne_i52, ne_i54, ne_i57, ne_i59, ne_i63, ne_i64, ne_i76, ne_i77, ne_i78, ne_i79, ne_i80, ne_i81, ne_i97, ne_i99, ne_i100, ne_i101, ne_i104, ne_i105, ne_i108, ne_i110, ne_i111, ne_i116, ne_i117, ne_i122, ne_i103, ne_i200, ne_i255, ne_i256, ne_i320, ne_i384, ne_i1000, ne_l0, ne_l1, ne_l2, ne_l3, ne_l4, ne_l5, ne_l8, ne_l12, ne_l31, ne_l48, ne_l57, ne_l97, ne_l99, ne_l122, ne_l255, ne_l673, ne_l1073741823, ne_l1073741824, x12, b79, xq_no, np_no]
    exact ⟨_, _, _, rfl, rfl, R_no hR⟩
/-- thirty five numbers are copied -/
theorem nP_ca {to from' : Nat} {M : sm_St} (hN : 4000 ≤ N) (h : nP M v S) (h1 : 7 ≤ to) (h2 : to + 35 ≤ 124) (h3 : 7 ≤ from') (h4 : from' + 35 ≤ 124) (hd : to + 35 ≤ from' ∨ from' + 35 ≤ to) : ∃ S', pm_copyAll N S (nI to) (nI from') (nI (to + 5)) (nI (from' + 5)) = some S' ∧ nP M (fun s => if to ≤ s ∧ s < to + 35 then v (from' + (s - to)) else v s) S' := by
  obtain ⟨S1, e1, g1⟩ := nP_cs (N := N) (to := to) (from' := from') hN h h1 (by omega) h3 (by omega) (by omega)
  unfold pm_copyAll
  simp (disch := omega) only [sm_lt, sm_b1s, sm_b2s, ↓reduceIte, sm_in_nI, nI_clamp, nI_add, pk_mul, pk_sub, ne_addneg, nI_l, ne_ltT, ne_ltF, ne_leT, ne_leF, ne_eqT, ne_eqF, ne_sI1s, ne_sI1n, ne_sI2, ne_sI3, ne_sL1, ne_sL2s, ne_sL2n, ne_sL3, pk_us, pk_un, pk_uLs, pk_uLn, mm_Z, mm_L, mm_1, mm_2, mm_3, ne_rz0, ne_rz1, not_true_eq_false, not_false_eq_true, ne_i0, ne_i1, ne_i2, ne_i3, ne_i4, ne_i5, ne_i6, ne_i7, ne_i8, ne_i9, ne_i10, ne_i12, ne_i14, ne_i16, ne_i18, ne_i19, ne_i20, ne_i23, ne_i24, ne_i27, ne_i29, ne_i30, ne_i31, ne_i32, ne_i35, ne_i48, ne_i52, ne_i54, ne_i57, ne_i59, ne_i63, ne_i64, ne_i76, ne_i77, ne_i78, ne_i79, ne_i80, ne_i81, ne_i97, ne_i99, ne_i100, ne_i101, ne_i104, ne_i105, ne_i108, ne_i110, ne_i111, ne_i116, ne_i117, ne_i122, ne_i103, ne_i200, ne_i255, ne_i256, ne_i320, ne_i384, ne_i1000, ne_l0, ne_l1, ne_l2, ne_l3, ne_l4, ne_l5, ne_l8, ne_l12, ne_l31, ne_l48, ne_l57, ne_l97, ne_l99, ne_l122, ne_l255, ne_l673, ne_l1073741823, ne_l1073741824, e1]
  refine ne_loop (fun f i (s : sm_St) => pm_copyAll_b9 N f (nI (to + 5)) (nI (from' + 5)) (nI i) s) (fun i s => nP M (fun s => if to ≤ s ∧ s < to + 5 + 5 * i then v (from' + (s - to)) else v s) s) 6 (fun r => ∃ S', r = some S' ∧ nP M (fun s => if to ≤ s ∧ s < to + 35 then v (from' + (s - to)) else v s) S') ?_ ?_ N 0 S1 (by omega) (by omega) g1
  · intro f i s hi hI
    left
    obtain ⟨S2, e2, g2⟩ := nP_cs (N := N) (to := to + 5 + 5 * i) (from' := from' + 5 + 5 * i) hN hI (by omega) (by omega) (by omega) (by omega) (by omega)
    refine ⟨S2, nP_eq g2 (fun s _ => ?_), ?_⟩
    · by_cases q : to + 5 + 5 * i ≤ s ∧ s < to + 5 + 5 * i + 5
      · rw [if_pos q, if_neg (by omega), if_pos (by omega)]
        congr 1
        omega
      · rw [if_neg q]
        by_cases q2 : to ≤ s ∧ s < to + 5 + 5 * i
        · rw [if_pos q2, if_pos (by omega)]
        · rw [if_neg q2, if_neg (by omega)]
    · show pm_copyAll_b9 N (f + 1) _ _ _ _ = _
      rw [pm_copyAll_b9]
      simp (disch := omega) only [sm_lt, sm_b1s, sm_b2s, ↓reduceIte, sm_in_nI, nI_clamp, nI_add, pk_mul, pk_sub, ne_addneg, nI_l, ne_ltT, ne_ltF, ne_leT, ne_leF, ne_eqT, ne_eqF, ne_sI1s, ne_sI1n, ne_sI2, ne_sI3, ne_sL1, ne_sL2s, ne_sL2n, ne_sL3, pk_us, pk_un, pk_uLs, pk_uLn, mm_Z, mm_L, mm_1, mm_2, mm_3, ne_rz0, ne_rz1, not_true_eq_false, not_false_eq_true, ne_i0, ne_i1, ne_i2, ne_i3, ne_i4, ne_i5, ne_i6, ne_i7, ne_i8, ne_i9, ne_i10, ne_i12, ne_i14, ne_i16, ne_i18, ne_i19, ne_i20, ne_i23, ne_i24, ne_i27, ne_i29, ne_i30, ne_i31, ne_i32, ne_i35, ne_i48, ne_i52, ne_i54, ne_i57, ne_i59, ne_i63, ne_i64, ne_i76, ne_i77, ne_i78, ne_i79, ne_i80, ne_i81, ne_i97, ne_i99, ne_i100, ne_i101, ne_i104, ne_i105, ne_i108, ne_i110, ne_i111, ne_i116, ne_i117, ne_i122, ne_i103, ne_i200, ne_i255, ne_i256, ne_i320, ne_i384, ne_i1000, ne_l0, ne_l1, ne_l2, ne_l3, ne_l4, ne_l5, ne_l8, ne_l12, ne_l31, ne_l48, ne_l57, ne_l97, ne_l99, ne_l122, ne_l255, ne_l673, ne_l1073741823, ne_l1073741824, e2]
  · intro f s hI
    show ∃ S', pm_copyAll_b9 N (f + 1) _ _ _ _ = _ ∧ _
    rw [pm_copyAll_b9]
    simp (disch := omega) only [sm_lt, sm_b1s, sm_b2s, ↓reduceIte, sm_in_nI, nI_clamp, nI_add, pk_mul, pk_sub, ne_addneg, nI_l, ne_ltT, ne_ltF, ne_leT, ne_leF, ne_eqT, ne_eqF, ne_sI1s, ne_sI1n, ne_sI2, ne_sI3, ne_sL1, ne_sL2s, ne_sL2n, ne_sL3, pk_us, pk_un, pk_uLs, pk_uLn, mm_Z, mm_L, mm_1, mm_2, mm_3, ne_rz0, ne_rz1, not_true_eq_false, not_false_eq_true, ne_i0, ne_i1, ne_i2, ne_i3, ne_i4, ne_i5, ne_i6, ne_i7, ne_i8, ne_i9, ne_i10, ne_i12, ne_i14, ne_i16, ne_i18, ne_i19, ne_i20, ne_i23, ne_i24, ne_i27, ne_i29, ne_i30, ne_i31, ne_i32, ne_i35, ne_i48, ne_i52, ne_i54, ne_i57, ne_i59, ne_i63, ne_i64, ne_i76, ne_i77, ne_i78, ne_i79, ne_i80, ne_i81, ne_i97, ne_i99, ne_i100, ne_i101, ne_i104, ne_i105, ne_i108, ne_i110, ne_i111, ne_i116, ne_i117, ne_i122, ne_i103, ne_i200, ne_i255, ne_i256, ne_i320, ne_i384, ne_i1000, ne_l0, ne_l1, ne_l2, ne_l3, ne_l4, ne_l5, ne_l8, ne_l12, ne_l31, ne_l48, ne_l57, ne_l97, ne_l99, ne_l122, ne_l255, ne_l673, ne_l1073741823, ne_l1073741824]
    exact ⟨s, rfl, hI⟩
/-- only the first 81 ints count -/
theorem gH_a {p : Nat} {a' w : Nat → Nat} {pw : Nat → Nat → Nat} (e : ∀ k, k < 81 → a' k = a k) (h : gH X p a w pw) : gH X p a' w pw := by
  obtain ⟨⟨o1, o2, o3, o4, o5, o6, o7, o8, o9, o10⟩, hwv, c, k1, co, hh, hz, wi, now, past⟩ := h
  refine ⟨?_, wv_a hwv (e 76 (by decide)) (e 78 (by decide)) (e 79 (by decide)), ?_⟩
  · refine ⟨by rw [e 76 (by decide)]; exact o1, by rw [e 77 (by decide)]; exact o2, by rw [e 78 (by decide)]; exact o3, by rw [e 79 (by decide)]; exact o4, by rw [e 79 (by decide), e 78 (by decide)]; exact o5, by rw [e 80 (by decide)]; exact o6, fun c hc => ?_, fun c x hc hx => ?_, fun t ht => ?_, fun k hk => ?_⟩
    · rw [e 76 (by decide)] at hc
      rw [e _ (by omega), e _ (by omega), e _ (by omega), e _ (by omega)]
      exact o7 c hc
    · exact sp_h8_eq o1 (e 76 (by decide)) (e 77 (by decide)) (fun k h1 h2 => e k (by omega)) o8 c x hc hx
    · rw [e 77 (by decide)] at ht
      rw [e _ (by omega)]
      exact o9 t ht
    · rw [e 80 (by decide)] at hk
      rw [e _ (by omega), e _ (by omega), e _ (by omega), e _ (by omega)]
      exact o10 k hk
  · refine ⟨by rw [e 76 (by decide), e 77 (by decide), e 78 (by decide), e 79 (by decide), e 80 (by decide)]; exact c, fun i hi => ?_, fun t ht => ?_, fun i x hi hx => ?_, fun i x hi hi4 hx => ?_, fun k f hk hf' => ?_, by rw [e 76 (by decide)]; exact now, fun j hj => ?_⟩
    · rw [e 76 (by decide)] at hi
      rw [e _ (by omega), e _ (by omega), e _ (by omega), e _ (by omega)]
      exact k1 i hi
    · rw [e 77 (by decide)] at ht
      rw [e _ (by omega)]
      exact co t ht
    · rw [e 76 (by decide)] at hi
      rw [e _ (by omega)]
      exact hh i x hi hx
    · rw [e 76 (by decide)] at hi
      exact hz i x hi hi4 hx
    · rw [e 80 (by decide)] at hk
      rw [e _ (by omega)]
      exact wi k f hk hf'
    · rw [e 79 (by decide)] at hj
      rw [e 76 (by decide)]
      exact past j hj
theorem ik_2 {i : Nat} (hi : i < 2) : 35 + 33 * i = 35 ∨ 35 + 33 * i = 68 := by omega
theorem c_image {v1 : Int32} (hN : 4000 ≤ N) (h : R X S) : OKr (px_L_image N X v1) (pm_image N S v1) := by
  obtain ⟨a, b, v, ik, tx, len, h⟩ := h
  have hR := RR_R h
  have hok := RR_ok h
  have hw := h.1
  unfold px_L_image pm_image
  rcases w_or (N := N) (X := X) (S := S) v1 (show 1 < 2 ^ 31 by decide) with ⟨i, rfl, hi⟩ | ⟨e1, e2⟩
  · have hi2 : i < 2 := by omega
    obtain ⟨r1, r2, r3, r4, r5, r6, r7, r8⟩ := h
    have hPi : hpl X (35 + 33 * i) := by
      have hi' : i = 0 ∨ i = 1 := by omega
      rcases hi' with rfl | rfl
      · exact r8.2.1
      · exact r8.2.2
    obtain ⟨Y, e1, y1, y2, y3⟩ := xq_hcopy (N := N) (p := 35 + 33 * i) (q := 1) hN (by omega) (by omega) (by omega) hPi r8.1 hok r3.2.2
    -- the reference's ints
    have lp : ∃ g, pm_image_b19 N N (nI i) (nI 0) S = sm_b1 (pm_copyAll N (sm_sF S 2 g) (nI (54 + 35 * i)) (nI 19) (nI (54 + 35 * i + 5)) (nI 24)) (fun S_6 => some (nI 1, sm_sI S_6 3 i (nI 1))) ∧ ∀ k, k < 162 → g k = nI (if 81 * i ≤ k ∧ k < 81 * i + 81 then a (k - 81 * i) else b k) := by
      have q := ne_loop (fun f j (g : Nat → Int32) => pm_image_b19 N f (nI i) (nI j) (sm_sF S 2 g)) (fun j g => ∀ k, k < 162 → g k = nI (if 81 * i ≤ k ∧ k < 81 * i + j then a (k - 81 * i) else b k)) 81 (fun r => ∃ g, r = sm_b1 (pm_copyAll N (sm_sF S 2 g) (nI (54 + 35 * i)) (nI 19) (nI (54 + 35 * i + 5)) (nI 24)) (fun S_6 => some (nI 1, sm_sI S_6 3 i (nI 1))) ∧ ∀ k, k < 162 → g k = nI (if 81 * i ≤ k ∧ k < 81 * i + 81 then a (k - 81 * i) else b k)) ?_ ?_ N 0 (S.1 2) (by omega) (by omega) (fun k hk => by rw [if_neg (by omega)]; exact r4.1 k hk)
      · simp only [sF_self] at q
        exact q
      · intro f j g hj hI
        left
        refine ⟨upd g (81 * i + j) (nI (a j)), fun k hk => ?_, ?_⟩
        · by_cases e : k = 81 * i + j
          · subst e
            rw [pk_us, if_pos (by omega), show 81 * i + j - 81 * i = j by omega]
          · rw [pk_un e, hI k hk]
            by_cases q : 81 * i ≤ k ∧ k < 81 * i + j
            · rw [if_pos q, if_pos (by omega)]
            · rw [if_neg q, if_neg (by omega)]
        · show pm_image_b19 N (f + 1) _ _ _ = _
          rw [pm_image_b19]
          simp (disch := omega) only [sm_lt, sm_b1s, sm_b2s, ↓reduceIte, sm_in_nI, nI_clamp, nI_add, pk_mul, pk_sub, ne_addneg, nI_l, ne_ltT, ne_ltF, ne_leT, ne_leF, ne_eqT, ne_eqF, ne_sI1s, ne_sI1n, ne_sI2, ne_sI3, ne_sL1, ne_sL2s, ne_sL2n, ne_sL3, pk_us, pk_un, pk_uLs, pk_uLn, mm_Z, mm_L, mm_1, mm_2, mm_3, ne_rz0, ne_rz1, not_true_eq_false, not_false_eq_true, ne_i0, ne_i1, ne_i2, ne_i3, ne_i4, ne_i5, ne_i6, ne_i7, ne_i8, ne_i9, ne_i10, ne_i12, ne_i14, ne_i16, ne_i18, ne_i19, ne_i20, ne_i23, ne_i24, ne_i27, ne_i29, ne_i30, ne_i31, ne_i32, ne_i35, ne_i48, ne_i52, ne_i54, ne_i57, ne_i59, ne_i63, ne_i64, ne_i76, ne_i77, ne_i78, ne_i79, ne_i80, ne_i81, ne_i97, ne_i99, ne_i100, ne_i101, ne_i104, ne_i105, ne_i108, ne_i110, ne_i111, ne_i116, ne_i117, ne_i122, ne_i103, ne_i200, ne_i255, ne_i256, ne_i320, ne_i384, ne_i1000, ne_l0, ne_l1, ne_l2, ne_l3, ne_l4, ne_l5, ne_l8, ne_l12, ne_l31, ne_l48, ne_l57, ne_l97, ne_l99, ne_l122, ne_l255, ne_l673, ne_l1073741823, ne_l1073741824, sF_n, hw, sF_sI]
      · intro f g hI
        show ∃ g', pm_image_b19 N (f + 1) _ _ _ = _ ∧ _
        rw [pm_image_b19]
        refine ⟨g, ?_, hI⟩
        simp (disch := omega) only [sm_lt, sm_b1s, sm_b2s, ↓reduceIte, sm_in_nI, nI_clamp, nI_add, pk_mul, pk_sub, ne_addneg, nI_l, ne_ltT, ne_ltF, ne_leT, ne_leF, ne_eqT, ne_eqF, ne_sI1s, ne_sI1n, ne_sI2, ne_sI3, ne_sL1, ne_sL2s, ne_sL2n, ne_sL3, pk_us, pk_un, pk_uLs, pk_uLn, mm_Z, mm_L, mm_1, mm_2, mm_3, ne_rz0, ne_rz1, not_true_eq_false, not_false_eq_true, ne_i0, ne_i1, ne_i2, ne_i3, ne_i4, ne_i5, ne_i6, ne_i7, ne_i8, ne_i9, ne_i10, ne_i12, ne_i14, ne_i16, ne_i18, ne_i19, ne_i20, ne_i23, ne_i24, ne_i27, ne_i29, ne_i30, ne_i31, ne_i32, ne_i35, ne_i48, ne_i52, ne_i54, ne_i57, ne_i59, ne_i63, ne_i64, ne_i76, ne_i77, ne_i78, ne_i79, ne_i80, ne_i81, ne_i97, ne_i99, ne_i100, ne_i101, ne_i104, ne_i105, ne_i108, ne_i110, ne_i111, ne_i116, ne_i117, ne_i122, ne_i103, ne_i200, ne_i255, ne_i256, ne_i320, ne_i384, ne_i1000, ne_l0, ne_l1, ne_l2, ne_l3, ne_l4, ne_l5, ne_l8, ne_l12, ne_l31, ne_l48, ne_l57, ne_l97, ne_l99, ne_l122, ne_l255, ne_l673, ne_l1073741823, ne_l1073741824, ne_nb1]
    obtain ⟨g, eg, g1⟩ := lp
    obtain ⟨S1, m1, p1⟩ := nP_ca (N := N) (to := 54 + 35 * i) (from' := 19) hN (nP_own (nP_sF (p := 2) (g := g) r2 (by decide))) (by omega) (by omega) (by omega) (by omega) (by omega)
    have p2 := nP_own (nP_sI (p := 3) (k := i) (x := nI 1) p1 (by decide))
    generalize hv' : (fun s => if 54 + 35 * i ≤ s ∧ s < 54 + 35 * i + 35 then v (19 + (s - (54 + 35 * i))) else v s) = v' at p1 p2
    have vi : ∀ c, c < 35 → v' (54 + 35 * i + c) = v (19 + c) := fun c hc => by
      rw [← hv']
      show (if 54 + 35 * i ≤ 54 + 35 * i + c ∧ 54 + 35 * i + c < 54 + 35 * i + 35 then v (19 + (54 + 35 * i + c - (54 + 35 * i))) else _) = _
      rw [if_pos (by omega), show 54 + 35 * i + c - (54 + 35 * i) = c by omega]
    have vo : ∀ s, ¬ (54 + 35 * i ≤ s ∧ s < 54 + 35 * i + 35) → v' s = v s := fun s hs => by
      rw [← hv']
      show (if 54 + 35 * i ≤ s ∧ s < 54 + 35 * i + 35 then _ else v s) = _
      rw [if_neg hs]
    have fS : ∀ p, p ≠ 2 → p ≠ 3 → p ≠ 6 → (sm_sI S1 3 i (nI 1)).1 p = S.1 p := fun p h2 h3 h6 => by rw [ne_sI1n h3, nP_1 p1 h6, sF_n h2]
    have fX : ∀ p, ¬ (35 + 33 * i ≤ p ∧ p < 35 + 33 * i + 33) → p ≠ 101 → (sm_sI Y 101 i (nI 1)).1 p = X.1 p := fun p h1 h2 => by rw [ne_sI1n h2]; exact y2 p h1
    have eb : ∀ k, k < 162 → (sm_sI S1 3 i (nI 1)).1 2 k = nI (if 81 * i ≤ k ∧ k < 81 * i + 81 then a (k - 81 * i) else b k) := fun k hk => by rw [ne_sI1n (by decide), nP_1 p1 (by decide), sF_s]; exact g1 k hk
    generalize hb' : (fun k => if 81 * i ≤ k ∧ k < 81 * i + 81 then a (k - 81 * i) else b k) = b' at *
    have eb' : ∀ k, k < 162 → (sm_sI S1 3 i (nI 1)).1 2 k = nI (b' k) := fun k hk => by rw [eb k hk, ← hb']
    have hbi : ∀ k, k < 81 → b' (81 * i + k) = a k := fun k hk => by
      rw [← hb']
      show (if 81 * i ≤ 81 * i + k ∧ 81 * i + k < 81 * i + 81 then a (81 * i + k - 81 * i) else _) = _
      rw [if_pos (by omega), show 81 * i + k - 81 * i = k by omega]
    have hbo : ∀ k, ¬ (81 * i ≤ k ∧ k < 81 * i + 81) → b' k = b k := fun k hk => by
      rw [← hb']
      show (if 81 * i ≤ k ∧ k < 81 * i + 81 then _ else b k) = _
      rw [if_neg hk]
    refine ⟨nI 1, sm_sI Y 101 i (nI 1), sm_sI S1 3 i (nI 1), ?_, ?_, a, b', v', va_up ik i 1, tx, len, fun k hk => by rw [fS 1 (by decide) (by decide) (by decide)]; exact r1 k hk, p2, ?_, ⟨eb', fun j hj => ?_⟩, ?_, ?_, ?_, ?_⟩
    · simp (disch := omega) only [sm_lt, sm_b1s, sm_b2s, ↓reduceIte, sm_in_nI, nI_clamp, nI_add, pk_mul, pk_sub, ne_addneg, nI_l, ne_ltT, ne_ltF, ne_leT, ne_leF, ne_eqT, ne_eqF, ne_sI1s, ne_sI1n, ne_sI2, ne_sI3, ne_sL1, ne_sL2s, ne_sL2n, ne_sL3, pk_us, pk_un, pk_uLs, pk_uLn, mm_Z, mm_L, mm_1, mm_2, mm_3, ne_rz0, ne_rz1, not_true_eq_false, not_false_eq_true, ne_i0, ne_i1, ne_i2, ne_i3, ne_i4, ne_i5, ne_i6, ne_i7, ne_i8, ne_i9, ne_i10, ne_i12, ne_i14, ne_i16, ne_i18, ne_i19, ne_i20, ne_i23, ne_i24, ne_i27, ne_i29, ne_i30, ne_i31, ne_i32, ne_i35, ne_i48, ne_i52, ne_i54, ne_i57, ne_i59, ne_i63, ne_i64, ne_i76, ne_i77, ne_i78, ne_i79, ne_i80, ne_i81, ne_i97, ne_i99, ne_i100, ne_i101, ne_i104, ne_i105, ne_i108, ne_i110, ne_i111, ne_i116, ne_i117, ne_i122, ne_i103, ne_i200, ne_i255, ne_i256, ne_i320, ne_i384, ne_i1000, ne_l0, ne_l1, ne_l2, ne_l3, ne_l4, ne_l5, ne_l8, ne_l12, ne_l31, ne_l48, ne_l57, ne_l97, ne_l99, ne_l122, ne_l255, ne_l673, ne_l1073741823, ne_l1073741824, xq_wT, e1, ne_nb1]
    · simp (disch := omega) only [sm_lt, sm_b1s, sm_b2s, ↓reduceIte, sm_in_nI, nI_clamp, nI_add, pk_mul, pk_sub, ne_addneg, nI_l, ne_ltT, ne_ltF, ne_leT, ne_leF, ne_eqT, ne_eqF, ne_sI1s, ne_sI1n, ne_sI2, ne_sI3, ne_sL1, ne_sL2s, ne_sL2n, ne_sL3, pk_us, pk_un, pk_uLs, pk_uLn, mm_Z, mm_L, mm_1, mm_2, mm_3, ne_rz0, ne_rz1, not_true_eq_false, not_false_eq_true, ne_i0, ne_i1, ne_i2, ne_i3, ne_i4, ne_i5, ne_i6, ne_i7, ne_i8, ne_i9, ne_i10, ne_i12, ne_i14, ne_i16, ne_i18, ne_i19, ne_i20, ne_i23, ne_i24, ne_i27, ne_i29, ne_i30, ne_i31, ne_i32, ne_i35, ne_i48, ne_i52, ne_i54, ne_i57, ne_i59, ne_i63, ne_i64, ne_i76, ne_i77, ne_i78, ne_i79, ne_i80, ne_i81, ne_i97, ne_i99, ne_i100, ne_i101, ne_i104, ne_i105, ne_i108, ne_i110, ne_i111, ne_i116, ne_i117, ne_i122, ne_i103, ne_i200, ne_i255, ne_i256, ne_i320, ne_i384, ne_i1000, ne_l0, ne_l1, ne_l2, ne_l3, ne_l4, ne_l5, ne_l8, ne_l12, ne_l31, ne_l48, ne_l57, ne_l97, ne_l99, ne_l122, ne_l255, ne_l673, ne_l1073741823, ne_l1073741824, ne_inT]
      rw [eg, m1, sm_b1s]
    · exact gH_eq (fun c _ => vo _ (by omega)) (fun j c _ _ => vo _ (by omega)) (gH_fr r8.1 (fun q a b => fX q (by omega) (by omega)) (by show Y.2.2 _ = _; rw [y3]) r3)
    · obtain ⟨i1, i2, i3, i4⟩ := r4.2 j hj
      by_cases q : j = i
      · subst q
        refine ⟨by rw [ne_up_s]; decide, by rw [ne_sI1s, pk_us, ne_up_s], by rw [ne_sI1s, pk_us, ne_up_s], fun _ => ?_⟩
        have y1' : gH (sm_sI Y 101 j (nI 1)) (35 + 33 * j) a (fun c => v' (54 + 35 * j + c)) (fun k c => v' (59 + 35 * j + 5 * k + c)) := by
          refine gH_eq (fun c hc => vi c (by omega)) (fun k c hk hc => ?_) (gH_fr (hpl_fr (by rw [y3]) hPi) (fun q a b => ne_sI1n (by omega)) rfl ⟨r3.1, r3.2.1, y1⟩)
          rw [show 59 + 35 * j + 5 * k + c = 54 + 35 * j + (5 + 5 * k + c) by omega, vi _ (by omega)]
          congr 1
          omega
        exact gH_a hbi y1'
      · refine ⟨by rw [ne_up_n q]; exact i1, by rw [ne_sI1s, pk_un q, ne_up_n q, nP_1 p1 (by decide), sF_n (by decide)]; exact i2, by rw [ne_sI1s, pk_un q, ne_up_n q, y2 101 (by omega)]; exact i3, fun e => ?_⟩
        rw [ne_up_n q] at e
        have hPj : hpl X (35 + 33 * j) := by
          have hj' : j = 0 ∨ j = 1 := by omega
          rcases hj' with rfl | rfl
          · exact r8.2.1
          · exact r8.2.2
        have := gH_eq (w' := fun c => v' (54 + 35 * j + c)) (pw' := fun k c => v' (59 + 35 * j + 5 * k + c)) (fun c _ => vo _ (by omega)) (fun k c _ _ => vo _ (by omega)) (gH_fr (X' := sm_sI Y 101 i (nI 1)) hPj (fun q a b => fX q (by omega) (by omega)) (by show Y.2.2 _ = _; rw [y3]) (i4 e))
        exact gH_a (fun k hk => hbo _ (by omega)) this
    · obtain ⟨t1, t2, t3, t4⟩ := r5
      exact ⟨t1, by rw [fX 102 (by omega) (by omega)]; exact t2, by rw [fS 0 (by decide) (by decide) (by decide)]; exact t3, fun k hk => by rw [fX 103 (by omega) (by omega), fS 17 (by decide) (by decide) (by decide)]; exact t4 k hk⟩
    · exact gF_v (gF_fr r6 (fX 104 (by omega) (by omega)) (fX 105 (by omega) (by omega)) (fX 106 (by omega) (by omega)) (by rw [fS 0 (by decide) (by decide) (by decide)])) (vo 0 (by omega)) (vo 1 (by omega))
    · unfold gC
      rw [fX 0 (by omega) (by omega), fS 4 (by decide) (by decide) (by decide)]
      exact r7
    · exact gP_fr (by show Y.2.2 = _; rw [y3]) r8
  · simp (disch := omega) only [sm_lt, sm_b1s, sm_b2s, ↓reduceIte, sm_in_nI, nI_clamp, nI_add, pk_mul, pk_sub, ne_addneg, nI_l, ne_ltT, ne_ltF, ne_leT, ne_leF, ne_eqT, ne_eqF, ne_sI1s, ne_sI1n, ne_sI2, ne_sI3, ne_sL1, ne_sL2s, ne_sL2n, ne_sL3, pk_us, pk_un, pk_uLs, pk_uLn, mm_Z, mm_L, mm_1, mm_2, mm_3, ne_rz0, ne_rz1, not_true_eq_false, not_false_eq_true, ne_i0, ne_i1, ne_i2, ne_i3, ne_i4, ne_i5, ne_i6, ne_i7, ne_i8, ne_i9, ne_i10, ne_i12, ne_i14, ne_i16, ne_i18, ne_i19, ne_i20, ne_i23, ne_i24, ne_i27, ne_i29, ne_i30, ne_i31, ne_i32, ne_i35, ne_i48, ne_i52, ne_i54, ne_i57, ne_i59, ne_i63, ne_i64, ne_i76, ne_i77, ne_i78, ne_i79, ne_i80, ne_i81, ne_i97, ne_i99, ne_i100, ne_i101, ne_i104, ne_i105, ne_i108, ne_i110, ne_i111, ne_i116, ne_i117, ne_i122, ne_i103, ne_i200, ne_i255, ne_i256, ne_i320, ne_i384, ne_i1000, ne_l0, ne_l1, ne_l2, ne_l3, ne_l4, ne_l5, ne_l8, ne_l12, ne_l31, ne_l48, ne_l57, ne_l97, ne_l99, ne_l122, ne_l255, ne_l673, ne_l1073741823, ne_l1073741824, e1, e2, xq_bad, np_bad]
    exact ⟨_, _, _, rfl, rfl, R_bad hR⟩
theorem c_from {v1 : Int32} (hN : 4000 ≤ N) (h : R X S) : OKr (px_L_from N X v1) (pm_from N S v1) := by
  obtain ⟨a, b, v, ik, tx, len, h⟩ := h
  have hR := RR_R h
  have hw := h.1
  unfold px_L_from pm_from
  rcases w_or (N := N) (X := X) (S := S) v1 (show 1 < 2 ^ 31 by decide) with ⟨i, rfl, hi⟩ | ⟨e1, e2⟩
  · have hi2 : i < 2 := by omega
    obtain ⟨i1, i2, i3, i4⟩ := h.2.2.2.1.2 i hi2
    by_cases hk : ik i = 1
    · have r8 := h.2.2.2.2.2.2.2
      have r4 := h.2.2.2.1
      have hPi : hpl X (35 + 33 * i) := by
        have hi' : i = 0 ∨ i = 1 := by omega
        rcases hi' with rfl | rfl
        · exact r8.2.1
        · exact r8.2.2
      have hG := i4 hk
      obtain ⟨Y, e1, y1, y2, y3⟩ := xq_hcopy (N := N) (p := 1) (q := 35 + 33 * i) hN (by omega) (by omega) (by omega) r8.1 hPi hG.1 hG.2.2
      have lp : ∃ g, pm_from_b33 N N (nI i) (nI 0) S = sm_b1 (pm_copyAll N (sm_sF S 1 g) (nI 19) (nI (54 + 35 * i)) (nI 24) (nI (54 + 35 * i + 5))) (fun S_8 => some (nI 1, S_8)) ∧ ∀ k, k < 81 → g k = nI (b (81 * i + k)) := by
        have q := ne_loop (fun f j (g : Nat → Int32) => pm_from_b33 N f (nI i) (nI j) (sm_sF S 1 g)) (fun j g => ∀ k, k < j → g k = nI (b (81 * i + k))) 81 (fun r => ∃ g, r = sm_b1 (pm_copyAll N (sm_sF S 1 g) (nI 19) (nI (54 + 35 * i)) (nI 24) (nI (54 + 35 * i + 5))) (fun S_8 => some (nI 1, S_8)) ∧ ∀ k, k < 81 → g k = nI (b (81 * i + k))) ?_ ?_ N 0 (S.1 1) (by omega) (by omega) (fun k hk => by omega)
        · simp only [sF_self] at q
          exact q
        · intro f j g hj hI
          left
          have eb := r4.1 (81 * i + j) (by omega)
          refine ⟨upd g j (nI (b (81 * i + j))), fun k hk => ?_, ?_⟩
          · by_cases e : k = j
            · subst e
              exact pk_us
            · rw [pk_un e]
              exact hI k (by omega)
          · show pm_from_b33 N (f + 1) _ _ _ = _
            rw [pm_from_b33]
            simp (disch := omega) only [sm_lt, sm_b1s, sm_b2s, ↓reduceIte, sm_in_nI, nI_clamp, nI_add, pk_mul, pk_sub, ne_addneg, nI_l, ne_ltT, ne_ltF, ne_leT, ne_leF, ne_eqT, ne_eqF, ne_sI1s, ne_sI1n, ne_sI2, ne_sI3, ne_sL1, ne_sL2s, ne_sL2n, ne_sL3, pk_us, pk_un, pk_uLs, pk_uLn, mm_Z, mm_L, mm_1, mm_2, mm_3, ne_rz0, ne_rz1, not_true_eq_false, not_false_eq_true, ne_i0, ne_i1, ne_i2, ne_i3, ne_i4, ne_i5, ne_i6, ne_i7, ne_i8, ne_i9, ne_i10, ne_i12, ne_i14, ne_i16, ne_i18, ne_i19, ne_i20, ne_i23, ne_i24, ne_i27, ne_i29, ne_i30, ne_i31, ne_i32, ne_i35, ne_i48, ne_i52, ne_i54, ne_i57, ne_i59, ne_i63, ne_i64, ne_i76, ne_i77, ne_i78, ne_i79, ne_i80, ne_i81, ne_i97, ne_i99, ne_i100, ne_i101, ne_i104, ne_i105, ne_i108, ne_i110, ne_i111, ne_i116, ne_i117, ne_i122, ne_i103, ne_i200, ne_i255, ne_i256, ne_i320, ne_i384, ne_i1000, ne_l0, ne_l1, ne_l2, ne_l3, ne_l4, ne_l5, ne_l8, ne_l12, ne_l31, ne_l48, ne_l57, ne_l97, ne_l99, ne_l122, ne_l255, ne_l673, ne_l1073741823, ne_l1073741824, sF_n, eb, sF_sI]
        · intro f g hI
          show ∃ g', pm_from_b33 N (f + 1) _ _ _ = _ ∧ _
          rw [pm_from_b33]
          refine ⟨g, ?_, hI⟩
          simp (disch := omega) only [sm_lt, sm_b1s, sm_b2s, ↓reduceIte, sm_in_nI, nI_clamp, nI_add, pk_mul, pk_sub, ne_addneg, nI_l, ne_ltT, ne_ltF, ne_leT, ne_leF, ne_eqT, ne_eqF, ne_sI1s, ne_sI1n, ne_sI2, ne_sI3, ne_sL1, ne_sL2s, ne_sL2n, ne_sL3, pk_us, pk_un, pk_uLs, pk_uLn, mm_Z, mm_L, mm_1, mm_2, mm_3, ne_rz0, ne_rz1, not_true_eq_false, not_false_eq_true, ne_i0, ne_i1, ne_i2, ne_i3, ne_i4, ne_i5, ne_i6, ne_i7, ne_i8, ne_i9, ne_i10, ne_i12, ne_i14, ne_i16, ne_i18, ne_i19, ne_i20, ne_i23, ne_i24, ne_i27, ne_i29, ne_i30, ne_i31, ne_i32, ne_i35, ne_i48, ne_i52, ne_i54, ne_i57, ne_i59, ne_i63, ne_i64, ne_i76, ne_i77, ne_i78, ne_i79, ne_i80, ne_i81, ne_i97, ne_i99, ne_i100, ne_i101, ne_i104, ne_i105, ne_i108, ne_i110, ne_i111, ne_i116, ne_i117, ne_i122, ne_i103, ne_i200, ne_i255, ne_i256, ne_i320, ne_i384, ne_i1000, ne_l0, ne_l1, ne_l2, ne_l3, ne_l4, ne_l5, ne_l8, ne_l12, ne_l31, ne_l48, ne_l57, ne_l97, ne_l99, ne_l122, ne_l255, ne_l673, ne_l1073741823, ne_l1073741824]
      obtain ⟨g, eg, g1⟩ := lp
      obtain ⟨S1, m1, p1⟩ := nP_ca (N := N) (to := 19) (from' := 54 + 35 * i) hN (nP_own (nP_sF (p := 1) (g := g) h.2.1 (by decide))) (by omega) (by omega) (by omega) (by omega) (by omega)
      generalize hv' : (fun s => if 19 ≤ s ∧ s < 19 + 35 then v (54 + 35 * i + (s - 19)) else v s) = v' at p1
      have vi : ∀ c, c < 35 → v' (19 + c) = v (54 + 35 * i + c) := fun c hc => by
        rw [← hv']
        show (if 19 ≤ 19 + c ∧ 19 + c < 19 + 35 then v (54 + 35 * i + (19 + c - 19)) else _) = _
        rw [if_pos (by omega), show 19 + c - 19 = c by omega]
      have vo : ∀ s, ¬ (19 ≤ s ∧ s < 54) → v' s = v s := fun s hs => by
        rw [← hv']
        show (if 19 ≤ s ∧ s < 19 + 35 then _ else v s) = _
        rw [if_neg (by omega)]
      have fS : ∀ p, p ≠ 1 → p ≠ 6 → S1.1 p = S.1 p := fun p h2 h6 => by rw [nP_1 p1 h6, sF_n h2]
      have na : nw (fun k => b (81 * i + k)) S1 := fun k hk => by rw [nP_1 p1 (by decide), sF_s]; exact g1 k hk
      refine ⟨nI 1, Y, S1, ?_, ?_, RR_R (RR_h (a' := fun k => b (81 * i + k)) (v' := v') h na (nP_own p1) ?_ (fun s hs => vo s (by omega)) (fun p hp => fS p (by omega) (by omega)) (by rw [fS 0 (by decide) (by decide)]) (by rw [fS 0 (by decide) (by decide)]) (fun p hp => y2 p (by omega)) (by rw [y2 102 (by omega)]) (hpl_fr (by rw [y3]) r8.1) (fun p hp => by rw [y3]))⟩
      · rw [hk] at i3
        simp (disch := omega) only [sm_lt, sm_b1s, sm_b2s, ↓reduceIte, sm_in_nI, nI_clamp, nI_add, pk_mul, pk_sub, ne_addneg, nI_l, ne_ltT, ne_ltF, ne_leT, ne_leF, ne_eqT, ne_eqF, ne_sI1s, ne_sI1n, ne_sI2, ne_sI3, ne_sL1, ne_sL2s, ne_sL2n, ne_sL3, pk_us, pk_un, pk_uLs, pk_uLn, mm_Z, mm_L, mm_1, mm_2, mm_3, ne_rz0, ne_rz1, not_true_eq_false, not_false_eq_true, ne_i0, ne_i1, ne_i2, ne_i3, ne_i4, ne_i5, ne_i6, ne_i7, ne_i8, ne_i9, ne_i10, ne_i12, ne_i14, ne_i16, ne_i18, ne_i19, ne_i20, ne_i23, ne_i24, ne_i27, ne_i29, ne_i30, ne_i31, ne_i32, ne_i35, ne_i48, ne_i52, ne_i54, ne_i57, ne_i59, ne_i63, ne_i64, ne_i76, ne_i77, ne_i78, ne_i79, ne_i80, ne_i81, ne_i97, ne_i99, ne_i100, ne_i101, ne_i104, ne_i105, ne_i108, ne_i110, ne_i111, ne_i116, ne_i117, ne_i122, ne_i103, ne_i200, ne_i255, ne_i256, ne_i320, ne_i384, ne_i1000, ne_l0, ne_l1, ne_l2, ne_l3, ne_l4, ne_l5, ne_l8, ne_l12, ne_l31, ne_l48, ne_l57, ne_l97, ne_l99, ne_l122, ne_l255, ne_l673, ne_l1073741823, ne_l1073741824, xq_wT, i3, e1]
      · rw [hk] at i2
        simp (disch := omega) only [sm_lt, sm_b1s, sm_b2s, ↓reduceIte, sm_in_nI, nI_clamp, nI_add, pk_mul, pk_sub, ne_addneg, nI_l, ne_ltT, ne_ltF, ne_leT, ne_leF, ne_eqT, ne_eqF, ne_sI1s, ne_sI1n, ne_sI2, ne_sI3, ne_sL1, ne_sL2s, ne_sL2n, ne_sL3, pk_us, pk_un, pk_uLs, pk_uLn, mm_Z, mm_L, mm_1, mm_2, mm_3, ne_rz0, ne_rz1, not_true_eq_false, not_false_eq_true, ne_i0, ne_i1, ne_i2, ne_i3, ne_i4, ne_i5, ne_i6, ne_i7, ne_i8, ne_i9, ne_i10, ne_i12, ne_i14, ne_i16, ne_i18, ne_i19, ne_i20, ne_i23, ne_i24, ne_i27, ne_i29, ne_i30, ne_i31, ne_i32, ne_i35, ne_i48, ne_i52, ne_i54, ne_i57, ne_i59, ne_i63, ne_i64, ne_i76, ne_i77, ne_i78, ne_i79, ne_i80, ne_i81, ne_i97, ne_i99, ne_i100, ne_i101, ne_i104, ne_i105, ne_i108, ne_i110, ne_i111, ne_i116, ne_i117, ne_i122, ne_i103, ne_i200, ne_i255, ne_i256, ne_i320, ne_i384, ne_i1000, ne_l0, ne_l1, ne_l2, ne_l3, ne_l4, ne_l5, ne_l8, ne_l12, ne_l31, ne_l48, ne_l57, ne_l97, ne_l99, ne_l122, ne_l255, ne_l673, ne_l1073741823, ne_l1073741824, ne_inT, i2]
        rw [eg, m1, sm_b1s]
      · refine gH_eq (w := fun c => v (54 + 35 * i + c)) (pw := fun j c => v (59 + 35 * i + 5 * j + c)) (fun c hc => vi c (by omega)) (fun j c hj hc => ?_) ⟨hG.1, hG.2.1, y1⟩
        rw [show 24 + 5 * j + c = 19 + (5 + 5 * j + c) by omega, vi _ (by omega)]
        congr 1
        omega
    · have e0 : ik i = 0 := by omega
      rw [e0] at i2 i3
      simp (disch := omega) only [sm_lt, sm_b1s, sm_b2s, ↓reduceIte, sm_in_nI, nI_clamp, nI_add, pk_mul, pk_sub, ne_addneg, nI_l, ne_ltT, ne_ltF, ne_leT, ne_leF, ne_eqT, ne_eqF, ne_sI1s, ne_sI1n, ne_sI2, ne_sI3, ne_sL1, ne_sL2s, ne_sL2n, ne_sL3, pk_us, pk_un, pk_uLs, pk_uLn, mm_Z, mm_L, mm_1, mm_2, mm_3, ne_rz0, ne_rz1, not_true_eq_false, not_false_eq_true, ne_i0, ne_i1, ne_i2, ne_i3, ne_i4, ne_i5, ne_i6, ne_i7, ne_i8, ne_i9, ne_i10, ne_i12, ne_i14, ne_i16, ne_i18, ne_i19, ne_i20, ne_i23, ne_i24, ne_i27, ne_i29, ne_i30, ne_i31, ne_i32, ne_i35, ne_i48, ne_i52, ne_i54, ne_i57, ne_i59, ne_i63, ne_i64, ne_i76, ne_i77, ne_i78, ne_i79, ne_i80, ne_i81, ne_i97, ne_i99, ne_i100, ne_i101, ne_i104, ne_i105, ne_i108, ne_i110, ne_i111, ne_i116, ne_i117, ne_i122, ne_i103, ne_i200, ne_i255, ne_i256, ne_i320, ne_i384, ne_i1000, ne_l0, ne_l1, ne_l2, ne_l3, ne_l4, ne_l5, ne_l8, ne_l12, ne_l31, ne_l48, ne_l57, ne_l97, ne_l99, ne_l122, ne_l255, ne_l673, ne_l1073741823, ne_l1073741824, xq_wT, i3, ne_inT, i2, xq_no, np_no]
      exact ⟨_, _, _, rfl, rfl, R_no hR⟩
  · simp (disch := omega) only [sm_lt, sm_b1s, sm_b2s, ↓reduceIte, sm_in_nI, nI_clamp, nI_add, pk_mul, pk_sub, ne_addneg, nI_l, ne_ltT, ne_ltF, ne_leT, ne_leF, ne_eqT, ne_eqF, ne_sI1s, ne_sI1n, ne_sI2, ne_sI3, ne_sL1, ne_sL2s, ne_sL2n, ne_sL3, pk_us, pk_un, pk_uLs, pk_uLn, mm_Z, mm_L, mm_1, mm_2, mm_3, ne_rz0, ne_rz1, not_true_eq_false, not_false_eq_true, ne_i0, ne_i1, ne_i2, ne_i3, ne_i4, ne_i5, ne_i6, ne_i7, ne_i8, ne_i9, ne_i10, ne_i12, ne_i14, ne_i16, ne_i18, ne_i19, ne_i20, ne_i23, ne_i24, ne_i27, ne_i29, ne_i30, ne_i31, ne_i32, ne_i35, ne_i48, ne_i52, ne_i54, ne_i57, ne_i59, ne_i63, ne_i64, ne_i76, ne_i77, ne_i78, ne_i79, ne_i80, ne_i81, ne_i97, ne_i99, ne_i100, ne_i101, ne_i104, ne_i105, ne_i108, ne_i110, ne_i111, ne_i116, ne_i117, ne_i122, ne_i103, ne_i200, ne_i255, ne_i256, ne_i320, ne_i384, ne_i1000, ne_l0, ne_l1, ne_l2, ne_l3, ne_l4, ne_l5, ne_l8, ne_l12, ne_l31, ne_l48, ne_l57, ne_l97, ne_l99, ne_l122, ne_l255, ne_l673, ne_l1073741823, ne_l1073741824, e1, e2, xq_bad, np_bad]
    exact ⟨_, _, _, rfl, rfl, R_bad hR⟩
end
