section
variable {N : Nat} {X S : sm_St} {a b v ik tx : Nat → Nat} {len : Nat}
/-- arguments: as told, or refused on both sides -/
theorem cl_or (h : RR X S a b v ik tx len) (v1 : Int32) : (∃ c, v1 = nI c ∧ c < a 76) ∨ (px_House_hasCloth N X 1 v1 = some (nI 0, X) ∧ pm_isCloth N S v1 = some (nI 0, S)) := by
  have k4 := (RR_ok h).1
  obtain ⟨q1, q2⟩ := RR_cl h
  rcases ne_arg v1 3 (by decide) with ⟨c, hc, rfl⟩ | hb
  · by_cases hck : c < a 76
    · exact Or.inl ⟨c, rfl, hck⟩
    · exact Or.inr ⟨xq_clF (v := nI c) q1 (by rw [nI_toInt (by omega)]; omega) k4, np_clF h.1 k4 (by omega) (by omega)⟩
  · exact Or.inr ⟨xq_clF (v := v1) q1 (by omega) k4, np_clB h.1 k4 hb⟩
theorem num_or (h : RR X S a b v ik tx len) (v1 : Int32) : (∃ x, v1 = nI x ∧ x ≤ 7 ∧ (x < a 76 ∨ 4 ≤ x ∧ x < 4 + a 77)) ∨ (px_House_hasNumber N X 1 v1 = some (nI 0, X) ∧ pm_isNumber N S v1 = some (nI 0, S)) := by
  have k4 := (RR_ok h).1
  have t4 := (RR_ok h).2.1
  obtain ⟨q1, q2⟩ := RR_cl h
  rcases ne_arg v1 7 (by decide) with ⟨x, hx, rfl⟩ | hb
  · by_cases hn : x < a 76 ∨ 4 ≤ x ∧ x < 4 + a 77
    · exact Or.inl ⟨x, rfl, hx, hn⟩
    · exact Or.inr ⟨xq_numF (v := nI x) q1 q2 (Or.inr (Or.inr ⟨x, hx, rfl, hn⟩)) k4 t4, np_numF h.1 k4 t4 hn (by omega)⟩
  · exact Or.inr ⟨xq_numF (v := v1) q1 q2 (by omega) k4 t4, np_numB h.1 k4 t4 hb⟩
theorem w_or (v1 : Int32) {m : Nat} (hm : m < 2 ^ 31) : (∃ j, v1 = nI j ∧ j ≤ m) ∨ (px_L_within N X v1 (nI m) = some (nI 0, X) ∧ pm_in N S v1.toInt64 (lN 0) (lN m) = some (nI 0, S)) := by
  rcases ne_arg v1 m hm with ⟨j, hj, rfl⟩ | hb
  · exact Or.inl ⟨j, rfl, hj⟩
  · exact Or.inr ⟨xq_wF hb hm, ne_inB hb hm⟩
theorem c_touch {v1 v2 v3 : Int32} (hN : 4000 ≤ N) (h : R X S) : OKr (px_L_touch N X v1 v2 v3) (pm_touch N S v1 v2 v3) := by
  obtain ⟨a, b, v, ik, tx, len, h⟩ := h
  have hR := RR_R h
  have k4 := (RR_ok h).1
  have t4 := (RR_ok h).2.1
  obtain ⟨q1, q2⟩ := RR_cl h
  have hw := h.1
  have hh := (RR_hs h).2.2.2.1
  have fin : ∀ {o1 o2 : Option (Int32 × sm_St)}, o1 = some (-nI 2, sm_sI X 0 11 (X.1 0 11 + nI 1)) → o2 = some (-nI 2, sm_sI S 4 0 (S.1 4 0 + nI 1)) → OKr o1 o2 := fun e1 e2 => ⟨_, _, _, e1, e2, R_bad hR⟩
  unfold px_L_touch pm_touch px_L_touch_b30 px_L_touch_b50 pm_touch_b43
  rcases num_or (N := N) h v1 with ⟨x, rfl, hx7, hx⟩ | ⟨e1, e2⟩
  · have n1 := xq_numT (N := N) q1 q2 hx k4 t4
    have n2 := np_numT (N := N) hw k4 t4 hx
    rcases num_or (N := N) h v2 with ⟨y, rfl, hy7, hy⟩ | ⟨e1, e2⟩
    · have n3 := xq_numT (N := N) q1 q2 hy k4 t4
      have n4 := np_numT (N := N) hw k4 t4 hy
      rcases w_or (N := N) (X := X) (S := S) v3 (show 3 < 2 ^ 31 by decide) with ⟨n, rfl, hn⟩ | ⟨e1, e2⟩
      · by_cases hxy : x = y
        · refine fin ?_ ?_
          · simp (disch := omega) only [sm_lt, sm_b1s, sm_b2s, ↓reduceIte, sm_in_nI, nI_clamp, nI_add, pk_mul, pk_sub, ne_addneg, nI_l, ne_ltT, ne_ltF, ne_leT, ne_leF, ne_eqT, ne_eqF, ne_sI1s, ne_sI1n, ne_sI2, ne_sI3, ne_sL1, ne_sL2s, ne_sL2n, ne_sL3, pk_us, pk_un, pk_uLs, pk_uLn, mm_Z, mm_L, mm_1, mm_2, mm_3, ne_rz0, ne_rz1, not_true_eq_false, not_false_eq_true, ne_i0, ne_i1, ne_i2, ne_i3, ne_i4, ne_i5, ne_i6, ne_i7, ne_i8, ne_i9, ne_i10, ne_i12, ne_i14, ne_i16, ne_i18, ne_i19, ne_i20, ne_i23, ne_i24, ne_i27, ne_i29, ne_i30, ne_i31, ne_i32, ne_i35, ne_i48, ne_i52, ne_i54, ne_i57, ne_i59, ne_i63, ne_i64, ne_i76, ne_i77, ne_i78, ne_i79, ne_i80, ne_i81, ne_i97, ne_i99, ne_i100, ne_i101, ne_i104, ne_i105, ne_i108, ne_i110, ne_i111, ne_i116, ne_i117, ne_i122, ne_i103, ne_i200, ne_i255, ne_i256, ne_i320, ne_i384, ne_i1000, ne_l0, ne_l1, ne_l2, ne_l3, ne_l4, ne_l5, ne_l8, ne_l12, ne_l31, ne_l48, ne_l57, ne_l97, ne_l99, ne_l122, ne_l255, ne_l673, ne_l1073741823, ne_l1073741824, n1, n3, xq_wT, xq_bad]
          · simp (disch := omega) only [sm_lt, sm_b1s, sm_b2s, ↓reduceIte, sm_in_nI, nI_clamp, nI_add, pk_mul, pk_sub, ne_addneg, nI_l, ne_ltT, ne_ltF, ne_leT, ne_leF, ne_eqT, ne_eqF, ne_sI1s, ne_sI1n, ne_sI2, ne_sI3, ne_sL1, ne_sL2s, ne_sL2n, ne_sL3, pk_us, pk_un, pk_uLs, pk_uLn, mm_Z, mm_L, mm_1, mm_2, mm_3, ne_rz0, ne_rz1, not_true_eq_false, not_false_eq_true, ne_i0, ne_i1, ne_i2, ne_i3, ne_i4, ne_i5, ne_i6, ne_i7, ne_i8, ne_i9, ne_i10, ne_i12, ne_i14, ne_i16, ne_i18, ne_i19, ne_i20, ne_i23, ne_i24, ne_i27, ne_i29, ne_i30, ne_i31, ne_i32, ne_i35, ne_i48, ne_i52, ne_i54, ne_i57, ne_i59, ne_i63, ne_i64, ne_i76, ne_i77, ne_i78, ne_i79, ne_i80, ne_i81, ne_i97, ne_i99, ne_i100, ne_i101, ne_i104, ne_i105, ne_i108, ne_i110, ne_i111, ne_i116, ne_i117, ne_i122, ne_i103, ne_i200, ne_i255, ne_i256, ne_i320, ne_i384, ne_i1000, ne_l0, ne_l1, ne_l2, ne_l3, ne_l4, ne_l5, ne_l8, ne_l12, ne_l31, ne_l48, ne_l57, ne_l97, ne_l99, ne_l122, ne_l255, ne_l673, ne_l1073741823, ne_l1073741824, n2, n4, np_bad]
        · by_cases hb4 : x < 4 ∨ y < 4
          · obtain ⟨X', S', p1, p2, hR'⟩ := RR_touch (N := N) h hx hy hb4 hxy hn
            unfold px_L_touch_b55 px_L_touch_b85 pm_touch_b31 pm_touch_b86
            by_cases hx4 : x < 4
            · have e := hh x y (by omega) (by omega)
              rw [show 1 + 7 + x = 8 + x by omega] at e
              refine ⟨nI (a (16 + 8 * x + y)), X', S', ?_, ?_, hR'⟩
              · simp (disch := omega) only [sm_lt, sm_b1s, sm_b2s, ↓reduceIte, sm_in_nI, nI_clamp, nI_add, pk_mul, pk_sub, ne_addneg, nI_l, ne_ltT, ne_ltF, ne_leT, ne_leF, ne_eqT, ne_eqF, ne_sI1s, ne_sI1n, ne_sI2, ne_sI3, ne_sL1, ne_sL2s, ne_sL2n, ne_sL3, pk_us, pk_un, pk_uLs, pk_uLn, mm_Z, mm_L, mm_1, mm_2, mm_3, ne_rz0, ne_rz1, not_true_eq_false, not_false_eq_true, ne_i0, ne_i1, ne_i2, ne_i3, ne_i4, ne_i5, ne_i6, ne_i7, ne_i8, ne_i9, ne_i10, ne_i12, ne_i14, ne_i16, ne_i18, ne_i19, ne_i20, ne_i23, ne_i24, ne_i27, ne_i29, ne_i30, ne_i31, ne_i32, ne_i35, ne_i48, ne_i52, ne_i54, ne_i57, ne_i59, ne_i63, ne_i64, ne_i76, ne_i77, ne_i78, ne_i79, ne_i80, ne_i81, ne_i97, ne_i99, ne_i100, ne_i101, ne_i104, ne_i105, ne_i108, ne_i110, ne_i111, ne_i116, ne_i117, ne_i122, ne_i103, ne_i200, ne_i255, ne_i256, ne_i320, ne_i384, ne_i1000, ne_l0, ne_l1, ne_l2, ne_l3, ne_l4, ne_l5, ne_l8, ne_l12, ne_l31, ne_l48, ne_l57, ne_l97, ne_l99, ne_l122, ne_l255, ne_l673, ne_l1073741823, ne_l1073741824, n1, n3, xq_wT, e, p1]
              · simp (disch := omega) only [sm_lt, sm_b1s, sm_b2s, ↓reduceIte, sm_in_nI, nI_clamp, nI_add, pk_mul, pk_sub, ne_addneg, nI_l, ne_ltT, ne_ltF, ne_leT, ne_leF, ne_eqT, ne_eqF, ne_sI1s, ne_sI1n, ne_sI2, ne_sI3, ne_sL1, ne_sL2s, ne_sL2n, ne_sL3, pk_us, pk_un, pk_uLs, pk_uLn, mm_Z, mm_L, mm_1, mm_2, mm_3, ne_rz0, ne_rz1, not_true_eq_false, not_false_eq_true, ne_i0, ne_i1, ne_i2, ne_i3, ne_i4, ne_i5, ne_i6, ne_i7, ne_i8, ne_i9, ne_i10, ne_i12, ne_i14, ne_i16, ne_i18, ne_i19, ne_i20, ne_i23, ne_i24, ne_i27, ne_i29, ne_i30, ne_i31, ne_i32, ne_i35, ne_i48, ne_i52, ne_i54, ne_i57, ne_i59, ne_i63, ne_i64, ne_i76, ne_i77, ne_i78, ne_i79, ne_i80, ne_i81, ne_i97, ne_i99, ne_i100, ne_i101, ne_i104, ne_i105, ne_i108, ne_i110, ne_i111, ne_i116, ne_i117, ne_i122, ne_i103, ne_i200, ne_i255, ne_i256, ne_i320, ne_i384, ne_i1000, ne_l0, ne_l1, ne_l2, ne_l3, ne_l4, ne_l5, ne_l8, ne_l12, ne_l31, ne_l48, ne_l57, ne_l97, ne_l99, ne_l122, ne_l255, ne_l673, ne_l1073741823, ne_l1073741824, n2, n4, ne_inT, hw, p2]
            · have e := hh y x (by omega) (by omega)
              rw [show 1 + 7 + y = 8 + y by omega] at e
              refine ⟨nI (a (16 + 8 * y + x)), X', S', ?_, ?_, hR'⟩
              · simp (disch := omega) only [sm_lt, sm_b1s, sm_b2s, ↓reduceIte, sm_in_nI, nI_clamp, nI_add, pk_mul, pk_sub, ne_addneg, nI_l, ne_ltT, ne_ltF, ne_leT, ne_leF, ne_eqT, ne_eqF, ne_sI1s, ne_sI1n, ne_sI2, ne_sI3, ne_sL1, ne_sL2s, ne_sL2n, ne_sL3, pk_us, pk_un, pk_uLs, pk_uLn, mm_Z, mm_L, mm_1, mm_2, mm_3, ne_rz0, ne_rz1, not_true_eq_false, not_false_eq_true, ne_i0, ne_i1, ne_i2, ne_i3, ne_i4, ne_i5, ne_i6, ne_i7, ne_i8, ne_i9, ne_i10, ne_i12, ne_i14, ne_i16, ne_i18, ne_i19, ne_i20, ne_i23, ne_i24, ne_i27, ne_i29, ne_i30, ne_i31, ne_i32, ne_i35, ne_i48, ne_i52, ne_i54, ne_i57, ne_i59, ne_i63, ne_i64, ne_i76, ne_i77, ne_i78, ne_i79, ne_i80, ne_i81, ne_i97, ne_i99, ne_i100, ne_i101, ne_i104, ne_i105, ne_i108, ne_i110, ne_i111, ne_i116, ne_i117, ne_i122, ne_i103, ne_i200, ne_i255, ne_i256, ne_i320, ne_i384, ne_i1000, ne_l0, ne_l1, ne_l2, ne_l3, ne_l4, ne_l5, ne_l8, ne_l12, ne_l31, ne_l48, ne_l57, ne_l97, ne_l99, ne_l122, ne_l255, ne_l673, ne_l1073741823, ne_l1073741824, n1, n3, xq_wT, e, p1]
              · simp (disch := omega) only [sm_lt, sm_b1s, sm_b2s, ↓reduceIte, sm_in_nI, nI_clamp, nI_add, pk_mul, pk_sub, ne_addneg, nI_l, ne_ltT, ne_ltF, ne_leT, ne_leF, ne_eqT, ne_eqF, ne_sI1s, ne_sI1n, ne_sI2, ne_sI3, ne_sL1, ne_sL2s, ne_sL2n, ne_sL3, pk_us, pk_un, pk_uLs, pk_uLn, mm_Z, mm_L, mm_1, mm_2, mm_3, ne_rz0, ne_rz1, not_true_eq_false, not_false_eq_true, ne_i0, ne_i1, ne_i2, ne_i3, ne_i4, ne_i5, ne_i6, ne_i7, ne_i8, ne_i9, ne_i10, ne_i12, ne_i14, ne_i16, ne_i18, ne_i19, ne_i20, ne_i23, ne_i24, ne_i27, ne_i29, ne_i30, ne_i31, ne_i32, ne_i35, ne_i48, ne_i52, ne_i54, ne_i57, ne_i59, ne_i63, ne_i64, ne_i76, ne_i77, ne_i78, ne_i79, ne_i80, ne_i81, ne_i97, ne_i99, ne_i100, ne_i101, ne_i104, ne_i105, ne_i108, ne_i110, ne_i111, ne_i116, ne_i117, ne_i122, ne_i103, ne_i200, ne_i255, ne_i256, ne_i320, ne_i384, ne_i1000, ne_l0, ne_l1, ne_l2, ne_l3, ne_l4, ne_l5, ne_l8, ne_l12, ne_l31, ne_l48, ne_l57, ne_l97, ne_l99, ne_l122, ne_l255, ne_l673, ne_l1073741823, ne_l1073741824, n2, n4, ne_inT, hw, p2]
          · refine fin ?_ ?_
            · simp (disch := omega) only [sm_lt, sm_b1s, sm_b2s, ↓reduceIte, sm_in_nI, nI_clamp, nI_add, pk_mul, pk_sub, ne_addneg, nI_l, ne_ltT, ne_ltF, ne_leT, ne_leF, ne_eqT, ne_eqF, ne_sI1s, ne_sI1n, ne_sI2, ne_sI3, ne_sL1, ne_sL2s, ne_sL2n, ne_sL3, pk_us, pk_un, pk_uLs, pk_uLn, mm_Z, mm_L, mm_1, mm_2, mm_3, ne_rz0, ne_rz1, not_true_eq_false, not_false_eq_true, ne_i0, ne_i1, ne_i2, ne_i3, ne_i4, ne_i5, ne_i6, ne_i7, ne_i8, ne_i9, ne_i10, ne_i12, ne_i14, ne_i16, ne_i18, ne_i19, ne_i20, ne_i23, ne_i24, ne_i27, ne_i29, ne_i30, ne_i31, ne_i32, ne_i35, ne_i48, ne_i52, ne_i54, ne_i57, ne_i59, ne_i63, ne_i64, ne_i76, ne_i77, ne_i78, ne_i79, ne_i80, ne_i81, ne_i97, ne_i99, ne_i100, ne_i101, ne_i104, ne_i105, ne_i108, ne_i110, ne_i111, ne_i116, ne_i117, ne_i122, ne_i103, ne_i200, ne_i255, ne_i256, ne_i320, ne_i384, ne_i1000, ne_l0, ne_l1, ne_l2, ne_l3, ne_l4, ne_l5, ne_l8, ne_l12, ne_l31, ne_l48, ne_l57, ne_l97, ne_l99, ne_l122, ne_l255, ne_l673, ne_l1073741823, ne_l1073741824, n1, n3, xq_wT, xq_bad]
            · simp (disch := omega) only [sm_lt, sm_b1s, sm_b2s, ↓reduceIte, sm_in_nI, nI_clamp, nI_add, pk_mul, pk_sub, ne_addneg, nI_l, ne_ltT, ne_ltF, ne_leT, ne_leF, ne_eqT, ne_eqF, ne_sI1s, ne_sI1n, ne_sI2, ne_sI3, ne_sL1, ne_sL2s, ne_sL2n, ne_sL3, pk_us, pk_un, pk_uLs, pk_uLn, mm_Z, mm_L, mm_1, mm_2, mm_3, ne_rz0, ne_rz1, not_true_eq_false, not_false_eq_true, ne_i0, ne_i1, ne_i2, ne_i3, ne_i4, ne_i5, ne_i6, ne_i7, ne_i8, ne_i9, ne_i10, ne_i12, ne_i14, ne_i16, ne_i18, ne_i19, ne_i20, ne_i23, ne_i24, ne_i27, ne_i29, ne_i30, ne_i31, ne_i32, ne_i35, ne_i48, ne_i52, ne_i54, ne_i57, ne_i59, ne_i63, ne_i64, ne_i76, ne_i77, ne_i78, ne_i79, ne_i80, ne_i81, ne_i97, ne_i99, ne_i100, ne_i101, ne_i104, ne_i105, ne_i108, ne_i110, ne_i111, ne_i116, ne_i117, ne_i122, ne_i103, ne_i200, ne_i255, ne_i256, ne_i320, ne_i384, ne_i1000, ne_l0, ne_l1, ne_l2, ne_l3, ne_l4, ne_l5, ne_l8, ne_l12, ne_l31, ne_l48, ne_l57, ne_l97, ne_l99, ne_l122, ne_l255, ne_l673, ne_l1073741823, ne_l1073741824, n2, n4, np_bad]
      · refine fin ?_ ?_
        · simp (disch := omega) only [sm_lt, sm_b1s, sm_b2s, ↓reduceIte, sm_in_nI, nI_clamp, nI_add, pk_mul, pk_sub, ne_addneg, nI_l, ne_ltT, ne_ltF, ne_leT, ne_leF, ne_eqT, ne_eqF, ne_sI1s, ne_sI1n, ne_sI2, ne_sI3, ne_sL1, ne_sL2s, ne_sL2n, ne_sL3, pk_us, pk_un, pk_uLs, pk_uLn, mm_Z, mm_L, mm_1, mm_2, mm_3, ne_rz0, ne_rz1, not_true_eq_false, not_false_eq_true, ne_i0, ne_i1, ne_i2, ne_i3, ne_i4, ne_i5, ne_i6, ne_i7, ne_i8, ne_i9, ne_i10, ne_i12, ne_i14, ne_i16, ne_i18, ne_i19, ne_i20, ne_i23, ne_i24, ne_i27, ne_i29, ne_i30, ne_i31, ne_i32, ne_i35, ne_i48, ne_i52, ne_i54, ne_i57, ne_i59, ne_i63, ne_i64, ne_i76, ne_i77, ne_i78, ne_i79, ne_i80, ne_i81, ne_i97, ne_i99, ne_i100, ne_i101, ne_i104, ne_i105, ne_i108, ne_i110, ne_i111, ne_i116, ne_i117, ne_i122, ne_i103, ne_i200, ne_i255, ne_i256, ne_i320, ne_i384, ne_i1000, ne_l0, ne_l1, ne_l2, ne_l3, ne_l4, ne_l5, ne_l8, ne_l12, ne_l31, ne_l48, ne_l57, ne_l97, ne_l99, ne_l122, ne_l255, ne_l673, ne_l1073741823, ne_l1073741824, n1, n3, e1, xq_bad]
        · unfold pm_touch_b31 pm_touch_b43
          by_cases hxy : x = y
          · simp (disch := omega) only [sm_lt, sm_b1s, sm_b2s, ↓reduceIte, sm_in_nI, nI_clamp, nI_add, pk_mul, pk_sub, ne_addneg, nI_l, ne_ltT, ne_ltF, ne_leT, ne_leF, ne_eqT, ne_eqF, ne_sI1s, ne_sI1n, ne_sI2, ne_sI3, ne_sL1, ne_sL2s, ne_sL2n, ne_sL3, pk_us, pk_un, pk_uLs, pk_uLn, mm_Z, mm_L, mm_1, mm_2, mm_3, ne_rz0, ne_rz1, not_true_eq_false, not_false_eq_true, ne_i0, ne_i1, ne_i2, ne_i3, ne_i4, ne_i5, ne_i6, ne_i7, ne_i8, ne_i9, ne_i10, ne_i12, ne_i14, ne_i16, ne_i18, ne_i19, ne_i20, ne_i23, ne_i24, ne_i27, ne_i29, ne_i30, ne_i31, ne_i32, ne_i35, ne_i48, ne_i52, ne_i54, ne_i57, ne_i59, ne_i63, ne_i64, ne_i76, ne_i77, ne_i78, ne_i79, ne_i80, ne_i81, ne_i97, ne_i99, ne_i100, ne_i101, ne_i104, ne_i105, ne_i108, ne_i110, ne_i111, ne_i116, ne_i117, ne_i122, ne_i103, ne_i200, ne_i255, ne_i256, ne_i320, ne_i384, ne_i1000, ne_l0, ne_l1, ne_l2, ne_l3, ne_l4, ne_l5, ne_l8, ne_l12, ne_l31, ne_l48, ne_l57, ne_l97, ne_l99, ne_l122, ne_l255, ne_l673, ne_l1073741823, ne_l1073741824, n2, n4, np_bad]
          · by_cases hx4 : x < 4
            · simp (disch := omega) only [sm_lt, sm_b1s, sm_b2s, ↓reduceIte, sm_in_nI, nI_clamp, nI_add, pk_mul, pk_sub, ne_addneg, nI_l, ne_ltT, ne_ltF, ne_leT, ne_leF, ne_eqT, ne_eqF, ne_sI1s, ne_sI1n, ne_sI2, ne_sI3, ne_sL1, ne_sL2s, ne_sL2n, ne_sL3, pk_us, pk_un, pk_uLs, pk_uLn, mm_Z, mm_L, mm_1, mm_2, mm_3, ne_rz0, ne_rz1, not_true_eq_false, not_false_eq_true, ne_i0, ne_i1, ne_i2, ne_i3, ne_i4, ne_i5, ne_i6, ne_i7, ne_i8, ne_i9, ne_i10, ne_i12, ne_i14, ne_i16, ne_i18, ne_i19, ne_i20, ne_i23, ne_i24, ne_i27, ne_i29, ne_i30, ne_i31, ne_i32, ne_i35, ne_i48, ne_i52, ne_i54, ne_i57, ne_i59, ne_i63, ne_i64, ne_i76, ne_i77, ne_i78, ne_i79, ne_i80, ne_i81, ne_i97, ne_i99, ne_i100, ne_i101, ne_i104, ne_i105, ne_i108, ne_i110, ne_i111, ne_i116, ne_i117, ne_i122, ne_i103, ne_i200, ne_i255, ne_i256, ne_i320, ne_i384, ne_i1000, ne_l0, ne_l1, ne_l2, ne_l3, ne_l4, ne_l5, ne_l8, ne_l12, ne_l31, ne_l48, ne_l57, ne_l97, ne_l99, ne_l122, ne_l255, ne_l673, ne_l1073741823, ne_l1073741824, n2, n4, e2, np_bad]
            · by_cases hy4 : y < 4
              · simp (disch := omega) only [sm_lt, sm_b1s, sm_b2s, ↓reduceIte, sm_in_nI, nI_clamp, nI_add, pk_mul, pk_sub, ne_addneg, nI_l, ne_ltT, ne_ltF, ne_leT, ne_leF, ne_eqT, ne_eqF, ne_sI1s, ne_sI1n, ne_sI2, ne_sI3, ne_sL1, ne_sL2s, ne_sL2n, ne_sL3, pk_us, pk_un, pk_uLs, pk_uLn, mm_Z, mm_L, mm_1, mm_2, mm_3, ne_rz0, ne_rz1, not_true_eq_false, not_false_eq_true, ne_i0, ne_i1, ne_i2, ne_i3, ne_i4, ne_i5, ne_i6, ne_i7, ne_i8, ne_i9, ne_i10, ne_i12, ne_i14, ne_i16, ne_i18, ne_i19, ne_i20, ne_i23, ne_i24, ne_i27, ne_i29, ne_i30, ne_i31, ne_i32, ne_i35, ne_i48, ne_i52, ne_i54, ne_i57, ne_i59, ne_i63, ne_i64, ne_i76, ne_i77, ne_i78, ne_i79, ne_i80, ne_i81, ne_i97, ne_i99, ne_i100, ne_i101, ne_i104, ne_i105, ne_i108, ne_i110, ne_i111, ne_i116, ne_i117, ne_i122, ne_i103, ne_i200, ne_i255, ne_i256, ne_i320, ne_i384, ne_i1000, ne_l0, ne_l1, ne_l2, ne_l3, ne_l4, ne_l5, ne_l8, ne_l12, ne_l31, ne_l48, ne_l57, ne_l97, ne_l99, ne_l122, ne_l255, ne_l673, ne_l1073741823, ne_l1073741824, n2, n4, e2, np_bad]
              · simp (disch := omega) only [sm_lt, sm_b1s, sm_b2s, ↓reduceIte, sm_in_nI, nI_clamp, nI_add, pk_mul, pk_sub, ne_addneg, nI_l, ne_ltT, ne_ltF, ne_leT, ne_leF, ne_eqT, ne_eqF, ne_sI1s, ne_sI1n, ne_sI2, ne_sI3, ne_sL1, ne_sL2s, ne_sL2n, ne_sL3, pk_us, pk_un, pk_uLs, pk_uLn, mm_Z, mm_L, mm_1, mm_2, mm_3, ne_rz0, ne_rz1, not_true_eq_false, not_false_eq_true, ne_i0, ne_i1, ne_i2, ne_i3, ne_i4, ne_i5, ne_i6, ne_i7, ne_i8, ne_i9, ne_i10, ne_i12, ne_i14, ne_i16, ne_i18, ne_i19, ne_i20, ne_i23, ne_i24, ne_i27, ne_i29, ne_i30, ne_i31, ne_i32, ne_i35, ne_i48, ne_i52, ne_i54, ne_i57, ne_i59, ne_i63, ne_i64, ne_i76, ne_i77, ne_i78, ne_i79, ne_i80, ne_i81, ne_i97, ne_i99, ne_i100, ne_i101, ne_i104, ne_i105, ne_i108, ne_i110, ne_i111, ne_i116, ne_i117, ne_i122, ne_i103, ne_i200, ne_i255, ne_i256, ne_i320, ne_i384, ne_i1000, ne_l0, ne_l1, ne_l2, ne_l3, ne_l4, ne_l5, ne_l8, ne_l12, ne_l31, ne_l48, ne_l57, ne_l97, ne_l99, ne_l122, ne_l255, ne_l673, ne_l1073741823, ne_l1073741824, n2, n4, np_bad]
    · refine fin ?_ ?_
      · simp (disch := omega) only [sm_lt, sm_b1s, sm_b2s, ↓reduceIte, sm_in_nI, nI_clamp, nI_add, pk_mul, pk_sub, ne_addneg, nI_l, ne_ltT, ne_ltF, ne_leT, ne_leF, ne_eqT, ne_eqF, ne_sI1s, ne_sI1n, ne_sI2, ne_sI3, ne_sL1, ne_sL2s, ne_sL2n, ne_sL3, pk_us, pk_un, pk_uLs, pk_uLn, mm_Z, mm_L, mm_1, mm_2, mm_3, ne_rz0, ne_rz1, not_true_eq_false, not_false_eq_true, ne_i0, ne_i1, ne_i2, ne_i3, ne_i4, ne_i5, ne_i6, ne_i7, ne_i8, ne_i9, ne_i10, ne_i12, ne_i14, ne_i16, ne_i18, ne_i19, ne_i20, ne_i23, ne_i24, ne_i27, ne_i29, ne_i30, ne_i31, ne_i32, ne_i35, ne_i48, ne_i52, ne_i54, ne_i57, ne_i59, ne_i63, ne_i64, ne_i76, ne_i77, ne_i78, ne_i79, ne_i80, ne_i81, ne_i97, ne_i99, ne_i100, ne_i101, ne_i104, ne_i105, ne_i108, ne_i110, ne_i111, ne_i116, ne_i117, ne_i122, ne_i103, ne_i200, ne_i255, ne_i256, ne_i320, ne_i384, ne_i1000, ne_l0, ne_l1, ne_l2, ne_l3, ne_l4, ne_l5, ne_l8, ne_l12, ne_l31, ne_l48, ne_l57, ne_l97, ne_l99, ne_l122, ne_l255, ne_l673, ne_l1073741823, ne_l1073741824, n1, e1, xq_bad]
      · simp (disch := omega) only [sm_lt, sm_b1s, sm_b2s, ↓reduceIte, sm_in_nI, nI_clamp, nI_add, pk_mul, pk_sub, ne_addneg, nI_l, ne_ltT, ne_ltF, ne_leT, ne_leF, ne_eqT, ne_eqF, ne_sI1s, ne_sI1n, ne_sI2, ne_sI3, ne_sL1, ne_sL2s, ne_sL2n, ne_sL3, pk_us, pk_un, pk_uLs, pk_uLn, mm_Z, mm_L, mm_1, mm_2, mm_3, ne_rz0, ne_rz1, not_true_eq_false, not_false_eq_true, ne_i0, ne_i1, ne_i2, ne_i3, ne_i4, ne_i5, ne_i6, ne_i7, ne_i8, ne_i9, ne_i10, ne_i12, ne_i14, ne_i16, ne_i18, ne_i19, ne_i20, ne_i23, ne_i24, ne_i27, ne_i29, ne_i30, ne_i31, ne_i32, ne_i35, ne_i48, ne_i52, ne_i54, ne_i57, ne_i59, ne_i63, ne_i64, ne_i76, ne_i77, ne_i78, ne_i79, ne_i80, ne_i81, ne_i97, ne_i99, ne_i100, ne_i101, ne_i104, ne_i105, ne_i108, ne_i110, ne_i111, ne_i116, ne_i117, ne_i122, ne_i103, ne_i200, ne_i255, ne_i256, ne_i320, ne_i384, ne_i1000, ne_l0, ne_l1, ne_l2, ne_l3, ne_l4, ne_l5, ne_l8, ne_l12, ne_l31, ne_l48, ne_l57, ne_l97, ne_l99, ne_l122, ne_l255, ne_l673, ne_l1073741823, ne_l1073741824, n2, e2, np_bad]
  · refine fin ?_ ?_
    · simp (disch := omega) only [sm_lt, sm_b1s, sm_b2s, ↓reduceIte, sm_in_nI, nI_clamp, nI_add, pk_mul, pk_sub, ne_addneg, nI_l, ne_ltT, ne_ltF, ne_leT, ne_leF, ne_eqT, ne_eqF, ne_sI1s, ne_sI1n, ne_sI2, ne_sI3, ne_sL1, ne_sL2s, ne_sL2n, ne_sL3, pk_us, pk_un, pk_uLs, pk_uLn, mm_Z, mm_L, mm_1, mm_2, mm_3, ne_rz0, ne_rz1, not_true_eq_false, not_false_eq_true, ne_i0, ne_i1, ne_i2, ne_i3, ne_i4, ne_i5, ne_i6, ne_i7, ne_i8, ne_i9, ne_i10, ne_i12, ne_i14, ne_i16, ne_i18, ne_i19, ne_i20, ne_i23, ne_i24, ne_i27, ne_i29, ne_i30, ne_i31, ne_i32, ne_i35, ne_i48, ne_i52, ne_i54, ne_i57, ne_i59, ne_i63, ne_i64, ne_i76, ne_i77, ne_i78, ne_i79, ne_i80, ne_i81, ne_i97, ne_i99, ne_i100, ne_i101, ne_i104, ne_i105, ne_i108, ne_i110, ne_i111, ne_i116, ne_i117, ne_i122, ne_i103, ne_i200, ne_i255, ne_i256, ne_i320, ne_i384, ne_i1000, ne_l0, ne_l1, ne_l2, ne_l3, ne_l4, ne_l5, ne_l8, ne_l12, ne_l31, ne_l48, ne_l57, ne_l97, ne_l99, ne_l122, ne_l255, ne_l673, ne_l1073741823, ne_l1073741824, e1, xq_bad]
    · simp (disch := omega) only [sm_lt, sm_b1s, sm_b2s, ↓reduceIte, sm_in_nI, nI_clamp, nI_add, pk_mul, pk_sub, ne_addneg, nI_l, ne_ltT, ne_ltF, ne_leT, ne_leF, ne_eqT, ne_eqF, ne_sI1s, ne_sI1n, ne_sI2, ne_sI3, ne_sL1, ne_sL2s, ne_sL2n, ne_sL3, pk_us, pk_un, pk_uLs, pk_uLn, mm_Z, mm_L, mm_1, mm_2, mm_3, ne_rz0, ne_rz1, not_true_eq_false, not_false_eq_true, ne_i0, ne_i1, ne_i2, ne_i3, ne_i4, ne_i5, ne_i6, ne_i7, ne_i8, ne_i9, ne_i10, ne_i12, ne_i14, ne_i16, ne_i18, ne_i19, ne_i20, ne_i23, ne_i24, ne_i27, ne_i29, ne_i30, ne_i31, ne_i32, ne_i35, ne_i48, ne_i52, ne_i54, ne_i57, ne_i59, ne_i63, ne_i64, ne_i76, ne_i77, ne_i78, ne_i79, ne_i80, ne_i81, ne_i97, ne_i99, ne_i100, ne_i101, ne_i104, ne_i105, ne_i108, ne_i110, ne_i111, ne_i116, ne_i117, ne_i122, ne_i103, ne_i200, ne_i255, ne_i256, ne_i320, ne_i384, ne_i1000, ne_l0, ne_l1, ne_l2, ne_l3, ne_l4, ne_l5, ne_l8, ne_l12, ne_l31, ne_l48, ne_l57, ne_l97, ne_l99, ne_l122, ne_l255, ne_l673, ne_l1073741823, ne_l1073741824, e2, np_bad]
/-- least and most in the chest -/
theorem RR_lm {i f x : Nat} (h : RR X S a b v ik tx len) (hi : i < a 76) (hf : f = 2 ∨ f = 3) (hx : x ≤ 12) : RR (sm_sI X (f + 2) i (nI x)) (sm_sI S 1 (4 * i + f) (nI x)) (va_up a (4 * i + f) x) b v ik tx len := by
  have hP := h.2.2.2.2.2.2.2.1
  obtain ⟨o1, o2, o3, o4, o5, o6, o7, o8, o9, o10⟩ := RR_ok h
  obtain ⟨c, k, co, hh, hz, wi, now, past⟩ := RR_hs h
  have hi4 : i < 4 := by omega
  have e : ∀ k, k ≠ 4 * i + f → va_up a (4 * i + f) x k = a k := fun k hk => ne_up_n hk
  have fX : ∀ p, p ≠ f + 2 → (sm_sI X (f + 2) i (nI x)).1 p = X.1 p := fun p hp => ne_sI1n hp
  refine RR_w h (by omega) (by omega) (by omega) (by omega) (by omega) (by omega) ?_ ?_
  · refine ⟨by rw [e _ (by omega)]; exact o1, by rw [e _ (by omega)]; exact o2, by rw [e _ (by omega)]; exact o3, by rw [e _ (by omega)]; exact o4, by rw [e _ (by omega), e _ (by omega)]; exact o5, by rw [e _ (by omega)]; exact o6, fun c hc => ?_, fun c y hc hy => ?_, fun s hs => ?_, fun k hk => ?_⟩
    · rw [e _ (by omega)] at hc
      rw [e (4 * c) (by omega), e (4 * c + 1) (by omega)]
      obtain ⟨g1, g2, g3, g4⟩ := o7 c hc
      refine ⟨g1, g2, ?_, ?_⟩
      · by_cases q : 4 * c + 2 = 4 * i + f
        · rw [q, ne_up_s]; exact hx
        · rw [e _ q]; exact g3
      · by_cases q : 4 * c + 3 = 4 * i + f
        · rw [q, ne_up_s]; exact hx
        · rw [e _ q]; exact g4
    · exact sp_h8_eq o1 (e 76 (by omega)) (e 77 (by omega)) (fun k h1 h2 => e k (by omega)) o8 c y hc hy
    · rw [e _ (by omega)] at hs
      rw [e _ (by omega)]
      exact o9 s hs
    · rw [e _ (by omega)] at hk
      rw [e _ (by omega), e _ (by omega), e _ (by omega), e _ (by omega)]
      exact o10 k hk
  · refine ⟨?_, fun i' hi' => ?_, fun s hs => ?_, fun i' y hi' hy => ?_, fun i' y hi' hi4' hy => ?_, fun k f hk hf => ?_, ?_, fun j hj => ?_⟩
    · rw [fX 1 (by omega), e _ (by omega), e _ (by omega), e _ (by omega), e _ (by omega), e _ (by omega)]
      exact c
    · rw [e _ (by omega)] at hi'
      rw [fX (1 + 1) (by omega), fX (1 + 2) (by omega), e (4 * i') (by omega), e (4 * i' + 1) (by omega)]
      obtain ⟨g1, g2, g3, g4⟩ := k i' hi'
      have one : ∀ f', (f' = 2 ∨ f' = 3) → X.1 (f' + 2) i' = nI (a (4 * i' + f')) → (sm_sI X (f + 2) i (nI x)).1 (f' + 2) i' = nI (va_up a (4 * i + f) x (4 * i' + f')) := by
        intro f' hf' g
        by_cases q : f' = f
        · subst q
          rw [ne_sI1s]
          by_cases qi : i' = i
          · subst qi
            rw [pk_us, ne_up_s]
          · rw [pk_un qi, e _ (by omega)]
            exact g
        · rw [fX _ (by omega), e _ (by omega)]
          exact g
      exact ⟨g1, g2, one 2 (Or.inl rfl) g3, one 3 (Or.inr rfl) g4⟩
    · rw [e _ (by omega)] at hs
      rw [e _ (by omega), fX _ (by omega)]
      exact co s hs
    · rw [e _ (by omega)] at hi'
      rw [fX _ (by omega), e _ (by omega)]
      exact hh i' y hi' hy
    · rw [e _ (by omega)] at hi'
      rw [fX _ (by omega)]
      exact hz i' y hi' hi4' hy
    · rw [e _ (by omega)] at hk
      rw [fX _ (by omega), e _ (by omega)]
      exact wi k f hk hf
    · rw [e _ (by omega)]
      exact xsh_w now (by omega) (by omega)
    · rw [e _ (by omega)] at hj
      rw [e _ (by omega)]
      obtain ⟨s, s1, s2⟩ := hP.1 j (by omega)
      exact xsh_w (q := X.2.2 (1 + 13) j) (past j hj) (by omega) (by omega)
theorem ne_ltz {v1 : Int32} : (v1 < nI 0) = (v1.toInt < 0) := propext Int32.lt_iff_toInt_lt
theorem ne_ltv {v1 : Int32} {j : Nat} (h : j < 2 ^ 31) : (nI j < v1) = ((j : Int) < v1.toInt) := by
  rw [Int32.lt_iff_toInt_lt, nI_toInt h]
theorem ne_vlt {v1 : Int32} {j : Nat} (h : j < 2 ^ 31) : (v1 < nI j) = (v1.toInt < (j : Int)) := by
  rw [Int32.lt_iff_toInt_lt, nI_toInt h]
theorem ne_vle {v1 : Int32} {j : Nat} (h : j < 2 ^ 31) : (v1 ≤ nI j) = (v1.toInt ≤ (j : Int)) := by
  rw [Int32.le_iff_toInt_le, nI_toInt h]
theorem ne_vv {v1 v2 : Int32} : (v1 < v2) = (v1.toInt < v2.toInt) := propext Int32.lt_iff_toInt_lt
theorem c_bound {v1 v2 v3 : Int32} (hN : 4000 ≤ N) (h : R X S) : OKr (px_L_bound N X v1 v2 v3) (pm_bound N S v1 v2 v3) := by
  obtain ⟨a, b, v, ik, tx, len, h⟩ := h
  have hR := RR_R h
  have k4 := (RR_ok h).1
  obtain ⟨q1, q2⟩ := RR_cl h
  have hw := h.1
  have fin : ∀ {o1 o2 : Option (Int32 × sm_St)}, o1 = some (-nI 2, sm_sI X 0 11 (X.1 0 11 + nI 1)) → o2 = some (-nI 2, sm_sI S 4 0 (S.1 4 0 + nI 1)) → OKr o1 o2 := fun e1 e2 => ⟨_, _, _, e1, e2, R_bad hR⟩
  unfold px_L_bound pm_bound px_L_bound_b26 pm_bound_b31
  rcases cl_or (N := N) h v1 with ⟨c, rfl, hc⟩ | ⟨e1, e2⟩
  · have n1 := xq_clT (N := N) q1 hc k4
    have n2 := np_clT (N := N) hw k4 hc
    rcases ne_arg v3 12 (by decide) with ⟨z, hz, rfl⟩ | hb3
    · rcases ne_arg v2 z (by omega) with ⟨y, hy, rfl⟩ | hb2
      · have h1 := RR_lm h hc (f := 2) (Or.inl rfl) (show y ≤ 12 by omega)
        have h2 := RR_lm h1 (i := c) (f := 3) (by rw [ne_up_n (by omega)]; exact hc) (Or.inr rfl) hz
        simp (disch := omega) only [sm_lt, sm_b1s, sm_b2s, ↓reduceIte, sm_in_nI, nI_clamp, nI_add, pk_mul, pk_sub, ne_addneg, nI_l, ne_ltT, ne_ltF, ne_leT, ne_leF, ne_eqT, ne_eqF, ne_sI1s, ne_sI1n, ne_sI2, ne_sI3, ne_sL1, ne_sL2s, ne_sL2n, ne_sL3, pk_us, pk_un, pk_uLs, pk_uLn, mm_Z, mm_L, mm_1, mm_2, mm_3, ne_rz0, ne_rz1, not_true_eq_false, not_false_eq_true, ne_i0, ne_i1, ne_i2, ne_i3, ne_i4, ne_i5, ne_i6, ne_i7, ne_i8, ne_i9, ne_i10, ne_i12, ne_i14, ne_i16, ne_i18, ne_i19, ne_i20, ne_i23, ne_i24, ne_i27, ne_i29, ne_i30, ne_i31, ne_i32, ne_i35, ne_i48, ne_i52, ne_i54, ne_i57, ne_i59, ne_i63, ne_i64, ne_i76, ne_i77, ne_i78, ne_i79, ne_i80, ne_i81, ne_i97, ne_i99, ne_i100, ne_i101, ne_i104, ne_i105, ne_i108, ne_i110, ne_i111, ne_i116, ne_i117, ne_i122, ne_i103, ne_i200, ne_i255, ne_i256, ne_i320, ne_i384, ne_i1000, ne_l0, ne_l1, ne_l2, ne_l3, ne_l4, ne_l5, ne_l8, ne_l12, ne_l31, ne_l48, ne_l57, ne_l97, ne_l99, ne_l122, ne_l255, ne_l673, ne_l1073741823, ne_l1073741824, n1, n2, ne_inT, Nat.zero_add]
        exact ⟨_, _, _, rfl, rfl, RR_R h2⟩
      · refine fin ?_ ?_
        · by_cases l0 : v2.toInt < 0
          · have l0' := ne_ltz.trans (eq_true l0)
            simp (disch := omega) only [sm_lt, sm_b1s, sm_b2s, ↓reduceIte, sm_in_nI, nI_clamp, nI_add, pk_mul, pk_sub, ne_addneg, nI_l, ne_ltT, ne_ltF, ne_leT, ne_leF, ne_eqT, ne_eqF, ne_sI1s, ne_sI1n, ne_sI2, ne_sI3, ne_sL1, ne_sL2s, ne_sL2n, ne_sL3, pk_us, pk_un, pk_uLs, pk_uLn, mm_Z, mm_L, mm_1, mm_2, mm_3, ne_rz0, ne_rz1, not_true_eq_false, not_false_eq_true, ne_i0, ne_i1, ne_i2, ne_i3, ne_i4, ne_i5, ne_i6, ne_i7, ne_i8, ne_i9, ne_i10, ne_i12, ne_i14, ne_i16, ne_i18, ne_i19, ne_i20, ne_i23, ne_i24, ne_i27, ne_i29, ne_i30, ne_i31, ne_i32, ne_i35, ne_i48, ne_i52, ne_i54, ne_i57, ne_i59, ne_i63, ne_i64, ne_i76, ne_i77, ne_i78, ne_i79, ne_i80, ne_i81, ne_i97, ne_i99, ne_i100, ne_i101, ne_i104, ne_i105, ne_i108, ne_i110, ne_i111, ne_i116, ne_i117, ne_i122, ne_i103, ne_i200, ne_i255, ne_i256, ne_i320, ne_i384, ne_i1000, ne_l0, ne_l1, ne_l2, ne_l3, ne_l4, ne_l5, ne_l8, ne_l12, ne_l31, ne_l48, ne_l57, ne_l97, ne_l99, ne_l122, ne_l255, ne_l673, ne_l1073741823, ne_l1073741824, n1, l0', xq_bad]
          · have l0' := ne_ltz.trans (eq_false l0)
            have l1' := (ne_ltv (v1 := v2) (j := z) (by omega)).trans (eq_true (by omega))
            simp (disch := omega) only [sm_lt, sm_b1s, sm_b2s, ↓reduceIte, sm_in_nI, nI_clamp, nI_add, pk_mul, pk_sub, ne_addneg, nI_l, ne_ltT, ne_ltF, ne_leT, ne_leF, ne_eqT, ne_eqF, ne_sI1s, ne_sI1n, ne_sI2, ne_sI3, ne_sL1, ne_sL2s, ne_sL2n, ne_sL3, pk_us, pk_un, pk_uLs, pk_uLn, mm_Z, mm_L, mm_1, mm_2, mm_3, ne_rz0, ne_rz1, not_true_eq_false, not_false_eq_true, ne_i0, ne_i1, ne_i2, ne_i3, ne_i4, ne_i5, ne_i6, ne_i7, ne_i8, ne_i9, ne_i10, ne_i12, ne_i14, ne_i16, ne_i18, ne_i19, ne_i20, ne_i23, ne_i24, ne_i27, ne_i29, ne_i30, ne_i31, ne_i32, ne_i35, ne_i48, ne_i52, ne_i54, ne_i57, ne_i59, ne_i63, ne_i64, ne_i76, ne_i77, ne_i78, ne_i79, ne_i80, ne_i81, ne_i97, ne_i99, ne_i100, ne_i101, ne_i104, ne_i105, ne_i108, ne_i110, ne_i111, ne_i116, ne_i117, ne_i122, ne_i103, ne_i200, ne_i255, ne_i256, ne_i320, ne_i384, ne_i1000, ne_l0, ne_l1, ne_l2, ne_l3, ne_l4, ne_l5, ne_l8, ne_l12, ne_l31, ne_l48, ne_l57, ne_l97, ne_l99, ne_l122, ne_l255, ne_l673, ne_l1073741823, ne_l1073741824, n1, l0', l1', xq_bad]
        · have e := ne_inB (N := N) (S := S) hb2 (by omega)
          simp (disch := omega) only [sm_lt, sm_b1s, sm_b2s, ↓reduceIte, sm_in_nI, nI_clamp, nI_add, pk_mul, pk_sub, ne_addneg, nI_l, ne_ltT, ne_ltF, ne_leT, ne_leF, ne_eqT, ne_eqF, ne_sI1s, ne_sI1n, ne_sI2, ne_sI3, ne_sL1, ne_sL2s, ne_sL2n, ne_sL3, pk_us, pk_un, pk_uLs, pk_uLn, mm_Z, mm_L, mm_1, mm_2, mm_3, ne_rz0, ne_rz1, not_true_eq_false, not_false_eq_true, ne_i0, ne_i1, ne_i2, ne_i3, ne_i4, ne_i5, ne_i6, ne_i7, ne_i8, ne_i9, ne_i10, ne_i12, ne_i14, ne_i16, ne_i18, ne_i19, ne_i20, ne_i23, ne_i24, ne_i27, ne_i29, ne_i30, ne_i31, ne_i32, ne_i35, ne_i48, ne_i52, ne_i54, ne_i57, ne_i59, ne_i63, ne_i64, ne_i76, ne_i77, ne_i78, ne_i79, ne_i80, ne_i81, ne_i97, ne_i99, ne_i100, ne_i101, ne_i104, ne_i105, ne_i108, ne_i110, ne_i111, ne_i116, ne_i117, ne_i122, ne_i103, ne_i200, ne_i255, ne_i256, ne_i320, ne_i384, ne_i1000, ne_l0, ne_l1, ne_l2, ne_l3, ne_l4, ne_l5, ne_l8, ne_l12, ne_l31, ne_l48, ne_l57, ne_l97, ne_l99, ne_l122, ne_l255, ne_l673, ne_l1073741823, ne_l1073741824, n2, ne_inT, e, np_bad]
    · refine fin ?_ ?_
      · by_cases l0 : v2.toInt < 0
        · have l0' := ne_ltz.trans (eq_true l0)
          simp (disch := omega) only [sm_lt, sm_b1s, sm_b2s, ↓reduceIte, sm_in_nI, nI_clamp, nI_add, pk_mul, pk_sub, ne_addneg, nI_l, ne_ltT, ne_ltF, ne_leT, ne_leF, ne_eqT, ne_eqF, ne_sI1s, ne_sI1n, ne_sI2, ne_sI3, ne_sL1, ne_sL2s, ne_sL2n, ne_sL3, pk_us, pk_un, pk_uLs, pk_uLn, mm_Z, mm_L, mm_1, mm_2, mm_3, ne_rz0, ne_rz1, not_true_eq_false, not_false_eq_true, ne_i0, ne_i1, ne_i2, ne_i3, ne_i4, ne_i5, ne_i6, ne_i7, ne_i8, ne_i9, ne_i10, ne_i12, ne_i14, ne_i16, ne_i18, ne_i19, ne_i20, ne_i23, ne_i24, ne_i27, ne_i29, ne_i30, ne_i31, ne_i32, ne_i35, ne_i48, ne_i52, ne_i54, ne_i57, ne_i59, ne_i63, ne_i64, ne_i76, ne_i77, ne_i78, ne_i79, ne_i80, ne_i81, ne_i97, ne_i99, ne_i100, ne_i101, ne_i104, ne_i105, ne_i108, ne_i110, ne_i111, ne_i116, ne_i117, ne_i122, ne_i103, ne_i200, ne_i255, ne_i256, ne_i320, ne_i384, ne_i1000, ne_l0, ne_l1, ne_l2, ne_l3, ne_l4, ne_l5, ne_l8, ne_l12, ne_l31, ne_l48, ne_l57, ne_l97, ne_l99, ne_l122, ne_l255, ne_l673, ne_l1073741823, ne_l1073741824, n1, l0', xq_bad]
        · have l0' := ne_ltz.trans (eq_false l0)
          by_cases l1 : v3.toInt < v2.toInt
          · have l1' := (ne_vv (v1 := v3) (v2 := v2)).trans (eq_true l1)
            simp (disch := omega) only [sm_lt, sm_b1s, sm_b2s, ↓reduceIte, sm_in_nI, nI_clamp, nI_add, pk_mul, pk_sub, ne_addneg, nI_l, ne_ltT, ne_ltF, ne_leT, ne_leF, ne_eqT, ne_eqF, ne_sI1s, ne_sI1n, ne_sI2, ne_sI3, ne_sL1, ne_sL2s, ne_sL2n, ne_sL3, pk_us, pk_un, pk_uLs, pk_uLn, mm_Z, mm_L, mm_1, mm_2, mm_3, ne_rz0, ne_rz1, not_true_eq_false, not_false_eq_true, ne_i0, ne_i1, ne_i2, ne_i3, ne_i4, ne_i5, ne_i6, ne_i7, ne_i8, ne_i9, ne_i10, ne_i12, ne_i14, ne_i16, ne_i18, ne_i19, ne_i20, ne_i23, ne_i24, ne_i27, ne_i29, ne_i30, ne_i31, ne_i32, ne_i35, ne_i48, ne_i52, ne_i54, ne_i57, ne_i59, ne_i63, ne_i64, ne_i76, ne_i77, ne_i78, ne_i79, ne_i80, ne_i81, ne_i97, ne_i99, ne_i100, ne_i101, ne_i104, ne_i105, ne_i108, ne_i110, ne_i111, ne_i116, ne_i117, ne_i122, ne_i103, ne_i200, ne_i255, ne_i256, ne_i320, ne_i384, ne_i1000, ne_l0, ne_l1, ne_l2, ne_l3, ne_l4, ne_l5, ne_l8, ne_l12, ne_l31, ne_l48, ne_l57, ne_l97, ne_l99, ne_l122, ne_l255, ne_l673, ne_l1073741823, ne_l1073741824, n1, l0', l1', xq_bad]
          · have l1' := (ne_vv (v1 := v3) (v2 := v2)).trans (eq_false l1)
            have l2' := (ne_vle (v1 := v3) (j := 12) (by omega)).trans (eq_false (by omega))
            simp (disch := omega) only [sm_lt, sm_b1s, sm_b2s, ↓reduceIte, sm_in_nI, nI_clamp, nI_add, pk_mul, pk_sub, ne_addneg, nI_l, ne_ltT, ne_ltF, ne_leT, ne_leF, ne_eqT, ne_eqF, ne_sI1s, ne_sI1n, ne_sI2, ne_sI3, ne_sL1, ne_sL2s, ne_sL2n, ne_sL3, pk_us, pk_un, pk_uLs, pk_uLn, mm_Z, mm_L, mm_1, mm_2, mm_3, ne_rz0, ne_rz1, not_true_eq_false, not_false_eq_true, ne_i0, ne_i1, ne_i2, ne_i3, ne_i4, ne_i5, ne_i6, ne_i7, ne_i8, ne_i9, ne_i10, ne_i12, ne_i14, ne_i16, ne_i18, ne_i19, ne_i20, ne_i23, ne_i24, ne_i27, ne_i29, ne_i30, ne_i31, ne_i32, ne_i35, ne_i48, ne_i52, ne_i54, ne_i57, ne_i59, ne_i63, ne_i64, ne_i76, ne_i77, ne_i78, ne_i79, ne_i80, ne_i81, ne_i97, ne_i99, ne_i100, ne_i101, ne_i104, ne_i105, ne_i108, ne_i110, ne_i111, ne_i116, ne_i117, ne_i122, ne_i103, ne_i200, ne_i255, ne_i256, ne_i320, ne_i384, ne_i1000, ne_l0, ne_l1, ne_l2, ne_l3, ne_l4, ne_l5, ne_l8, ne_l12, ne_l31, ne_l48, ne_l57, ne_l97, ne_l99, ne_l122, ne_l255, ne_l673, ne_l1073741823, ne_l1073741824, n1, l0', l1', l2', xq_bad]
      · have e := ne_inB (N := N) (S := S) hb3 (by omega)
        simp (disch := omega) only [sm_lt, sm_b1s, sm_b2s, ↓reduceIte, sm_in_nI, nI_clamp, nI_add, pk_mul, pk_sub, ne_addneg, nI_l, ne_ltT, ne_ltF, ne_leT, ne_leF, ne_eqT, ne_eqF, ne_sI1s, ne_sI1n, ne_sI2, ne_sI3, ne_sL1, ne_sL2s, ne_sL2n, ne_sL3, pk_us, pk_un, pk_uLs, pk_uLn, mm_Z, mm_L, mm_1, mm_2, mm_3, ne_rz0, ne_rz1, not_true_eq_false, not_false_eq_true, ne_i0, ne_i1, ne_i2, ne_i3, ne_i4, ne_i5, ne_i6, ne_i7, ne_i8, ne_i9, ne_i10, ne_i12, ne_i14, ne_i16, ne_i18, ne_i19, ne_i20, ne_i23, ne_i24, ne_i27, ne_i29, ne_i30, ne_i31, ne_i32, ne_i35, ne_i48, ne_i52, ne_i54, ne_i57, ne_i59, ne_i63, ne_i64, ne_i76, ne_i77, ne_i78, ne_i79, ne_i80, ne_i81, ne_i97, ne_i99, ne_i100, ne_i101, ne_i104, ne_i105, ne_i108, ne_i110, ne_i111, ne_i116, ne_i117, ne_i122, ne_i103, ne_i200, ne_i255, ne_i256, ne_i320, ne_i384, ne_i1000, ne_l0, ne_l1, ne_l2, ne_l3, ne_l4, ne_l5, ne_l8, ne_l12, ne_l31, ne_l48, ne_l57, ne_l97, ne_l99, ne_l122, ne_l255, ne_l673, ne_l1073741823, ne_l1073741824, n2, e, np_bad]
  · refine fin ?_ ?_
    · simp (disch := omega) only [sm_lt, sm_b1s, sm_b2s, ↓reduceIte, sm_in_nI, nI_clamp, nI_add, pk_mul, pk_sub, ne_addneg, nI_l, ne_ltT, ne_ltF, ne_leT, ne_leF, ne_eqT, ne_eqF, ne_sI1s, ne_sI1n, ne_sI2, ne_sI3, ne_sL1, ne_sL2s, ne_sL2n, ne_sL3, pk_us, pk_un, pk_uLs, pk_uLn, mm_Z, mm_L, mm_1, mm_2, mm_3, ne_rz0, ne_rz1, not_true_eq_false, not_false_eq_true, ne_i0, ne_i1, ne_i2, ne_i3, ne_i4, ne_i5, ne_i6, ne_i7, ne_i8, ne_i9, ne_i10, ne_i12, ne_i14, ne_i16, ne_i18, ne_i19, ne_i20, ne_i23, ne_i24, ne_i27, ne_i29, ne_i30, ne_i31, ne_i32, ne_i35, ne_i48, ne_i52, ne_i54, ne_i57, ne_i59, ne_i63, ne_i64, ne_i76, ne_i77, ne_i78, ne_i79, ne_i80, ne_i81, ne_i97, ne_i99, ne_i100, ne_i101, ne_i104, ne_i105, ne_i108, ne_i110, ne_i111, ne_i116, ne_i117, ne_i122, ne_i103, ne_i200, ne_i255, ne_i256, ne_i320, ne_i384, ne_i1000, ne_l0, ne_l1, ne_l2, ne_l3, ne_l4, ne_l5, ne_l8, ne_l12, ne_l31, ne_l48, ne_l57, ne_l97, ne_l99, ne_l122, ne_l255, ne_l673, ne_l1073741823, ne_l1073741824, e1, xq_bad]
    · simp (disch := omega) only [sm_lt, sm_b1s, sm_b2s, ↓reduceIte, sm_in_nI, nI_clamp, nI_add, pk_mul, pk_sub, ne_addneg, nI_l, ne_ltT, ne_ltF, ne_leT, ne_leF, ne_eqT, ne_eqF, ne_sI1s, ne_sI1n, ne_sI2, ne_sI3, ne_sL1, ne_sL2s, ne_sL2n, ne_sL3, pk_us, pk_un, pk_uLs, pk_uLn, mm_Z, mm_L, mm_1, mm_2, mm_3, ne_rz0, ne_rz1, not_true_eq_false, not_false_eq_true, ne_i0, ne_i1, ne_i2, ne_i3, ne_i4, ne_i5, ne_i6, ne_i7, ne_i8, ne_i9, ne_i10, ne_i12, ne_i14, ne_i16, ne_i18, ne_i19, ne_i20, ne_i23, ne_i24, ne_i27, ne_i29, ne_i30, ne_i31, ne_i32, ne_i35, ne_i48, ne_i52, ne_i54, ne_i57, ne_i59, ne_i63, ne_i64, ne_i76, ne_i77, ne_i78, ne_i79, ne_i80, ne_i81, ne_i97, ne_i99, ne_i100, ne_i101, ne_i104, ne_i105, ne_i108, ne_i110, ne_i111, ne_i116, ne_i117, ne_i122, ne_i103, ne_i200, ne_i255, ne_i256, ne_i320, ne_i384, ne_i1000, ne_l0, ne_l1, ne_l2, ne_l3, ne_l4, ne_l5, ne_l8, ne_l12, ne_l31, ne_l48, ne_l57, ne_l97, ne_l99, ne_l122, ne_l255, ne_l673, ne_l1073741823, ne_l1073741824, e2, np_bad]
/-- what a borrower wants -/
theorem RR_wish {n f x : Nat} (h : RR X S a b v ik tx len) (hn : n < 6) (hna : a 80 ≤ n) (hf : f < 4) : RR (sm_sI X (28 + n) f (nI x)) (sm_sI S 1 (52 + 4 * n + f) (nI x)) (va_up a (52 + 4 * n + f) x) b v ik tx len := by
  have hP := h.2.2.2.2.2.2.2.1
  obtain ⟨o1, o2, o3, o4, o5, o6, o7, o8, o9, o10⟩ := RR_ok h
  obtain ⟨c, k, co, hh, hz, wi, now, past⟩ := RR_hs h
  have e : ∀ k, k ≠ 52 + 4 * n + f → va_up a (52 + 4 * n + f) x k = a k := fun k hk => ne_up_n hk
  have fX : ∀ p, p ≠ 28 + n → (sm_sI X (28 + n) f (nI x)).1 p = X.1 p := fun p hp => ne_sI1n hp
  refine RR_w h (by omega) (by omega) (by omega) (by omega) (by omega) (by omega) ?_ ?_
  · refine ⟨by rw [e _ (by omega)]; exact o1, by rw [e _ (by omega)]; exact o2, by rw [e _ (by omega)]; exact o3, by rw [e _ (by omega)]; exact o4, by rw [e _ (by omega), e _ (by omega)]; exact o5, by rw [e _ (by omega)]; exact o6, fun c hc => ?_, fun c y hc hy => ?_, fun s hs => ?_, fun k hk => ?_⟩
    · rw [e _ (by omega)] at hc
      rw [e _ (by omega), e _ (by omega), e _ (by omega), e _ (by omega)]
      exact o7 c hc
    · exact sp_h8_eq o1 (e 76 (by omega)) (e 77 (by omega)) (fun k h1 h2 => e k (by omega)) o8 c y hc hy
    · rw [e _ (by omega)] at hs
      rw [e _ (by omega)]
      exact o9 s hs
    · rw [e _ (by omega)] at hk
      rw [e _ (by omega), e _ (by omega), e _ (by omega), e _ (by omega)]
      exact o10 k hk
  · refine ⟨?_, fun i' hi' => ?_, fun s hs => ?_, fun i' y hi' hy => ?_, fun i' y hi' hi4' hy => ?_, fun k f' hk hf' => ?_, ?_, fun j hj => ?_⟩
    · rw [fX 1 (by omega), e _ (by omega), e _ (by omega), e _ (by omega), e _ (by omega), e _ (by omega)]
      exact c
    · rw [e _ (by omega)] at hi'
      rw [fX _ (by omega), fX _ (by omega), fX _ (by omega), fX _ (by omega), e _ (by omega), e _ (by omega), e _ (by omega), e _ (by omega)]
      exact k i' hi'
    · rw [e _ (by omega)] at hs
      rw [e _ (by omega), fX _ (by omega)]
      exact co s hs
    · rw [e _ (by omega)] at hi'
      rw [fX _ (by omega), e _ (by omega)]
      exact hh i' y hi' hy
    · rw [e _ (by omega)] at hi'
      rw [fX _ (by omega)]
      exact hz i' y hi' hi4' hy
    · rw [e _ (by omega)] at hk
      by_cases q : k = n
      · subst q
        rw [show 1 + 27 + k = 28 + k by omega, ne_sI1s]
        by_cases qf : f' = f
        · subst qf
          rw [pk_us, ne_up_s]
        · rw [pk_un qf, e _ (by omega)]
          exact wi k f' hk hf'
      · rw [fX _ (by omega), e _ (by omega)]
        exact wi k f' hk hf'
    · rw [e _ (by omega)]
      exact xsh_w now (by omega) (by omega)
    · rw [e _ (by omega)] at hj
      rw [e _ (by omega)]
      obtain ⟨s, s1, s2⟩ := hP.1 j (by omega)
      exact xsh_w (q := X.2.2 (1 + 13) j) (past j hj) (by omega) (by omega)
/-- how many borrow -/
theorem RR_borr {n : Nat} (h : RR X S a b v ik tx len) (hn : n ≤ 6) (hc : ∀ k, k < n → (a (52 + 4 * k) ≤ 3 ∧ a (52 + 4 * k + 1) ≤ 12 ∧ a (52 + 4 * k + 2) ≤ 12 ∧ a (52 + 4 * k + 3) ≤ 12 ∧ a (52 + 4 * k + 1) ≤ a (52 + 4 * k + 2)) ∧ ∀ f, f < 4 → X.1 (28 + k) f = nI (a (52 + 4 * k + f))) : RR (sm_sI X 1 13 (nI n)) (sm_sI S 1 80 (nI n)) (va_up a 80 n) b v ik tx len := by
  have e : ∀ k, k ≠ 80 → va_up a 80 n k = a k := fun k hk => ne_up_n hk
  have e7 : va_up a 80 n 80 = n := ne_up_s
  have fX : ∀ p, p ≠ 1 → (sm_sI X 1 13 (nI n)).1 p = X.1 p := fun p hp => ne_sI1n hp
  have hP := h.2.2.2.2.2.2.2.1
  obtain ⟨o1, o2, o3, o4, o5, o6, o7, o8, o9, o10⟩ := RR_ok h
  obtain ⟨c, k, co, hh, hz, wi, now, past⟩ := RR_hs h
  refine RR_w h (by decide) (by decide) (by omega) (by omega) (by omega) (by omega) ?_ ?_
  · refine ⟨by rw [e _ (by omega)]; exact o1, by rw [e _ (by omega)]; exact o2, by rw [e _ (by omega)]; exact o3, by rw [e _ (by omega)]; exact o4, by rw [e _ (by omega), e _ (by omega)]; exact o5, by rw [e7]; exact hn, fun c hc => ?_, fun c x hc hx => ?_, fun s hs => ?_, fun k hk => ?_⟩
    · rw [e _ (by omega)] at hc
      rw [e _ (by omega), e _ (by omega), e _ (by omega), e _ (by omega)]
      exact o7 c hc
    · exact sp_h8_eq o1 (e 76 (by omega)) (e 77 (by omega)) (fun k h1 h2 => e k (by omega)) o8 c x hc hx
    · rw [e _ (by omega)] at hs
      rw [e _ (by omega)]
      exact o9 s hs
    · rw [e7] at hk
      rw [e _ (by omega), e _ (by omega), e _ (by omega), e _ (by omega)]
      exact (hc k hk).1
  · refine ⟨?_, fun i hi => ?_, fun s hs => ?_, fun i x hi hx => ?_, fun i x hi hi4 hx => ?_, fun k f hk hf => ?_, ?_, fun j hj => ?_⟩
    · rw [ne_sI1s, e 76 (by omega), e7, e 77 (by omega), e 78 (by omega), e 79 (by omega), pk_un (by decide), pk_us, pk_un (by decide), pk_un (by decide), pk_un (by decide)]
      exact ⟨c.1, c.2.1, c.2.2.1, c.2.2.2.1, rfl⟩
    · rw [e _ (by omega)] at hi
      rw [fX _ (by decide), fX _ (by decide), fX _ (by decide), fX _ (by decide), e _ (by omega), e _ (by omega), e _ (by omega), e _ (by omega)]
      exact k i hi
    · rw [e _ (by omega)] at hs
      rw [e _ (by omega), fX _ (by decide)]
      exact co s hs
    · rw [e _ (by omega)] at hi
      rw [fX _ (by omega), e _ (by omega)]
      exact hh i x hi hx
    · rw [e _ (by omega)] at hi
      rw [fX _ (by omega)]
      exact hz i x hi hi4 hx
    · rw [e7] at hk
      rw [fX _ (by omega), e _ (by omega), show 1 + 27 + k = 28 + k by omega]
      exact (hc k hk).2 f hf
    · rw [e _ (by omega)]
      exact xsh_w now (by decide) (by decide)
    · rw [e _ (by omega)] at hj
      rw [e _ (by omega)]
      obtain ⟨s, s1, s2⟩ := hP.1 j (by omega)
      exact xsh_w (q := X.2.2 (1 + 13) j) (past j hj) (by omega) (by omega)
theorem c_refuse (hN : 4000 ≤ N) (h : R X S) : OKr (px_L_refuse N X) (pm_refuse N S) := by
  obtain ⟨a, b, v, ik, tx, len, h⟩ := h
  have h1 := RR_borr (n := 0) h (by decide) (fun k hk => by omega)
  have e := (RR_hs h).1.2.2.2.2
  have hw := h.1
  unfold px_L_refuse pm_refuse
  simp (disch := omega) only [sm_lt, sm_b1s, sm_b2s, ↓reduceIte, sm_in_nI, nI_clamp, nI_add, pk_mul, pk_sub, ne_addneg, nI_l, ne_ltT, ne_ltF, ne_leT, ne_leF, ne_eqT, ne_eqF, ne_sI1s, ne_sI1n, ne_sI2, ne_sI3, ne_sL1, ne_sL2s, ne_sL2n, ne_sL3, pk_us, pk_un, pk_uLs, pk_uLn, mm_Z, mm_L, mm_1, mm_2, mm_3, ne_rz0, ne_rz1, not_true_eq_false, not_false_eq_true, ne_i0, ne_i1, ne_i2, ne_i3, ne_i4, ne_i5, ne_i6, ne_i7, ne_i8, ne_i9, ne_i10, ne_i12, ne_i14, ne_i16, ne_i18, ne_i19, ne_i20, ne_i23, ne_i24, ne_i27, ne_i29, ne_i30, ne_i31, ne_i32, ne_i35, ne_i48, ne_i52, ne_i54, ne_i57, ne_i59, ne_i63, ne_i64, ne_i76, ne_i77, ne_i78, ne_i79, ne_i80, ne_i81, ne_i97, ne_i99, ne_i100, ne_i101, ne_i104, ne_i105, ne_i108, ne_i110, ne_i111, ne_i116, ne_i117, ne_i122, ne_i103, ne_i200, ne_i255, ne_i256, ne_i320, ne_i384, ne_i1000, ne_l0, ne_l1, ne_l2, ne_l3, ne_l4, ne_l5, ne_l8, ne_l12, ne_l31, ne_l48, ne_l57, ne_l97, ne_l99, ne_l122, ne_l255, ne_l673, ne_l1073741823, ne_l1073741824, e, hw]
  exact ⟨_, _, _, rfl, rfl, RR_R h1⟩
theorem c_borrower {v1 v2 v3 v4 : Int32} (hN : 4000 ≤ N) (h : R X S) : OKr (px_L_borrower N X v1 v2 v3 v4) (pm_borrower N S v1 v2 v3 v4) := by
  obtain ⟨a, b, v, ik, tx, len, h⟩ := h
  have hR := RR_R h
  have k4 := (RR_ok h).1
  have o6 := (RR_ok h).2.2.2.2.2.1
  have o10 := (RR_ok h).2.2.2.2.2.2.2.2.2
  obtain ⟨q1, q2⟩ := RR_cl h
  have hw := h.1
  have c80 := (RR_hs h).1.2.2.2.2
  have wi := (RR_hs h).2.2.2.2.2.1
  have fin : ∀ {o1 o2 : Option (Int32 × sm_St)}, o1 = some (-nI 2, sm_sI X 0 11 (X.1 0 11 + nI 1)) → o2 = some (-nI 2, sm_sI S 4 0 (S.1 4 0 + nI 1)) → OKr o1 o2 := fun e1 e2 => ⟨_, _, _, e1, e2, R_bad hR⟩
  unfold px_L_borrower pm_borrower px_L_borrower_b36 pm_borrower_b44
  rcases cl_or (N := N) h v1 with ⟨c, rfl, hc⟩ | ⟨e1, e2⟩
  · have n1 := xq_clT (N := N) q1 hc k4
    have n2 := np_clT (N := N) hw k4 hc
    rcases ne_arg v3 12 (by decide) with ⟨z, hz, rfl⟩ | hb3
    · rcases ne_arg v2 z (by omega) with ⟨y, hy, rfl⟩ | hb2
      · rcases w_or (N := N) (X := X) (S := S) v4 (show 12 < 2 ^ 31 by decide) with ⟨p, rfl, hp⟩ | ⟨e1, e2⟩
        · by_cases h6 : a 80 < 6
          · have u0 : 52 + 4 * a 80 + 0 = 52 + 4 * a 80 := rfl
            have h1 := RR_wish (x := c) h h6 (Nat.le_refl _) (f := 0) (by decide)
            have h2 := RR_wish (x := y) h1 h6 (by rw [ne_up_n (by omega)]; exact Nat.le_refl _) (f := 1) (by decide)
            have h3 := RR_wish (x := z) h2 h6 (by rw [ne_up_n (by omega), ne_up_n (by omega)]; exact Nat.le_refl _) (f := 2) (by decide)
            have h4 := RR_wish (x := p) h3 h6 (by rw [ne_up_n (by omega), ne_up_n (by omega), ne_up_n (by omega)]; exact Nat.le_refl _) (f := 3) (by decide)
            have h5 := RR_borr (n := a 80 + 1) h4 (by omega) (fun k hk => by
              by_cases q : k = a 80
              · subst q
                refine ⟨⟨?_, ?_, ?_, ?_, ?_⟩, fun f hf => ?_⟩
                · rw [ne_up_n (by omega), ne_up_n (by omega), ne_up_n (by omega), u0, ne_up_s]; omega
                · rw [ne_up_n (by omega), ne_up_n (by omega), ne_up_s]; omega
                · rw [ne_up_n (by omega), ne_up_s]; exact hz
                · rw [ne_up_s]; exact hp
                · rw [ne_up_n (by omega), ne_up_n (by omega), ne_up_s, ne_up_n (by omega), ne_up_s]; exact hy
                · have hf' : f = 0 ∨ f = 1 ∨ f = 2 ∨ f = 3 := by omega
                  rcases hf' with rfl | rfl | rfl | rfl
                  · rw [ne_sI1s, pk_un (by decide), ne_sI1s, pk_un (by decide), ne_sI1s, pk_un (by decide), ne_sI1s, pk_us, ne_up_n (by omega), ne_up_n (by omega), ne_up_n (by omega), ne_up_s]
                  · rw [ne_sI1s, pk_un (by decide), ne_sI1s, pk_un (by decide), ne_sI1s, pk_us, ne_up_n (by omega), ne_up_n (by omega), ne_up_s]
                  · rw [ne_sI1s, pk_un (by decide), ne_sI1s, pk_us, ne_up_n (by omega), ne_up_s]
                  · rw [ne_sI1s, pk_us, ne_up_s]
              · refine ⟨?_, fun f hf => ?_⟩
                · have g := o10 k (by omega)
                  rw [ne_up_n (by omega), ne_up_n (by omega), ne_up_n (by omega), ne_up_n (by omega), ne_up_n (by omega), ne_up_n (by omega), ne_up_n (by omega), ne_up_n (by omega), ne_up_n (by omega), ne_up_n (by omega), ne_up_n (by omega), ne_up_n (by omega), ne_up_n (by omega), ne_up_n (by omega), ne_up_n (by omega), ne_up_n (by omega)]
                  exact g
                · rw [ne_sI1n (by omega), ne_sI1n (by omega), ne_sI1n (by omega), ne_sI1n (by omega), ne_up_n (by omega), ne_up_n (by omega), ne_up_n (by omega), ne_up_n (by omega)]
                  have := wi k f (by omega) hf
                  rw [show 1 + 27 + k = 28 + k by omega] at this
                  exact this)
            unfold px_House_addBorrower
            have ez : (1 + 27 + a 80) = 28 + a 80 := by omega
            simp (disch := omega) only [sm_lt, sm_b1s, sm_b2s, ↓reduceIte, sm_in_nI, nI_clamp, nI_add, pk_mul, pk_sub, ne_addneg, nI_l, ne_ltT, ne_ltF, ne_leT, ne_leF, ne_eqT, ne_eqF, ne_sI1s, ne_sI1n, ne_sI2, ne_sI3, ne_sL1, ne_sL2s, ne_sL2n, ne_sL3, pk_us, pk_un, pk_uLs, pk_uLn, mm_Z, mm_L, mm_1, mm_2, mm_3, ne_rz0, ne_rz1, not_true_eq_false, not_false_eq_true, ne_i0, ne_i1, ne_i2, ne_i3, ne_i4, ne_i5, ne_i6, ne_i7, ne_i8, ne_i9, ne_i10, ne_i12, ne_i14, ne_i16, ne_i18, ne_i19, ne_i20, ne_i23, ne_i24, ne_i27, ne_i29, ne_i30, ne_i31, ne_i32, ne_i35, ne_i48, ne_i52, ne_i54, ne_i57, ne_i59, ne_i63, ne_i64, ne_i76, ne_i77, ne_i78, ne_i79, ne_i80, ne_i81, ne_i97, ne_i99, ne_i100, ne_i101, ne_i104, ne_i105, ne_i108, ne_i110, ne_i111, ne_i116, ne_i117, ne_i122, ne_i103, ne_i200, ne_i255, ne_i256, ne_i320, ne_i384, ne_i1000, ne_l0, ne_l1, ne_l2, ne_l3, ne_l4, ne_l5, ne_l8, ne_l12, ne_l31, ne_l48, ne_l57, ne_l97, ne_l99, ne_l122, ne_l255, ne_l673, ne_l1073741823, ne_l1073741824, n1, n2, ne_inT, xq_wT, c80, hw, ez, Nat.add_sub_cancel]
            exact ⟨_, _, _, rfl, rfl, RR_R h5⟩
          · simp (disch := omega) only [sm_lt, sm_b1s, sm_b2s, ↓reduceIte, sm_in_nI, nI_clamp, nI_add, pk_mul, pk_sub, ne_addneg, nI_l, ne_ltT, ne_ltF, ne_leT, ne_leF, ne_eqT, ne_eqF, ne_sI1s, ne_sI1n, ne_sI2, ne_sI3, ne_sL1, ne_sL2s, ne_sL2n, ne_sL3, pk_us, pk_un, pk_uLs, pk_uLn, mm_Z, mm_L, mm_1, mm_2, mm_3, ne_rz0, ne_rz1, not_true_eq_false, not_false_eq_true, ne_i0, ne_i1, ne_i2, ne_i3, ne_i4, ne_i5, ne_i6, ne_i7, ne_i8, ne_i9, ne_i10, ne_i12, ne_i14, ne_i16, ne_i18, ne_i19, ne_i20, ne_i23, ne_i24, ne_i27, ne_i29, ne_i30, ne_i31, ne_i32, ne_i35, ne_i48, ne_i52, ne_i54, ne_i57, ne_i59, ne_i63, ne_i64, ne_i76, ne_i77, ne_i78, ne_i79, ne_i80, ne_i81, ne_i97, ne_i99, ne_i100, ne_i101, ne_i104, ne_i105, ne_i108, ne_i110, ne_i111, ne_i116, ne_i117, ne_i122, ne_i103, ne_i200, ne_i255, ne_i256, ne_i320, ne_i384, ne_i1000, ne_l0, ne_l1, ne_l2, ne_l3, ne_l4, ne_l5, ne_l8, ne_l12, ne_l31, ne_l48, ne_l57, ne_l97, ne_l99, ne_l122, ne_l255, ne_l673, ne_l1073741823, ne_l1073741824, n1, n2, ne_inT, xq_wT, c80, hw, xq_full, np_full]
            exact ⟨_, _, _, rfl, rfl, R_full hR⟩
        · refine fin ?_ ?_
          · simp (disch := omega) only [sm_lt, sm_b1s, sm_b2s, ↓reduceIte, sm_in_nI, nI_clamp, nI_add, pk_mul, pk_sub, ne_addneg, nI_l, ne_ltT, ne_ltF, ne_leT, ne_leF, ne_eqT, ne_eqF, ne_sI1s, ne_sI1n, ne_sI2, ne_sI3, ne_sL1, ne_sL2s, ne_sL2n, ne_sL3, pk_us, pk_un, pk_uLs, pk_uLn, mm_Z, mm_L, mm_1, mm_2, mm_3, ne_rz0, ne_rz1, not_true_eq_false, not_false_eq_true, ne_i0, ne_i1, ne_i2, ne_i3, ne_i4, ne_i5, ne_i6, ne_i7, ne_i8, ne_i9, ne_i10, ne_i12, ne_i14, ne_i16, ne_i18, ne_i19, ne_i20, ne_i23, ne_i24, ne_i27, ne_i29, ne_i30, ne_i31, ne_i32, ne_i35, ne_i48, ne_i52, ne_i54, ne_i57, ne_i59, ne_i63, ne_i64, ne_i76, ne_i77, ne_i78, ne_i79, ne_i80, ne_i81, ne_i97, ne_i99, ne_i100, ne_i101, ne_i104, ne_i105, ne_i108, ne_i110, ne_i111, ne_i116, ne_i117, ne_i122, ne_i103, ne_i200, ne_i255, ne_i256, ne_i320, ne_i384, ne_i1000, ne_l0, ne_l1, ne_l2, ne_l3, ne_l4, ne_l5, ne_l8, ne_l12, ne_l31, ne_l48, ne_l57, ne_l97, ne_l99, ne_l122, ne_l255, ne_l673, ne_l1073741823, ne_l1073741824, n1, e1, xq_bad]
          · have e3 : pm_in N S (nI z).toInt64 (0 : Int64) (12 : Int64) = some (nI 1, S) := by rw [nI_l (show z < 2 ^ 31 by omega)]; exact ne_inT (x := z) (a := 0) (b := 12) (by omega) hz (by omega)
            have e4 : pm_in N S (nI y).toInt64 (0 : Int64) (nI z).toInt64 = some (nI 1, S) := by rw [nI_l (show z < 2 ^ 31 by omega), nI_l (show y < 2 ^ 31 by omega)]; exact ne_inT (x := y) (a := 0) (b := z) (by omega) hy (by omega)
            have e5 : pm_in N S v4.toInt64 (0 : Int64) (12 : Int64) = some (nI 0, S) := e2
            rw [n2, sm_b2s, if_neg (by decide), e3, sm_b2s, if_neg (by decide), e4, sm_b2s, if_neg (by decide), e5, sm_b2s, if_pos (show nI 0 = 0 from rfl)]
            simp (disch := omega) only [sm_lt, sm_b1s, sm_b2s, ↓reduceIte, sm_in_nI, nI_clamp, nI_add, pk_mul, pk_sub, ne_addneg, nI_l, ne_ltT, ne_ltF, ne_leT, ne_leF, ne_eqT, ne_eqF, ne_sI1s, ne_sI1n, ne_sI2, ne_sI3, ne_sL1, ne_sL2s, ne_sL2n, ne_sL3, pk_us, pk_un, pk_uLs, pk_uLn, mm_Z, mm_L, mm_1, mm_2, mm_3, ne_rz0, ne_rz1, not_true_eq_false, not_false_eq_true, ne_i0, ne_i1, ne_i2, ne_i3, ne_i4, ne_i5, ne_i6, ne_i7, ne_i8, ne_i9, ne_i10, ne_i12, ne_i14, ne_i16, ne_i18, ne_i19, ne_i20, ne_i23, ne_i24, ne_i27, ne_i29, ne_i30, ne_i31, ne_i32, ne_i35, ne_i48, ne_i52, ne_i54, ne_i57, ne_i59, ne_i63, ne_i64, ne_i76, ne_i77, ne_i78, ne_i79, ne_i80, ne_i81, ne_i97, ne_i99, ne_i100, ne_i101, ne_i104, ne_i105, ne_i108, ne_i110, ne_i111, ne_i116, ne_i117, ne_i122, ne_i103, ne_i200, ne_i255, ne_i256, ne_i320, ne_i384, ne_i1000, ne_l0, ne_l1, ne_l2, ne_l3, ne_l4, ne_l5, ne_l8, ne_l12, ne_l31, ne_l48, ne_l57, ne_l97, ne_l99, ne_l122, ne_l255, ne_l673, ne_l1073741823, ne_l1073741824, np_bad]
      · refine fin ?_ ?_
        · by_cases l0 : v2.toInt < 0
          · have l0' := ne_ltz.trans (eq_true l0)
            simp (disch := omega) only [sm_lt, sm_b1s, sm_b2s, ↓reduceIte, sm_in_nI, nI_clamp, nI_add, pk_mul, pk_sub, ne_addneg, nI_l, ne_ltT, ne_ltF, ne_leT, ne_leF, ne_eqT, ne_eqF, ne_sI1s, ne_sI1n, ne_sI2, ne_sI3, ne_sL1, ne_sL2s, ne_sL2n, ne_sL3, pk_us, pk_un, pk_uLs, pk_uLn, mm_Z, mm_L, mm_1, mm_2, mm_3, ne_rz0, ne_rz1, not_true_eq_false, not_false_eq_true, ne_i0, ne_i1, ne_i2, ne_i3, ne_i4, ne_i5, ne_i6, ne_i7, ne_i8, ne_i9, ne_i10, ne_i12, ne_i14, ne_i16, ne_i18, ne_i19, ne_i20, ne_i23, ne_i24, ne_i27, ne_i29, ne_i30, ne_i31, ne_i32, ne_i35, ne_i48, ne_i52, ne_i54, ne_i57, ne_i59, ne_i63, ne_i64, ne_i76, ne_i77, ne_i78, ne_i79, ne_i80, ne_i81, ne_i97, ne_i99, ne_i100, ne_i101, ne_i104, ne_i105, ne_i108, ne_i110, ne_i111, ne_i116, ne_i117, ne_i122, ne_i103, ne_i200, ne_i255, ne_i256, ne_i320, ne_i384, ne_i1000, ne_l0, ne_l1, ne_l2, ne_l3, ne_l4, ne_l5, ne_l8, ne_l12, ne_l31, ne_l48, ne_l57, ne_l97, ne_l99, ne_l122, ne_l255, ne_l673, ne_l1073741823, ne_l1073741824, n1, l0', xq_bad]
          · have l0' := ne_ltz.trans (eq_false l0)
            have l1' := (ne_ltv (v1 := v2) (j := z) (by omega)).trans (eq_true (by omega))
            simp (disch := omega) only [sm_lt, sm_b1s, sm_b2s, ↓reduceIte, sm_in_nI, nI_clamp, nI_add, pk_mul, pk_sub, ne_addneg, nI_l, ne_ltT, ne_ltF, ne_leT, ne_leF, ne_eqT, ne_eqF, ne_sI1s, ne_sI1n, ne_sI2, ne_sI3, ne_sL1, ne_sL2s, ne_sL2n, ne_sL3, pk_us, pk_un, pk_uLs, pk_uLn, mm_Z, mm_L, mm_1, mm_2, mm_3, ne_rz0, ne_rz1, not_true_eq_false, not_false_eq_true, ne_i0, ne_i1, ne_i2, ne_i3, ne_i4, ne_i5, ne_i6, ne_i7, ne_i8, ne_i9, ne_i10, ne_i12, ne_i14, ne_i16, ne_i18, ne_i19, ne_i20, ne_i23, ne_i24, ne_i27, ne_i29, ne_i30, ne_i31, ne_i32, ne_i35, ne_i48, ne_i52, ne_i54, ne_i57, ne_i59, ne_i63, ne_i64, ne_i76, ne_i77, ne_i78, ne_i79, ne_i80, ne_i81, ne_i97, ne_i99, ne_i100, ne_i101, ne_i104, ne_i105, ne_i108, ne_i110, ne_i111, ne_i116, ne_i117, ne_i122, ne_i103, ne_i200, ne_i255, ne_i256, ne_i320, ne_i384, ne_i1000, ne_l0, ne_l1, ne_l2, ne_l3, ne_l4, ne_l5, ne_l8, ne_l12, ne_l31, ne_l48, ne_l57, ne_l97, ne_l99, ne_l122, ne_l255, ne_l673, ne_l1073741823, ne_l1073741824, n1, l0', l1', xq_bad]
        · have e3 : pm_in N S (nI z).toInt64 (0 : Int64) (12 : Int64) = some (nI 1, S) := by rw [nI_l (show z < 2 ^ 31 by omega)]; exact ne_inT (x := z) (a := 0) (b := 12) (by omega) hz (by omega)
          have e : pm_in N S v2.toInt64 (0 : Int64) (nI z).toInt64 = some (nI 0, S) := by rw [nI_l (show z < 2 ^ 31 by omega)]; exact ne_inB (b := z) hb2 (by omega)
          rw [n2, sm_b2s, if_neg (by decide), e3, sm_b2s, if_neg (by decide), e, sm_b2s, if_pos (show nI 0 = 0 from rfl)]
          simp (disch := omega) only [sm_lt, sm_b1s, sm_b2s, ↓reduceIte, sm_in_nI, nI_clamp, nI_add, pk_mul, pk_sub, ne_addneg, nI_l, ne_ltT, ne_ltF, ne_leT, ne_leF, ne_eqT, ne_eqF, ne_sI1s, ne_sI1n, ne_sI2, ne_sI3, ne_sL1, ne_sL2s, ne_sL2n, ne_sL3, pk_us, pk_un, pk_uLs, pk_uLn, mm_Z, mm_L, mm_1, mm_2, mm_3, ne_rz0, ne_rz1, not_true_eq_false, not_false_eq_true, ne_i0, ne_i1, ne_i2, ne_i3, ne_i4, ne_i5, ne_i6, ne_i7, ne_i8, ne_i9, ne_i10, ne_i12, ne_i14, ne_i16, ne_i18, ne_i19, ne_i20, ne_i23, ne_i24, ne_i27, ne_i29, ne_i30, ne_i31, ne_i32, ne_i35, ne_i48, ne_i52, ne_i54, ne_i57, ne_i59, ne_i63, ne_i64, ne_i76, ne_i77, ne_i78, ne_i79, ne_i80, ne_i81, ne_i97, ne_i99, ne_i100, ne_i101, ne_i104, ne_i105, ne_i108, ne_i110, ne_i111, ne_i116, ne_i117, ne_i122, ne_i103, ne_i200, ne_i255, ne_i256, ne_i320, ne_i384, ne_i1000, ne_l0, ne_l1, ne_l2, ne_l3, ne_l4, ne_l5, ne_l8, ne_l12, ne_l31, ne_l48, ne_l57, ne_l97, ne_l99, ne_l122, ne_l255, ne_l673, ne_l1073741823, ne_l1073741824, np_bad]
    · refine fin ?_ ?_
      · by_cases l0 : v2.toInt < 0
        · have l0' := ne_ltz.trans (eq_true l0)
          simp (disch := omega) only [sm_lt, sm_b1s, sm_b2s, ↓reduceIte, sm_in_nI, nI_clamp, nI_add, pk_mul, pk_sub, ne_addneg, nI_l, ne_ltT, ne_ltF, ne_leT, ne_leF, ne_eqT, ne_eqF, ne_sI1s, ne_sI1n, ne_sI2, ne_sI3, ne_sL1, ne_sL2s, ne_sL2n, ne_sL3, pk_us, pk_un, pk_uLs, pk_uLn, mm_Z, mm_L, mm_1, mm_2, mm_3, ne_rz0, ne_rz1, not_true_eq_false, not_false_eq_true, ne_i0, ne_i1, ne_i2, ne_i3, ne_i4, ne_i5, ne_i6, ne_i7, ne_i8, ne_i9, ne_i10, ne_i12, ne_i14, ne_i16, ne_i18, ne_i19, ne_i20, ne_i23, ne_i24, ne_i27, ne_i29, ne_i30, ne_i31, ne_i32, ne_i35, ne_i48, ne_i52, ne_i54, ne_i57, ne_i59, ne_i63, ne_i64, ne_i76, ne_i77, ne_i78, ne_i79, ne_i80, ne_i81, ne_i97, ne_i99, ne_i100, ne_i101, ne_i104, ne_i105, ne_i108, ne_i110, ne_i111, ne_i116, ne_i117, ne_i122, ne_i103, ne_i200, ne_i255, ne_i256, ne_i320, ne_i384, ne_i1000, ne_l0, ne_l1, ne_l2, ne_l3, ne_l4, ne_l5, ne_l8, ne_l12, ne_l31, ne_l48, ne_l57, ne_l97, ne_l99, ne_l122, ne_l255, ne_l673, ne_l1073741823, ne_l1073741824, n1, l0', xq_bad]
        · have l0' := ne_ltz.trans (eq_false l0)
          by_cases l1 : v3.toInt < v2.toInt
          · have l1' := (ne_vv (v1 := v3) (v2 := v2)).trans (eq_true l1)
            simp (disch := omega) only [sm_lt, sm_b1s, sm_b2s, ↓reduceIte, sm_in_nI, nI_clamp, nI_add, pk_mul, pk_sub, ne_addneg, nI_l, ne_ltT, ne_ltF, ne_leT, ne_leF, ne_eqT, ne_eqF, ne_sI1s, ne_sI1n, ne_sI2, ne_sI3, ne_sL1, ne_sL2s, ne_sL2n, ne_sL3, pk_us, pk_un, pk_uLs, pk_uLn, mm_Z, mm_L, mm_1, mm_2, mm_3, ne_rz0, ne_rz1, not_true_eq_false, not_false_eq_true, ne_i0, ne_i1, ne_i2, ne_i3, ne_i4, ne_i5, ne_i6, ne_i7, ne_i8, ne_i9, ne_i10, ne_i12, ne_i14, ne_i16, ne_i18, ne_i19, ne_i20, ne_i23, ne_i24, ne_i27, ne_i29, ne_i30, ne_i31, ne_i32, ne_i35, ne_i48, ne_i52, ne_i54, ne_i57, ne_i59, ne_i63, ne_i64, ne_i76, ne_i77, ne_i78, ne_i79, ne_i80, ne_i81, ne_i97, ne_i99, ne_i100, ne_i101, ne_i104, ne_i105, ne_i108, ne_i110, ne_i111, ne_i116, ne_i117, ne_i122, ne_i103, ne_i200, ne_i255, ne_i256, ne_i320, ne_i384, ne_i1000, ne_l0, ne_l1, ne_l2, ne_l3, ne_l4, ne_l5, ne_l8, ne_l12, ne_l31, ne_l48, ne_l57, ne_l97, ne_l99, ne_l122, ne_l255, ne_l673, ne_l1073741823, ne_l1073741824, n1, l0', l1', xq_bad]
          · have l1' := (ne_vv (v1 := v3) (v2 := v2)).trans (eq_false l1)
            have l2' := (ne_ltv (v1 := v3) (j := 12) (by omega)).trans (eq_true (by omega))
            simp (disch := omega) only [sm_lt, sm_b1s, sm_b2s, ↓reduceIte, sm_in_nI, nI_clamp, nI_add, pk_mul, pk_sub, ne_addneg, nI_l, ne_ltT, ne_ltF, ne_leT, ne_leF, ne_eqT, ne_eqF, ne_sI1s, ne_sI1n, ne_sI2, ne_sI3, ne_sL1, ne_sL2s, ne_sL2n, ne_sL3, pk_us, pk_un, pk_uLs, pk_uLn, mm_Z, mm_L, mm_1, mm_2, mm_3, ne_rz0, ne_rz1, not_true_eq_false, not_false_eq_true, ne_i0, ne_i1, ne_i2, ne_i3, ne_i4, ne_i5, ne_i6, ne_i7, ne_i8, ne_i9, ne_i10, ne_i12, ne_i14, ne_i16, ne_i18, ne_i19, ne_i20, ne_i23, ne_i24, ne_i27, ne_i29, ne_i30, ne_i31, ne_i32, ne_i35, ne_i48, ne_i52, ne_i54, ne_i57, ne_i59, ne_i63, ne_i64, ne_i76, ne_i77, ne_i78, ne_i79, ne_i80, ne_i81, ne_i97, ne_i99, ne_i100, ne_i101, ne_i104, ne_i105, ne_i108, ne_i110, ne_i111, ne_i116, ne_i117, ne_i122, ne_i103, ne_i200, ne_i255, ne_i256, ne_i320, ne_i384, ne_i1000, ne_l0, ne_l1, ne_l2, ne_l3, ne_l4, ne_l5, ne_l8, ne_l12, ne_l31, ne_l48, ne_l57, ne_l97, ne_l99, ne_l122, ne_l255, ne_l673, ne_l1073741823, ne_l1073741824, n1, l0', l1', l2', xq_bad]
      · have e : pm_in N S v3.toInt64 (0 : Int64) (12 : Int64) = some (nI 0, S) := ne_inB (b := 12) hb3 (by omega)
        rw [n2, sm_b2s, if_neg (by decide), e, sm_b2s, if_pos (show nI 0 = 0 from rfl)]
        simp (disch := omega) only [sm_lt, sm_b1s, sm_b2s, ↓reduceIte, sm_in_nI, nI_clamp, nI_add, pk_mul, pk_sub, ne_addneg, nI_l, ne_ltT, ne_ltF, ne_leT, ne_leF, ne_eqT, ne_eqF, ne_sI1s, ne_sI1n, ne_sI2, ne_sI3, ne_sL1, ne_sL2s, ne_sL2n, ne_sL3, pk_us, pk_un, pk_uLs, pk_uLn, mm_Z, mm_L, mm_1, mm_2, mm_3, ne_rz0, ne_rz1, not_true_eq_false, not_false_eq_true, ne_i0, ne_i1, ne_i2, ne_i3, ne_i4, ne_i5, ne_i6, ne_i7, ne_i8, ne_i9, ne_i10, ne_i12, ne_i14, ne_i16, ne_i18, ne_i19, ne_i20, ne_i23, ne_i24, ne_i27, ne_i29, ne_i30, ne_i31, ne_i32, ne_i35, ne_i48, ne_i52, ne_i54, ne_i57, ne_i59, ne_i63, ne_i64, ne_i76, ne_i77, ne_i78, ne_i79, ne_i80, ne_i81, ne_i97, ne_i99, ne_i100, ne_i101, ne_i104, ne_i105, ne_i108, ne_i110, ne_i111, ne_i116, ne_i117, ne_i122, ne_i103, ne_i200, ne_i255, ne_i256, ne_i320, ne_i384, ne_i1000, ne_l0, ne_l1, ne_l2, ne_l3, ne_l4, ne_l5, ne_l8, ne_l12, ne_l31, ne_l48, ne_l57, ne_l97, ne_l99, ne_l122, ne_l255, ne_l673, ne_l1073741823, ne_l1073741824, np_bad]
  · refine fin ?_ ?_
    · rw [e1, sm_b2s, if_pos (show nI 0 = 0 from rfl)]
      simp (disch := omega) only [sm_lt, sm_b1s, sm_b2s, ↓reduceIte, sm_in_nI, nI_clamp, nI_add, pk_mul, pk_sub, ne_addneg, nI_l, ne_ltT, ne_ltF, ne_leT, ne_leF, ne_eqT, ne_eqF, ne_sI1s, ne_sI1n, ne_sI2, ne_sI3, ne_sL1, ne_sL2s, ne_sL2n, ne_sL3, pk_us, pk_un, pk_uLs, pk_uLn, mm_Z, mm_L, mm_1, mm_2, mm_3, ne_rz0, ne_rz1, not_true_eq_false, not_false_eq_true, ne_i0, ne_i1, ne_i2, ne_i3, ne_i4, ne_i5, ne_i6, ne_i7, ne_i8, ne_i9, ne_i10, ne_i12, ne_i14, ne_i16, ne_i18, ne_i19, ne_i20, ne_i23, ne_i24, ne_i27, ne_i29, ne_i30, ne_i31, ne_i32, ne_i35, ne_i48, ne_i52, ne_i54, ne_i57, ne_i59, ne_i63, ne_i64, ne_i76, ne_i77, ne_i78, ne_i79, ne_i80, ne_i81, ne_i97, ne_i99, ne_i100, ne_i101, ne_i104, ne_i105, ne_i108, ne_i110, ne_i111, ne_i116, ne_i117, ne_i122, ne_i103, ne_i200, ne_i255, ne_i256, ne_i320, ne_i384, ne_i1000, ne_l0, ne_l1, ne_l2, ne_l3, ne_l4, ne_l5, ne_l8, ne_l12, ne_l31, ne_l48, ne_l57, ne_l97, ne_l99, ne_l122, ne_l255, ne_l673, ne_l1073741823, ne_l1073741824, xq_bad]
    · rw [e2, sm_b2s, if_pos (show nI 0 = 0 from rfl)]
      simp (disch := omega) only [sm_lt, sm_b1s, sm_b2s, ↓reduceIte, sm_in_nI, nI_clamp, nI_add, pk_mul, pk_sub, ne_addneg, nI_l, ne_ltT, ne_ltF, ne_leT, ne_leF, ne_eqT, ne_eqF, ne_sI1s, ne_sI1n, ne_sI2, ne_sI3, ne_sL1, ne_sL2s, ne_sL2n, ne_sL3, pk_us, pk_un, pk_uLs, pk_uLn, mm_Z, mm_L, mm_1, mm_2, mm_3, ne_rz0, ne_rz1, not_true_eq_false, not_false_eq_true, ne_i0, ne_i1, ne_i2, ne_i3, ne_i4, ne_i5, ne_i6, ne_i7, ne_i8, ne_i9, ne_i10, ne_i12, ne_i14, ne_i16, ne_i18, ne_i19, ne_i20, ne_i23, ne_i24, ne_i27, ne_i29, ne_i30, ne_i31, ne_i32, ne_i35, ne_i48, ne_i52, ne_i54, ne_i57, ne_i59, ne_i63, ne_i64, ne_i76, ne_i77, ne_i78, ne_i79, ne_i80, ne_i81, ne_i97, ne_i99, ne_i100, ne_i101, ne_i104, ne_i105, ne_i108, ne_i110, ne_i111, ne_i116, ne_i117, ne_i122, ne_i103, ne_i200, ne_i255, ne_i256, ne_i320, ne_i384, ne_i1000, ne_l0, ne_l1, ne_l2, ne_l3, ne_l4, ne_l5, ne_l8, ne_l12, ne_l31, ne_l48, ne_l57, ne_l97, ne_l99, ne_l122, ne_l255, ne_l673, ne_l1073741823, ne_l1073741824, np_bad]
end
