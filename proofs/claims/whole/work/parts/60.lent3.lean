section
variable {N : Nat} {X S : sm_St} {a b v ik tx : Nat → Nat} {len : Nat}
theorem sp_ck_up {a : Nat → Nat} {s k j : Nat} (h : sp_ck a s k j = true) : ∀ d, sp_ck a s k (j + d) = true
  | 0 => h
  | d + 1 => by rw [← Nat.add_assoc, sp_ck, sp_ck_up h d, Bool.true_or]
theorem sp_cl_up {a : Nat → Nat} {s k : Nat} (h : sp_cl a s k = true) : ∀ d, sp_cl a s (k + d) = true
  | 0 => h
  | d + 1 => by rw [← Nat.add_assoc, sp_cl, sp_cl_up h d, Bool.true_or]
theorem np_meet {k j : Nat} (hw : nw a S) (hk : k < 6) (hj : j < 6) (b0 : a (52 + 4 * k) ≤ 3) (b1 : a (52 + 4 * k + 1) ≤ 12) (b2 : a (52 + 4 * k + 2) ≤ 12) (d0 : a (52 + 4 * j) ≤ 3) (d1 : a (52 + 4 * j + 1) ≤ 12) (d2 : a (52 + 4 * j + 2) ≤ 12) : pm_meet N S (nI k) (nI j) = some (nI (if (decide (a (52 + 4 * k) = a (52 + 4 * j)) && (decide (a (52 + 4 * k + 1) ≤ a (52 + 4 * j + 2)) && decide (a (52 + 4 * j + 1) ≤ a (52 + 4 * k + 2)))) = true then 1 else 0), S) := by
  have u0 := np_borrows (N := N) (f := 0) hw hk (by decide)
  have u1 := np_borrows (N := N) (f := 1) hw hk (by decide)
  have u2 := np_borrows (N := N) (f := 2) hw hk (by decide)
  have y0 := np_borrows (N := N) (f := 0) hw hj (by decide)
  have y1 := np_borrows (N := N) (f := 1) hw hj (by decide)
  have y2 := np_borrows (N := N) (f := 2) hw hj (by decide)
  rw [Nat.add_zero] at u0 y0
  unfold pm_meet
  by_cases c0 : a (52 + 4 * k) = a (52 + 4 * j)
  · by_cases c1 : a (52 + 4 * k + 1) ≤ a (52 + 4 * j + 2)
    · by_cases c2 : a (52 + 4 * j + 1) ≤ a (52 + 4 * k + 2)
      · have e : (if (decide (a (52 + 4 * k) = a (52 + 4 * j)) && (decide (a (52 + 4 * k + 1) ≤ a (52 + 4 * j + 2)) && decide (a (52 + 4 * j + 1) ≤ a (52 + 4 * k + 2)))) = true then 1 else 0) = 1 := if_pos (by simp [c0, c1, c2])
        rw [e]
        simp (disch := omega) only [sm_lt, sm_b1s, sm_b2s, ↓reduceIte, sm_in_nI, nI_clamp, nI_add, pk_mul, pk_sub, ne_addneg, nI_l, ne_ltT, ne_ltF, ne_leT, ne_leF, ne_eqT, ne_eqF, ne_sI1s, ne_sI1n, ne_sI2, ne_sI3, ne_sL1, ne_sL2s, ne_sL2n, ne_sL3, pk_us, pk_un, pk_uLs, pk_uLn, mm_Z, mm_L, mm_1, mm_2, mm_3, ne_rz0, ne_rz1, not_true_eq_false, not_false_eq_true, ne_i0, ne_i1, ne_i2, ne_i3, ne_i4, ne_i5, ne_i6, ne_i7, ne_i8, ne_i9, ne_i10, ne_i12, ne_i14, ne_i16, ne_i18, ne_i19, ne_i20, ne_i23, ne_i24, ne_i27, ne_i29, ne_i30, ne_i31, ne_i32, ne_i35, ne_i48, ne_i52, ne_i54, ne_i57, ne_i59, ne_i63, ne_i64, ne_i76, ne_i77, ne_i78, ne_i79, ne_i80, ne_i81, ne_i97, ne_i99, ne_i100, ne_i101, ne_i104, ne_i105, ne_i108, ne_i110, ne_i111, ne_i116, ne_i117, ne_i122, ne_i103, ne_i200, ne_i255, ne_i256, ne_i320, ne_i384, ne_i1000, ne_l0, ne_l1, ne_l2, ne_l3, ne_l4, ne_l5, ne_l8, ne_l12, ne_l31, ne_l48, ne_l57, ne_l97, ne_l99, ne_l122, ne_l255, ne_l673, ne_l1073741823, ne_l1073741824, u0, u1, u2, y0, y1, y2]
      · have e : (if (decide (a (52 + 4 * k) = a (52 + 4 * j)) && (decide (a (52 + 4 * k + 1) ≤ a (52 + 4 * j + 2)) && decide (a (52 + 4 * j + 1) ≤ a (52 + 4 * k + 2)))) = true then 1 else 0) = 0 := if_neg (by simp [c2])
        rw [e]
        simp (disch := omega) only [sm_lt, sm_b1s, sm_b2s, ↓reduceIte, sm_in_nI, nI_clamp, nI_add, pk_mul, pk_sub, ne_addneg, nI_l, ne_ltT, ne_ltF, ne_leT, ne_leF, ne_eqT, ne_eqF, ne_sI1s, ne_sI1n, ne_sI2, ne_sI3, ne_sL1, ne_sL2s, ne_sL2n, ne_sL3, pk_us, pk_un, pk_uLs, pk_uLn, mm_Z, mm_L, mm_1, mm_2, mm_3, ne_rz0, ne_rz1, not_true_eq_false, not_false_eq_true, ne_i0, ne_i1, ne_i2, ne_i3, ne_i4, ne_i5, ne_i6, ne_i7, ne_i8, ne_i9, ne_i10, ne_i12, ne_i14, ne_i16, ne_i18, ne_i19, ne_i20, ne_i23, ne_i24, ne_i27, ne_i29, ne_i30, ne_i31, ne_i32, ne_i35, ne_i48, ne_i52, ne_i54, ne_i57, ne_i59, ne_i63, ne_i64, ne_i76, ne_i77, ne_i78, ne_i79, ne_i80, ne_i81, ne_i97, ne_i99, ne_i100, ne_i101, ne_i104, ne_i105, ne_i108, ne_i110, ne_i111, ne_i116, ne_i117, ne_i122, ne_i103, ne_i200, ne_i255, ne_i256, ne_i320, ne_i384, ne_i1000, ne_l0, ne_l1, ne_l2, ne_l3, ne_l4, ne_l5, ne_l8, ne_l12, ne_l31, ne_l48, ne_l57, ne_l97, ne_l99, ne_l122, ne_l255, ne_l673, ne_l1073741823, ne_l1073741824, u0, u1, u2, y0, y1, y2]
    · have e : (if (decide (a (52 + 4 * k) = a (52 + 4 * j)) && (decide (a (52 + 4 * k + 1) ≤ a (52 + 4 * j + 2)) && decide (a (52 + 4 * j + 1) ≤ a (52 + 4 * k + 2)))) = true then 1 else 0) = 0 := if_neg (by simp [c1])
      rw [e]
      simp (disch := omega) only [sm_lt, sm_b1s, sm_b2s, ↓reduceIte, sm_in_nI, nI_clamp, nI_add, pk_mul, pk_sub, ne_addneg, nI_l, ne_ltT, ne_ltF, ne_leT, ne_leF, ne_eqT, ne_eqF, ne_sI1s, ne_sI1n, ne_sI2, ne_sI3, ne_sL1, ne_sL2s, ne_sL2n, ne_sL3, pk_us, pk_un, pk_uLs, pk_uLn, mm_Z, mm_L, mm_1, mm_2, mm_3, ne_rz0, ne_rz1, not_true_eq_false, not_false_eq_true, ne_i0, ne_i1, ne_i2, ne_i3, ne_i4, ne_i5, ne_i6, ne_i7, ne_i8, ne_i9, ne_i10, ne_i12, ne_i14, ne_i16, ne_i18, ne_i19, ne_i20, ne_i23, ne_i24, ne_i27, ne_i29, ne_i30, ne_i31, ne_i32, ne_i35, ne_i48, ne_i52, ne_i54, ne_i57, ne_i59, ne_i63, ne_i64, ne_i76, ne_i77, ne_i78, ne_i79, ne_i80, ne_i81, ne_i97, ne_i99, ne_i100, ne_i101, ne_i104, ne_i105, ne_i108, ne_i110, ne_i111, ne_i116, ne_i117, ne_i122, ne_i103, ne_i200, ne_i255, ne_i256, ne_i320, ne_i384, ne_i1000, ne_l0, ne_l1, ne_l2, ne_l3, ne_l4, ne_l5, ne_l8, ne_l12, ne_l31, ne_l48, ne_l57, ne_l97, ne_l99, ne_l122, ne_l255, ne_l673, ne_l1073741823, ne_l1073741824, u0, u1, u2, y0, y1, y2]
  · have e : (if (decide (a (52 + 4 * k) = a (52 + 4 * j)) && (decide (a (52 + 4 * k + 1) ≤ a (52 + 4 * j + 2)) && decide (a (52 + 4 * j + 1) ≤ a (52 + 4 * k + 2)))) = true then 1 else 0) = 0 := if_neg (by simp [c0])
    rw [e]
    simp (disch := omega) only [sm_lt, sm_b1s, sm_b2s, ↓reduceIte, sm_in_nI, nI_clamp, nI_add, pk_mul, pk_sub, ne_addneg, nI_l, ne_ltT, ne_ltF, ne_leT, ne_leF, ne_eqT, ne_eqF, ne_sI1s, ne_sI1n, ne_sI2, ne_sI3, ne_sL1, ne_sL2s, ne_sL2n, ne_sL3, pk_us, pk_un, pk_uLs, pk_uLn, mm_Z, mm_L, mm_1, mm_2, mm_3, ne_rz0, ne_rz1, not_true_eq_false, not_false_eq_true, ne_i0, ne_i1, ne_i2, ne_i3, ne_i4, ne_i5, ne_i6, ne_i7, ne_i8, ne_i9, ne_i10, ne_i12, ne_i14, ne_i16, ne_i18, ne_i19, ne_i20, ne_i23, ne_i24, ne_i27, ne_i29, ne_i30, ne_i31, ne_i32, ne_i35, ne_i48, ne_i52, ne_i54, ne_i57, ne_i59, ne_i63, ne_i64, ne_i76, ne_i77, ne_i78, ne_i79, ne_i80, ne_i81, ne_i97, ne_i99, ne_i100, ne_i101, ne_i104, ne_i105, ne_i108, ne_i110, ne_i111, ne_i116, ne_i117, ne_i122, ne_i103, ne_i200, ne_i255, ne_i256, ne_i320, ne_i384, ne_i1000, ne_l0, ne_l1, ne_l2, ne_l3, ne_l4, ne_l5, ne_l8, ne_l12, ne_l31, ne_l48, ne_l57, ne_l97, ne_l99, ne_l122, ne_l255, ne_l673, ne_l1073741823, ne_l1073741824, u0, u1, u2, y0, y1, y2]
def sp_fl (c : Bool) : Nat := if c = true then 0 else 1
/-- is the set free of meetings? the reference's side -/
theorem np_lset {s best : Nat} {v1 v2 : Int32} {r : Int32 → Int32 → Int32 → Int32 → sm_St → Option (Int32 × sm_St)} (hN : 4000 ≤ N) (hw : nw a S) (h6 : a 80 ≤ 6) (hb : ∀ k, k < a 80 → a (52 + 4 * k) ≤ 3 ∧ a (52 + 4 * k + 1) ≤ 12 ∧ a (52 + 4 * k + 2) ≤ 12) (hs : s < 64) (hs6 : ∀ x, x < 6 → s.testBit x = true → x < a 80) : pm_lent_b65 N r N v1 v2 (nI best) (nI s) (nI 1) (nI 0) S = r v1 v2 (nI (if sp_cl a s 6 = true then best else s)) (nI (s + 1)) S := by
  refine ne_loop (fun f k (_ : Unit) => pm_lent_b65 N r f v1 v2 (nI best) (nI s) (nI (sp_fl (sp_cl a s k))) (nI k) S) (fun _ _ => True) 6 (fun o => o = r v1 v2 (nI (if sp_cl a s 6 = true then best else s)) (nI (s + 1)) S) ?_ ?_ N 0 () (by omega) (by omega) trivial
  · intro f k _ hk _
    show (∃ s', _ ∧ pm_lent_b65 N r (f + 1) _ _ _ _ _ _ _ = _) ∨ pm_lent_b65 N r (f + 1) _ _ _ _ _ _ _ = _
    rw [pm_lent_b65]
    cases hc : sp_cl a s k with
    | true =>
      right
      have e6 : sp_cl a s 6 = true := by
        have := sp_cl_up hc (6 - k)
        rwa [show k + (6 - k) = 6 by omega] at this
      rw [if_pos e6]
      unfold pm_lent_b156 pm_lent_b167 sp_fl
      simp (disch := omega) only [sm_lt, sm_b1s, sm_b2s, ↓reduceIte, sm_in_nI, nI_clamp, nI_add, pk_mul, pk_sub, ne_addneg, nI_l, ne_ltT, ne_ltF, ne_leT, ne_leF, ne_eqT, ne_eqF, ne_sI1s, ne_sI1n, ne_sI2, ne_sI3, ne_sL1, ne_sL2s, ne_sL2n, ne_sL3, pk_us, pk_un, pk_uLs, pk_uLn, mm_Z, mm_L, mm_1, mm_2, mm_3, ne_rz0, ne_rz1, not_true_eq_false, not_false_eq_true, ne_i0, ne_i1, ne_i2, ne_i3, ne_i4, ne_i5, ne_i6, ne_i7, ne_i8, ne_i9, ne_i10, ne_i12, ne_i14, ne_i16, ne_i18, ne_i19, ne_i20, ne_i23, ne_i24, ne_i27, ne_i29, ne_i30, ne_i31, ne_i32, ne_i35, ne_i48, ne_i52, ne_i54, ne_i57, ne_i59, ne_i63, ne_i64, ne_i76, ne_i77, ne_i78, ne_i79, ne_i80, ne_i81, ne_i97, ne_i99, ne_i100, ne_i101, ne_i104, ne_i105, ne_i108, ne_i110, ne_i111, ne_i116, ne_i117, ne_i122, ne_i103, ne_i200, ne_i255, ne_i256, ne_i320, ne_i384, ne_i1000, ne_l0, ne_l1, ne_l2, ne_l3, ne_l4, ne_l5, ne_l8, ne_l12, ne_l31, ne_l48, ne_l57, ne_l97, ne_l99, ne_l122, ne_l255, ne_l673, ne_l1073741823, ne_l1073741824]
    | false =>
      left
      refine ⟨(), trivial, ?_⟩
      have inner : pm_lent_b80 N r (pm_lent_b65 N r f) N v1 v2 (nI best) (nI s) (nI 1) (nI k) (nI 0) S = pm_lent_b65 N r f v1 v2 (nI best) (nI s) (nI (sp_fl (sp_ck a s k k))) (nI (k + 1)) S := by
        refine ne_loop (fun f' j (_ : Unit) => pm_lent_b80 N r (pm_lent_b65 N r f) f' v1 v2 (nI best) (nI s) (nI (sp_fl (sp_ck a s k j))) (nI k) (nI j) S) (fun _ _ => True) k (fun o => o = pm_lent_b65 N r f v1 v2 (nI best) (nI s) (nI (sp_fl (sp_ck a s k k))) (nI (k + 1)) S) ?_ ?_ N 0 () (by omega) (by omega) trivial
        · intro f' j _ hj _
          left
          refine ⟨(), trivial, ?_⟩
          have ek := ne_bit (s := s) (x := k) (by omega) (by omega)
          have ej := ne_bit (s := s) (x := j) (by omega) (by omega)
          show pm_lent_b80 N r _ (f' + 1) _ _ _ _ _ _ _ _ = pm_lent_b80 N r _ f' _ _ _ _ _ _ _ _
          rw [pm_lent_b80, sp_ck]
          unfold sp_c2 pm_lent_b113 pm_lent_b114 pm_lent_b141 pm_lent_b137 pm_lent_b142
          cases hck : sp_ck a s k j with
          | true =>
            cases hk1 : s.testBit k <;> cases hj1 : s.testBit j <;> rw [hk1] at ek <;> rw [hj1] at ej <;> unfold sp_fl <;> simp (disch := omega) only [sm_lt, sm_b1s, sm_b2s, ↓reduceIte, sm_in_nI, nI_clamp, nI_add, pk_mul, pk_sub, ne_addneg, nI_l, ne_ltT, ne_ltF, ne_leT, ne_leF, ne_eqT, ne_eqF, ne_sI1s, ne_sI1n, ne_sI2, ne_sI3, ne_sL1, ne_sL2s, ne_sL2n, ne_sL3, pk_us, pk_un, pk_uLs, pk_uLn, mm_Z, mm_L, mm_1, mm_2, mm_3, ne_rz0, ne_rz1, not_true_eq_false, not_false_eq_true, ne_i0, ne_i1, ne_i2, ne_i3, ne_i4, ne_i5, ne_i6, ne_i7, ne_i8, ne_i9, ne_i10, ne_i12, ne_i14, ne_i16, ne_i18, ne_i19, ne_i20, ne_i23, ne_i24, ne_i27, ne_i29, ne_i30, ne_i31, ne_i32, ne_i35, ne_i48, ne_i52, ne_i54, ne_i57, ne_i59, ne_i63, ne_i64, ne_i76, ne_i77, ne_i78, ne_i79, ne_i80, ne_i81, ne_i97, ne_i99, ne_i100, ne_i101, ne_i104, ne_i105, ne_i108, ne_i110, ne_i111, ne_i116, ne_i117, ne_i122, ne_i103, ne_i200, ne_i255, ne_i256, ne_i320, ne_i384, ne_i1000, ne_l0, ne_l1, ne_l2, ne_l3, ne_l4, ne_l5, ne_l8, ne_l12, ne_l31, ne_l48, ne_l57, ne_l97, ne_l99, ne_l122, ne_l255, ne_l673, ne_l1073741823, ne_l1073741824, ek, ej, Bool.false_eq_true, Bool.true_or]
          | false =>
            cases hk1 : s.testBit k with
            | false =>
              rw [hk1] at ek
              unfold sp_fl
              simp (disch := omega) only [sm_lt, sm_b1s, sm_b2s, ↓reduceIte, sm_in_nI, nI_clamp, nI_add, pk_mul, pk_sub, ne_addneg, nI_l, ne_ltT, ne_ltF, ne_leT, ne_leF, ne_eqT, ne_eqF, ne_sI1s, ne_sI1n, ne_sI2, ne_sI3, ne_sL1, ne_sL2s, ne_sL2n, ne_sL3, pk_us, pk_un, pk_uLs, pk_uLn, mm_Z, mm_L, mm_1, mm_2, mm_3, ne_rz0, ne_rz1, not_true_eq_false, not_false_eq_true, ne_i0, ne_i1, ne_i2, ne_i3, ne_i4, ne_i5, ne_i6, ne_i7, ne_i8, ne_i9, ne_i10, ne_i12, ne_i14, ne_i16, ne_i18, ne_i19, ne_i20, ne_i23, ne_i24, ne_i27, ne_i29, ne_i30, ne_i31, ne_i32, ne_i35, ne_i48, ne_i52, ne_i54, ne_i57, ne_i59, ne_i63, ne_i64, ne_i76, ne_i77, ne_i78, ne_i79, ne_i80, ne_i81, ne_i97, ne_i99, ne_i100, ne_i101, ne_i104, ne_i105, ne_i108, ne_i110, ne_i111, ne_i116, ne_i117, ne_i122, ne_i103, ne_i200, ne_i255, ne_i256, ne_i320, ne_i384, ne_i1000, ne_l0, ne_l1, ne_l2, ne_l3, ne_l4, ne_l5, ne_l8, ne_l12, ne_l31, ne_l48, ne_l57, ne_l97, ne_l99, ne_l122, ne_l255, ne_l673, ne_l1073741823, ne_l1073741824, ek, Bool.false_eq_true, Bool.false_or, Bool.false_and]
            | true =>
              cases hj1 : s.testBit j with
              | false =>
                rw [hk1] at ek
                rw [hj1] at ej
                unfold sp_fl
                simp (disch := omega) only [sm_lt, sm_b1s, sm_b2s, ↓reduceIte, sm_in_nI, nI_clamp, nI_add, pk_mul, pk_sub, ne_addneg, nI_l, ne_ltT, ne_ltF, ne_leT, ne_leF, ne_eqT, ne_eqF, ne_sI1s, ne_sI1n, ne_sI2, ne_sI3, ne_sL1, ne_sL2s, ne_sL2n, ne_sL3, pk_us, pk_un, pk_uLs, pk_uLn, mm_Z, mm_L, mm_1, mm_2, mm_3, ne_rz0, ne_rz1, not_true_eq_false, not_false_eq_true, ne_i0, ne_i1, ne_i2, ne_i3, ne_i4, ne_i5, ne_i6, ne_i7, ne_i8, ne_i9, ne_i10, ne_i12, ne_i14, ne_i16, ne_i18, ne_i19, ne_i20, ne_i23, ne_i24, ne_i27, ne_i29, ne_i30, ne_i31, ne_i32, ne_i35, ne_i48, ne_i52, ne_i54, ne_i57, ne_i59, ne_i63, ne_i64, ne_i76, ne_i77, ne_i78, ne_i79, ne_i80, ne_i81, ne_i97, ne_i99, ne_i100, ne_i101, ne_i104, ne_i105, ne_i108, ne_i110, ne_i111, ne_i116, ne_i117, ne_i122, ne_i103, ne_i200, ne_i255, ne_i256, ne_i320, ne_i384, ne_i1000, ne_l0, ne_l1, ne_l2, ne_l3, ne_l4, ne_l5, ne_l8, ne_l12, ne_l31, ne_l48, ne_l57, ne_l97, ne_l99, ne_l122, ne_l255, ne_l673, ne_l1073741823, ne_l1073741824, ek, ej, Bool.false_eq_true, Bool.false_or, Bool.false_and, Bool.and_false]
              | true =>
                obtain ⟨b0, b1, b2⟩ := hb k (hs6 k (by omega) hk1)
                obtain ⟨d0, d1, d2⟩ := hb j (hs6 j (by omega) hj1)
                have em := np_meet (N := N) hw (show k < 6 by omega) (show j < 6 by omega) b0 b1 b2 d0 d1 d2
                rw [hk1] at ek
                rw [hj1] at ej
                rw [Bool.false_or, Bool.true_and, Bool.true_and]
                generalize (decide (a (52 + 4 * k) = a (52 + 4 * j)) && (decide (a (52 + 4 * k + 1) ≤ a (52 + 4 * j + 2)) && decide (a (52 + 4 * j + 1) ≤ a (52 + 4 * k + 2)))) = z at em ⊢
                unfold sp_fl
                cases z <;> simp (disch := omega) only [sm_lt, sm_b1s, sm_b2s, ↓reduceIte, sm_in_nI, nI_clamp, nI_add, pk_mul, pk_sub, ne_addneg, nI_l, ne_ltT, ne_ltF, ne_leT, ne_leF, ne_eqT, ne_eqF, ne_sI1s, ne_sI1n, ne_sI2, ne_sI3, ne_sL1, ne_sL2s, ne_sL2n, ne_sL3, pk_us, pk_un, pk_uLs, pk_uLn, mm_Z, mm_L, mm_1, mm_2, mm_3, ne_rz0, ne_rz1, not_true_eq_false, not_false_eq_true, ne_i0, ne_i1, ne_i2, ne_i3, ne_i4, ne_i5, ne_i6, ne_i7, ne_i8, ne_i9, ne_i10, ne_i12, ne_i14, ne_i16, ne_i18, ne_i19, ne_i20, ne_i23, ne_i24, ne_i27, ne_i29, ne_i30, ne_i31, ne_i32, ne_i35, ne_i48, ne_i52, ne_i54, ne_i57, ne_i59, ne_i63, ne_i64, ne_i76, ne_i77, ne_i78, ne_i79, ne_i80, ne_i81, ne_i97, ne_i99, ne_i100, ne_i101, ne_i104, ne_i105, ne_i108, ne_i110, ne_i111, ne_i116, ne_i117, ne_i122, ne_i103, ne_i200, ne_i255, ne_i256, ne_i320, ne_i384, ne_i1000, ne_l0, ne_l1, ne_l2, ne_l3, ne_l4, ne_l5, ne_l8, ne_l12, ne_l31, ne_l48, ne_l57, ne_l97, ne_l99, ne_l122, ne_l255, ne_l673, ne_l1073741823, ne_l1073741824, ek, ej, em, Bool.false_eq_true]
        · intro f' _ _
          show pm_lent_b80 N r _ (f' + 1) _ _ _ _ _ _ _ _ = _
          rw [pm_lent_b80]
          simp (disch := omega) only [sm_lt, sm_b1s, sm_b2s, ↓reduceIte, sm_in_nI, nI_clamp, nI_add, pk_mul, pk_sub, ne_addneg, nI_l, ne_ltT, ne_ltF, ne_leT, ne_leF, ne_eqT, ne_eqF, ne_sI1s, ne_sI1n, ne_sI2, ne_sI3, ne_sL1, ne_sL2s, ne_sL2n, ne_sL3, pk_us, pk_un, pk_uLs, pk_uLn, mm_Z, mm_L, mm_1, mm_2, mm_3, ne_rz0, ne_rz1, not_true_eq_false, not_false_eq_true, ne_i0, ne_i1, ne_i2, ne_i3, ne_i4, ne_i5, ne_i6, ne_i7, ne_i8, ne_i9, ne_i10, ne_i12, ne_i14, ne_i16, ne_i18, ne_i19, ne_i20, ne_i23, ne_i24, ne_i27, ne_i29, ne_i30, ne_i31, ne_i32, ne_i35, ne_i48, ne_i52, ne_i54, ne_i57, ne_i59, ne_i63, ne_i64, ne_i76, ne_i77, ne_i78, ne_i79, ne_i80, ne_i81, ne_i97, ne_i99, ne_i100, ne_i101, ne_i104, ne_i105, ne_i108, ne_i110, ne_i111, ne_i116, ne_i117, ne_i122, ne_i103, ne_i200, ne_i255, ne_i256, ne_i320, ne_i384, ne_i1000, ne_l0, ne_l1, ne_l2, ne_l3, ne_l4, ne_l5, ne_l8, ne_l12, ne_l31, ne_l48, ne_l57, ne_l97, ne_l99, ne_l122, ne_l255, ne_l673, ne_l1073741823, ne_l1073741824]
      rw [sp_cl, hc, Bool.false_or]
      have e1 : sp_fl false = 1 := rfl
      rw [e1]
      simp (disch := omega) only [sm_lt, sm_b1s, sm_b2s, ↓reduceIte, sm_in_nI, nI_clamp, nI_add, pk_mul, pk_sub, ne_addneg, nI_l, ne_ltT, ne_ltF, ne_leT, ne_leF, ne_eqT, ne_eqF, ne_sI1s, ne_sI1n, ne_sI2, ne_sI3, ne_sL1, ne_sL2s, ne_sL2n, ne_sL3, pk_us, pk_un, pk_uLs, pk_uLn, mm_Z, mm_L, mm_1, mm_2, mm_3, ne_rz0, ne_rz1, not_true_eq_false, not_false_eq_true, ne_i0, ne_i1, ne_i2, ne_i3, ne_i4, ne_i5, ne_i6, ne_i7, ne_i8, ne_i9, ne_i10, ne_i12, ne_i14, ne_i16, ne_i18, ne_i19, ne_i20, ne_i23, ne_i24, ne_i27, ne_i29, ne_i30, ne_i31, ne_i32, ne_i35, ne_i48, ne_i52, ne_i54, ne_i57, ne_i59, ne_i63, ne_i64, ne_i76, ne_i77, ne_i78, ne_i79, ne_i80, ne_i81, ne_i97, ne_i99, ne_i100, ne_i101, ne_i104, ne_i105, ne_i108, ne_i110, ne_i111, ne_i116, ne_i117, ne_i122, ne_i103, ne_i200, ne_i255, ne_i256, ne_i320, ne_i384, ne_i1000, ne_l0, ne_l1, ne_l2, ne_l3, ne_l4, ne_l5, ne_l8, ne_l12, ne_l31, ne_l48, ne_l57, ne_l97, ne_l99, ne_l122, ne_l255, ne_l673, ne_l1073741823, ne_l1073741824]
      exact inner
  · intro f _ _
    show pm_lent_b65 N r (f + 1) _ _ _ _ _ _ _ = _
    rw [pm_lent_b65]
    unfold pm_lent_b156 pm_lent_b167 sp_fl
    cases sp_cl a s 6 <;> simp (disch := omega) only [sm_lt, sm_b1s, sm_b2s, ↓reduceIte, sm_in_nI, nI_clamp, nI_add, pk_mul, pk_sub, ne_addneg, nI_l, ne_ltT, ne_ltF, ne_leT, ne_leF, ne_eqT, ne_eqF, ne_sI1s, ne_sI1n, ne_sI2, ne_sI3, ne_sL1, ne_sL2s, ne_sL2n, ne_sL3, pk_us, pk_un, pk_uLs, pk_uLn, mm_Z, mm_L, mm_1, mm_2, mm_3, ne_rz0, ne_rz1, not_true_eq_false, not_false_eq_true, ne_i0, ne_i1, ne_i2, ne_i3, ne_i4, ne_i5, ne_i6, ne_i7, ne_i8, ne_i9, ne_i10, ne_i12, ne_i14, ne_i16, ne_i18, ne_i19, ne_i20, ne_i23, ne_i24, ne_i27, ne_i29, ne_i30, ne_i31, ne_i32, ne_i35, ne_i48, ne_i52, ne_i54, ne_i57, ne_i59, ne_i63, ne_i64, ne_i76, ne_i77, ne_i78, ne_i79, ne_i80, ne_i81, ne_i97, ne_i99, ne_i100, ne_i101, ne_i104, ne_i105, ne_i108, ne_i110, ne_i111, ne_i116, ne_i117, ne_i122, ne_i103, ne_i200, ne_i255, ne_i256, ne_i320, ne_i384, ne_i1000, ne_l0, ne_l1, ne_l2, ne_l3, ne_l4, ne_l5, ne_l8, ne_l12, ne_l31, ne_l48, ne_l57, ne_l97, ne_l99, ne_l122, ne_l255, ne_l673, ne_l1073741823, ne_l1073741824, Bool.false_eq_true]
/-- the best set stays the same where a set has a bit too many -/
theorem sp_bst_hi {nb c : Nat} (h6 : nb ≤ 6) (hc : c < 64) (hcb : ∀ x, x < 6 → c.testBit x = true → x < nb) : ∀ d, 2 ^ nb + d ≤ 64 → sp_bst a c (2 ^ nb + d) = sp_bst a c (2 ^ nb)
  | 0, _ => by rw [Nat.add_zero]
  | d + 1, hd => by
    rw [← Nat.add_assoc, sp_bst, sp_bst_hi h6 hc hcb d (by omega), if_neg]
    rintro ⟨_, q, _⟩
    rw [ne_andn (by omega) (by omega)] at q
    have : 2 ^ nb + d < 2 ^ nb := by
      apply Nat.lt_pow_two_of_testBit
      intro i hi
      apply Bool.eq_false_iff.mpr
      intro ht
      by_cases i6 : i < 6
      · have := hcb i i6 (q i (by omega) ht)
        omega
      · have : (2 ^ nb + d).testBit i = false := Nat.testBit_lt_two_pow (Nat.lt_of_lt_of_le (show 2 ^ nb + d < 2 ^ 6 by omega) (Nat.pow_le_pow_right (by decide) (by omega)))
        rw [this] at ht
        cases ht
    omega
theorem sp_bst_s {a : Nat → Nat} {c s : Nat} : sp_bst a c (s + 1) = if sp_pc (sp_bst a c s) 8 < sp_pc s 8 ∧ (nI s &&& (nI c ^^^ -nI 1) = nI 0) ∧ sp_cl a s (a 80) = false then s else sp_bst a c s := by rw [sp_bst]
theorem xq_lent {c' w : Nat} {X' : sm_St} (hN : 4000 ≤ N) (h6 : a 80 ≤ 6) (hb3 : ∀ k, k < a 80 → a (52 + 4 * k) ≤ 3 ∧ a (52 + 4 * k + 1) ≤ 12 ∧ a (52 + 4 * k + 2) ≤ 12) (hc64 : c' < 64) (hcb : ∀ x, x < 6 → c'.testBit x = true → x < a 80) (h13' : X'.1 1 13 = nI (a 80)) (hwi' : ∀ k f, k < a 80 → f < 4 → X'.1 (28 + k) f = nI (a (52 + 4 * k + f))) (hw1 : w ≤ 1) : px_L_lent_b23 N N (nI w) (nI c') (nI 0) (nI 1) X' = some (nI (if w = 0 then sp_pc (sp_bst a c' 64) 8 else sp_bst a c' 64), X') := by
  have ent := ne_full (a 80) (by omega)
  have e2k : 2 ^ a 80 ≤ 2 ^ 6 := Nat.pow_le_pow_right (by decide) (by omega)
  have e1k : 1 ≤ 2 ^ a 80 := Nat.one_le_two_pow
  have b64 : sp_bst a c' 64 = sp_bst a c' (2 ^ a 80) := by
    have := sp_bst_hi (a := a) (c := c') (nb := a 80) (by omega) hc64 hcb (64 - 2 ^ a 80) (by omega)
    rwa [show 2 ^ a 80 + (64 - 2 ^ a 80) = 64 by omega] at this
  have ent1 := ent.1
  have e64 : 2 ^ 6 = 64 := rfl
  rw [e64] at e2k
  clear ent e64
  generalize 2 ^ a 80 = K at ent1 e2k e1k b64
  have b1 : sp_bst a c' 1 = 0 := by
    have : sp_bst a c' 1 ≤ 0 := sp_bst_le 0
    omega
  have i0 : nI 0 = nI (sp_bst a c' 1) := by rw [b1]
  rw [i0]
  refine ne_loop (fun f s (_ : Unit) => px_L_lent_b23 N f (nI w) (nI c') (nI (sp_bst a c' s)) (nI s) X') (fun _ _ => True) K (fun o => o = some (nI (if w = 0 then sp_pc (sp_bst a c' 64) 8 else sp_bst a c' 64), X')) ?_ ?_ N 1 () (by omega) (by omega) trivial
  · intro f s _ hs _
    left
    refine ⟨(), trivial, ?_⟩
    have hbst := sp_bst_lt (a := a) (c := c') (s := s) (by omega)
    have eb1 := xq_bitCount (N := N) (X := X') (s := s) (by omega)
    have eb2 := xq_bitCount (N := N) (X := X') (s := sp_bst a c' s) (by omega)
    have p1 := sp_pc_le s 8
    have p2 := sp_pc_le (sp_bst a c' s) 8
    have ecl := xq_clash (N := N) (s := s) hN (by omega) (by omega) h13' hwi' hb3
    show px_L_lent_b23 N (f + 1) _ _ _ _ _ = px_L_lent_b23 N f _ _ _ _ _
    rw [px_L_lent_b23]
    unfold px_L_lent_b54 px_L_lent_b85
    have l1 : ¬ (1 : Int32) <<< (X'.1 1 13 &&& 31) ≤ nI s := by
      rw [h13']
      simp (disch := omega) only [sm_lt, sm_b1s, sm_b2s, ↓reduceIte, sm_in_nI, nI_clamp, nI_add, pk_mul, pk_sub, ne_addneg, nI_l, ne_ltT, ne_ltF, ne_leT, ne_leF, ne_eqT, ne_eqF, ne_sI1s, ne_sI1n, ne_sI2, ne_sI3, ne_sL1, ne_sL2s, ne_sL2n, ne_sL3, pk_us, pk_un, pk_uLs, pk_uLn, mm_Z, mm_L, mm_1, mm_2, mm_3, ne_rz0, ne_rz1, not_true_eq_false, not_false_eq_true, ne_i0, ne_i1, ne_i2, ne_i3, ne_i4, ne_i5, ne_i6, ne_i7, ne_i8, ne_i9, ne_i10, ne_i12, ne_i14, ne_i16, ne_i18, ne_i19, ne_i20, ne_i23, ne_i24, ne_i27, ne_i29, ne_i30, ne_i31, ne_i32, ne_i35, ne_i48, ne_i52, ne_i54, ne_i57, ne_i59, ne_i63, ne_i64, ne_i76, ne_i77, ne_i78, ne_i79, ne_i80, ne_i81, ne_i97, ne_i99, ne_i100, ne_i101, ne_i104, ne_i105, ne_i108, ne_i110, ne_i111, ne_i116, ne_i117, ne_i122, ne_i103, ne_i200, ne_i255, ne_i256, ne_i320, ne_i384, ne_i1000, ne_l0, ne_l1, ne_l2, ne_l3, ne_l4, ne_l5, ne_l8, ne_l12, ne_l31, ne_l48, ne_l57, ne_l97, ne_l99, ne_l122, ne_l255, ne_l673, ne_l1073741823, ne_l1073741824, ent1]
    rw [if_neg l1, eb1, sm_b2s, eb2, sm_b2s]
    by_cases c1 : sp_pc (sp_bst a c' s) 8 < sp_pc s 8
    · rw [if_neg (by simp (disch := omega) only [sm_lt, sm_b1s, sm_b2s, ↓reduceIte, sm_in_nI, nI_clamp, nI_add, pk_mul, pk_sub, ne_addneg, nI_l, ne_ltT, ne_ltF, ne_leT, ne_leF, ne_eqT, ne_eqF, ne_sI1s, ne_sI1n, ne_sI2, ne_sI3, ne_sL1, ne_sL2s, ne_sL2n, ne_sL3, pk_us, pk_un, pk_uLs, pk_uLn, mm_Z, mm_L, mm_1, mm_2, mm_3, ne_rz0, ne_rz1, not_true_eq_false, not_false_eq_true, ne_i0, ne_i1, ne_i2, ne_i3, ne_i4, ne_i5, ne_i6, ne_i7, ne_i8, ne_i9, ne_i10, ne_i12, ne_i14, ne_i16, ne_i18, ne_i19, ne_i20, ne_i23, ne_i24, ne_i27, ne_i29, ne_i30, ne_i31, ne_i32, ne_i35, ne_i48, ne_i52, ne_i54, ne_i57, ne_i59, ne_i63, ne_i64, ne_i76, ne_i77, ne_i78, ne_i79, ne_i80, ne_i81, ne_i97, ne_i99, ne_i100, ne_i101, ne_i104, ne_i105, ne_i108, ne_i110, ne_i111, ne_i116, ne_i117, ne_i122, ne_i103, ne_i200, ne_i255, ne_i256, ne_i320, ne_i384, ne_i1000, ne_l0, ne_l1, ne_l2, ne_l3, ne_l4, ne_l5, ne_l8, ne_l12, ne_l31, ne_l48, ne_l57, ne_l97, ne_l99, ne_l122, ne_l255, ne_l673, ne_l1073741823, ne_l1073741824])]
      by_cases c2 : nI s &&& (nI c' ^^^ -nI 1) = nI 0
      · cases c3 : sp_cl a s (a 80) with
        | true =>
          have e : sp_bst a c' (s + 1) = sp_bst a c' s := sp_bst_s.trans (if_neg (by rw [c3]; simp))
          rw [c3] at ecl
          rw [e]
          simp (disch := omega) only [sm_lt, sm_b1s, sm_b2s, ↓reduceIte, sm_in_nI, nI_clamp, nI_add, pk_mul, pk_sub, ne_addneg, nI_l, ne_ltT, ne_ltF, ne_leT, ne_leF, ne_eqT, ne_eqF, ne_sI1s, ne_sI1n, ne_sI2, ne_sI3, ne_sL1, ne_sL2s, ne_sL2n, ne_sL3, pk_us, pk_un, pk_uLs, pk_uLn, mm_Z, mm_L, mm_1, mm_2, mm_3, ne_rz0, ne_rz1, not_true_eq_false, not_false_eq_true, ne_i0, ne_i1, ne_i2, ne_i3, ne_i4, ne_i5, ne_i6, ne_i7, ne_i8, ne_i9, ne_i10, ne_i12, ne_i14, ne_i16, ne_i18, ne_i19, ne_i20, ne_i23, ne_i24, ne_i27, ne_i29, ne_i30, ne_i31, ne_i32, ne_i35, ne_i48, ne_i52, ne_i54, ne_i57, ne_i59, ne_i63, ne_i64, ne_i76, ne_i77, ne_i78, ne_i79, ne_i80, ne_i81, ne_i97, ne_i99, ne_i100, ne_i101, ne_i104, ne_i105, ne_i108, ne_i110, ne_i111, ne_i116, ne_i117, ne_i122, ne_i103, ne_i200, ne_i255, ne_i256, ne_i320, ne_i384, ne_i1000, ne_l0, ne_l1, ne_l2, ne_l3, ne_l4, ne_l5, ne_l8, ne_l12, ne_l31, ne_l48, ne_l57, ne_l97, ne_l99, ne_l122, ne_l255, ne_l673, ne_l1073741823, ne_l1073741824, c2, ecl]
        | false =>
          have e : sp_bst a c' (s + 1) = s := sp_bst_s.trans (if_pos ⟨c1, c2, c3⟩)
          rw [c3] at ecl
          rw [e]
          simp (disch := omega) only [sm_lt, sm_b1s, sm_b2s, ↓reduceIte, sm_in_nI, nI_clamp, nI_add, pk_mul, pk_sub, ne_addneg, nI_l, ne_ltT, ne_ltF, ne_leT, ne_leF, ne_eqT, ne_eqF, ne_sI1s, ne_sI1n, ne_sI2, ne_sI3, ne_sL1, ne_sL2s, ne_sL2n, ne_sL3, pk_us, pk_un, pk_uLs, pk_uLn, mm_Z, mm_L, mm_1, mm_2, mm_3, ne_rz0, ne_rz1, not_true_eq_false, not_false_eq_true, ne_i0, ne_i1, ne_i2, ne_i3, ne_i4, ne_i5, ne_i6, ne_i7, ne_i8, ne_i9, ne_i10, ne_i12, ne_i14, ne_i16, ne_i18, ne_i19, ne_i20, ne_i23, ne_i24, ne_i27, ne_i29, ne_i30, ne_i31, ne_i32, ne_i35, ne_i48, ne_i52, ne_i54, ne_i57, ne_i59, ne_i63, ne_i64, ne_i76, ne_i77, ne_i78, ne_i79, ne_i80, ne_i81, ne_i97, ne_i99, ne_i100, ne_i101, ne_i104, ne_i105, ne_i108, ne_i110, ne_i111, ne_i116, ne_i117, ne_i122, ne_i103, ne_i200, ne_i255, ne_i256, ne_i320, ne_i384, ne_i1000, ne_l0, ne_l1, ne_l2, ne_l3, ne_l4, ne_l5, ne_l8, ne_l12, ne_l31, ne_l48, ne_l57, ne_l97, ne_l99, ne_l122, ne_l255, ne_l673, ne_l1073741823, ne_l1073741824, c2, ecl, Bool.false_eq_true]
      · have e : sp_bst a c' (s + 1) = sp_bst a c' s := sp_bst_s.trans (if_neg (fun q => c2 q.2.1))
        rw [e]
        simp (disch := omega) only [sm_lt, sm_b1s, sm_b2s, ↓reduceIte, sm_in_nI, nI_clamp, nI_add, pk_mul, pk_sub, ne_addneg, nI_l, ne_ltT, ne_ltF, ne_leT, ne_leF, ne_eqT, ne_eqF, ne_sI1s, ne_sI1n, ne_sI2, ne_sI3, ne_sL1, ne_sL2s, ne_sL2n, ne_sL3, pk_us, pk_un, pk_uLs, pk_uLn, mm_Z, mm_L, mm_1, mm_2, mm_3, ne_rz0, ne_rz1, not_true_eq_false, not_false_eq_true, ne_i0, ne_i1, ne_i2, ne_i3, ne_i4, ne_i5, ne_i6, ne_i7, ne_i8, ne_i9, ne_i10, ne_i12, ne_i14, ne_i16, ne_i18, ne_i19, ne_i20, ne_i23, ne_i24, ne_i27, ne_i29, ne_i30, ne_i31, ne_i32, ne_i35, ne_i48, ne_i52, ne_i54, ne_i57, ne_i59, ne_i63, ne_i64, ne_i76, ne_i77, ne_i78, ne_i79, ne_i80, ne_i81, ne_i97, ne_i99, ne_i100, ne_i101, ne_i104, ne_i105, ne_i108, ne_i110, ne_i111, ne_i116, ne_i117, ne_i122, ne_i103, ne_i200, ne_i255, ne_i256, ne_i320, ne_i384, ne_i1000, ne_l0, ne_l1, ne_l2, ne_l3, ne_l4, ne_l5, ne_l8, ne_l12, ne_l31, ne_l48, ne_l57, ne_l97, ne_l99, ne_l122, ne_l255, ne_l673, ne_l1073741823, ne_l1073741824, c2]
    · have e : sp_bst a c' (s + 1) = sp_bst a c' s := sp_bst_s.trans (if_neg (fun q => c1 q.1))
      rw [e, if_pos (by simp (disch := omega) only [sm_lt, sm_b1s, sm_b2s, ↓reduceIte, sm_in_nI, nI_clamp, nI_add, pk_mul, pk_sub, ne_addneg, nI_l, ne_ltT, ne_ltF, ne_leT, ne_leF, ne_eqT, ne_eqF, ne_sI1s, ne_sI1n, ne_sI2, ne_sI3, ne_sL1, ne_sL2s, ne_sL2n, ne_sL3, pk_us, pk_un, pk_uLs, pk_uLn, mm_Z, mm_L, mm_1, mm_2, mm_3, ne_rz0, ne_rz1, not_true_eq_false, not_false_eq_true, ne_i0, ne_i1, ne_i2, ne_i3, ne_i4, ne_i5, ne_i6, ne_i7, ne_i8, ne_i9, ne_i10, ne_i12, ne_i14, ne_i16, ne_i18, ne_i19, ne_i20, ne_i23, ne_i24, ne_i27, ne_i29, ne_i30, ne_i31, ne_i32, ne_i35, ne_i48, ne_i52, ne_i54, ne_i57, ne_i59, ne_i63, ne_i64, ne_i76, ne_i77, ne_i78, ne_i79, ne_i80, ne_i81, ne_i97, ne_i99, ne_i100, ne_i101, ne_i104, ne_i105, ne_i108, ne_i110, ne_i111, ne_i116, ne_i117, ne_i122, ne_i103, ne_i200, ne_i255, ne_i256, ne_i320, ne_i384, ne_i1000, ne_l0, ne_l1, ne_l2, ne_l3, ne_l4, ne_l5, ne_l8, ne_l12, ne_l31, ne_l48, ne_l57, ne_l97, ne_l99, ne_l122, ne_l255, ne_l673, ne_l1073741823, ne_l1073741824])]
      simp (disch := omega) only [sm_lt, sm_b1s, sm_b2s, ↓reduceIte, sm_in_nI, nI_clamp, nI_add, pk_mul, pk_sub, ne_addneg, nI_l, ne_ltT, ne_ltF, ne_leT, ne_leF, ne_eqT, ne_eqF, ne_sI1s, ne_sI1n, ne_sI2, ne_sI3, ne_sL1, ne_sL2s, ne_sL2n, ne_sL3, pk_us, pk_un, pk_uLs, pk_uLn, mm_Z, mm_L, mm_1, mm_2, mm_3, ne_rz0, ne_rz1, not_true_eq_false, not_false_eq_true, ne_i0, ne_i1, ne_i2, ne_i3, ne_i4, ne_i5, ne_i6, ne_i7, ne_i8, ne_i9, ne_i10, ne_i12, ne_i14, ne_i16, ne_i18, ne_i19, ne_i20, ne_i23, ne_i24, ne_i27, ne_i29, ne_i30, ne_i31, ne_i32, ne_i35, ne_i48, ne_i52, ne_i54, ne_i57, ne_i59, ne_i63, ne_i64, ne_i76, ne_i77, ne_i78, ne_i79, ne_i80, ne_i81, ne_i97, ne_i99, ne_i100, ne_i101, ne_i104, ne_i105, ne_i108, ne_i110, ne_i111, ne_i116, ne_i117, ne_i122, ne_i103, ne_i200, ne_i255, ne_i256, ne_i320, ne_i384, ne_i1000, ne_l0, ne_l1, ne_l2, ne_l3, ne_l4, ne_l5, ne_l8, ne_l12, ne_l31, ne_l48, ne_l57, ne_l97, ne_l99, ne_l122, ne_l255, ne_l673, ne_l1073741823, ne_l1073741824]
  · intro f _ _
    have hbst := sp_bst_lt (a := a) (c := c') (s := 64) (by omega)
    have eb2 := xq_bitCount (N := N) (X := X') (s := sp_bst a c' 64) (by omega)
    show px_L_lent_b23 N (f + 1) _ _ _ _ _ = _
    rw [px_L_lent_b23, ← b64]
    by_cases hw0 : w = 0
    · have e : (if w = 0 then sp_pc (sp_bst a c' 64) 8 else sp_bst a c' 64) = sp_pc (sp_bst a c' 64) 8 := if_pos hw0
      rw [e]
      subst hw0
      simp (disch := omega) only [sm_lt, sm_b1s, sm_b2s, ↓reduceIte, sm_in_nI, nI_clamp, nI_add, pk_mul, pk_sub, ne_addneg, nI_l, ne_ltT, ne_ltF, ne_leT, ne_leF, ne_eqT, ne_eqF, ne_sI1s, ne_sI1n, ne_sI2, ne_sI3, ne_sL1, ne_sL2s, ne_sL2n, ne_sL3, pk_us, pk_un, pk_uLs, pk_uLn, mm_Z, mm_L, mm_1, mm_2, mm_3, ne_rz0, ne_rz1, not_true_eq_false, not_false_eq_true, ne_i0, ne_i1, ne_i2, ne_i3, ne_i4, ne_i5, ne_i6, ne_i7, ne_i8, ne_i9, ne_i10, ne_i12, ne_i14, ne_i16, ne_i18, ne_i19, ne_i20, ne_i23, ne_i24, ne_i27, ne_i29, ne_i30, ne_i31, ne_i32, ne_i35, ne_i48, ne_i52, ne_i54, ne_i57, ne_i59, ne_i63, ne_i64, ne_i76, ne_i77, ne_i78, ne_i79, ne_i80, ne_i81, ne_i97, ne_i99, ne_i100, ne_i101, ne_i104, ne_i105, ne_i108, ne_i110, ne_i111, ne_i116, ne_i117, ne_i122, ne_i103, ne_i200, ne_i255, ne_i256, ne_i320, ne_i384, ne_i1000, ne_l0, ne_l1, ne_l2, ne_l3, ne_l4, ne_l5, ne_l8, ne_l12, ne_l31, ne_l48, ne_l57, ne_l97, ne_l99, ne_l122, ne_l255, ne_l673, ne_l1073741823, ne_l1073741824, h13', ent1, eb2]
    · have e : (if w = 0 then sp_pc (sp_bst a c' 64) 8 else sp_bst a c' 64) = sp_bst a c' 64 := if_neg hw0
      rw [e]
      simp (disch := omega) only [sm_lt, sm_b1s, sm_b2s, ↓reduceIte, sm_in_nI, nI_clamp, nI_add, pk_mul, pk_sub, ne_addneg, nI_l, ne_ltT, ne_ltF, ne_leT, ne_leF, ne_eqT, ne_eqF, ne_sI1s, ne_sI1n, ne_sI2, ne_sI3, ne_sL1, ne_sL2s, ne_sL2n, ne_sL3, pk_us, pk_un, pk_uLs, pk_uLn, mm_Z, mm_L, mm_1, mm_2, mm_3, ne_rz0, ne_rz1, not_true_eq_false, not_false_eq_true, ne_i0, ne_i1, ne_i2, ne_i3, ne_i4, ne_i5, ne_i6, ne_i7, ne_i8, ne_i9, ne_i10, ne_i12, ne_i14, ne_i16, ne_i18, ne_i19, ne_i20, ne_i23, ne_i24, ne_i27, ne_i29, ne_i30, ne_i31, ne_i32, ne_i35, ne_i48, ne_i52, ne_i54, ne_i57, ne_i59, ne_i63, ne_i64, ne_i76, ne_i77, ne_i78, ne_i79, ne_i80, ne_i81, ne_i97, ne_i99, ne_i100, ne_i101, ne_i104, ne_i105, ne_i108, ne_i110, ne_i111, ne_i116, ne_i117, ne_i122, ne_i103, ne_i200, ne_i255, ne_i256, ne_i320, ne_i384, ne_i1000, ne_l0, ne_l1, ne_l2, ne_l3, ne_l4, ne_l5, ne_l8, ne_l12, ne_l31, ne_l48, ne_l57, ne_l97, ne_l99, ne_l122, ne_l255, ne_l673, ne_l1073741823, ne_l1073741824, h13', ent1]
theorem np_lent {c' w : Nat} {S' : sm_St} (hN : 4000 ≤ N) (h6 : a 80 ≤ 6) (hb3 : ∀ k, k < a 80 → a (52 + 4 * k) ≤ 3 ∧ a (52 + 4 * k + 1) ≤ 12 ∧ a (52 + 4 * k + 2) ≤ 12) (hc64 : c' < 64) (hcb : ∀ x, x < 6 → c'.testBit x = true → x < a 80) (nwS : nw a S') (hw1 : w ≤ 1) : pm_lent_b27 N N (nI w) (nI c') (nI 0) (nI 0) S' = some (nI (if w = 0 then sp_pc (sp_bst a c' 64) 8 else sp_bst a c' 64), S') := by
  show pm_lent_b27 N N (nI w) (nI c') (nI (sp_bst a c' 0)) (nI 0) S' = _
  refine ne_loop (fun f s (_ : Unit) => pm_lent_b27 N f (nI w) (nI c') (nI (sp_bst a c' s)) (nI s) S') (fun _ _ => True) 64 (fun o => o = some (nI (if w = 0 then sp_pc (sp_bst a c' 64) 8 else sp_bst a c' 64), S')) ?_ ?_ N 0 () (by omega) (by omega) trivial
  · intro f s _ hs _
    left
    refine ⟨(), trivial, ?_⟩
    have hbst := sp_bst_lt (a := a) (c := c') (s := s) (by omega)
    have eb1 := np_manyIn (N := N) (S := S') (s := s) hN (by omega)
    have eb2 := np_manyIn (N := N) (S := S') (s := sp_bst a c' s) hN (by omega)
    have p1 := sp_pc_le s 8
    have p2 := sp_pc_le (sp_bst a c' s) 8
    have zero : pm_lent_b65 N (pm_lent_b27 N f) N (nI w) (nI c') (nI (sp_bst a c' s)) (nI s) (nI 0) (nI 0) S' = pm_lent_b27 N f (nI w) (nI c') (nI (sp_bst a c' s)) (nI (s + 1)) S' := by
      obtain ⟨M, rfl⟩ : ∃ M, N = M + 1 := ⟨N - 1, by omega⟩
      rw [pm_lent_b65]
      unfold pm_lent_b156 pm_lent_b167
      simp (disch := omega) only [sm_lt, sm_b1s, sm_b2s, ↓reduceIte, sm_in_nI, nI_clamp, nI_add, pk_mul, pk_sub, ne_addneg, nI_l, ne_ltT, ne_ltF, ne_leT, ne_leF, ne_eqT, ne_eqF, ne_sI1s, ne_sI1n, ne_sI2, ne_sI3, ne_sL1, ne_sL2s, ne_sL2n, ne_sL3, pk_us, pk_un, pk_uLs, pk_uLn, mm_Z, mm_L, mm_1, mm_2, mm_3, ne_rz0, ne_rz1, not_true_eq_false, not_false_eq_true, ne_i0, ne_i1, ne_i2, ne_i3, ne_i4, ne_i5, ne_i6, ne_i7, ne_i8, ne_i9, ne_i10, ne_i12, ne_i14, ne_i16, ne_i18, ne_i19, ne_i20, ne_i23, ne_i24, ne_i27, ne_i29, ne_i30, ne_i31, ne_i32, ne_i35, ne_i48, ne_i52, ne_i54, ne_i57, ne_i59, ne_i63, ne_i64, ne_i76, ne_i77, ne_i78, ne_i79, ne_i80, ne_i81, ne_i97, ne_i99, ne_i100, ne_i101, ne_i104, ne_i105, ne_i108, ne_i110, ne_i111, ne_i116, ne_i117, ne_i122, ne_i103, ne_i200, ne_i255, ne_i256, ne_i320, ne_i384, ne_i1000, ne_l0, ne_l1, ne_l2, ne_l3, ne_l4, ne_l5, ne_l8, ne_l12, ne_l31, ne_l48, ne_l57, ne_l97, ne_l99, ne_l122, ne_l255, ne_l673, ne_l1073741823, ne_l1073741824]
    show pm_lent_b27 N (f + 1) _ _ _ _ _ = pm_lent_b27 N f _ _ _ _ _
    rw [pm_lent_b27]
    unfold pm_lent_b59 pm_lent_b60
    by_cases c2 : nI s &&& (nI c' ^^^ -nI 1) = nI 0
    · by_cases c1 : sp_pc (sp_bst a c' s) 8 < sp_pc s 8
      · have hs6 : ∀ x, x < 6 → s.testBit x = true → x < a 80 := fun x hx ht => by
          have q := c2
          rw [ne_andn (by omega) (by omega)] at q
          exact hcb x hx (q x (by omega) ht)
        have e6 : sp_cl a s 6 = sp_cl a s (a 80) := by
          have := sp_cl_hi (a := a) (s := s) (n := a 80) (fun k h1 h2 => Bool.eq_false_iff.mpr (fun q => by have := hs6 k h2 q; omega)) (6 - a 80) (by omega)
          rwa [show a 80 + (6 - a 80) = 6 by omega] at this
        have one := np_lset (N := N) (s := s) (best := sp_bst a c' s) (v1 := nI w) (v2 := nI c') (r := pm_lent_b27 N f) hN nwS (by omega) hb3 (by omega) hs6
        rw [e6] at one
        cases c3 : sp_cl a s (a 80) with
        | true =>
          have e : sp_bst a c' (s + 1) = sp_bst a c' s := sp_bst_s.trans (if_neg (by rw [c3]; simp))
          rw [c3] at one
          rw [e]
          simp (disch := omega) only [sm_lt, sm_b1s, sm_b2s, ↓reduceIte, sm_in_nI, nI_clamp, nI_add, pk_mul, pk_sub, ne_addneg, nI_l, ne_ltT, ne_ltF, ne_leT, ne_leF, ne_eqT, ne_eqF, ne_sI1s, ne_sI1n, ne_sI2, ne_sI3, ne_sL1, ne_sL2s, ne_sL2n, ne_sL3, pk_us, pk_un, pk_uLs, pk_uLn, mm_Z, mm_L, mm_1, mm_2, mm_3, ne_rz0, ne_rz1, not_true_eq_false, not_false_eq_true, ne_i0, ne_i1, ne_i2, ne_i3, ne_i4, ne_i5, ne_i6, ne_i7, ne_i8, ne_i9, ne_i10, ne_i12, ne_i14, ne_i16, ne_i18, ne_i19, ne_i20, ne_i23, ne_i24, ne_i27, ne_i29, ne_i30, ne_i31, ne_i32, ne_i35, ne_i48, ne_i52, ne_i54, ne_i57, ne_i59, ne_i63, ne_i64, ne_i76, ne_i77, ne_i78, ne_i79, ne_i80, ne_i81, ne_i97, ne_i99, ne_i100, ne_i101, ne_i104, ne_i105, ne_i108, ne_i110, ne_i111, ne_i116, ne_i117, ne_i122, ne_i103, ne_i200, ne_i255, ne_i256, ne_i320, ne_i384, ne_i1000, ne_l0, ne_l1, ne_l2, ne_l3, ne_l4, ne_l5, ne_l8, ne_l12, ne_l31, ne_l48, ne_l57, ne_l97, ne_l99, ne_l122, ne_l255, ne_l673, ne_l1073741823, ne_l1073741824, eb1, eb2, c2, one]
        | false =>
          have e : sp_bst a c' (s + 1) = s := sp_bst_s.trans (if_pos ⟨c1, c2, c3⟩)
          rw [c3] at one
          rw [e]
          simp (disch := omega) only [sm_lt, sm_b1s, sm_b2s, ↓reduceIte, sm_in_nI, nI_clamp, nI_add, pk_mul, pk_sub, ne_addneg, nI_l, ne_ltT, ne_ltF, ne_leT, ne_leF, ne_eqT, ne_eqF, ne_sI1s, ne_sI1n, ne_sI2, ne_sI3, ne_sL1, ne_sL2s, ne_sL2n, ne_sL3, pk_us, pk_un, pk_uLs, pk_uLn, mm_Z, mm_L, mm_1, mm_2, mm_3, ne_rz0, ne_rz1, not_true_eq_false, not_false_eq_true, ne_i0, ne_i1, ne_i2, ne_i3, ne_i4, ne_i5, ne_i6, ne_i7, ne_i8, ne_i9, ne_i10, ne_i12, ne_i14, ne_i16, ne_i18, ne_i19, ne_i20, ne_i23, ne_i24, ne_i27, ne_i29, ne_i30, ne_i31, ne_i32, ne_i35, ne_i48, ne_i52, ne_i54, ne_i57, ne_i59, ne_i63, ne_i64, ne_i76, ne_i77, ne_i78, ne_i79, ne_i80, ne_i81, ne_i97, ne_i99, ne_i100, ne_i101, ne_i104, ne_i105, ne_i108, ne_i110, ne_i111, ne_i116, ne_i117, ne_i122, ne_i103, ne_i200, ne_i255, ne_i256, ne_i320, ne_i384, ne_i1000, ne_l0, ne_l1, ne_l2, ne_l3, ne_l4, ne_l5, ne_l8, ne_l12, ne_l31, ne_l48, ne_l57, ne_l97, ne_l99, ne_l122, ne_l255, ne_l673, ne_l1073741823, ne_l1073741824, eb1, eb2, c2, one, Bool.false_eq_true]
      · have e : sp_bst a c' (s + 1) = sp_bst a c' s := sp_bst_s.trans (if_neg (fun q => c1 q.1))
        rw [e]
        simp (disch := omega) only [sm_lt, sm_b1s, sm_b2s, ↓reduceIte, sm_in_nI, nI_clamp, nI_add, pk_mul, pk_sub, ne_addneg, nI_l, ne_ltT, ne_ltF, ne_leT, ne_leF, ne_eqT, ne_eqF, ne_sI1s, ne_sI1n, ne_sI2, ne_sI3, ne_sL1, ne_sL2s, ne_sL2n, ne_sL3, pk_us, pk_un, pk_uLs, pk_uLn, mm_Z, mm_L, mm_1, mm_2, mm_3, ne_rz0, ne_rz1, not_true_eq_false, not_false_eq_true, ne_i0, ne_i1, ne_i2, ne_i3, ne_i4, ne_i5, ne_i6, ne_i7, ne_i8, ne_i9, ne_i10, ne_i12, ne_i14, ne_i16, ne_i18, ne_i19, ne_i20, ne_i23, ne_i24, ne_i27, ne_i29, ne_i30, ne_i31, ne_i32, ne_i35, ne_i48, ne_i52, ne_i54, ne_i57, ne_i59, ne_i63, ne_i64, ne_i76, ne_i77, ne_i78, ne_i79, ne_i80, ne_i81, ne_i97, ne_i99, ne_i100, ne_i101, ne_i104, ne_i105, ne_i108, ne_i110, ne_i111, ne_i116, ne_i117, ne_i122, ne_i103, ne_i200, ne_i255, ne_i256, ne_i320, ne_i384, ne_i1000, ne_l0, ne_l1, ne_l2, ne_l3, ne_l4, ne_l5, ne_l8, ne_l12, ne_l31, ne_l48, ne_l57, ne_l97, ne_l99, ne_l122, ne_l255, ne_l673, ne_l1073741823, ne_l1073741824, eb1, eb2, c2, zero]
    · have e : sp_bst a c' (s + 1) = sp_bst a c' s := sp_bst_s.trans (if_neg (fun q => c2 q.2.1))
      rw [e]
      simp (disch := omega) only [sm_lt, sm_b1s, sm_b2s, ↓reduceIte, sm_in_nI, nI_clamp, nI_add, pk_mul, pk_sub, ne_addneg, nI_l, ne_ltT, ne_ltF, ne_leT, ne_leF, ne_eqT, ne_eqF, ne_sI1s, ne_sI1n, ne_sI2, ne_sI3, ne_sL1, ne_sL2s, ne_sL2n, ne_sL3, pk_us, pk_un, pk_uLs, pk_uLn, mm_Z, mm_L, mm_1, mm_2, mm_3, ne_rz0, ne_rz1, not_true_eq_false, not_false_eq_true, ne_i0, ne_i1, ne_i2, ne_i3, ne_i4, ne_i5, ne_i6, ne_i7, ne_i8, ne_i9, ne_i10, ne_i12, ne_i14, ne_i16, ne_i18, ne_i19, ne_i20, ne_i23, ne_i24, ne_i27, ne_i29, ne_i30, ne_i31, ne_i32, ne_i35, ne_i48, ne_i52, ne_i54, ne_i57, ne_i59, ne_i63, ne_i64, ne_i76, ne_i77, ne_i78, ne_i79, ne_i80, ne_i81, ne_i97, ne_i99, ne_i100, ne_i101, ne_i104, ne_i105, ne_i108, ne_i110, ne_i111, ne_i116, ne_i117, ne_i122, ne_i103, ne_i200, ne_i255, ne_i256, ne_i320, ne_i384, ne_i1000, ne_l0, ne_l1, ne_l2, ne_l3, ne_l4, ne_l5, ne_l8, ne_l12, ne_l31, ne_l48, ne_l57, ne_l97, ne_l99, ne_l122, ne_l255, ne_l673, ne_l1073741823, ne_l1073741824, c2, zero]
  · intro f _ _
    have hbst := sp_bst_lt (a := a) (c := c') (s := 64) (by omega)
    have eb2 := np_manyIn (N := N) (S := S') (s := sp_bst a c' 64) hN (by omega)
    show pm_lent_b27 N (f + 1) _ _ _ _ _ = _
    rw [pm_lent_b27]
    by_cases hw0 : w = 0
    · have e : (if w = 0 then sp_pc (sp_bst a c' 64) 8 else sp_bst a c' 64) = sp_pc (sp_bst a c' 64) 8 := if_pos hw0
      rw [e]
      subst hw0
      simp (disch := omega) only [sm_lt, sm_b1s, sm_b2s, ↓reduceIte, sm_in_nI, nI_clamp, nI_add, pk_mul, pk_sub, ne_addneg, nI_l, ne_ltT, ne_ltF, ne_leT, ne_leF, ne_eqT, ne_eqF, ne_sI1s, ne_sI1n, ne_sI2, ne_sI3, ne_sL1, ne_sL2s, ne_sL2n, ne_sL3, pk_us, pk_un, pk_uLs, pk_uLn, mm_Z, mm_L, mm_1, mm_2, mm_3, ne_rz0, ne_rz1, not_true_eq_false, not_false_eq_true, ne_i0, ne_i1, ne_i2, ne_i3, ne_i4, ne_i5, ne_i6, ne_i7, ne_i8, ne_i9, ne_i10, ne_i12, ne_i14, ne_i16, ne_i18, ne_i19, ne_i20, ne_i23, ne_i24, ne_i27, ne_i29, ne_i30, ne_i31, ne_i32, ne_i35, ne_i48, ne_i52, ne_i54, ne_i57, ne_i59, ne_i63, ne_i64, ne_i76, ne_i77, ne_i78, ne_i79, ne_i80, ne_i81, ne_i97, ne_i99, ne_i100, ne_i101, ne_i104, ne_i105, ne_i108, ne_i110, ne_i111, ne_i116, ne_i117, ne_i122, ne_i103, ne_i200, ne_i255, ne_i256, ne_i320, ne_i384, ne_i1000, ne_l0, ne_l1, ne_l2, ne_l3, ne_l4, ne_l5, ne_l8, ne_l12, ne_l31, ne_l48, ne_l57, ne_l97, ne_l99, ne_l122, ne_l255, ne_l673, ne_l1073741823, ne_l1073741824, eb2]
    · have e : (if w = 0 then sp_pc (sp_bst a c' 64) 8 else sp_bst a c' 64) = sp_bst a c' 64 := if_neg hw0
      rw [e]
      simp (disch := omega) only [sm_lt, sm_b1s, sm_b2s, ↓reduceIte, sm_in_nI, nI_clamp, nI_add, pk_mul, pk_sub, ne_addneg, nI_l, ne_ltT, ne_ltF, ne_leT, ne_leF, ne_eqT, ne_eqF, ne_sI1s, ne_sI1n, ne_sI2, ne_sI3, ne_sL1, ne_sL2s, ne_sL2n, ne_sL3, pk_us, pk_un, pk_uLs, pk_uLn, mm_Z, mm_L, mm_1, mm_2, mm_3, ne_rz0, ne_rz1, not_true_eq_false, not_false_eq_true, ne_i0, ne_i1, ne_i2, ne_i3, ne_i4, ne_i5, ne_i6, ne_i7, ne_i8, ne_i9, ne_i10, ne_i12, ne_i14, ne_i16, ne_i18, ne_i19, ne_i20, ne_i23, ne_i24, ne_i27, ne_i29, ne_i30, ne_i31, ne_i32, ne_i35, ne_i48, ne_i52, ne_i54, ne_i57, ne_i59, ne_i63, ne_i64, ne_i76, ne_i77, ne_i78, ne_i79, ne_i80, ne_i81, ne_i97, ne_i99, ne_i100, ne_i101, ne_i104, ne_i105, ne_i108, ne_i110, ne_i111, ne_i116, ne_i117, ne_i122, ne_i103, ne_i200, ne_i255, ne_i256, ne_i320, ne_i384, ne_i1000, ne_l0, ne_l1, ne_l2, ne_l3, ne_l4, ne_l5, ne_l8, ne_l12, ne_l31, ne_l48, ne_l57, ne_l97, ne_l99, ne_l122, ne_l255, ne_l673, ne_l1073741823, ne_l1073741824]
theorem c_lent {v1 : Int32} (hN : 4000 ≤ N) (h : R X S) : OKr (px_L_lent N X v1) (pm_lent N S v1) := by
  obtain ⟨a, b, v, ik, tx, len, h⟩ := h
  have hR := RR_R h
  have hok := RR_ok h
  obtain ⟨o1, o2, o3, o4, o5, o6, o7, o8, o9, o10⟩ := hok
  unfold px_L_lent pm_lent
  rcases w_or (N := N) (X := X) (S := S) v1 (m := 1) (by decide) with ⟨w, rfl, hw1⟩ | ⟨e1, e2⟩
  · obtain ⟨c, X', ec, hc, hX1, hX2⟩ := xq_content (N := N) hN h
    obtain ⟨c', S', es, hc', hW⟩ := np_served (N := N) hN h
    have hcc : c' = c := (bts_eq hc hc' (fun j hj => by
      obtain ⟨b0, b1, b2, b3, b4⟩ := o10 j hj
      exact sp_13 b4 b2)).symm
    subst hcc
    have hcb : ∀ x, x < 6 → c'.testBit x = true → x < a 80 := fun x hx ht => by
      rw [hc'.2 x hx] at ht
      by_cases q : x < a 80
      · exact q
      · rw [decide_eq_false q] at ht
        cases ht
    have hend : R X' S' := RR_endt h hW (fun i hi => (sp_ns_hi o1 hi 13).trans (wn_hi hi)) (fun p hp => hX1 p (by omega)) (by rw [hX1 102 (by omega)]) hX2
    have nwS := nW_nw hW (tn_nw h.1)
    obtain ⟨h13, hwi⟩ := RR_wi h
    have h13' : X'.1 1 13 = nI (a 80) := by rw [hX1 1 (by omega)]; exact h13
    have hwi' : ∀ k f, k < a 80 → f < 4 → X'.1 (28 + k) f = nI (a (52 + 4 * k + f)) := fun k f hk hf => by rw [hX1 (28 + k) (by omega)]; exact hwi k f hk hf
    have hb3 : ∀ k, k < a 80 → a (52 + 4 * k) ≤ 3 ∧ a (52 + 4 * k + 1) ≤ 12 ∧ a (52 + 4 * k + 2) ≤ 12 := fun k hk => by
      obtain ⟨b0, b1, b2, b3, b4⟩ := o10 k hk
      exact ⟨b0, b1, b2⟩
    have px := xq_lent (N := N) (w := w) hN (by omega) hb3 hc'.1 hcb h13' hwi' hw1
    have pm := np_lent (N := N) (w := w) hN (by omega) hb3 hc'.1 hcb nwS hw1
    have f1 := xq_wT (N := N) (X := X) (x := w) (m := 1) hw1 (by decide)
    have f2 := ne_inT (N := N) (S := S) (x := w) (a := 0) (b := 1) (by omega) hw1 (by decide)
    simp (disch := omega) only [sm_lt, sm_b1s, sm_b2s, ↓reduceIte, sm_in_nI, nI_clamp, nI_add, pk_mul, pk_sub, ne_addneg, nI_l, ne_ltT, ne_ltF, ne_leT, ne_leF, ne_eqT, ne_eqF, ne_sI1s, ne_sI1n, ne_sI2, ne_sI3, ne_sL1, ne_sL2s, ne_sL2n, ne_sL3, pk_us, pk_un, pk_uLs, pk_uLn, mm_Z, mm_L, mm_1, mm_2, mm_3, ne_rz0, ne_rz1, not_true_eq_false, not_false_eq_true, ne_i0, ne_i1, ne_i2, ne_i3, ne_i4, ne_i5, ne_i6, ne_i7, ne_i8, ne_i9, ne_i10, ne_i12, ne_i14, ne_i16, ne_i18, ne_i19, ne_i20, ne_i23, ne_i24, ne_i27, ne_i29, ne_i30, ne_i31, ne_i32, ne_i35, ne_i48, ne_i52, ne_i54, ne_i57, ne_i59, ne_i63, ne_i64, ne_i76, ne_i77, ne_i78, ne_i79, ne_i80, ne_i81, ne_i97, ne_i99, ne_i100, ne_i101, ne_i104, ne_i105, ne_i108, ne_i110, ne_i111, ne_i116, ne_i117, ne_i122, ne_i103, ne_i200, ne_i255, ne_i256, ne_i320, ne_i384, ne_i1000, ne_l0, ne_l1, ne_l2, ne_l3, ne_l4, ne_l5, ne_l8, ne_l12, ne_l31, ne_l48, ne_l57, ne_l97, ne_l99, ne_l122, ne_l255, ne_l673, ne_l1073741823, ne_l1073741824, f1, f2, ec, es, px, pm]
    exact ⟨_, _, _, rfl, rfl, hend⟩
  · simp (disch := omega) only [sm_lt, sm_b1s, sm_b2s, ↓reduceIte, sm_in_nI, nI_clamp, nI_add, pk_mul, pk_sub, ne_addneg, nI_l, ne_ltT, ne_ltF, ne_leT, ne_leF, ne_eqT, ne_eqF, ne_sI1s, ne_sI1n, ne_sI2, ne_sI3, ne_sL1, ne_sL2s, ne_sL2n, ne_sL3, pk_us, pk_un, pk_uLs, pk_uLn, mm_Z, mm_L, mm_1, mm_2, mm_3, ne_rz0, ne_rz1, not_true_eq_false, not_false_eq_true, ne_i0, ne_i1, ne_i2, ne_i3, ne_i4, ne_i5, ne_i6, ne_i7, ne_i8, ne_i9, ne_i10, ne_i12, ne_i14, ne_i16, ne_i18, ne_i19, ne_i20, ne_i23, ne_i24, ne_i27, ne_i29, ne_i30, ne_i31, ne_i32, ne_i35, ne_i48, ne_i52, ne_i54, ne_i57, ne_i59, ne_i63, ne_i64, ne_i76, ne_i77, ne_i78, ne_i79, ne_i80, ne_i81, ne_i97, ne_i99, ne_i100, ne_i101, ne_i104, ne_i105, ne_i108, ne_i110, ne_i111, ne_i116, ne_i117, ne_i122, ne_i103, ne_i200, ne_i255, ne_i256, ne_i320, ne_i384, ne_i1000, ne_l0, ne_l1, ne_l2, ne_l3, ne_l4, ne_l5, ne_l8, ne_l12, ne_l31, ne_l48, ne_l57, ne_l97, ne_l99, ne_l122, ne_l255, ne_l673, ne_l1073741823, ne_l1073741824, e1, e2, xq_bad, np_bad]
    exact ⟨_, _, _, rfl, rfl, R_bad hR⟩
end
