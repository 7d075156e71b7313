section
variable {N : Nat} {X S : sm_St} {a b v ik tx : Nat → Nat} {len : Nat}
def sp_b (c : Bool) : Nat := if c = true then 1 else 0
/-- are the places behind k different from it? the reference's side -/
theorem np_od {n m k i : Nat} {c : Bool} {v2 : Int32} {r : Int32 → Int32 → Int32 → sm_St → Option (Int32 × sm_St)} (hN : 4000 ≤ N) (hw : nw a S) (hn : a 76 = n) (h4 : n ≤ 4) (hk : k + 1 + i = n) (ho : ∀ j, k ≤ j → j < n → S.1 15 j = nI (od n m j)) : pm_layOrder_b43 N r N v2 (nI (sp_b c)) (nI k) (nI (k + 1)) S = r v2 (nI (sp_b (c && sp_od n m k i))) (nI k - nI 1) S := by
  have hc := np_cloths (N := N) hw
  rw [hn] at hc
  have z15 : (zm_sh 15).2 = 4 := rfl
  have st : pm_layOrder_b43 N r N v2 (nI (sp_b c)) (nI k) (nI (k + 1)) S = pm_layOrder_b43 N r N v2 (nI (sp_b (c && sp_od n m k 0))) (nI k) (nI (k + 1 + 0)) S := by
    rw [sp_od, Bool.and_true, Nat.add_zero]
  rw [st]
  refine ne_loop (fun f t (_ : Unit) => pm_layOrder_b43 N r f v2 (nI (sp_b (c && sp_od n m k t))) (nI k) (nI (k + 1 + t)) S) (fun _ _ => True) i (fun o => o = r v2 (nI (sp_b (c && sp_od n m k i))) (nI k - nI 1) S) ?_ ?_ N 0 () (by omega) (by omega) trivial
  · intro f t _ ht _
    left
    refine ⟨(), trivial, ?_⟩
    have o1 := ho k (Nat.le_refl _) (by omega)
    have o2 := ho (k + 1 + t) (by omega) (by omega)
    have l1 := od_lt (n := n) (m := m) (i := k) (by omega)
    have l2 := od_lt (n := n) (m := m) (i := k + 1 + t) (by omega)
    show pm_layOrder_b43 N r (f + 1) _ _ _ _ _ = pm_layOrder_b43 N r f _ _ _ _ _
    rw [pm_layOrder_b43, sp_od, ← Bool.and_assoc, ← Nat.add_assoc (k + 1) t 1]
    unfold pm_layOrder_b77 pm_layOrder_b78
    generalize (c && sp_od n m k t) = z
    cases z with
    | false =>
      have e : sp_b (false && !decide (od n m (k + 1 + t) = od n m k)) = 0 := rfl
      have e' : sp_b false = 0 := rfl
      rw [e, e']
      simp (disch := omega) only [sm_lt, sm_b1s, sm_b2s, ↓reduceIte, sm_in_nI, nI_clamp, nI_add, pk_mul, pk_sub, ne_addneg, nI_l, ne_ltT, ne_ltF, ne_leT, ne_leF, ne_eqT, ne_eqF, ne_sI1s, ne_sI1n, ne_sI2, ne_sI3, ne_sL1, ne_sL2s, ne_sL2n, ne_sL3, pk_us, pk_un, pk_uLs, pk_uLn, mm_Z, mm_L, mm_1, mm_2, mm_3, ne_rz0, ne_rz1, not_true_eq_false, not_false_eq_true, ne_i0, ne_i1, ne_i2, ne_i3, ne_i4, ne_i5, ne_i6, ne_i7, ne_i8, ne_i9, ne_i10, ne_i12, ne_i14, ne_i16, ne_i18, ne_i19, ne_i20, ne_i23, ne_i24, ne_i27, ne_i29, ne_i30, ne_i31, ne_i32, ne_i35, ne_i48, ne_i52, ne_i54, ne_i57, ne_i59, ne_i63, ne_i64, ne_i76, ne_i77, ne_i78, ne_i79, ne_i80, ne_i81, ne_i97, ne_i99, ne_i100, ne_i101, ne_i104, ne_i105, ne_i108, ne_i110, ne_i111, ne_i116, ne_i117, ne_i122, ne_i103, ne_i200, ne_i255, ne_i256, ne_i320, ne_i384, ne_i1000, ne_l0, ne_l1, ne_l2, ne_l3, ne_l4, ne_l5, ne_l8, ne_l12, ne_l31, ne_l48, ne_l57, ne_l97, ne_l99, ne_l122, ne_l255, ne_l673, ne_l1073741823, ne_l1073741824, hc]
    | true =>
      have e' : sp_b true = 1 := rfl
      rw [Bool.true_and, e']
      by_cases q : od n m (k + 1 + t) = od n m k
      · have e : sp_b (!decide (od n m (k + 1 + t) = od n m k)) = 0 := by rw [decide_eq_true q]; rfl
        rw [e]
        simp (disch := omega) only [sm_lt, sm_b1s, sm_b2s, ↓reduceIte, sm_in_nI, nI_clamp, nI_add, pk_mul, pk_sub, ne_addneg, nI_l, ne_ltT, ne_ltF, ne_leT, ne_leF, ne_eqT, ne_eqF, ne_sI1s, ne_sI1n, ne_sI2, ne_sI3, ne_sL1, ne_sL2s, ne_sL2n, ne_sL3, pk_us, pk_un, pk_uLs, pk_uLn, mm_Z, mm_L, mm_1, mm_2, mm_3, ne_rz0, ne_rz1, not_true_eq_false, not_false_eq_true, ne_i0, ne_i1, ne_i2, ne_i3, ne_i4, ne_i5, ne_i6, ne_i7, ne_i8, ne_i9, ne_i10, ne_i12, ne_i14, ne_i16, ne_i18, ne_i19, ne_i20, ne_i23, ne_i24, ne_i27, ne_i29, ne_i30, ne_i31, ne_i32, ne_i35, ne_i48, ne_i52, ne_i54, ne_i57, ne_i59, ne_i63, ne_i64, ne_i76, ne_i77, ne_i78, ne_i79, ne_i80, ne_i81, ne_i97, ne_i99, ne_i100, ne_i101, ne_i104, ne_i105, ne_i108, ne_i110, ne_i111, ne_i116, ne_i117, ne_i122, ne_i103, ne_i200, ne_i255, ne_i256, ne_i320, ne_i384, ne_i1000, ne_l0, ne_l1, ne_l2, ne_l3, ne_l4, ne_l5, ne_l8, ne_l12, ne_l31, ne_l48, ne_l57, ne_l97, ne_l99, ne_l122, ne_l255, ne_l673, ne_l1073741823, ne_l1073741824, hc, o1, o2, q]
      · have e : sp_b (!decide (od n m (k + 1 + t) = od n m k)) = 1 := by rw [decide_eq_false q]; rfl
        rw [e]
        simp (disch := omega) only [sm_lt, sm_b1s, sm_b2s, ↓reduceIte, sm_in_nI, nI_clamp, nI_add, pk_mul, pk_sub, ne_addneg, nI_l, ne_ltT, ne_ltF, ne_leT, ne_leF, ne_eqT, ne_eqF, ne_sI1s, ne_sI1n, ne_sI2, ne_sI3, ne_sL1, ne_sL2s, ne_sL2n, ne_sL3, pk_us, pk_un, pk_uLs, pk_uLn, mm_Z, mm_L, mm_1, mm_2, mm_3, ne_rz0, ne_rz1, not_true_eq_false, not_false_eq_true, ne_i0, ne_i1, ne_i2, ne_i3, ne_i4, ne_i5, ne_i6, ne_i7, ne_i8, ne_i9, ne_i10, ne_i12, ne_i14, ne_i16, ne_i18, ne_i19, ne_i20, ne_i23, ne_i24, ne_i27, ne_i29, ne_i30, ne_i31, ne_i32, ne_i35, ne_i48, ne_i52, ne_i54, ne_i57, ne_i59, ne_i63, ne_i64, ne_i76, ne_i77, ne_i78, ne_i79, ne_i80, ne_i81, ne_i97, ne_i99, ne_i100, ne_i101, ne_i104, ne_i105, ne_i108, ne_i110, ne_i111, ne_i116, ne_i117, ne_i122, ne_i103, ne_i200, ne_i255, ne_i256, ne_i320, ne_i384, ne_i1000, ne_l0, ne_l1, ne_l2, ne_l3, ne_l4, ne_l5, ne_l8, ne_l12, ne_l31, ne_l48, ne_l57, ne_l97, ne_l99, ne_l122, ne_l255, ne_l673, ne_l1073741823, ne_l1073741824, hc, o1, o2]
  · intro f _ _
    show pm_layOrder_b43 N r (f + 1) _ _ _ _ _ = _
    have e2 : nI k + -nI 1 = nI k - nI 1 := by rw [Int32.sub_eq_add_neg]
    rw [pm_layOrder_b43]
    simp (disch := omega) only [sm_lt, sm_b1s, sm_b2s, ↓reduceIte, sm_in_nI, nI_clamp, nI_add, pk_mul, pk_sub, ne_addneg, nI_l, ne_ltT, ne_ltF, ne_leT, ne_leF, ne_eqT, ne_eqF, ne_sI1s, ne_sI1n, ne_sI2, ne_sI3, ne_sL1, ne_sL2s, ne_sL2n, ne_sL3, pk_us, pk_un, pk_uLs, pk_uLn, mm_Z, mm_L, mm_1, mm_2, mm_3, ne_rz0, ne_rz1, not_true_eq_false, not_false_eq_true, ne_i0, ne_i1, ne_i2, ne_i3, ne_i4, ne_i5, ne_i6, ne_i7, ne_i8, ne_i9, ne_i10, ne_i12, ne_i14, ne_i16, ne_i18, ne_i19, ne_i20, ne_i23, ne_i24, ne_i27, ne_i29, ne_i30, ne_i31, ne_i32, ne_i35, ne_i48, ne_i52, ne_i54, ne_i57, ne_i59, ne_i63, ne_i64, ne_i76, ne_i77, ne_i78, ne_i79, ne_i80, ne_i81, ne_i97, ne_i99, ne_i100, ne_i101, ne_i104, ne_i105, ne_i108, ne_i110, ne_i111, ne_i116, ne_i117, ne_i122, ne_i103, ne_i200, ne_i255, ne_i256, ne_i320, ne_i384, ne_i1000, ne_l0, ne_l1, ne_l2, ne_l3, ne_l4, ne_l5, ne_l8, ne_l12, ne_l31, ne_l48, ne_l57, ne_l97, ne_l99, ne_l122, ne_l255, ne_l673, ne_l1073741823, ne_l1073741824, hc, e2]
theorem np_layO {M : sm_St} {w : Nat → Nat} {n m : Nat} (hN : 4000 ≤ N) (hW : nW M v w S) (hw : nw a M) (hn : a 76 = n) (h4 : n ≤ 4) (hm : m < n ^ n) : ∃ M' S', pm_layOrder N S (nI m) = some (nI (sp_b (sp_oo n m n)), S') ∧ nW M' v w S' ∧ (∀ i, i < n → M'.1 15 i = nI (od n m i)) ∧ ∀ p, p ≠ 15 → M'.1 p = M.1 p := by
  have hpw := od_pw n (by omega)
  have z15 : (zm_sh 15).2 = 4 := rfl
  have hc := np_cloths (N := N) (nW_nw hW hw)
  rw [hn] at hc
  unfold pm_layOrder
  rw [hc]
  simp only [sm_lt, sm_b2s]
  have st : pm_layOrder_b12 N N (nI m) (1 : Int32) (nI n - (1 : Int32)) S = pm_layOrder_b12 N N (nI (m / n ^ 0)) (nI (sp_b (sp_oo n m 0))) (nI (n - 0) - nI 1) S := by
    rw [Nat.pow_zero, Nat.div_one, Nat.sub_zero]
    rfl
  rw [st]
  refine ne_loop (fun f i (s : sm_St × sm_St) => pm_layOrder_b12 N f (nI (m / n ^ i)) (nI (sp_b (sp_oo n m i))) (nI (n - i) - nI 1) s.2) (fun i s => nW s.1 v w s.2 ∧ (∀ j, n - i ≤ j → j < n → s.1.1 15 j = nI (od n m j)) ∧ ∀ p, p ≠ 15 → s.1.1 p = M.1 p) n (fun o => ∃ M' S', o = some (nI (sp_b (sp_oo n m n)), S') ∧ nW M' v w S' ∧ (∀ i, i < n → M'.1 15 i = nI (od n m i)) ∧ ∀ p, p ≠ 15 → M'.1 p = M.1 p) ?_ ?_ N 0 (M, S) (by omega) (by omega) ⟨hW, fun j h1 h2 => by omega, fun p _ => rfl⟩
  · rintro f i ⟨M1, S1⟩ hi ⟨i1, i2, i3⟩
    simp only at i1 i2 i3
    left
    have h0 : 0 < n := by omega
    have hmi : m / n ^ i < 256 := Nat.lt_of_le_of_lt (Nat.div_le_self _ _) (by omega)
    obtain ⟨d1, d2, d3⟩ := od_dv n (by omega) h0 _ hmi
    rw [od_at hi] at d2
    rw [od_st] at d1
    rw [d1, pk_mul] at d2
    have ol := od_lt (m := m) (i := n - 1 - i) h0
    have hw1 : nw a M1 := fun k hk => by rw [i3 1 (by decide)]; exact hw k hk
    have hc1 := np_cloths (N := N) (nW_nw i1 hw1)
    rw [hn] at hc1
    have hW2 : nW (sm_sI M1 15 (n - 1 - i) (nI (od n m (n - 1 - i)))) v w (sm_sI S1 15 (n - 1 - i) (nI (od n m (n - 1 - i)))) := nW_sI i1 (by decide)
    have hw2 : nw a (sm_sI M1 15 (n - 1 - i) (nI (od n m (n - 1 - i)))) := fun k hk => by rw [ne_sI1n (by decide)]; exact hw1 k hk
    have hc2 := np_cloths (N := N) (nW_nw hW2 hw2)
    rw [hn] at hc2
    have j2 : ∀ j, n - (i + 1) ≤ j → j < n → (sm_sI M1 15 (n - 1 - i) (nI (od n m (n - 1 - i)))).1 15 j = nI (od n m j) := fun j h1 h2 => by
      rw [ne_sI1s]
      by_cases e : j = n - 1 - i
      · subst e
        exact pk_us
      · rw [pk_un e]
        exact i2 j (by omega) h2
    have hod := np_od (N := N) (m := m) (k := n - 1 - i) (i := i) (c := sp_oo n m i) (v2 := nI (m / n ^ (i + 1))) (r := pm_layOrder_b12 N f) hN (nW_nw hW2 hw2) hn h4 (by omega) (fun j h1 h2 => by rw [nW_1 hW2 (by decide)]; exact j2 j (by omega) h2)
    refine ⟨(sm_sI M1 15 (n - 1 - i) (nI (od n m (n - 1 - i))), sm_sI S1 15 (n - 1 - i) (nI (od n m (n - 1 - i)))), ⟨hW2, j2, fun p hp => by rw [ne_sI1n hp]; exact i3 p hp⟩, ?_⟩
    show pm_layOrder_b12 N (f + 1) _ _ _ _ = pm_layOrder_b12 N f _ _ _ _
    have e1 : nI (n - i) - nI 1 = nI (n - 1 - i) := by
      rw [Int32.sub_eq_add_neg, ne_addneg (by omega), show n - i - 1 = n - 1 - i by omega]
    have e2 : nI (n - 1 - i) - nI 1 = nI (n - (i + 1)) - nI 1 := by
      rw [show n - (i + 1) = n - 1 - i by omega]
    rw [pm_layOrder_b12, e1, sp_oo, ← e2, ← hod]
    have n0 : ¬ (nI (n - 1 - i) < 0) := by
      have : (nI (n - 1 - i) < nI 0) = False := ne_ltF (by omega) (by omega)
      exact of_eq_false this
    have n1 : ¬ (nI n = 0) := by
      have : (nI n = nI 0) = False := ne_eqF (by omega) (by omega) (by decide)
      exact of_eq_false this
    rw [if_neg n0, hc1, sm_b2s, if_neg n1]
    simp (disch := omega) only [sm_lt, sm_b1s, sm_b2s, ↓reduceIte, sm_in_nI, nI_clamp, nI_add, pk_mul, pk_sub, ne_addneg, nI_l, ne_ltT, ne_ltF, ne_leT, ne_leF, ne_eqT, ne_eqF, ne_sI1s, ne_sI1n, ne_sI2, ne_sI3, ne_sL1, ne_sL2s, ne_sL2n, ne_sL3, pk_us, pk_un, pk_uLs, pk_uLn, mm_Z, mm_L, mm_1, mm_2, mm_3, ne_rz0, ne_rz1, not_true_eq_false, not_false_eq_true, ne_i0, ne_i1, ne_i2, ne_i3, ne_i4, ne_i5, ne_i6, ne_i7, ne_i8, ne_i9, ne_i10, ne_i12, ne_i14, ne_i16, ne_i18, ne_i19, ne_i20, ne_i23, ne_i24, ne_i27, ne_i29, ne_i30, ne_i31, ne_i32, ne_i35, ne_i48, ne_i52, ne_i54, ne_i57, ne_i59, ne_i63, ne_i64, ne_i76, ne_i77, ne_i78, ne_i79, ne_i80, ne_i81, ne_i97, ne_i99, ne_i100, ne_i101, ne_i104, ne_i105, ne_i108, ne_i110, ne_i111, ne_i116, ne_i117, ne_i122, ne_i103, ne_i200, ne_i255, ne_i256, ne_i320, ne_i384, ne_i1000, ne_l0, ne_l1, ne_l2, ne_l3, ne_l4, ne_l5, ne_l8, ne_l12, ne_l31, ne_l48, ne_l57, ne_l97, ne_l99, ne_l122, ne_l255, ne_l673, ne_l1073741823, ne_l1073741824, z15, zm_sh, d2, d1, hc2, n1]
  · rintro f ⟨M1, S1⟩ ⟨i1, i2, i3⟩
    simp only at i1 i2 i3
    dsimp only
    have e1 : nI (n - n) - nI 1 = -nI 1 := by
      rw [Nat.sub_self]
      decide
    rw [pm_layOrder_b12, e1]
    have n0 : -nI 1 < (0 : Int32) := by decide
    rw [if_pos n0]
    refine ⟨M1, S1, ?_, i1, fun i hi => i2 i (by omega) hi, i3⟩
    cases sp_oo n m n <;> unfold sp_b <;> simp (disch := omega) only [sm_lt, sm_b1s, sm_b2s, ↓reduceIte, sm_in_nI, nI_clamp, nI_add, pk_mul, pk_sub, ne_addneg, nI_l, ne_ltT, ne_ltF, ne_leT, ne_leF, ne_eqT, ne_eqF, ne_sI1s, ne_sI1n, ne_sI2, ne_sI3, ne_sL1, ne_sL2s, ne_sL2n, ne_sL3, pk_us, pk_un, pk_uLs, pk_uLn, mm_Z, mm_L, mm_1, mm_2, mm_3, ne_rz0, ne_rz1, not_true_eq_false, not_false_eq_true, ne_i0, ne_i1, ne_i2, ne_i3, ne_i4, ne_i5, ne_i6, ne_i7, ne_i8, ne_i9, ne_i10, ne_i12, ne_i14, ne_i16, ne_i18, ne_i19, ne_i20, ne_i23, ne_i24, ne_i27, ne_i29, ne_i30, ne_i31, ne_i32, ne_i35, ne_i48, ne_i52, ne_i54, ne_i57, ne_i59, ne_i63, ne_i64, ne_i76, ne_i77, ne_i78, ne_i79, ne_i80, ne_i81, ne_i97, ne_i99, ne_i100, ne_i101, ne_i104, ne_i105, ne_i108, ne_i110, ne_i111, ne_i116, ne_i117, ne_i122, ne_i103, ne_i200, ne_i255, ne_i256, ne_i320, ne_i384, ne_i1000, ne_l0, ne_l1, ne_l2, ne_l3, ne_l4, ne_l5, ne_l8, ne_l12, ne_l31, ne_l48, ne_l57, ne_l97, ne_l99, ne_l122, ne_l255, ne_l673, ne_l1073741823, ne_l1073741824, Bool.false_eq_true]
end
