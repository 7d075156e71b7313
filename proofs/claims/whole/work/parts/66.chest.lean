section
variable {N : Nat} {X S : sm_St} {a b v ik tx : Nat → Nat} {len : Nat}
/-- the order with the number m comes out well -/
def sp_gd (a v : Nat → Nat) (m : Nat) : Bool := sp_oo (a 76) m (a 76) && sp_ft a (sp_ns a (sp_hc (od (a 76) m) (a 76 - 1)) (ac_ a) (wn v) 1) (a 76)
def sp_cn (a v : Nat → Nat) : Nat → Nat
  | 0 => 0
  | m + 1 => if sp_gd a v m = true then sp_cn a v m + 1 else sp_cn a v m
def sp_f1 (a v : Nat → Nat) : Nat → Nat
  | 0 => 0
  | m + 1 => if sp_gd a v m = true ∧ sp_cn a v m = 0 then m else sp_f1 a v m
theorem sp_cn_le {a v : Nat → Nat} : ∀ m, sp_cn a v m ≤ m
  | 0 => Nat.le_refl _
  | m + 1 => by
    have := sp_cn_le (a := a) (v := v) m
    rw [sp_cn]
    split <;> omega
def sp_1t (a v : Nat → Nat) (m : Nat) (g : Nat → Int32) : Prop := 0 < sp_cn a v m → ∀ i, i < a 76 → g i = nI (od (a 76) (sp_f1 a v m) i)
theorem sp_1_no {m : Nat} {g : Nat → Int32} (h : sp_1t a v m g) (q : sp_gd a v m = false) : sp_1t a v (m + 1) g ∧ sp_cn a v (m + 1) = sp_cn a v m := by
  have e : sp_cn a v (m + 1) = sp_cn a v m := by rw [sp_cn, if_neg (by rw [q]; simp)]
  have e2 : sp_f1 a v (m + 1) = sp_f1 a v m := by rw [sp_f1, if_neg (by rw [q]; simp)]
  refine ⟨?_, e⟩
  unfold sp_1t
  rw [e, e2]
  exact h
theorem sp_1_up {m : Nat} {g : Nat → Int32} (h : sp_1t a v m g) (q : sp_gd a v m = true) (h0 : sp_cn a v m ≠ 0) : sp_1t a v (m + 1) g ∧ sp_cn a v (m + 1) = sp_cn a v m + 1 := by
  have e : sp_cn a v (m + 1) = sp_cn a v m + 1 := by rw [sp_cn, if_pos q]
  have e2 : sp_f1 a v (m + 1) = sp_f1 a v m := by rw [sp_f1, if_neg (fun z => h0 z.2)]
  refine ⟨?_, e⟩
  unfold sp_1t
  rw [e2]
  exact fun _ => h (by omega)
theorem sp_1_st {m : Nat} {g : Nat → Int32} (q : sp_gd a v m = true) (h0 : sp_cn a v m = 0) (h : ∀ i, i < a 76 → g i = nI (od (a 76) m i)) : sp_1t a v (m + 1) g ∧ sp_cn a v (m + 1) = sp_cn a v m + 1 := by
  have e : sp_cn a v (m + 1) = sp_cn a v m + 1 := by rw [sp_cn, if_pos q]
  have e2 : sp_f1 a v (m + 1) = m := by rw [sp_f1, if_pos ⟨q, h0⟩]
  refine ⟨?_, e⟩
  unfold sp_1t
  rw [e2]
  exact fun _ => h
/-- how many orders come out well, the built side -/
theorem xq_count (hN : 4000 ≤ N) (hok : sp_ok a) (hx0 : xhd X a (at_ a) (ac_ a) 7 6) (hnow : xsh X 12 (a 76) (wn v)) (hwv : wv1 a (wn v) (a 78)) (hlm : ∀ c, c < a 76 → X.1 4 c = nI (a (4 * c + 2)) ∧ X.1 5 c = nI (a (4 * c + 3))) : ∃ X', px_Chest_countOrders N X 1 = some (nI (sp_cn a v (a 76 ^ a 76)), X') ∧ sp_1t a v (a 76 ^ a 76) (X'.1 145) ∧ (∀ p, p < 110 ∨ 146 ≤ p → X'.1 p = X.1 p) ∧ X'.2.2 = X.2.2 := by
  have o1 := hok.1
  have c9 : X.1 1 9 = nI (a 76) := hx0.1
  have hpw := od_pw (a 76) (by omega)
  have z144 : (zx_sh 144).2 = 4 := rfl
  have z145 : (zx_sh 145).2 = 4 := rfl
  -- the codes
  have p2 : px_Chest_countOrders_b33 N 1 N (nI (a 76 ^ a 76)) (nI 0) (nI 0) X = px_Chest_countOrders_b33 N 1 N (nI (a 76 ^ a 76)) (nI (sp_cn a v 0)) (nI 0) X := rfl
  have p1 : ∃ X', px_Chest_countOrders_b33 N 1 N (nI (a 76 ^ a 76)) (nI 0) (nI 0) X = some (nI (sp_cn a v (a 76 ^ a 76)), X') ∧ sp_1t a v (a 76 ^ a 76) (X'.1 145) ∧ (∀ p, p < 110 ∨ 146 ≤ p → X'.1 p = X.1 p) ∧ X'.2.2 = X.2.2 := by
    rw [p2]
    refine ne_loop (fun f m (s : sm_St) => px_Chest_countOrders_b33 N 1 f (nI (a 76 ^ a 76)) (nI (sp_cn a v m)) (nI m) s) (fun m s => sp_1t a v m (s.1 145) ∧ (∀ p, p < 110 ∨ 146 ≤ p → s.1 p = X.1 p) ∧ s.2.2 = X.2.2) (a 76 ^ a 76) (fun r => ∃ X', r = some (nI (sp_cn a v (a 76 ^ a 76)), X') ∧ sp_1t a v (a 76 ^ a 76) (X'.1 145) ∧ (∀ p, p < 110 ∨ 146 ≤ p → X'.1 p = X.1 p) ∧ X'.2.2 = X.2.2) ?_ ?_ N 0 X (by omega) (by omega) ⟨fun h => absurd h (Nat.lt_irrefl 0), fun p _ => rfl, rfl⟩
    · rintro f m s hm ⟨i1, i2, i3⟩
      left
      have s9 : s.1 1 9 = nI (a 76) := by rw [i2 1 (by decide)]; exact c9
      have hcl := sp_cn_le (a := a) (v := v) m
      obtain ⟨s1, e1, g1, g2, g3⟩ := xq_lay (N := N) (X := s) hN o1 hm
      have f1 : ∀ p, p < 110 → s1.1 p = X.1 p := fun p hp => by rw [g2 p (by omega)]; exact i2 p (by omega)
      have g145 : s1.1 145 = s.1 145 := g2 145 (by decide)
      show ∃ s', _ ∧ px_Chest_countOrders_b33 N 1 (f + 1) _ _ _ _ = px_Chest_countOrders_b33 N 1 f _ _ _ _
      have l1 : ¬ (nI (a 76 ^ a 76) ≤ nI m) := of_eq_false (ne_leF hm (by omega))
      rw [px_Chest_countOrders_b33, if_neg l1, s9, e1, sm_b2s]
      unfold px_Chest_countOrders_b83 px_Chest_countOrders_b80
      cases hoo : sp_oo (a 76) m (a 76) with
      | false =>
        have hg : sp_gd a v m = false := by unfold sp_gd; rw [hoo]; rfl
        obtain ⟨y1, y2⟩ := sp_1_no i1 hg
        refine ⟨s1, ⟨by rw [g145]; exact y1, fun p hp => by rw [g2 p (by omega)]; exact i2 p hp, by rw [g3]; exact i3⟩, ?_⟩
        rw [y2]
        simp (disch := omega) only [sm_lt, sm_b1s, sm_b2s, ↓reduceIte, sm_in_nI, nI_clamp, nI_add, pk_mul, pk_sub, ne_addneg, nI_l, ne_ltT, ne_ltF, ne_leT, ne_leF, ne_eqT, ne_eqF, ne_sI1s, ne_sI1n, ne_sI2, ne_sI3, ne_sL1, ne_sL2s, ne_sL2n, ne_sL3, pk_us, pk_un, pk_uLs, pk_uLn, mm_Z, mm_L, mm_1, mm_2, mm_3, ne_rz0, ne_rz1, not_true_eq_false, not_false_eq_true, ne_i0, ne_i1, ne_i2, ne_i3, ne_i4, ne_i5, ne_i6, ne_i7, ne_i8, ne_i9, ne_i10, ne_i12, ne_i14, ne_i16, ne_i18, ne_i19, ne_i20, ne_i23, ne_i24, ne_i27, ne_i29, ne_i30, ne_i31, ne_i32, ne_i35, ne_i48, ne_i52, ne_i54, ne_i57, ne_i59, ne_i63, ne_i64, ne_i76, ne_i77, ne_i78, ne_i79, ne_i80, ne_i81, ne_i97, ne_i99, ne_i100, ne_i101, ne_i104, ne_i105, ne_i108, ne_i110, ne_i111, ne_i116, ne_i117, ne_i122, ne_i103, ne_i200, ne_i255, ne_i256, ne_i320, ne_i384, ne_i1000, ne_l0, ne_l1, ne_l2, ne_l3, ne_l4, ne_l5, ne_l8, ne_l12, ne_l31, ne_l48, ne_l57, ne_l97, ne_l99, ne_l122, ne_l255, ne_l673, ne_l1073741823, ne_l1073741824, Bool.false_eq_true]
      | true =>
        have hx1 : xhd s1 a (at_ a) (ac_ a) 7 6 := by
          obtain ⟨k1, k2, k3, k4, k5⟩ := hx0
          refine ⟨by rw [f1 1 (by decide)]; exact k1, by rw [f1 1 (by decide)]; exact k2, fun i hi => ?_, fun i x hi hx => by rw [f1 (7 + 1 + i) (by omega)]; exact k4 i x hi hx, fun x hx => by rw [f1 6 (by decide)]; exact k5 x hx⟩
          rw [f1 2 (by decide), f1 3 (by decide)]
          exact k3 i hi
        obtain ⟨s2, e2, j1, j2⟩ := xq_fits (N := N) (X := s1) (o := od (a 76) m) hN hok hx1 (xsh_fr (f1 12 (by decide)) (f1 13 (by decide)) hnow) hwv (fun c hc => by rw [f1 4 (by decide), f1 5 (by decide)]; exact hlm c hc) (fun i hi => ⟨od_lt (by omega), g1 i hi⟩)
        have j145 : s2.1 145 = s.1 145 := by rw [j1 145 (by decide)]; exact g145
        have fr : ∀ p, p < 110 ∨ 146 ≤ p → s2.1 p = X.1 p := fun p hp => by rw [j1 p (by omega), g2 p (by omega)]; exact i2 p hp
        have fr3 : s2.2.2 = X.2.2 := by rw [j2, g3]; exact i3
        cases hft : sp_ft a (sp_ns a (sp_hc (od (a 76) m) (a 76 - 1)) (ac_ a) (wn v) 1) (a 76) with
        | false =>
          have hg : sp_gd a v m = false := by unfold sp_gd; rw [hoo, hft]; rfl
          obtain ⟨y1, y2⟩ := sp_1_no i1 hg
          rw [hft] at e2
          have e0 : sp_b false = 0 := rfl
          rw [e0] at e2
          refine ⟨s2, ⟨by rw [j145]; exact y1, fr, fr3⟩, ?_⟩
          rw [y2]
          simp (disch := omega) only [sm_lt, sm_b1s, sm_b2s, ↓reduceIte, sm_in_nI, nI_clamp, nI_add, pk_mul, pk_sub, ne_addneg, nI_l, ne_ltT, ne_ltF, ne_leT, ne_leF, ne_eqT, ne_eqF, ne_sI1s, ne_sI1n, ne_sI2, ne_sI3, ne_sL1, ne_sL2s, ne_sL2n, ne_sL3, pk_us, pk_un, pk_uLs, pk_uLn, mm_Z, mm_L, mm_1, mm_2, mm_3, ne_rz0, ne_rz1, not_true_eq_false, not_false_eq_true, ne_i0, ne_i1, ne_i2, ne_i3, ne_i4, ne_i5, ne_i6, ne_i7, ne_i8, ne_i9, ne_i10, ne_i12, ne_i14, ne_i16, ne_i18, ne_i19, ne_i20, ne_i23, ne_i24, ne_i27, ne_i29, ne_i30, ne_i31, ne_i32, ne_i35, ne_i48, ne_i52, ne_i54, ne_i57, ne_i59, ne_i63, ne_i64, ne_i76, ne_i77, ne_i78, ne_i79, ne_i80, ne_i81, ne_i97, ne_i99, ne_i100, ne_i101, ne_i104, ne_i105, ne_i108, ne_i110, ne_i111, ne_i116, ne_i117, ne_i122, ne_i103, ne_i200, ne_i255, ne_i256, ne_i320, ne_i384, ne_i1000, ne_l0, ne_l1, ne_l2, ne_l3, ne_l4, ne_l5, ne_l8, ne_l12, ne_l31, ne_l48, ne_l57, ne_l97, ne_l99, ne_l122, ne_l255, ne_l673, ne_l1073741823, ne_l1073741824, e2]
        | true =>
          have hg : sp_gd a v m = true := by unfold sp_gd; rw [hoo, hft]; rfl
          rw [hft] at e2
          have e0 : sp_b true = 1 := rfl
          rw [e0] at e2
          by_cases h0 : sp_cn a v m = 0
          · obtain ⟨y1, y2⟩ := sp_1_st (v := v) (g := va_cpy (s2.1 144) (s2.1 145) 0 0 4) hg h0 (fun i hi => by rw [pk_cpy_in (by omega) (by omega), Nat.zero_add, Nat.sub_zero, j1 144 (by decide)]; exact g1 i hi)
            refine ⟨sm_sF s2 145 (va_cpy (s2.1 144) (s2.1 145) 0 0 4), ⟨by rw [sF_s]; exact y1, fun p hp => by rw [sF_n (by omega)]; exact fr p hp, fr3⟩, ?_⟩
            rw [y2, h0]
            simp (disch := omega) only [sm_lt, sm_b1s, sm_b2s, ↓reduceIte, sm_in_nI, nI_clamp, nI_add, pk_mul, pk_sub, ne_addneg, nI_l, ne_ltT, ne_ltF, ne_leT, ne_leF, ne_eqT, ne_eqF, ne_sI1s, ne_sI1n, ne_sI2, ne_sI3, ne_sL1, ne_sL2s, ne_sL2n, ne_sL3, pk_us, pk_un, pk_uLs, pk_uLn, mm_Z, mm_L, mm_1, mm_2, mm_3, ne_rz0, ne_rz1, not_true_eq_false, not_false_eq_true, ne_i0, ne_i1, ne_i2, ne_i3, ne_i4, ne_i5, ne_i6, ne_i7, ne_i8, ne_i9, ne_i10, ne_i12, ne_i14, ne_i16, ne_i18, ne_i19, ne_i20, ne_i23, ne_i24, ne_i27, ne_i29, ne_i30, ne_i31, ne_i32, ne_i35, ne_i48, ne_i52, ne_i54, ne_i57, ne_i59, ne_i63, ne_i64, ne_i76, ne_i77, ne_i78, ne_i79, ne_i80, ne_i81, ne_i97, ne_i99, ne_i100, ne_i101, ne_i104, ne_i105, ne_i108, ne_i110, ne_i111, ne_i116, ne_i117, ne_i122, ne_i103, ne_i200, ne_i255, ne_i256, ne_i320, ne_i384, ne_i1000, ne_l0, ne_l1, ne_l2, ne_l3, ne_l4, ne_l5, ne_l8, ne_l12, ne_l31, ne_l48, ne_l57, ne_l97, ne_l99, ne_l122, ne_l255, ne_l673, ne_l1073741823, ne_l1073741824, e2, ne_cpk 4 (Or.inl rfl)]
          · obtain ⟨y1, y2⟩ := sp_1_up i1 hg h0
            refine ⟨s2, ⟨by rw [j145]; exact y1, fr, fr3⟩, ?_⟩
            rw [y2]
            simp (disch := omega) only [sm_lt, sm_b1s, sm_b2s, ↓reduceIte, sm_in_nI, nI_clamp, nI_add, pk_mul, pk_sub, ne_addneg, nI_l, ne_ltT, ne_ltF, ne_leT, ne_leF, ne_eqT, ne_eqF, ne_sI1s, ne_sI1n, ne_sI2, ne_sI3, ne_sL1, ne_sL2s, ne_sL2n, ne_sL3, pk_us, pk_un, pk_uLs, pk_uLn, mm_Z, mm_L, mm_1, mm_2, mm_3, ne_rz0, ne_rz1, not_true_eq_false, not_false_eq_true, ne_i0, ne_i1, ne_i2, ne_i3, ne_i4, ne_i5, ne_i6, ne_i7, ne_i8, ne_i9, ne_i10, ne_i12, ne_i14, ne_i16, ne_i18, ne_i19, ne_i20, ne_i23, ne_i24, ne_i27, ne_i29, ne_i30, ne_i31, ne_i32, ne_i35, ne_i48, ne_i52, ne_i54, ne_i57, ne_i59, ne_i63, ne_i64, ne_i76, ne_i77, ne_i78, ne_i79, ne_i80, ne_i81, ne_i97, ne_i99, ne_i100, ne_i101, ne_i104, ne_i105, ne_i108, ne_i110, ne_i111, ne_i116, ne_i117, ne_i122, ne_i103, ne_i200, ne_i255, ne_i256, ne_i320, ne_i384, ne_i1000, ne_l0, ne_l1, ne_l2, ne_l3, ne_l4, ne_l5, ne_l8, ne_l12, ne_l31, ne_l48, ne_l57, ne_l97, ne_l99, ne_l122, ne_l255, ne_l673, ne_l1073741823, ne_l1073741824, e2, ne_cpk 4 (Or.inl rfl)]
    · rintro f s ⟨i1, i2, i3⟩
      show ∃ X', px_Chest_countOrders_b33 N 1 (f + 1) _ _ _ _ = _ ∧ _
      have l1 : nI (a 76 ^ a 76) ≤ nI (a 76 ^ a 76) := of_eq_true (ne_leT (Nat.le_refl _) (by omega))
      rw [px_Chest_countOrders_b33, if_pos l1]
      exact ⟨s, rfl, i1, i2, i3⟩
  obtain ⟨X', e, h⟩ := p1
  refine ⟨X', ?_, h⟩
  unfold px_Chest_countOrders
  simp only [sm_lt]
  have st : px_Chest_countOrders_b5 N 1 N (1 : Int32) (0 : Int32) X = px_Chest_countOrders_b5 N 1 N (nI (a 76 ^ 0)) (nI 0) X := rfl
  rw [st]
  refine ne_loop (fun f i (_ : Unit) => px_Chest_countOrders_b5 N 1 f (nI (a 76 ^ i)) (nI i) X) (fun _ _ => True) (a 76) (fun r => r = some (nI (sp_cn a v (a 76 ^ a 76)), X')) ?_ ?_ N 0 () (by omega) (by omega) trivial
  · intro f i _ hi _
    left
    refine ⟨(), trivial, ?_⟩
    show px_Chest_countOrders_b5 N 1 (f + 1) _ _ _ = px_Chest_countOrders_b5 N 1 f _ _ _
    rw [px_Chest_countOrders_b5, Nat.pow_succ]
    simp (disch := omega) only [sm_lt, sm_b1s, sm_b2s, ↓reduceIte, sm_in_nI, nI_clamp, nI_add, pk_mul, pk_sub, ne_addneg, nI_l, ne_ltT, ne_ltF, ne_leT, ne_leF, ne_eqT, ne_eqF, ne_sI1s, ne_sI1n, ne_sI2, ne_sI3, ne_sL1, ne_sL2s, ne_sL2n, ne_sL3, pk_us, pk_un, pk_uLs, pk_uLn, mm_Z, mm_L, mm_1, mm_2, mm_3, ne_rz0, ne_rz1, not_true_eq_false, not_false_eq_true, ne_i0, ne_i1, ne_i2, ne_i3, ne_i4, ne_i5, ne_i6, ne_i7, ne_i8, ne_i9, ne_i10, ne_i12, ne_i14, ne_i16, ne_i18, ne_i19, ne_i20, ne_i23, ne_i24, ne_i27, ne_i29, ne_i30, ne_i31, ne_i32, ne_i35, ne_i48, ne_i52, ne_i54, ne_i57, ne_i59, ne_i63, ne_i64, ne_i76, ne_i77, ne_i78, ne_i79, ne_i80, ne_i81, ne_i97, ne_i99, ne_i100, ne_i101, ne_i104, ne_i105, ne_i108, ne_i110, ne_i111, ne_i116, ne_i117, ne_i122, ne_i103, ne_i200, ne_i255, ne_i256, ne_i320, ne_i384, ne_i1000, ne_l0, ne_l1, ne_l2, ne_l3, ne_l4, ne_l5, ne_l8, ne_l12, ne_l31, ne_l48, ne_l57, ne_l97, ne_l99, ne_l122, ne_l255, ne_l673, ne_l1073741823, ne_l1073741824, c9]
  · intro f _ _
    show px_Chest_countOrders_b5 N 1 (f + 1) _ _ _ = _
    rw [px_Chest_countOrders_b5]
    simp (disch := omega) only [sm_lt, sm_b1s, sm_b2s, ↓reduceIte, sm_in_nI, nI_clamp, nI_add, pk_mul, pk_sub, ne_addneg, nI_l, ne_ltT, ne_ltF, ne_leT, ne_leF, ne_eqT, ne_eqF, ne_sI1s, ne_sI1n, ne_sI2, ne_sI3, ne_sL1, ne_sL2s, ne_sL2n, ne_sL3, pk_us, pk_un, pk_uLs, pk_uLn, mm_Z, mm_L, mm_1, mm_2, mm_3, ne_rz0, ne_rz1, not_true_eq_false, not_false_eq_true, ne_i0, ne_i1, ne_i2, ne_i3, ne_i4, ne_i5, ne_i6, ne_i7, ne_i8, ne_i9, ne_i10, ne_i12, ne_i14, ne_i16, ne_i18, ne_i19, ne_i20, ne_i23, ne_i24, ne_i27, ne_i29, ne_i30, ne_i31, ne_i32, ne_i35, ne_i48, ne_i52, ne_i54, ne_i57, ne_i59, ne_i63, ne_i64, ne_i76, ne_i77, ne_i78, ne_i79, ne_i80, ne_i81, ne_i97, ne_i99, ne_i100, ne_i101, ne_i104, ne_i105, ne_i108, ne_i110, ne_i111, ne_i116, ne_i117, ne_i122, ne_i103, ne_i200, ne_i255, ne_i256, ne_i320, ne_i384, ne_i1000, ne_l0, ne_l1, ne_l2, ne_l3, ne_l4, ne_l5, ne_l8, ne_l12, ne_l31, ne_l48, ne_l57, ne_l97, ne_l99, ne_l122, ne_l255, ne_l673, ne_l1073741823, ne_l1073741824, c9]
    exact e
end
