section
variable {N : Nat} {X S : sm_St} {a b v ik tx : Nat → Nat} {len : Nat}
/-- the order with the number m comes out well -/
def cc_g (a v : Nat → Nat) (m : Nat) : Bool := sp_oo (a 76) m (a 76) && sp_ft a (sp_ns a (sp_hc (od (a 76) m) (a 76 - 1)) (ac_ a) (wn v) 1) (a 76)
def cc_n (a v : Nat → Nat) : Nat → Nat
  | 0 => 0
  | m + 1 => if cc_g a v m = true then cc_n a v m + 1 else cc_n a v m
def cc_1 (a v : Nat → Nat) : Nat → Nat
  | 0 => 0
  | m + 1 => if cc_g a v m = true ∧ cc_n a v m = 0 then m else cc_1 a v m
theorem cc_n_le {a v : Nat → Nat} : ∀ m, cc_n a v m ≤ m
  | 0 => Nat.le_refl _
  | m + 1 => by
    have := cc_n_le (a := a) (v := v) m
    rw [cc_n]
    split <;> omega
def cc_t (a v : Nat → Nat) (m : Nat) (g : Nat → Int32) : Prop := 0 < cc_n a v m → ∀ i, i < a 76 → g i = nI (od (a 76) (cc_1 a v m) i)
theorem cc_no {m : Nat} {g : Nat → Int32} (h : cc_t a v m g) (q : cc_g a v m = false) : cc_t a v (m + 1) g ∧ cc_n a v (m + 1) = cc_n a v m := by
  have e : cc_n a v (m + 1) = cc_n a v m := by rw [cc_n, if_neg (by rw [q]; simp)]
  have e2 : cc_1 a v (m + 1) = cc_1 a v m := by rw [cc_1, if_neg (by rw [q]; simp)]
  refine ⟨?_, e⟩
  unfold cc_t
  rw [e, e2]
  exact h
theorem cc_up {m : Nat} {g : Nat → Int32} (h : cc_t a v m g) (q : cc_g a v m = true) (h0 : cc_n a v m ≠ 0) : cc_t a v (m + 1) g ∧ cc_n a v (m + 1) = cc_n a v m + 1 := by
  have e : cc_n a v (m + 1) = cc_n a v m + 1 := by rw [cc_n, if_pos q]
  have e2 : cc_1 a v (m + 1) = cc_1 a v m := by rw [cc_1, if_neg (fun z => h0 z.2)]
  refine ⟨?_, e⟩
  unfold cc_t
  rw [e2]
  exact fun _ => h (by omega)
theorem cc_st {m : Nat} {g : Nat → Int32} (q : cc_g a v m = true) (h0 : cc_n a v m = 0) (h : ∀ i, i < a 76 → g i = nI (od (a 76) m i)) : cc_t a v (m + 1) g ∧ cc_n a v (m + 1) = cc_n a v m + 1 := by
  have e : cc_n a v (m + 1) = cc_n a v m + 1 := by rw [cc_n, if_pos q]
  have e2 : cc_1 a v (m + 1) = m := by rw [cc_1, if_pos ⟨q, h0⟩]
  refine ⟨?_, e⟩
  unfold cc_t
  rw [e2]
  exact fun _ => h
/-- how many orders come out well, the built side -/
theorem xq_count {K : Nat} (hK : a 76 ^ a 76 = K) (hK2 : K ≤ 256) (hN : 4000 ≤ N) (hok : sp_ok a) (hx0 : xhd X a (at_ a) (ac_ a) 7 6) (hnow : xsh X 12 (a 76) (wn v)) (hwv : wv1 a (wn v) (a 78)) (hlm : ∀ c, c < a 76 → X.1 4 c = nI (a (4 * c + 2)) ∧ X.1 5 c = nI (a (4 * c + 3))) : ∃ X', px_Chest_countOrders N X 1 = some (nI (cc_n a v (K)), X') ∧ cc_t a v (K) (X'.1 145) ∧ (∀ p, p < 110 ∨ 146 ≤ p → X'.1 p = X.1 p) ∧ X'.2.2 = X.2.2 := by
  have o1 := hok.1
  have c9 : X.1 1 9 = nI (a 76) := hx0.1
  have z144 : (zx_sh 144).2 = 4 := rfl
  have z145 : (zx_sh 145).2 = 4 := rfl
  -- the codes
  have p2 : px_Chest_countOrders_b33 N 1 N (nI (K)) (nI 0) (nI 0) X = px_Chest_countOrders_b33 N 1 N (nI (K)) (nI (cc_n a v 0)) (nI 0) X := by rw [show cc_n a v 0 = 0 from rfl]
  have p1 : ∃ X', px_Chest_countOrders_b33 N 1 N (nI (K)) (nI 0) (nI 0) X = some (nI (cc_n a v (K)), X') ∧ cc_t a v (K) (X'.1 145) ∧ (∀ p, p < 110 ∨ 146 ≤ p → X'.1 p = X.1 p) ∧ X'.2.2 = X.2.2 := by
    rw [p2]
    refine ne_loop (fun f m (s : sm_St) => px_Chest_countOrders_b33 N 1 f (nI (K)) (nI (cc_n a v m)) (nI m) s) (fun m s => cc_t a v m (s.1 145) ∧ (∀ p, p < 110 ∨ 146 ≤ p → s.1 p = X.1 p) ∧ s.2.2 = X.2.2) (K) (fun r => ∃ X', r = some (nI (cc_n a v (K)), X') ∧ cc_t a v (K) (X'.1 145) ∧ (∀ p, p < 110 ∨ 146 ≤ p → X'.1 p = X.1 p) ∧ X'.2.2 = X.2.2) ?_ ?_ N 0 X (by omega) (by omega) ⟨fun h => absurd h (Nat.lt_irrefl 0), fun p _ => rfl, rfl⟩
    · rintro f m s hm ⟨i1, i2, i3⟩
      left
      have s9 : s.1 1 9 = nI (a 76) := by rw [i2 1 (by decide)]; exact c9
      have hcl := cc_n_le (a := a) (v := v) m
      obtain ⟨s1, e1, g1, g2, g3⟩ := xq_lay (N := N) (X := s) hN o1 (by rw [hK]; exact hm)
      have f1 : ∀ p, p < 110 → s1.1 p = X.1 p := fun p hp => by rw [g2 p (by omega)]; exact i2 p (by omega)
      have g145 : s1.1 145 = s.1 145 := g2 145 (by decide)
      show ∃ s', _ ∧ px_Chest_countOrders_b33 N 1 (f + 1) _ _ _ _ = px_Chest_countOrders_b33 N 1 f _ _ _ _
      have l1 : ¬ (nI (K) ≤ nI m) := of_eq_false (ne_leF hm (by omega))
      rw [px_Chest_countOrders_b33, if_neg l1, s9, e1, sm_b2s]
      unfold px_Chest_countOrders_b80 px_Chest_countOrders_b83
      cases hoo : sp_oo (a 76) m (a 76) with
      | false =>
        have hg : cc_g a v m = false := by unfold cc_g; rw [hoo]; rfl
        obtain ⟨y1, y2⟩ := cc_no i1 hg
        refine ⟨s1, ⟨by rw [g145]; exact y1, fun p hp => by rw [g2 p (by omega)]; exact i2 p hp, by rw [g3]; exact i3⟩, ?_⟩
        rw [y2]
        simp (disch := omega) only [sm_lt, sm_b1s, sm_b2s, ↓reduceIte, sm_in_nI, nI_clamp, nI_add, pk_mul, pk_sub, ne_addneg, nI_l, ne_ltT, ne_ltF, ne_leT, ne_leF, ne_eqT, ne_eqF, ne_sI1s, ne_sI1n, ne_sI2, ne_sI3, ne_sL1, ne_sL2s, ne_sL2n, ne_sL3, pk_us, pk_un, pk_uLs, pk_uLn, mm_Z, mm_L, mm_1, mm_2, mm_3, ne_rz0, ne_rz1, not_true_eq_false, not_false_eq_true, ne_i0, ne_i1, ne_i2, ne_i3, ne_i4, ne_i5, ne_i6, ne_i7, ne_i8, ne_i9, ne_i10, ne_i12, ne_i14, ne_i16, ne_i18, ne_i19, ne_i20, ne_i23, ne_i24, ne_i27, ne_i29, ne_i30, ne_i31, ne_i32, ne_i35, ne_i48, ne_i52, ne_i54, ne_i57, ne_i59, ne_i63, ne_i64, ne_i76, ne_i77, ne_i78, ne_i79, ne_i80, ne_i81, ne_i97, ne_i99, ne_i100, ne_i101, ne_i104, ne_i105, ne_i108, ne_i110, ne_i111, ne_i116, ne_i117, ne_i122, ne_i103, ne_i200, ne_i255, ne_i256, ne_i320, ne_i384, ne_i1000, ne_l0, ne_l1, ne_l2, ne_l3, ne_l4, ne_l5, ne_l8, ne_l12, ne_l31, ne_l48, ne_l57, ne_l97, ne_l99, ne_l122, ne_l255, ne_l673, ne_l1073741823, ne_l1073741824, Bool.false_eq_true]
      | true =>
        have hx1 : xhd s1 a (at_ a) (ac_ a) 7 6 := by
          obtain ⟨k1, k2, k3, k4, k5⟩ := hx0
          refine ⟨by rw [f1 1 (by decide)]; exact k1, by rw [f1 1 (by decide)]; exact k2, fun i hi => ?_, fun i x hi hx => by rw [f1 (7 + 1 + i) (by omega)]; exact k4 i x hi hx, fun x hx => by rw [f1 6 (by decide)]; exact k5 x hx⟩
          rw [f1 2 (by decide), f1 3 (by decide)]
          exact k3 i hi
        obtain ⟨s2, e2, j1, j2⟩ := xq_fits (N := N) (X := s1) (o := od (a 76) m) hN hok hx1 (xsh_fr (f1 12 (by decide)) (f1 13 (by decide)) hnow) hwv (fun c hc => by rw [f1 4 (by decide), f1 5 (by decide)]; exact hlm c hc) (fun i hi => ⟨od_lt (by omega), g1 i hi⟩)
        have j145 : s2.1 145 = s.1 145 := by rw [j1 145 (by decide)]; exact g145
        have fr : ∀ p, p < 110 ∨ 146 ≤ p → s2.1 p = X.1 p := fun p hp => by rw [j1 p (by omega), g2 p (by omega)]; exact i2 p hp
        have fr3 : s2.2.2 = X.2.2 := by rw [j2, g3]; exact i3
        cases hft : sp_ft a (sp_ns a (sp_hc (od (a 76) m) (a 76 - 1)) (ac_ a) (wn v) 1) (a 76) with
        | false =>
          have hg : cc_g a v m = false := by unfold cc_g; rw [hoo, hft]; rfl
          obtain ⟨y1, y2⟩ := cc_no i1 hg
          rw [hft] at e2
          have e0 : sp_b false = 0 := rfl
          rw [e0] at e2
          refine ⟨s2, ⟨by rw [j145]; exact y1, fr, fr3⟩, ?_⟩
          rw [y2]
          simp (disch := omega) only [sm_lt, sm_b1s, sm_b2s, ↓reduceIte, sm_in_nI, nI_clamp, nI_add, pk_mul, pk_sub, ne_addneg, nI_l, ne_ltT, ne_ltF, ne_leT, ne_leF, ne_eqT, ne_eqF, ne_sI1s, ne_sI1n, ne_sI2, ne_sI3, ne_sL1, ne_sL2s, ne_sL2n, ne_sL3, pk_us, pk_un, pk_uLs, pk_uLn, mm_Z, mm_L, mm_1, mm_2, mm_3, ne_rz0, ne_rz1, not_true_eq_false, not_false_eq_true, ne_i0, ne_i1, ne_i2, ne_i3, ne_i4, ne_i5, ne_i6, ne_i7, ne_i8, ne_i9, ne_i10, ne_i12, ne_i14, ne_i16, ne_i18, ne_i19, ne_i20, ne_i23, ne_i24, ne_i27, ne_i29, ne_i30, ne_i31, ne_i32, ne_i35, ne_i48, ne_i52, ne_i54, ne_i57, ne_i59, ne_i63, ne_i64, ne_i76, ne_i77, ne_i78, ne_i79, ne_i80, ne_i81, ne_i97, ne_i99, ne_i100, ne_i101, ne_i104, ne_i105, ne_i108, ne_i110, ne_i111, ne_i116, ne_i117, ne_i122, ne_i103, ne_i200, ne_i255, ne_i256, ne_i320, ne_i384, ne_i1000, ne_l0, ne_l1, ne_l2, ne_l3, ne_l4, ne_l5, ne_l8, ne_l12, ne_l31, ne_l48, ne_l57, ne_l97, ne_l99, ne_l122, ne_l255, ne_l673, ne_l1073741823, ne_l1073741824, e2]
        | true =>
          have hg : cc_g a v m = true := by unfold cc_g; rw [hoo, hft]; rfl
          rw [hft] at e2
          have e0 : sp_b true = 1 := rfl
          rw [e0] at e2
          by_cases h0 : cc_n a v m = 0
          · obtain ⟨y1, y2⟩ := cc_st (v := v) (g := va_cpy (s2.1 144) (s2.1 145) 0 0 4) hg h0 (fun i hi => by rw [pk_cpy_in (by omega) (by omega), Nat.zero_add, Nat.sub_zero, j1 144 (by decide)]; exact g1 i hi)
            refine ⟨sm_sF s2 145 (va_cpy (s2.1 144) (s2.1 145) 0 0 4), ⟨by rw [sF_s]; exact y1, fun p hp => by rw [sF_n (by omega)]; exact fr p hp, fr3⟩, ?_⟩
            rw [y2, h0]
            simp (disch := omega) only [sm_lt, sm_b1s, sm_b2s, ↓reduceIte, sm_in_nI, nI_clamp, nI_add, pk_mul, pk_sub, ne_addneg, nI_l, ne_ltT, ne_ltF, ne_leT, ne_leF, ne_eqT, ne_eqF, ne_sI1s, ne_sI1n, ne_sI2, ne_sI3, ne_sL1, ne_sL2s, ne_sL2n, ne_sL3, pk_us, pk_un, pk_uLs, pk_uLn, mm_Z, mm_L, mm_1, mm_2, mm_3, ne_rz0, ne_rz1, not_true_eq_false, not_false_eq_true, ne_i0, ne_i1, ne_i2, ne_i3, ne_i4, ne_i5, ne_i6, ne_i7, ne_i8, ne_i9, ne_i10, ne_i12, ne_i14, ne_i16, ne_i18, ne_i19, ne_i20, ne_i23, ne_i24, ne_i27, ne_i29, ne_i30, ne_i31, ne_i32, ne_i35, ne_i48, ne_i52, ne_i54, ne_i57, ne_i59, ne_i63, ne_i64, ne_i76, ne_i77, ne_i78, ne_i79, ne_i80, ne_i81, ne_i97, ne_i99, ne_i100, ne_i101, ne_i104, ne_i105, ne_i108, ne_i110, ne_i111, ne_i116, ne_i117, ne_i122, ne_i103, ne_i200, ne_i255, ne_i256, ne_i320, ne_i384, ne_i1000, ne_l0, ne_l1, ne_l2, ne_l3, ne_l4, ne_l5, ne_l8, ne_l12, ne_l31, ne_l48, ne_l57, ne_l97, ne_l99, ne_l122, ne_l255, ne_l673, ne_l1073741823, ne_l1073741824, e2, ne_cpk 4 (Or.inl rfl)]
          · obtain ⟨y1, y2⟩ := cc_up i1 hg h0
            refine ⟨s2, ⟨by rw [j145]; exact y1, fr, fr3⟩, ?_⟩
            rw [y2]
            simp (disch := omega) only [sm_lt, sm_b1s, sm_b2s, ↓reduceIte, sm_in_nI, nI_clamp, nI_add, pk_mul, pk_sub, ne_addneg, nI_l, ne_ltT, ne_ltF, ne_leT, ne_leF, ne_eqT, ne_eqF, ne_sI1s, ne_sI1n, ne_sI2, ne_sI3, ne_sL1, ne_sL2s, ne_sL2n, ne_sL3, pk_us, pk_un, pk_uLs, pk_uLn, mm_Z, mm_L, mm_1, mm_2, mm_3, ne_rz0, ne_rz1, not_true_eq_false, not_false_eq_true, ne_i0, ne_i1, ne_i2, ne_i3, ne_i4, ne_i5, ne_i6, ne_i7, ne_i8, ne_i9, ne_i10, ne_i12, ne_i14, ne_i16, ne_i18, ne_i19, ne_i20, ne_i23, ne_i24, ne_i27, ne_i29, ne_i30, ne_i31, ne_i32, ne_i35, ne_i48, ne_i52, ne_i54, ne_i57, ne_i59, ne_i63, ne_i64, ne_i76, ne_i77, ne_i78, ne_i79, ne_i80, ne_i81, ne_i97, ne_i99, ne_i100, ne_i101, ne_i104, ne_i105, ne_i108, ne_i110, ne_i111, ne_i116, ne_i117, ne_i122, ne_i103, ne_i200, ne_i255, ne_i256, ne_i320, ne_i384, ne_i1000, ne_l0, ne_l1, ne_l2, ne_l3, ne_l4, ne_l5, ne_l8, ne_l12, ne_l31, ne_l48, ne_l57, ne_l97, ne_l99, ne_l122, ne_l255, ne_l673, ne_l1073741823, ne_l1073741824, e2, ne_cpk 4 (Or.inl rfl)]
    · rintro f s ⟨i1, i2, i3⟩
      show ∃ X', px_Chest_countOrders_b33 N 1 (f + 1) _ _ _ _ = _ ∧ _
      have l1 : nI (K) ≤ nI (K) := of_eq_true (ne_leT (Nat.le_refl _) (by omega))
      rw [px_Chest_countOrders_b33, if_pos l1]
      exact ⟨s, rfl, i1, i2, i3⟩
  obtain ⟨X', e, h⟩ := p1
  refine ⟨X', ?_, h⟩
  unfold px_Chest_countOrders
  simp only [sm_lt]
  have st : px_Chest_countOrders_b5 N 1 N (1 : Int32) (0 : Int32) X = px_Chest_countOrders_b5 N 1 N (nI (a 76 ^ 0)) (nI 0) X := by rw [Nat.pow_zero]; rfl
  rw [st]
  refine ne_loop (fun f i (_ : Unit) => px_Chest_countOrders_b5 N 1 f (nI (a 76 ^ i)) (nI i) X) (fun _ _ => True) (a 76) (fun r => r = some (nI (cc_n a v (K)), X')) ?_ ?_ N 0 () (by omega) (by omega) trivial
  · intro f i _ hi _
    left
    refine ⟨(), trivial, ?_⟩
    show px_Chest_countOrders_b5 N 1 (f + 1) _ _ _ = px_Chest_countOrders_b5 N 1 f _ _ _
    rw [px_Chest_countOrders_b5, Nat.pow_succ]
    simp (disch := omega) only [sm_lt, sm_b1s, sm_b2s, ↓reduceIte, sm_in_nI, nI_clamp, nI_add, pk_mul, pk_sub, ne_addneg, nI_l, ne_ltT, ne_ltF, ne_leT, ne_leF, ne_eqT, ne_eqF, ne_sI1s, ne_sI1n, ne_sI2, ne_sI3, ne_sL1, ne_sL2s, ne_sL2n, ne_sL3, pk_us, pk_un, pk_uLs, pk_uLn, mm_Z, mm_L, mm_1, mm_2, mm_3, ne_rz0, ne_rz1, not_true_eq_false, not_false_eq_true, ne_i0, ne_i1, ne_i2, ne_i3, ne_i4, ne_i5, ne_i6, ne_i7, ne_i8, ne_i9, ne_i10, ne_i12, ne_i14, ne_i16, ne_i18, ne_i19, ne_i20, ne_i23, ne_i24, ne_i27, ne_i29, ne_i30, ne_i31, ne_i32, ne_i35, ne_i48, ne_i52, ne_i54, ne_i57, ne_i59, ne_i63, ne_i64, ne_i76, ne_i77, ne_i78, ne_i79, ne_i80, ne_i81, ne_i97, ne_i99, ne_i100, ne_i101, ne_i104, ne_i105, ne_i108, ne_i110, ne_i111, ne_i116, ne_i117, ne_i122, ne_i103, ne_i200, ne_i255, ne_i256, ne_i320, ne_i384, ne_i1000, ne_l0, ne_l1, ne_l2, ne_l3, ne_l4, ne_l5, ne_l8, ne_l12, ne_l31, ne_l48, ne_l57, ne_l97, ne_l99, ne_l122, ne_l255, ne_l673, ne_l1073741823, ne_l1073741824, c9]
  · intro f _ _
    show px_Chest_countOrders_b5 N 1 (f + 1) _ _ _ = _
    rw [px_Chest_countOrders_b5, hK]
    simp (disch := omega) only [sm_lt, sm_b1s, sm_b2s, ↓reduceIte, sm_in_nI, nI_clamp, nI_add, pk_mul, pk_sub, ne_addneg, nI_l, ne_ltT, ne_ltF, ne_leT, ne_leF, ne_eqT, ne_eqF, ne_sI1s, ne_sI1n, ne_sI2, ne_sI3, ne_sL1, ne_sL2s, ne_sL2n, ne_sL3, pk_us, pk_un, pk_uLs, pk_uLn, mm_Z, mm_L, mm_1, mm_2, mm_3, ne_rz0, ne_rz1, not_true_eq_false, not_false_eq_true, ne_i0, ne_i1, ne_i2, ne_i3, ne_i4, ne_i5, ne_i6, ne_i7, ne_i8, ne_i9, ne_i10, ne_i12, ne_i14, ne_i16, ne_i18, ne_i19, ne_i20, ne_i23, ne_i24, ne_i27, ne_i29, ne_i30, ne_i31, ne_i32, ne_i35, ne_i48, ne_i52, ne_i54, ne_i57, ne_i59, ne_i63, ne_i64, ne_i76, ne_i77, ne_i78, ne_i79, ne_i80, ne_i81, ne_i97, ne_i99, ne_i100, ne_i101, ne_i104, ne_i105, ne_i108, ne_i110, ne_i111, ne_i116, ne_i117, ne_i122, ne_i103, ne_i200, ne_i255, ne_i256, ne_i320, ne_i384, ne_i1000, ne_l0, ne_l1, ne_l2, ne_l3, ne_l4, ne_l5, ne_l8, ne_l12, ne_l31, ne_l48, ne_l57, ne_l97, ne_l99, ne_l122, ne_l255, ne_l673, ne_l1073741823, ne_l1073741824, c9]
    exact e
theorem nW_sF {M : sm_St} {w : Nat → Nat} {p : Nat} {g : Nat → Int32} (h : nW M v w S) (hp : p ≠ 6) : nW (sm_sF M p g) v w (sm_sF S p g) := by
  obtain ⟨v', h1, h2, h3⟩ := h
  exact ⟨v', nP_sF h1 hp, h2, h3⟩
/-- the base is the start's, but for the table, the colours and the orders -/
def MCh (M S : sm_St) : Prop := ∀ p, p ≠ 7 → p ≠ 8 → p ≠ 15 → p ≠ 16 → M.1 p = S.1 p
/-- how the reference ends -/
def pm_ce (N : Nat) (v1 : Int32) (n : Nat) (S : sm_St) : Option (Int32 × sm_St) := if v1 = -nI 1 then some (nI n, S) else if nI n = nI 0 then pm_chest_b127 N S else sm_b2 (pm_cloths N S) (fun r_14 S_13 => if v1 < r_14 then (if sm_in v1 4 = true then some (S_13.1 16 v1.toNatClampNeg, S_13) else none) else pm_chest_b127 N S_13)
theorem zm15 : (zm_sh 15).2 = 4 := rfl
theorem zm16 : (zm_sh 16).2 = 4 := rfl
theorem np_first {M : sm_St} {w : Nat → Nat} {v1 : Int32} {K m : Nat} {r : Int32 → Int32 → Int32 → Int32 → sm_St → Option (Int32 × sm_St)} (hN : 4000 ≤ N) (hW : nW M v w S) : ∃ g, pm_chest_b67 N r N v1 (nI K) (nI 0) (nI m) (nI 0) S = r v1 (nI K) (nI 1) (nI (m + 1)) (sm_sF S 16 g) ∧ ∀ j, j < 4 → g j = M.1 15 j := by
  have q := ne_loop (fun f k (g : Nat → Int32) => pm_chest_b67 N r f v1 (nI K) (nI 0) (nI m) (nI k) (sm_sF S 16 g)) (fun k g => ∀ j, j < k → g j = M.1 15 j) 4 (fun o => ∃ g, o = r v1 (nI K) (nI 1) (nI (m + 1)) (sm_sF S 16 g) ∧ ∀ j, j < 4 → g j = M.1 15 j) ?_ ?_ N 0 (S.1 16) (by omega) (by omega) (fun j hj => by omega)
  · simp only [sF_self] at q
    exact q
  · intro f k g hk hI
    left
    refine ⟨upd g k (M.1 15 k), fun j hj => ?_, ?_⟩
    · by_cases e : j = k
      · rw [e, pk_us]
      · rw [pk_un e]
        exact hI j (by omega)
    · have e15 : (sm_sF S 16 g).1 15 k = M.1 15 k := by rw [sF_n (by decide), nW_1 hW (by decide)]
      show pm_chest_b67 N r (f + 1) _ _ _ _ _ _ = pm_chest_b67 N r f _ _ _ _ _ _
      rw [pm_chest_b67]
      simp (disch := omega) only [sm_lt, sm_b1s, sm_b2s, ↓reduceIte, sm_in_nI, nI_clamp, nI_add, pk_mul, pk_sub, ne_addneg, nI_l, ne_ltT, ne_ltF, ne_leT, ne_leF, ne_eqT, ne_eqF, ne_sI1s, ne_sI1n, ne_sI2, ne_sI3, ne_sL1, ne_sL2s, ne_sL2n, ne_sL3, pk_us, pk_un, pk_uLs, pk_uLn, mm_Z, mm_L, mm_1, mm_2, mm_3, ne_rz0, ne_rz1, not_true_eq_false, not_false_eq_true, ne_i0, ne_i1, ne_i2, ne_i3, ne_i4, ne_i5, ne_i6, ne_i7, ne_i8, ne_i9, ne_i10, ne_i12, ne_i14, ne_i16, ne_i18, ne_i19, ne_i20, ne_i23, ne_i24, ne_i27, ne_i29, ne_i30, ne_i31, ne_i32, ne_i35, ne_i48, ne_i52, ne_i54, ne_i57, ne_i59, ne_i63, ne_i64, ne_i76, ne_i77, ne_i78, ne_i79, ne_i80, ne_i81, ne_i97, ne_i99, ne_i100, ne_i101, ne_i104, ne_i105, ne_i108, ne_i110, ne_i111, ne_i116, ne_i117, ne_i122, ne_i103, ne_i200, ne_i255, ne_i256, ne_i320, ne_i384, ne_i1000, ne_l0, ne_l1, ne_l2, ne_l3, ne_l4, ne_l5, ne_l8, ne_l12, ne_l31, ne_l48, ne_l57, ne_l97, ne_l99, ne_l122, ne_l255, ne_l673, ne_l1073741823, ne_l1073741824, e15, sF_sI]
  · intro f g hI
    show ∃ g', pm_chest_b67 N r (f + 1) _ _ _ _ _ _ = _ ∧ _
    rw [pm_chest_b67]
    unfold pm_chest_b97 pm_chest_b100
    refine ⟨g, ?_, hI⟩
    simp (disch := omega) only [sm_lt, sm_b1s, sm_b2s, ↓reduceIte, sm_in_nI, nI_clamp, nI_add, pk_mul, pk_sub, ne_addneg, nI_l, ne_ltT, ne_ltF, ne_leT, ne_leF, ne_eqT, ne_eqF, ne_sI1s, ne_sI1n, ne_sI2, ne_sI3, ne_sL1, ne_sL2s, ne_sL2n, ne_sL3, pk_us, pk_un, pk_uLs, pk_uLn, mm_Z, mm_L, mm_1, mm_2, mm_3, ne_rz0, ne_rz1, not_true_eq_false, not_false_eq_true, ne_i0, ne_i1, ne_i2, ne_i3, ne_i4, ne_i5, ne_i6, ne_i7, ne_i8, ne_i9, ne_i10, ne_i12, ne_i14, ne_i16, ne_i18, ne_i19, ne_i20, ne_i23, ne_i24, ne_i27, ne_i29, ne_i30, ne_i31, ne_i32, ne_i35, ne_i48, ne_i52, ne_i54, ne_i57, ne_i59, ne_i63, ne_i64, ne_i76, ne_i77, ne_i78, ne_i79, ne_i80, ne_i81, ne_i97, ne_i99, ne_i100, ne_i101, ne_i104, ne_i105, ne_i108, ne_i110, ne_i111, ne_i116, ne_i117, ne_i122, ne_i103, ne_i200, ne_i255, ne_i256, ne_i320, ne_i384, ne_i1000, ne_l0, ne_l1, ne_l2, ne_l3, ne_l4, ne_l5, ne_l8, ne_l12, ne_l31, ne_l48, ne_l57, ne_l97, ne_l99, ne_l122, ne_l255, ne_l673, ne_l1073741823, ne_l1073741824]
theorem np_more {v1 : Int32} {K m n : Nat} {r : Int32 → Int32 → Int32 → Int32 → sm_St → Option (Int32 × sm_St)} (hN : 4000 ≤ N) (hn : n ≠ 0) (hn2 : n < 1000) : pm_chest_b67 N r N v1 (nI K) (nI n) (nI m) (nI 0) S = r v1 (nI K) (nI (n + 1)) (nI (m + 1)) S := by
  obtain ⟨f, rfl⟩ : ∃ f, N = f + 1 := ⟨N - 1, by omega⟩
  rw [pm_chest_b67]
  unfold pm_chest_b97 pm_chest_b100
  simp (disch := omega) only [sm_lt, sm_b1s, sm_b2s, ↓reduceIte, sm_in_nI, nI_clamp, nI_add, pk_mul, pk_sub, ne_addneg, nI_l, ne_ltT, ne_ltF, ne_leT, ne_leF, ne_eqT, ne_eqF, ne_sI1s, ne_sI1n, ne_sI2, ne_sI3, ne_sL1, ne_sL2s, ne_sL2n, ne_sL3, pk_us, pk_un, pk_uLs, pk_uLn, mm_Z, mm_L, mm_1, mm_2, mm_3, ne_rz0, ne_rz1, not_true_eq_false, not_false_eq_true, ne_i0, ne_i1, ne_i2, ne_i3, ne_i4, ne_i5, ne_i6, ne_i7, ne_i8, ne_i9, ne_i10, ne_i12, ne_i14, ne_i16, ne_i18, ne_i19, ne_i20, ne_i23, ne_i24, ne_i27, ne_i29, ne_i30, ne_i31, ne_i32, ne_i35, ne_i48, ne_i52, ne_i54, ne_i57, ne_i59, ne_i63, ne_i64, ne_i76, ne_i77, ne_i78, ne_i79, ne_i80, ne_i81, ne_i97, ne_i99, ne_i100, ne_i101, ne_i104, ne_i105, ne_i108, ne_i110, ne_i111, ne_i116, ne_i117, ne_i122, ne_i103, ne_i200, ne_i255, ne_i256, ne_i320, ne_i384, ne_i1000, ne_l0, ne_l1, ne_l2, ne_l3, ne_l4, ne_l5, ne_l8, ne_l12, ne_l31, ne_l48, ne_l57, ne_l97, ne_l99, ne_l122, ne_l255, ne_l673, ne_l1073741823, ne_l1073741824]
/-- one order, the reference's side -/
theorem np_cstep {M S0 : sm_St} {w : Nat → Nat} {v1 : Int32} {K m f : Nat} (hK : a 76 ^ a 76 = K) (hK2 : K ≤ 256) (hN : 4000 ≤ N) (hok : sp_ok a) (hwv : wv1 a (wn v) (a 78)) (hn : nw a S0) (hm : m < K) (hW : nW M v w S) (hwi : ∀ i, 5 ≤ i → w i = v (14 + i)) (hM : MCh M S0) (h1 : cc_t a v m (M.1 16)) : ∃ M' S' w', (nW M' v w' S' ∧ (∀ i, 5 ≤ i → w' i = v (14 + i)) ∧ MCh M' S0 ∧ cc_t a v (m + 1) (M'.1 16)) ∧ pm_chest_b42 N (f + 1) v1 (nI K) (nI (cc_n a v m)) (nI m) S = pm_chest_b42 N f v1 (nI K) (nI (cc_n a v (m + 1))) (nI (m + 1)) S' := by
  have o1 := hok.1
  have hw : nw a M := fun k hk => by rw [hM 1 (by decide) (by decide) (by decide) (by decide)]; exact hn k hk
  have hcl := cc_n_le (a := a) (v := v) m
  obtain ⟨M1, S1, e1, g1, g2, g3⟩ := np_layO (N := N) (m := m) hN hW hw rfl o1 (by rw [hK]; exact hm)
  have l1 : ¬ (nI K ≤ nI m) := of_eq_false (ne_leF hm (by omega))
  rw [pm_chest_b42, if_neg l1, e1, sm_b2s]
  unfold pm_chest_b100
  cases hoo : sp_oo (a 76) m (a 76) with
  | false =>
    have hg : cc_g a v m = false := by unfold cc_g; rw [hoo]; rfl
    obtain ⟨y1, y2⟩ := cc_no (g := M1.1 16) (by rw [g3 16 (by decide)]; exact h1) hg
    have e0 : sp_b false = 0 := rfl
    refine ⟨M1, S1, w, ⟨g1, hwi, fun p p7 p8 p15 p16 => by rw [g3 p p15]; exact hM p p7 p8 p15 p16, y1⟩, ?_⟩
    rw [y2, e0]
    simp (disch := omega) only [sm_lt, sm_b1s, sm_b2s, ↓reduceIte, sm_in_nI, nI_clamp, nI_add, pk_mul, pk_sub, ne_addneg, nI_l, ne_ltT, ne_ltF, ne_leT, ne_leF, ne_eqT, ne_eqF, ne_sI1s, ne_sI1n, ne_sI2, ne_sI3, ne_sL1, ne_sL2s, ne_sL2n, ne_sL3, pk_us, pk_un, pk_uLs, pk_uLn, mm_Z, mm_L, mm_1, mm_2, mm_3, ne_rz0, ne_rz1, not_true_eq_false, not_false_eq_true, ne_i0, ne_i1, ne_i2, ne_i3, ne_i4, ne_i5, ne_i6, ne_i7, ne_i8, ne_i9, ne_i10, ne_i12, ne_i14, ne_i16, ne_i18, ne_i19, ne_i20, ne_i23, ne_i24, ne_i27, ne_i29, ne_i30, ne_i31, ne_i32, ne_i35, ne_i48, ne_i52, ne_i54, ne_i57, ne_i59, ne_i63, ne_i64, ne_i76, ne_i77, ne_i78, ne_i79, ne_i80, ne_i81, ne_i97, ne_i99, ne_i100, ne_i101, ne_i104, ne_i105, ne_i108, ne_i110, ne_i111, ne_i116, ne_i117, ne_i122, ne_i103, ne_i200, ne_i255, ne_i256, ne_i320, ne_i384, ne_i1000, ne_l0, ne_l1, ne_l2, ne_l3, ne_l4, ne_l5, ne_l8, ne_l12, ne_l31, ne_l48, ne_l57, ne_l97, ne_l99, ne_l122, ne_l255, ne_l673, ne_l1073741823, ne_l1073741824]
  | true =>
    have hw1 : nw a M1 := fun k hk => by rw [g3 1 (by decide)]; exact hw k hk
    obtain ⟨M2, S2, w2, e2, j1, j2, j3⟩ := np_well (N := N) (o := od (a 76) m) hN hok g1 hwi hw1 hwv (fun i hi => ⟨od_lt (by omega), g2 i hi⟩)
    have f2 : MCh M2 S0 := fun p p7 p8 p15 p16 => by rw [j3 p p7 p8, g3 p p15]; exact hM p p7 p8 p15 p16
    have m16 : M2.1 16 = M.1 16 := by rw [j3 16 (by decide) (by decide), g3 16 (by decide)]
    have m15 : M2.1 15 = M1.1 15 := j3 15 (by decide) (by decide)
    have e1' : sp_b true = 1 := rfl
    have e0 : sp_b false = 0 := rfl
    rw [e1']
    cases hft : sp_ft a (sp_ns a (sp_hc (od (a 76) m) (a 76 - 1)) (ac_ a) (wn v) 1) (a 76) with
    | false =>
      have hg : cc_g a v m = false := by unfold cc_g; rw [hoo, hft]; rfl
      obtain ⟨y1, y2⟩ := cc_no (g := M2.1 16) (by rw [m16]; exact h1) hg
      rw [hft, e0] at e2
      refine ⟨M2, S2, w2, ⟨j1, j2, f2, y1⟩, ?_⟩
      rw [y2]
      simp (disch := omega) only [sm_lt, sm_b1s, sm_b2s, ↓reduceIte, sm_in_nI, nI_clamp, nI_add, pk_mul, pk_sub, ne_addneg, nI_l, ne_ltT, ne_ltF, ne_leT, ne_leF, ne_eqT, ne_eqF, ne_sI1s, ne_sI1n, ne_sI2, ne_sI3, ne_sL1, ne_sL2s, ne_sL2n, ne_sL3, pk_us, pk_un, pk_uLs, pk_uLn, mm_Z, mm_L, mm_1, mm_2, mm_3, ne_rz0, ne_rz1, not_true_eq_false, not_false_eq_true, ne_i0, ne_i1, ne_i2, ne_i3, ne_i4, ne_i5, ne_i6, ne_i7, ne_i8, ne_i9, ne_i10, ne_i12, ne_i14, ne_i16, ne_i18, ne_i19, ne_i20, ne_i23, ne_i24, ne_i27, ne_i29, ne_i30, ne_i31, ne_i32, ne_i35, ne_i48, ne_i52, ne_i54, ne_i57, ne_i59, ne_i63, ne_i64, ne_i76, ne_i77, ne_i78, ne_i79, ne_i80, ne_i81, ne_i97, ne_i99, ne_i100, ne_i101, ne_i104, ne_i105, ne_i108, ne_i110, ne_i111, ne_i116, ne_i117, ne_i122, ne_i103, ne_i200, ne_i255, ne_i256, ne_i320, ne_i384, ne_i1000, ne_l0, ne_l1, ne_l2, ne_l3, ne_l4, ne_l5, ne_l8, ne_l12, ne_l31, ne_l48, ne_l57, ne_l97, ne_l99, ne_l122, ne_l255, ne_l673, ne_l1073741823, ne_l1073741824, e2]
    | true =>
      have hg : cc_g a v m = true := by unfold cc_g; rw [hoo, hft]; rfl
      rw [hft, e1'] at e2
      by_cases h0 : cc_n a v m = 0
      · obtain ⟨g, e3, c1⟩ := np_first (N := N) (v1 := v1) (K := K) (m := m) (r := pm_chest_b42 N f) hN j1
        obtain ⟨y1, y2⟩ := cc_st (v := v) (g := g) hg h0 (fun i hi => by rw [c1 i (by omega), m15]; exact g2 i hi)
        refine ⟨sm_sF M2 16 g, sm_sF S2 16 g, w2, ⟨nW_sF j1 (by decide), j2, fun p p7 p8 p15 p16 => by rw [sF_n p16]; exact f2 p p7 p8 p15 p16, by rw [sF_s]; exact y1⟩, ?_⟩
        rw [y2, h0]
        simp (disch := omega) only [sm_lt, sm_b1s, sm_b2s, ↓reduceIte, sm_in_nI, nI_clamp, nI_add, pk_mul, pk_sub, ne_addneg, nI_l, ne_ltT, ne_ltF, ne_leT, ne_leF, ne_eqT, ne_eqF, ne_sI1s, ne_sI1n, ne_sI2, ne_sI3, ne_sL1, ne_sL2s, ne_sL2n, ne_sL3, pk_us, pk_un, pk_uLs, pk_uLn, mm_Z, mm_L, mm_1, mm_2, mm_3, ne_rz0, ne_rz1, not_true_eq_false, not_false_eq_true, ne_i0, ne_i1, ne_i2, ne_i3, ne_i4, ne_i5, ne_i6, ne_i7, ne_i8, ne_i9, ne_i10, ne_i12, ne_i14, ne_i16, ne_i18, ne_i19, ne_i20, ne_i23, ne_i24, ne_i27, ne_i29, ne_i30, ne_i31, ne_i32, ne_i35, ne_i48, ne_i52, ne_i54, ne_i57, ne_i59, ne_i63, ne_i64, ne_i76, ne_i77, ne_i78, ne_i79, ne_i80, ne_i81, ne_i97, ne_i99, ne_i100, ne_i101, ne_i104, ne_i105, ne_i108, ne_i110, ne_i111, ne_i116, ne_i117, ne_i122, ne_i103, ne_i200, ne_i255, ne_i256, ne_i320, ne_i384, ne_i1000, ne_l0, ne_l1, ne_l2, ne_l3, ne_l4, ne_l5, ne_l8, ne_l12, ne_l31, ne_l48, ne_l57, ne_l97, ne_l99, ne_l122, ne_l255, ne_l673, ne_l1073741823, ne_l1073741824, e2]
        exact e3
      · obtain ⟨y1, y2⟩ := cc_up (g := M2.1 16) (by rw [m16]; exact h1) hg h0
        have e3 := np_more (N := N) (S := S2) (v1 := v1) (K := K) (m := m) (r := pm_chest_b42 N f) hN h0 (by omega)
        refine ⟨M2, S2, w2, ⟨j1, j2, f2, y1⟩, ?_⟩
        rw [y2]
        simp (disch := omega) only [sm_lt, sm_b1s, sm_b2s, ↓reduceIte, sm_in_nI, nI_clamp, nI_add, pk_mul, pk_sub, ne_addneg, nI_l, ne_ltT, ne_ltF, ne_leT, ne_leF, ne_eqT, ne_eqF, ne_sI1s, ne_sI1n, ne_sI2, ne_sI3, ne_sL1, ne_sL2s, ne_sL2n, ne_sL3, pk_us, pk_un, pk_uLs, pk_uLn, mm_Z, mm_L, mm_1, mm_2, mm_3, ne_rz0, ne_rz1, not_true_eq_false, not_false_eq_true, ne_i0, ne_i1, ne_i2, ne_i3, ne_i4, ne_i5, ne_i6, ne_i7, ne_i8, ne_i9, ne_i10, ne_i12, ne_i14, ne_i16, ne_i18, ne_i19, ne_i20, ne_i23, ne_i24, ne_i27, ne_i29, ne_i30, ne_i31, ne_i32, ne_i35, ne_i48, ne_i52, ne_i54, ne_i57, ne_i59, ne_i63, ne_i64, ne_i76, ne_i77, ne_i78, ne_i79, ne_i80, ne_i81, ne_i97, ne_i99, ne_i100, ne_i101, ne_i104, ne_i105, ne_i108, ne_i110, ne_i111, ne_i116, ne_i117, ne_i122, ne_i103, ne_i200, ne_i255, ne_i256, ne_i320, ne_i384, ne_i1000, ne_l0, ne_l1, ne_l2, ne_l3, ne_l4, ne_l5, ne_l8, ne_l12, ne_l31, ne_l48, ne_l57, ne_l97, ne_l99, ne_l122, ne_l255, ne_l673, ne_l1073741823, ne_l1073741824, e2]
        exact e3
/-- how many orders, the reference's side -/
theorem np_count {M S0 : sm_St} {w : Nat → Nat} {v1 : Int32} {K : Nat} (hK : a 76 ^ a 76 = K) (hK2 : K ≤ 256) (hN : 4000 ≤ N) (hok : sp_ok a) (hwv : wv1 a (wn v) (a 78)) (hn : nw a S0) (hW : nW M v w S) (hwi : ∀ i, 5 ≤ i → w i = v (14 + i)) (hM : MCh M S0) : ∃ M' S' w', pm_chest_b42 N N v1 (nI K) (nI 0) (nI 0) S = pm_ce N v1 (cc_n a v K) S' ∧ nW M' v w' S' ∧ (∀ i, 5 ≤ i → w' i = v (14 + i)) ∧ MCh M' S0 ∧ cc_t a v K (M'.1 16) := by
  have st : pm_chest_b42 N N v1 (nI K) (nI 0) (nI 0) S = pm_chest_b42 N N v1 (nI K) (nI (cc_n a v 0)) (nI 0) S := by rw [show cc_n a v 0 = 0 from rfl]
  rw [st]
  refine ne_loop (fun f m (s : sm_St × sm_St × (Nat → Nat)) => pm_chest_b42 N f v1 (nI K) (nI (cc_n a v m)) (nI m) s.2.1) (fun m s => nW s.1 v s.2.2 s.2.1 ∧ (∀ i, 5 ≤ i → s.2.2 i = v (14 + i)) ∧ MCh s.1 S0 ∧ cc_t a v m (s.1.1 16)) K (fun r => ∃ M' S' w', r = pm_ce N v1 (cc_n a v K) S' ∧ nW M' v w' S' ∧ (∀ i, 5 ≤ i → w' i = v (14 + i)) ∧ MCh M' S0 ∧ cc_t a v K (M'.1 16)) ?_ ?_ N 0 (M, S, w) (by omega) (by omega) ⟨hW, hwi, hM, fun h => absurd h (Nat.lt_irrefl 0)⟩
  · rintro f m ⟨M1, S1, w1⟩ hm ⟨i1, i2, i3, i4⟩
    simp only at i1 i2 i3 i4
    left
    obtain ⟨M2, S2, w2, h, e⟩ := np_cstep (f := f) (v1 := v1) hK hK2 hN hok hwv hn hm i1 i2 i3 i4
    exact ⟨(M2, S2, w2), h, e⟩
  · rintro f ⟨M1, S1, w1⟩ ⟨i1, i2, i3, i4⟩
    simp only at i1 i2 i3 i4
    refine ⟨M1, S1, w1, ?_, i1, i2, i3, i4⟩
    show pm_chest_b42 N (f + 1) _ _ _ _ _ = _
    have l1 : nI K ≤ nI K := of_eq_true (ne_leT (Nat.le_refl _) (by omega))
    rw [pm_chest_b42, if_pos l1]
    rfl
theorem np_codes {v1 : Int32} {K : Nat} (hK : a 76 ^ a 76 = K) (hN : 4000 ≤ N) (hn : nw a S) (k4 : a 76 ≤ 4) : pm_chest_b16 N N v1 (nI 1) (nI 0) S = pm_chest_b42 N N v1 (nI K) (nI 0) (nI 0) S := by
  have c9 := np_cloths (N := N) hn
  have st : pm_chest_b16 N N v1 (nI 1) (nI 0) S = pm_chest_b16 N N v1 (nI (a 76 ^ 0)) (nI 0) S := by rw [Nat.pow_zero]
  rw [st]
  refine ne_loop (fun f i (_ : Unit) => pm_chest_b16 N f v1 (nI (a 76 ^ i)) (nI i) S) (fun _ _ => True) (a 76) (fun r => r = pm_chest_b42 N N v1 (nI K) (nI 0) (nI 0) S) ?_ ?_ N 0 () (by omega) (by omega) trivial
  · intro f i _ hi _
    left
    refine ⟨(), trivial, ?_⟩
    show pm_chest_b16 N (f + 1) _ _ _ _ = pm_chest_b16 N f _ _ _ _
    rw [pm_chest_b16, Nat.pow_succ]
    simp (disch := omega) only [sm_lt, sm_b1s, sm_b2s, ↓reduceIte, sm_in_nI, nI_clamp, nI_add, pk_mul, pk_sub, ne_addneg, nI_l, ne_ltT, ne_ltF, ne_leT, ne_leF, ne_eqT, ne_eqF, ne_sI1s, ne_sI1n, ne_sI2, ne_sI3, ne_sL1, ne_sL2s, ne_sL2n, ne_sL3, pk_us, pk_un, pk_uLs, pk_uLn, mm_Z, mm_L, mm_1, mm_2, mm_3, ne_rz0, ne_rz1, not_true_eq_false, not_false_eq_true, ne_i0, ne_i1, ne_i2, ne_i3, ne_i4, ne_i5, ne_i6, ne_i7, ne_i8, ne_i9, ne_i10, ne_i12, ne_i14, ne_i16, ne_i18, ne_i19, ne_i20, ne_i23, ne_i24, ne_i27, ne_i29, ne_i30, ne_i31, ne_i32, ne_i35, ne_i48, ne_i52, ne_i54, ne_i57, ne_i59, ne_i63, ne_i64, ne_i76, ne_i77, ne_i78, ne_i79, ne_i80, ne_i81, ne_i97, ne_i99, ne_i100, ne_i101, ne_i104, ne_i105, ne_i108, ne_i110, ne_i111, ne_i116, ne_i117, ne_i122, ne_i103, ne_i200, ne_i255, ne_i256, ne_i320, ne_i384, ne_i1000, ne_l0, ne_l1, ne_l2, ne_l3, ne_l4, ne_l5, ne_l8, ne_l12, ne_l31, ne_l48, ne_l57, ne_l97, ne_l99, ne_l122, ne_l255, ne_l673, ne_l1073741823, ne_l1073741824, c9]
  · intro f _ _
    show pm_chest_b16 N (f + 1) _ _ _ _ = _
    rw [pm_chest_b16, hK]
    simp (disch := omega) only [sm_lt, sm_b1s, sm_b2s, ↓reduceIte, sm_in_nI, nI_clamp, nI_add, pk_mul, pk_sub, ne_addneg, nI_l, ne_ltT, ne_ltF, ne_leT, ne_leF, ne_eqT, ne_eqF, ne_sI1s, ne_sI1n, ne_sI2, ne_sI3, ne_sL1, ne_sL2s, ne_sL2n, ne_sL3, pk_us, pk_un, pk_uLs, pk_uLn, mm_Z, mm_L, mm_1, mm_2, mm_3, ne_rz0, ne_rz1, not_true_eq_false, not_false_eq_true, ne_i0, ne_i1, ne_i2, ne_i3, ne_i4, ne_i5, ne_i6, ne_i7, ne_i8, ne_i9, ne_i10, ne_i12, ne_i14, ne_i16, ne_i18, ne_i19, ne_i20, ne_i23, ne_i24, ne_i27, ne_i29, ne_i30, ne_i31, ne_i32, ne_i35, ne_i48, ne_i52, ne_i54, ne_i57, ne_i59, ne_i63, ne_i64, ne_i76, ne_i77, ne_i78, ne_i79, ne_i80, ne_i81, ne_i97, ne_i99, ne_i100, ne_i101, ne_i104, ne_i105, ne_i108, ne_i110, ne_i111, ne_i116, ne_i117, ne_i122, ne_i103, ne_i200, ne_i255, ne_i256, ne_i320, ne_i384, ne_i1000, ne_l0, ne_l1, ne_l2, ne_l3, ne_l4, ne_l5, ne_l8, ne_l12, ne_l31, ne_l48, ne_l57, ne_l97, ne_l99, ne_l122, ne_l255, ne_l673, ne_l1073741823, ne_l1073741824, c9]
end
