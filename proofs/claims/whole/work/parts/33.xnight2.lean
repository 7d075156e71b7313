/-! the built night as a whole, some nights, and the reckoning -/
def xq (q : Nat) : Prop := q = 12 ∨ q = 122 ∨ q = 124
theorem xq_16 {q : Nat} (h : xq q) : (decide (zx_sy.1 q = (16, 0))) = true := by
  rcases h with rfl | rfl | rfl <;> decide
/-- outside of the two rows that nights write -/
def xnf (X X' : sm_St) : Prop := (∀ p, p < 110 ∨ 126 ≤ p ∨ (114 ≤ p ∧ p < 122) ∨ p = 110 → X'.1 p = X.1 p) ∧ X'.2.2 = X.2.2
section
variable {N : Nat} {X : sm_St} {a t co w : Nat → Nat}
theorem xq_row {q1 q2 i u V : Nat} {L : Nat → Int64} (hN : 4000 ≤ N) (hs : sc a t co) (hq2 : q2 = 122 ∨ q2 = 124) (n1 : q1 ≠ q2) (n2 : q1 ≠ q2 + 1) (n3 : q1 + 1 ≠ q2 + 1) (hi : i ≤ 4) (hu : X.1 q1 1 = nI u) (hu0 : 0 < u) (hu2 : u ≤ 19) (hr : ∀ r, (r < a 76 ∨ r = 4) → xr (X.1 (q1 + 1)) r u (w r)) (hc : xcf L a w V) : ∃ X', px_Sum_write N (sm_lF X 112 L) 111 q1 (q2 + 1) (nI (i * 20)) = some X' ∧ V < nm_B ^ (u + 1) ∧ (∀ j, j ≤ u → X'.1 (q2 + 1) (20 * i + j) = nI (nm_dg V j)) ∧ (∀ j, (j < 20 * i ∨ 20 * i + u < j) → X'.1 (q2 + 1) j = X.1 (q2 + 1) j) ∧ (∀ p, p ≠ q2 + 1 → X'.1 p = X.1 p) ∧ X'.2.2 = X.2.2 := by
  obtain ⟨c, c1, c2, c3, c4⟩ := hc
  have hsh : (zx_sh (q2 + 1)).2 = 100 := by rcases hq2 with rfl | rfl <;> rfl
  obtain ⟨L', g, e, v1, v2, v3⟩ := xq_write (X := sm_lF X 112 L) (N := N) (p := 111) (q1 := q1) (q2 := q2 + 1) (base := i * 20) (c := c) (w := w) hN hu hu0 hu2 hsh (by omega) (by omega) (fun e => n2 e.symm) (fun e => n3 e.symm) (fun r h5 => by rw [lF_s]; exact c1 r h5) c4 (fun r h5 h0 => hr r (c3 r h5 h0))
  rw [c2] at v1 v2
  refine ⟨_, e, v1, fun j hj => ?_, fun j hj => ?_, fun p hp => ?_, rfl⟩
  · rw [sF_s, Nat.mul_comm 20]
    exact v2 j hj
  · rw [sF_s, v3 j (by omega)]
    rfl
  · rw [sF_n hp]
    rfl
theorem xq_night {q1 q2 m : Nat} (hN : 4000 ≤ N) (hs : sc a t co) (h : xt X a t co) (hx : xsh X q1 (a 76) w) (hw : sp_w a w) (hb : w 4 ≤ 2 ^ (21 * m)) (hm : m ≤ 24) (hq1 : xq q1) (hq2 : q2 = 122 ∨ q2 = 124) (n1 : q1 ≠ q2) : ∃ X', px_Takings_night N X q1 q2 = some X' ∧ xsh X' q2 (a 76) (sp_nw a t co w) ∧ (∀ p, p ≠ q2 → p ≠ q2 + 1 → X'.1 p = X.1 p) ∧ X'.2.2 = X.2.2 := by
  obtain ⟨u, hu, hu0, hu2, hlt, hrow⟩ := hx
  have k4 := hs.1
  have n2 : q1 ≠ q2 + 1 := by rcases hq1 with rfl | rfl | rfl <;> omega
  have n3 : q1 + 1 ≠ q2 + 1 := by omega
  have n4 : q1 + 1 ≠ q2 := by rcases hq1 with rfl | rfl | rfl <;> omega
  have b4 := sp_by_4 hs (n := a 76) (Nat.le_refl _)
  have vb : ∀ r, r < a 76 → sp_nw a t co w r = sp_nt a t co w r := fun r hr => by unfold sp_nw; rw [if_neg (by omega), if_pos hr]
  have v4 : sp_nw a t co w 4 = w 4 * sp_by a t (a 76) := if_pos rfl
  have hw' := sp_nw_w hs hw
  have h4' := sp_nw_4 hs m hb
  unfold px_Takings_night
  simp (disch := omega) only [sm_lt, sm_b1s, sm_b2s, ↓reduceIte, sm_in_nI, nI_clamp, nI_add, pk_mul, pk_sub, ne_addneg, nI_l, ne_ltT, ne_ltF, ne_leT, ne_leF, ne_eqT, ne_eqF, ne_sI1s, ne_sI1n, ne_sI2, ne_sI3, ne_sL1, ne_sL2s, ne_sL2n, ne_sL3, pk_us, pk_un, pk_uLs, pk_uLn, mm_Z, mm_L, mm_1, mm_2, mm_3, ne_rz0, ne_rz1, not_true_eq_false, not_false_eq_true, ne_i0, ne_i1, ne_i2, ne_i3, ne_i4, ne_i5, ne_i6, ne_i7, ne_i8, ne_i9, ne_i10, ne_i12, ne_i14, ne_i16, ne_i18, ne_i19, ne_i20, ne_i23, ne_i24, ne_i27, ne_i29, ne_i30, ne_i31, ne_i32, ne_i35, ne_i48, ne_i52, ne_i54, ne_i57, ne_i59, ne_i63, ne_i64, ne_i76, ne_i77, ne_i78, ne_i79, ne_i80, ne_i81, ne_i97, ne_i99, ne_i100, ne_i101, ne_i104, ne_i105, ne_i108, ne_i110, ne_i111, ne_i116, ne_i117, ne_i122, ne_i103, ne_i200, ne_i255, ne_i256, ne_i320, ne_i384, ne_i1000, ne_l0, ne_l1, ne_l2, ne_l3, ne_l4, ne_l5, ne_l8, ne_l12, ne_l31, ne_l48, ne_l57, ne_l97, ne_l99, ne_l122, ne_l255, ne_l673, ne_l1073741823, ne_l1073741824]
  refine ne_loop (fun f i (s : sm_St) => px_Takings_night_b2 N q1 q2 f (nI i) s) (fun i s => (∀ p, p ≠ q2 + 1 → s.1 p = X.1 p) ∧ s.2.2 = X.2.2 ∧ ∀ r, r < i → sp_nw a t co w r < nm_B ^ (u + 1) ∧ ∀ j, j ≤ u → s.1 (q2 + 1) (20 * r + j) = nI (nm_dg (sp_nw a t co w r) j)) (a 76) (fun r => ∃ X', r = some X' ∧ xsh X' q2 (a 76) (sp_nw a t co w) ∧ (∀ p, p ≠ q2 → p ≠ q2 + 1 → X'.1 p = X.1 p) ∧ X'.2.2 = X.2.2) ?_ ?_ N 0 X (by omega) (by omega) ⟨fun _ _ => rfl, rfl, fun r hr => by omega⟩
  · rintro f i s hi ⟨f1, f2, f3⟩
    left
    have hts : xt s a t co := xt_fr hs h (fun p h1 h2 => f1 p (by omega))
    have hus : s.1 q1 1 = nI u := by rw [f1 q1 n2]; exact hu
    have hrs : ∀ r, (r < a 76 ∨ r = 4) → xr (s.1 (q1 + 1)) r u (w r) := fun r hr => by rw [f1 (q1 + 1) n3]; exact hrow r hr
    have hxs : xsh s q1 (a 76) w := ⟨u, hus, hu0, hu2, hlt, hrs⟩
    obtain ⟨r1, r2, r3, r4, r5⟩ := hts.2.2 i hi
    have step : ∀ L, xcf L a w (sp_nw a t co w i) → ∃ s', ((∀ p, p ≠ q2 + 1 → s'.1 p = X.1 p) ∧ s'.2.2 = X.2.2 ∧ ∀ r, r < i + 1 → sp_nw a t co w r < nm_B ^ (u + 1) ∧ ∀ j, j ≤ u → s'.1 (q2 + 1) (20 * r + j) = nI (nm_dg (sp_nw a t co w r) j)) ∧ px_Takings_night_b33 N q1 q2 (px_Takings_night_b2 N q1 q2 f) (nI i) (sm_lF s 112 L) = px_Takings_night_b2 N q1 q2 f (nI (i + 1)) s' := by
      intro L hL
      obtain ⟨X', e, v1, v2, v3, v5, v6⟩ := xq_row (i := i) hN hs hq2 n1 n2 n3 (by omega) hus hu0 hu2 hrs hL
      refine ⟨X', ⟨fun p hp => by rw [v5 p hp]; exact f1 p hp, by rw [v6]; exact f2, fun r hr => ?_⟩, ?_⟩
      · by_cases er : r = i
        · subst er
          exact ⟨v1, v2⟩
        · obtain ⟨g1, g2⟩ := f3 r (by omega)
          exact ⟨g1, fun j hj => by rw [v3 _ (by omega)]; exact g2 j hj⟩
      · unfold px_Takings_night_b33
        simp (disch := omega) only [sm_lt, sm_b1s, sm_b2s, ↓reduceIte, sm_in_nI, nI_clamp, nI_add, pk_mul, pk_sub, ne_addneg, nI_l, ne_ltT, ne_ltF, ne_leT, ne_leF, ne_eqT, ne_eqF, ne_sI1s, ne_sI1n, ne_sI2, ne_sI3, ne_sL1, ne_sL2s, ne_sL2n, ne_sL3, pk_us, pk_un, pk_uLs, pk_uLn, mm_Z, mm_L, mm_1, mm_2, mm_3, ne_rz0, ne_rz1, not_true_eq_false, not_false_eq_true, ne_i0, ne_i1, ne_i2, ne_i3, ne_i4, ne_i5, ne_i6, ne_i7, ne_i8, ne_i9, ne_i10, ne_i12, ne_i14, ne_i16, ne_i18, ne_i19, ne_i20, ne_i23, ne_i24, ne_i27, ne_i29, ne_i30, ne_i31, ne_i32, ne_i35, ne_i48, ne_i52, ne_i54, ne_i57, ne_i59, ne_i63, ne_i64, ne_i76, ne_i77, ne_i78, ne_i79, ne_i80, ne_i81, ne_i97, ne_i99, ne_i100, ne_i101, ne_i104, ne_i105, ne_i108, ne_i110, ne_i111, ne_i116, ne_i117, ne_i122, ne_i103, ne_i200, ne_i255, ne_i256, ne_i320, ne_i384, ne_i1000, ne_l0, ne_l1, ne_l2, ne_l3, ne_l4, ne_l5, ne_l8, ne_l12, ne_l31, ne_l48, ne_l57, ne_l97, ne_l99, ne_l122, ne_l255, ne_l673, ne_l1073741823, ne_l1073741824, e]
    show ∃ s', _ ∧ px_Takings_night_b2 N q1 q2 (f + 1) _ _ = px_Takings_night_b2 N q1 q2 f _ _
    rw [px_Takings_night_b2]
    by_cases hv : a (4 * i) = 4
    · rw [if_pos hv] at r1
      obtain ⟨L, eL, hL⟩ := xq_takeGreatest (N := N) hN hs hts hi hv hxs
      obtain ⟨s', i1, i2⟩ := step L (by rw [vb i hi, sp_nt, if_pos hv]; exact hL)
      refine ⟨s', i1, ?_⟩
      simp (disch := omega) only [sm_lt, sm_b1s, sm_b2s, ↓reduceIte, sm_in_nI, nI_clamp, nI_add, pk_mul, pk_sub, ne_addneg, nI_l, ne_ltT, ne_ltF, ne_leT, ne_leF, ne_eqT, ne_eqF, ne_sI1s, ne_sI1n, ne_sI2, ne_sI3, ne_sL1, ne_sL2s, ne_sL2n, ne_sL3, pk_us, pk_un, pk_uLs, pk_uLn, mm_Z, mm_L, mm_1, mm_2, mm_3, ne_rz0, ne_rz1, not_true_eq_false, not_false_eq_true, ne_i0, ne_i1, ne_i2, ne_i3, ne_i4, ne_i5, ne_i6, ne_i7, ne_i8, ne_i9, ne_i10, ne_i12, ne_i14, ne_i16, ne_i18, ne_i19, ne_i20, ne_i23, ne_i24, ne_i27, ne_i29, ne_i30, ne_i31, ne_i32, ne_i35, ne_i48, ne_i52, ne_i54, ne_i57, ne_i59, ne_i63, ne_i64, ne_i76, ne_i77, ne_i78, ne_i79, ne_i80, ne_i81, ne_i97, ne_i99, ne_i100, ne_i101, ne_i104, ne_i105, ne_i108, ne_i110, ne_i111, ne_i116, ne_i117, ne_i122, ne_i103, ne_i200, ne_i255, ne_i256, ne_i320, ne_i384, ne_i1000, ne_l0, ne_l1, ne_l2, ne_l3, ne_l4, ne_l5, ne_l8, ne_l12, ne_l31, ne_l48, ne_l57, ne_l97, ne_l99, ne_l122, ne_l255, ne_l673, ne_l1073741823, ne_l1073741824, hts.1, r1, eL]
      exact i2
    · rw [if_neg hv] at r1
      obtain ⟨L, eL, hL⟩ := xq_takeMean (N := N) (w := w) hN hs hts hi hv
      obtain ⟨s', i1, i2⟩ := step L (by rw [vb i hi, sp_nt, if_neg hv]; exact hL)
      refine ⟨s', i1, ?_⟩
      simp (disch := omega) only [sm_lt, sm_b1s, sm_b2s, ↓reduceIte, sm_in_nI, nI_clamp, nI_add, pk_mul, pk_sub, ne_addneg, nI_l, ne_ltT, ne_ltF, ne_leT, ne_leF, ne_eqT, ne_eqF, ne_sI1s, ne_sI1n, ne_sI2, ne_sI3, ne_sL1, ne_sL2s, ne_sL2n, ne_sL3, pk_us, pk_un, pk_uLs, pk_uLn, mm_Z, mm_L, mm_1, mm_2, mm_3, ne_rz0, ne_rz1, not_true_eq_false, not_false_eq_true, ne_i0, ne_i1, ne_i2, ne_i3, ne_i4, ne_i5, ne_i6, ne_i7, ne_i8, ne_i9, ne_i10, ne_i12, ne_i14, ne_i16, ne_i18, ne_i19, ne_i20, ne_i23, ne_i24, ne_i27, ne_i29, ne_i30, ne_i31, ne_i32, ne_i35, ne_i48, ne_i52, ne_i54, ne_i57, ne_i59, ne_i63, ne_i64, ne_i76, ne_i77, ne_i78, ne_i79, ne_i80, ne_i81, ne_i97, ne_i99, ne_i100, ne_i101, ne_i104, ne_i105, ne_i108, ne_i110, ne_i111, ne_i116, ne_i117, ne_i122, ne_i103, ne_i200, ne_i255, ne_i256, ne_i320, ne_i384, ne_i1000, ne_l0, ne_l1, ne_l2, ne_l3, ne_l4, ne_l5, ne_l8, ne_l12, ne_l31, ne_l48, ne_l57, ne_l97, ne_l99, ne_l122, ne_l255, ne_l673, ne_l1073741823, ne_l1073741824, hts.1, r1, eL]
      exact i2
  · rintro f s ⟨f1, f2, f3⟩
    show ∃ X', px_Takings_night_b2 N q1 q2 (f + 1) _ _ = _ ∧ _
    have hts : xt s a t co := xt_fr hs h (fun p h1 h2 => f1 p (by omega))
    have hus : s.1 q1 1 = nI u := by rw [f1 q1 n2]; exact hu
    have hrs : ∀ r, (r < a 76 ∨ r = 4) → xr (s.1 (q1 + 1)) r u (w r) := fun r hr => by rw [f1 (q1 + 1) n3]; exact hrow r hr
    obtain ⟨g, e0, g0⟩ := xq_begin (X := s) (N := N) (p := 111) hN
    obtain ⟨X', e, v1, v2, v3, v5, v6⟩ := xq_row (i := 4) (V := w 4 * sp_by a t (a 76)) (L := vp_updL g 4 (lN (sp_by a t (a 76)))) hN hs hq2 n1 n2 n3 (by omega) hus hu0 hu2 hrs (xcf_one g0 (by decide) (Or.inr rfl) (by omega) rfl)
    rw [← v4] at v1 v2
    have big : sp_nw a t co w 4 < 2 ^ 540 := Nat.lt_of_le_of_lt h4' (Nat.pow_lt_pow_right (by decide) (by omega))
    have h12 : 12 * sp_nw a t co w 4 < nm_B ^ (u + 1) := by
      rw [v4, Nat.pow_succ, ← Nat.mul_assoc]
      exact Nat.mul_lt_mul_of_lt_of_le hlt (Nat.le_trans b4 (by decide)) (by decide)
    obtain ⟨u', es, u0, u19, ule, u12⟩ := xq_settle (X := X') (N := N) (q := q2) hu0 hu2 h12 big v2
    have hus' : X'.1 q1 1 = nI u := by rw [v5 q1 n2]; exact hus
    rw [px_Takings_night_b2]
    simp (disch := omega) only [sm_lt, sm_b1s, sm_b2s, ↓reduceIte, sm_in_nI, nI_clamp, nI_add, pk_mul, pk_sub, ne_addneg, nI_l, ne_ltT, ne_ltF, ne_leT, ne_leF, ne_eqT, ne_eqF, ne_sI1s, ne_sI1n, ne_sI2, ne_sI3, ne_sL1, ne_sL2s, ne_sL2n, ne_sL3, pk_us, pk_un, pk_uLs, pk_uLn, mm_Z, mm_L, mm_1, mm_2, mm_3, ne_rz0, ne_rz1, not_true_eq_false, not_false_eq_true, ne_i0, ne_i1, ne_i2, ne_i3, ne_i4, ne_i5, ne_i6, ne_i7, ne_i8, ne_i9, ne_i10, ne_i12, ne_i14, ne_i16, ne_i18, ne_i19, ne_i20, ne_i23, ne_i24, ne_i27, ne_i29, ne_i30, ne_i31, ne_i32, ne_i35, ne_i48, ne_i52, ne_i54, ne_i57, ne_i59, ne_i63, ne_i64, ne_i76, ne_i77, ne_i78, ne_i79, ne_i80, ne_i81, ne_i97, ne_i99, ne_i100, ne_i101, ne_i104, ne_i105, ne_i108, ne_i110, ne_i111, ne_i116, ne_i117, ne_i122, ne_i103, ne_i200, ne_i255, ne_i256, ne_i320, ne_i384, ne_i1000, ne_l0, ne_l1, ne_l2, ne_l3, ne_l4, ne_l5, ne_l8, ne_l12, ne_l31, ne_l48, ne_l57, ne_l97, ne_l99, ne_l122, ne_l255, ne_l673, ne_l1073741823, ne_l1073741824, hts.1, e0, lF_1, hts.2.1, lF_sL, e, hus', es]
    refine ⟨_, rfl, ⟨u', by rw [ne_sI1s, pk_us], u0, u19, u12, fun r hr => ?_⟩, fun p hp hp1 => ?_, by rw [ne_sI3, v6]; exact f2⟩
    · have hq : q2 + 1 ≠ q2 := by omega
      rw [ne_sI1n hq]
      rcases hr with hr | hr
      · obtain ⟨g1, g2⟩ := f3 r hr
        refine ⟨Nat.lt_of_le_of_lt (hw' r hr) u12, fun j hj => ?_⟩
        rw [v3 _ (by omega)]
        exact g2 j (by omega)
      · subst hr
        exact ⟨by omega, fun j hj => v2 j (by omega)⟩
    · rw [ne_sI1n hp, v5 p hp1]
      exact f1 p hp1
theorem xq_behind {q n m : Nat} (hN : 4000 ≤ N) (hs : sc a t co) (h : xt X a t co) (hx : xsh X q (a 76) w) (hw : sp_w a w) (hb : w 4 ≤ 2 ^ (21 * m)) (hmn : m + n ≤ 24) (hq : xq q) : ∃ q' X', px_Takings_behind N X q (nI n) = some (q', X') ∧ xsh X' q' (a 76) (sp_ns a t co w n) ∧ xq q' ∧ (∀ p, p < 122 ∨ 126 ≤ p → X'.1 p = X.1 p) ∧ X'.2.2 = X.2.2 := by
  unfold px_Takings_behind
  simp (disch := omega) only [sm_lt, sm_b1s, sm_b2s, ↓reduceIte, sm_in_nI, nI_clamp, nI_add, pk_mul, pk_sub, ne_addneg, nI_l, ne_ltT, ne_ltF, ne_leT, ne_leF, ne_eqT, ne_eqF, ne_sI1s, ne_sI1n, ne_sI2, ne_sI3, ne_sL1, ne_sL2s, ne_sL2n, ne_sL3, pk_us, pk_un, pk_uLs, pk_uLn, mm_Z, mm_L, mm_1, mm_2, mm_3, ne_rz0, ne_rz1, not_true_eq_false, not_false_eq_true, ne_i0, ne_i1, ne_i2, ne_i3, ne_i4, ne_i5, ne_i6, ne_i7, ne_i8, ne_i9, ne_i10, ne_i12, ne_i14, ne_i16, ne_i18, ne_i19, ne_i20, ne_i23, ne_i24, ne_i27, ne_i29, ne_i30, ne_i31, ne_i32, ne_i35, ne_i48, ne_i52, ne_i54, ne_i57, ne_i59, ne_i63, ne_i64, ne_i76, ne_i77, ne_i78, ne_i79, ne_i80, ne_i81, ne_i97, ne_i99, ne_i100, ne_i101, ne_i104, ne_i105, ne_i108, ne_i110, ne_i111, ne_i116, ne_i117, ne_i122, ne_i103, ne_i200, ne_i255, ne_i256, ne_i320, ne_i384, ne_i1000, ne_l0, ne_l1, ne_l2, ne_l3, ne_l4, ne_l5, ne_l8, ne_l12, ne_l31, ne_l48, ne_l57, ne_l97, ne_l99, ne_l122, ne_l255, ne_l673, ne_l1073741823, ne_l1073741824]
  refine ne_loop (fun f i (s : Nat × sm_St) => px_Takings_behind_b5 N q f (nI n) s.1 (nI i) s.2) (fun i s => xsh s.2 s.1 (a 76) (sp_ns a t co w i) ∧ xq s.1 ∧ (∀ p, p < 122 ∨ 126 ≤ p → s.2.1 p = X.1 p) ∧ s.2.2.2 = X.2.2) n (fun r => ∃ q' X', r = some (q', X') ∧ xsh X' q' (a 76) (sp_ns a t co w n) ∧ xq q' ∧ (∀ p, p < 122 ∨ 126 ≤ p → X'.1 p = X.1 p) ∧ X'.2.2 = X.2.2) ?_ ?_ N 0 (q, X) (by omega) (by omega) ⟨hx, hq, fun _ _ => rfl, rfl⟩
  · rintro f i ⟨q', s⟩ hi ⟨i1, i2, i3, i4⟩
    simp only at i1 i2 i3 i4
    left
    have hts : xt s a t co := xt_fr hs h (fun p h1 h2 => i3 p (by omega))
    show ∃ s', _ ∧ px_Takings_behind_b5 N q (f + 1) _ _ _ _ = px_Takings_behind_b5 N q f _ _ _ _
    rw [px_Takings_behind_b5]
    unfold px_Takings_behind_b30
    by_cases e : q' = 122
    · subst e
      obtain ⟨X', e1, v1, v2, v3⟩ := xq_night (q2 := 124) hN hs hts i1 (sp_ns_w hs hw i) (sp_ns_4 hs hb i) (by omega) i2 (by omega) (by omega)
      refine ⟨(124, X'), ⟨v1, Or.inr (Or.inr rfl), fun p hp => ?_, by rw [v3]; exact i4⟩, ?_⟩
      · rw [v2 p (by omega) (by omega)]
        exact i3 p hp
      · simp (disch := omega) only [sm_lt, sm_b1s, sm_b2s, ↓reduceIte, sm_in_nI, nI_clamp, nI_add, pk_mul, pk_sub, ne_addneg, nI_l, ne_ltT, ne_ltF, ne_leT, ne_leF, ne_eqT, ne_eqF, ne_sI1s, ne_sI1n, ne_sI2, ne_sI3, ne_sL1, ne_sL2s, ne_sL2n, ne_sL3, pk_us, pk_un, pk_uLs, pk_uLn, mm_Z, mm_L, mm_1, mm_2, mm_3, ne_rz0, ne_rz1, not_true_eq_false, not_false_eq_true, ne_i0, ne_i1, ne_i2, ne_i3, ne_i4, ne_i5, ne_i6, ne_i7, ne_i8, ne_i9, ne_i10, ne_i12, ne_i14, ne_i16, ne_i18, ne_i19, ne_i20, ne_i23, ne_i24, ne_i27, ne_i29, ne_i30, ne_i31, ne_i32, ne_i35, ne_i48, ne_i52, ne_i54, ne_i57, ne_i59, ne_i63, ne_i64, ne_i76, ne_i77, ne_i78, ne_i79, ne_i80, ne_i81, ne_i97, ne_i99, ne_i100, ne_i101, ne_i104, ne_i105, ne_i108, ne_i110, ne_i111, ne_i116, ne_i117, ne_i122, ne_i103, ne_i200, ne_i255, ne_i256, ne_i320, ne_i384, ne_i1000, ne_l0, ne_l1, ne_l2, ne_l3, ne_l4, ne_l5, ne_l8, ne_l12, ne_l31, ne_l48, ne_l57, ne_l97, ne_l99, ne_l122, ne_l255, ne_l673, ne_l1073741823, ne_l1073741824, e1]
    · obtain ⟨X', e1, v1, v2, v3⟩ := xq_night (q2 := 122) hN hs hts i1 (sp_ns_w hs hw i) (sp_ns_4 hs hb i) (by omega) i2 (by omega) e
      refine ⟨(122, X'), ⟨v1, Or.inr (Or.inl rfl), fun p hp => ?_, by rw [v3]; exact i4⟩, ?_⟩
      · rw [v2 p (by omega) (by omega)]
        exact i3 p hp
      · simp (disch := omega) only [sm_lt, sm_b1s, sm_b2s, ↓reduceIte, sm_in_nI, nI_clamp, nI_add, pk_mul, pk_sub, ne_addneg, nI_l, ne_ltT, ne_ltF, ne_leT, ne_leF, ne_eqT, ne_eqF, ne_sI1s, ne_sI1n, ne_sI2, ne_sI3, ne_sL1, ne_sL2s, ne_sL2n, ne_sL3, pk_us, pk_un, pk_uLs, pk_uLn, mm_Z, mm_L, mm_1, mm_2, mm_3, ne_rz0, ne_rz1, not_true_eq_false, not_false_eq_true, ne_i0, ne_i1, ne_i2, ne_i3, ne_i4, ne_i5, ne_i6, ne_i7, ne_i8, ne_i9, ne_i10, ne_i12, ne_i14, ne_i16, ne_i18, ne_i19, ne_i20, ne_i23, ne_i24, ne_i27, ne_i29, ne_i30, ne_i31, ne_i32, ne_i35, ne_i48, ne_i52, ne_i54, ne_i57, ne_i59, ne_i63, ne_i64, ne_i76, ne_i77, ne_i78, ne_i79, ne_i80, ne_i81, ne_i97, ne_i99, ne_i100, ne_i101, ne_i104, ne_i105, ne_i108, ne_i110, ne_i111, ne_i116, ne_i117, ne_i122, ne_i103, ne_i200, ne_i255, ne_i256, ne_i320, ne_i384, ne_i1000, ne_l0, ne_l1, ne_l2, ne_l3, ne_l4, ne_l5, ne_l8, ne_l12, ne_l31, ne_l48, ne_l57, ne_l97, ne_l99, ne_l122, ne_l255, ne_l673, ne_l1073741823, ne_l1073741824, e, e1]
  · rintro f ⟨q', s⟩ ⟨i1, i2, i3, i4⟩
    simp only at i1 i2 i3 i4
    show ∃ q'' X', px_Takings_behind_b5 N q (f + 1) _ _ _ _ = _ ∧ _
    rw [px_Takings_behind_b5]
    simp (disch := omega) only [sm_lt, sm_b1s, sm_b2s, ↓reduceIte, sm_in_nI, nI_clamp, nI_add, pk_mul, pk_sub, ne_addneg, nI_l, ne_ltT, ne_ltF, ne_leT, ne_leF, ne_eqT, ne_eqF, ne_sI1s, ne_sI1n, ne_sI2, ne_sI3, ne_sL1, ne_sL2s, ne_sL2n, ne_sL3, pk_us, pk_un, pk_uLs, pk_uLn, mm_Z, mm_L, mm_1, mm_2, mm_3, ne_rz0, ne_rz1, not_true_eq_false, not_false_eq_true, ne_i0, ne_i1, ne_i2, ne_i3, ne_i4, ne_i5, ne_i6, ne_i7, ne_i8, ne_i9, ne_i10, ne_i12, ne_i14, ne_i16, ne_i18, ne_i19, ne_i20, ne_i23, ne_i24, ne_i27, ne_i29, ne_i30, ne_i31, ne_i32, ne_i35, ne_i48, ne_i52, ne_i54, ne_i57, ne_i59, ne_i63, ne_i64, ne_i76, ne_i77, ne_i78, ne_i79, ne_i80, ne_i81, ne_i97, ne_i99, ne_i100, ne_i101, ne_i104, ne_i105, ne_i108, ne_i110, ne_i111, ne_i116, ne_i117, ne_i122, ne_i103, ne_i200, ne_i255, ne_i256, ne_i320, ne_i384, ne_i1000, ne_l0, ne_l1, ne_l2, ne_l3, ne_l4, ne_l5, ne_l8, ne_l12, ne_l31, ne_l48, ne_l57, ne_l97, ne_l99, ne_l122, ne_l255, ne_l673, ne_l1073741823, ne_l1073741824]
    exact ⟨q', s, rfl, i1, i2, i3, i4⟩
end
