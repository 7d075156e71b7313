/-! the reference puts what it read -/
section
variable {N : Nat} {M S : sm_St} {a v a' v' cl co hr : Nat → Nat} {nc nt c : Nat}
/-- what was read lies there -/
def prM (M : sm_St) (nc nt : Nat) (cl co hr : Nat → Nat) : Prop := M.1 0 29 = nI nc ∧ M.1 0 30 = nI nt ∧ (∀ k, k < 3 * nc → M.1 18 k = nI (cl k)) ∧ (∀ t, t < nt → M.1 20 t = nI (co t)) ∧ ∀ k, k < 32 → M.1 19 k = nI (hr k)
def prC (a' v' cl hr : Nat → Nat) (i x : Nat) : Prop := a' (4 * i) = cl (3 * i) ∧ a' (4 * i + 1) = cl (3 * i + 1) ∧ a' (4 * i + 2) = 0 ∧ a' (4 * i + 3) = 12 ∧ v' (19 + i) = cl (3 * i + 2) ∧ ∀ y, y < x → a' (16 + 8 * i + y) = hr (8 * i + y)
def prI (M S : sm_St) (a v a' v' cl hr : Nat → Nat) (c : Nat) : Prop := nP S v' S ∧ nw a' S ∧ (∀ p, p ≠ 1 → p ≠ 6 → S.1 p = M.1 p) ∧ (∀ i, i < c → prC a' v' cl hr i 8) ∧ (∀ k, 48 ≤ k → a' k = a k) ∧ v' 23 = 1 ∧ ∀ s, (s < 19 ∨ 24 ≤ s) → v' s = v s
theorem pr_hours {r : Int32 → sm_St → Option sm_St} (hN : 4000 ≤ N) (hM : prM M nc nt cl co hr) (hc : c < 4) (h : prI M S a v a' v' cl hr c) (h2 : prC a' v' cl hr c 0) : ∃ S' a', pm_putRead_b61 N r N (nI c) (nI 0) S = r (nI (c + 1)) S' ∧ prI M S' a v a' v' cl hr (c + 1) := by
  refine ne_loop (fun f x (s : sm_St) => pm_putRead_b61 N r f (nI c) (nI x) s) (fun x s => ∃ a', prI M s a v a' v' cl hr c ∧ prC a' v' cl hr c x) 8 (fun o => ∃ S' a', o = r (nI (c + 1)) S' ∧ prI M S' a v a' v' cl hr (c + 1)) ?_ ?_ N 0 S (by omega) (by omega) ⟨a', h, h2⟩
  · rintro f x s hx ⟨a', ⟨g1, g2, g3, g4, g5, g6, g7⟩, c1, c2, c3, c4, c5, c6⟩
    left
    have s19 : s.1 19 (8 * c + x) = nI (hr (8 * c + x)) := by rw [g3 19 (by decide) (by decide)]; exact hM.2.2.2.2 _ (by omega)
    refine ⟨sm_sI s 1 (16 + 8 * c + x) (nI (hr (8 * c + x))), ⟨_, ⟨nP_sIo g1 (by decide), nw_up g2 (by omega), fun p p1 p6 => by rw [ne_sI1n p1]; exact g3 p p1 p6, fun i hi => ?_, fun k hk => by rw [ne_up_n (by omega)]; exact g5 k hk, g6, g7⟩, by rw [ne_up_n (by omega)]; exact c1, by rw [ne_up_n (by omega)]; exact c2, by rw [ne_up_n (by omega)]; exact c3, by rw [ne_up_n (by omega)]; exact c4, c5, fun y hy => ?_⟩, ?_⟩
    · obtain ⟨d1, d2, d3, d4, d5, d6⟩ := g4 i hi
      exact ⟨by rw [ne_up_n (by omega)]; exact d1, by rw [ne_up_n (by omega)]; exact d2, by rw [ne_up_n (by omega)]; exact d3, by rw [ne_up_n (by omega)]; exact d4, d5, fun y hy => by rw [ne_up_n (by omega)]; exact d6 y hy⟩
    · by_cases e : y = x
      · rw [e, ne_up_s]
      · rw [ne_up_n (by omega)]
        exact c6 y (by omega)
    · show pm_putRead_b61 N r (f + 1) _ _ _ = _
      rw [pm_putRead_b61]
      simp (disch := omega) only [sm_lt, sm_b1s, sm_b2s, ↓reduceIte, sm_in_nI, nI_clamp, nI_add, pk_mul, pk_sub, ne_addneg, nI_l, ne_ltT, ne_ltF, ne_leT, ne_leF, ne_eqT, ne_eqF, ne_sI1s, ne_sI1n, ne_sI2, ne_sI3, ne_sL1, ne_sL2s, ne_sL2n, ne_sL3, pk_us, pk_un, pk_uLs, pk_uLn, mm_Z, mm_L, mm_1, mm_2, mm_3, ne_rz0, ne_rz1, not_true_eq_false, not_false_eq_true, ne_i0, ne_i1, ne_i2, ne_i3, ne_i4, ne_i5, ne_i6, ne_i7, ne_i8, ne_i9, ne_i10, ne_i12, ne_i14, ne_i16, ne_i18, ne_i19, ne_i20, ne_i23, ne_i24, ne_i27, ne_i29, ne_i30, ne_i31, ne_i32, ne_i35, ne_i48, ne_i52, ne_i54, ne_i57, ne_i59, ne_i63, ne_i64, ne_i76, ne_i77, ne_i78, ne_i79, ne_i80, ne_i81, ne_i97, ne_i99, ne_i100, ne_i101, ne_i104, ne_i105, ne_i108, ne_i110, ne_i111, ne_i116, ne_i117, ne_i122, ne_i103, ne_i200, ne_i255, ne_i256, ne_i320, ne_i384, ne_i1000, ne_l0, ne_l1, ne_l2, ne_l3, ne_l4, ne_l5, ne_l8, ne_l12, ne_l31, ne_l48, ne_l57, ne_l97, ne_l99, ne_l122, ne_l255, ne_l673, ne_l1073741823, ne_l1073741824, s19]
  · rintro f s ⟨a', ⟨g1, g2, g3, g4, g5, g6, g7⟩, g8⟩
    show ∃ S' a', pm_putRead_b61 N r (f + 1) _ _ _ = _ ∧ _
    rw [pm_putRead_b61]
    simp (disch := omega) only [sm_lt, sm_b1s, sm_b2s, ↓reduceIte, sm_in_nI, nI_clamp, nI_add, pk_mul, pk_sub, ne_addneg, nI_l, ne_ltT, ne_ltF, ne_leT, ne_leF, ne_eqT, ne_eqF, ne_sI1s, ne_sI1n, ne_sI2, ne_sI3, ne_sL1, ne_sL2s, ne_sL2n, ne_sL3, pk_us, pk_un, pk_uLs, pk_uLn, mm_Z, mm_L, mm_1, mm_2, mm_3, ne_rz0, ne_rz1, not_true_eq_false, not_false_eq_true, ne_i0, ne_i1, ne_i2, ne_i3, ne_i4, ne_i5, ne_i6, ne_i7, ne_i8, ne_i9, ne_i10, ne_i12, ne_i14, ne_i16, ne_i18, ne_i19, ne_i20, ne_i23, ne_i24, ne_i27, ne_i29, ne_i30, ne_i31, ne_i32, ne_i35, ne_i48, ne_i52, ne_i54, ne_i57, ne_i59, ne_i63, ne_i64, ne_i76, ne_i77, ne_i78, ne_i79, ne_i80, ne_i81, ne_i97, ne_i99, ne_i100, ne_i101, ne_i104, ne_i105, ne_i108, ne_i110, ne_i111, ne_i116, ne_i117, ne_i122, ne_i103, ne_i200, ne_i255, ne_i256, ne_i320, ne_i384, ne_i1000, ne_l0, ne_l1, ne_l2, ne_l3, ne_l4, ne_l5, ne_l8, ne_l12, ne_l31, ne_l48, ne_l57, ne_l97, ne_l99, ne_l122, ne_l255, ne_l673, ne_l1073741823, ne_l1073741824]
    refine ⟨s, a', rfl, g1, g2, g3, fun i hi => ?_, g5, g6, g7⟩
    by_cases e : i = c
    · rw [e]
      exact g8
    · exact g4 i (by omega)
/-- the end: things, counts -/
def prZ (M S : sm_St) (a v a' v' cl co hr : Nat → Nat) (nc nt : Nat) : Prop := nP S v' S ∧ nw a' S ∧ (∀ p, p ≠ 1 → p ≠ 6 → S.1 p = M.1 p) ∧ (∀ i, i < nc → prC a' v' cl hr i 8) ∧ (∀ t, t < nt → a' (48 + t) = co t) ∧ (∀ k, 52 ≤ k → k < 76 → a' k = a k) ∧ (a' 76 = nc ∧ a' 77 = nt ∧ a' 78 = 0 ∧ a' 79 = 0 ∧ a' 80 = a 80) ∧ v' 23 = 1 ∧ ∀ s, (s < 19 ∨ 24 ≤ s) → v' s = v s
theorem pr_things (hN : 4000 ≤ N) (hM : prM M nc nt cl co hr) (hc : nc ≤ 4) (ht : nt ≤ 4) (h : prI M S a v a' v' cl hr nc) : ∃ S' a', pm_putRead_b106 N N (nI 0) S = some S' ∧ prZ M S' a v a' v' cl co hr nc nt := by
  refine ne_loop (fun f t (s : sm_St) => pm_putRead_b106 N f (nI t) s) (fun t s => ∃ a', nP s v' s ∧ nw a' s ∧ (∀ p, p ≠ 1 → p ≠ 6 → s.1 p = M.1 p) ∧ (∀ i, i < nc → prC a' v' cl hr i 8) ∧ (∀ k, k < t → a' (48 + k) = co k) ∧ (∀ k, 52 ≤ k → a' k = a k)) nt (fun o => ∃ S' a', o = some S' ∧ prZ M S' a v a' v' cl co hr nc nt) ?_ ?_ N 0 S (by omega) (by omega) ⟨a', h.1, h.2.1, h.2.2.1, h.2.2.2.1, fun k hk => by omega, fun k hk => h.2.2.2.2.1 k (by omega)⟩
  · rintro f t s hlt ⟨a', g1, g2, g3, g4, g5, g6⟩
    left
    have s20 : s.1 20 t = nI (co t) := by rw [g3 20 (by decide) (by decide)]; exact hM.2.2.2.1 _ hlt
    have s30 : s.1 0 30 = nI nt := by rw [g3 0 (by decide) (by decide)]; exact hM.2.1
    refine ⟨sm_sI s 1 (48 + t) (nI (co t)), ⟨_, nP_sIo g1 (by decide), nw_up g2 (by omega), fun p p1 p6 => by rw [ne_sI1n p1]; exact g3 p p1 p6, fun i hi => ?_, fun k hk => ?_, fun k hk => by rw [ne_up_n (by omega)]; exact g6 k hk⟩, ?_⟩
    · obtain ⟨d1, d2, d3, d4, d5, d6⟩ := g4 i hi
      exact ⟨by rw [ne_up_n (by omega)]; exact d1, by rw [ne_up_n (by omega)]; exact d2, by rw [ne_up_n (by omega)]; exact d3, by rw [ne_up_n (by omega)]; exact d4, d5, fun y hy => by rw [ne_up_n (by omega)]; exact d6 y hy⟩
    · by_cases e : k = t
      · rw [e, ne_up_s]
      · rw [ne_up_n (by omega)]
        exact g5 k (by omega)
    · show pm_putRead_b106 N (f + 1) _ _ = _
      rw [pm_putRead_b106]
      simp (disch := omega) only [sm_lt, sm_b1s, sm_b2s, ↓reduceIte, sm_in_nI, nI_clamp, nI_add, pk_mul, pk_sub, ne_addneg, nI_l, ne_ltT, ne_ltF, ne_leT, ne_leF, ne_eqT, ne_eqF, ne_sI1s, ne_sI1n, ne_sI2, ne_sI3, ne_sL1, ne_sL2s, ne_sL2n, ne_sL3, pk_us, pk_un, pk_uLs, pk_uLn, mm_Z, mm_L, mm_1, mm_2, mm_3, ne_rz0, ne_rz1, not_true_eq_false, not_false_eq_true, ne_i0, ne_i1, ne_i2, ne_i3, ne_i4, ne_i5, ne_i6, ne_i7, ne_i8, ne_i9, ne_i10, ne_i12, ne_i14, ne_i16, ne_i18, ne_i19, ne_i20, ne_i23, ne_i24, ne_i27, ne_i29, ne_i30, ne_i31, ne_i32, ne_i35, ne_i48, ne_i52, ne_i54, ne_i57, ne_i59, ne_i63, ne_i64, ne_i76, ne_i77, ne_i78, ne_i79, ne_i80, ne_i81, ne_i97, ne_i99, ne_i100, ne_i101, ne_i104, ne_i105, ne_i108, ne_i110, ne_i111, ne_i116, ne_i117, ne_i122, ne_i103, ne_i200, ne_i255, ne_i256, ne_i320, ne_i384, ne_i1000, ne_l0, ne_l1, ne_l2, ne_l3, ne_l4, ne_l5, ne_l8, ne_l12, ne_l31, ne_l48, ne_l57, ne_l97, ne_l99, ne_l122, ne_l255, ne_l673, ne_l1073741823, ne_l1073741824, s20, s30]
  · rintro f s ⟨a', g1, g2, g3, g4, g5, g6⟩
    have s29 : s.1 0 29 = nI nc := by rw [g3 0 (by decide) (by decide)]; exact hM.1
    have s30 : s.1 0 30 = nI nt := by rw [g3 0 (by decide) (by decide)]; exact hM.2.1
    show ∃ S' a', pm_putRead_b106 N (f + 1) _ _ = _ ∧ _
    rw [pm_putRead_b106]
    simp (disch := omega) only [sm_lt, sm_b1s, sm_b2s, ↓reduceIte, sm_in_nI, nI_clamp, nI_add, pk_mul, pk_sub, ne_addneg, nI_l, ne_ltT, ne_ltF, ne_leT, ne_leF, ne_eqT, ne_eqF, ne_sI1s, ne_sI1n, ne_sI2, ne_sI3, ne_sL1, ne_sL2s, ne_sL2n, ne_sL3, pk_us, pk_un, pk_uLs, pk_uLn, mm_Z, mm_L, mm_1, mm_2, mm_3, ne_rz0, ne_rz1, not_true_eq_false, not_false_eq_true, ne_i0, ne_i1, ne_i2, ne_i3, ne_i4, ne_i5, ne_i6, ne_i7, ne_i8, ne_i9, ne_i10, ne_i12, ne_i14, ne_i16, ne_i18, ne_i19, ne_i20, ne_i23, ne_i24, ne_i27, ne_i29, ne_i30, ne_i31, ne_i32, ne_i35, ne_i48, ne_i52, ne_i54, ne_i57, ne_i59, ne_i63, ne_i64, ne_i76, ne_i77, ne_i78, ne_i79, ne_i80, ne_i81, ne_i97, ne_i99, ne_i100, ne_i101, ne_i104, ne_i105, ne_i108, ne_i110, ne_i111, ne_i116, ne_i117, ne_i122, ne_i103, ne_i200, ne_i255, ne_i256, ne_i320, ne_i384, ne_i1000, ne_l0, ne_l1, ne_l2, ne_l3, ne_l4, ne_l5, ne_l8, ne_l12, ne_l31, ne_l48, ne_l57, ne_l97, ne_l99, ne_l122, ne_l255, ne_l673, ne_l1073741823, ne_l1073741824, s29, s30]
    refine ⟨_, va_up (va_up (va_up (va_up a' 76 nc) 77 nt) 78 0) 79 0, rfl, nP_sIo (nP_sIo (nP_sIo (nP_sIo g1 (by decide)) (by decide)) (by decide)) (by decide), nw_up (nw_up (nw_up (nw_up g2 (by omega)) (by omega)) (by omega)) (by omega), fun p p1 p6 => by rw [ne_sI1n p1, ne_sI1n p1, ne_sI1n p1, ne_sI1n p1]; exact g3 p p1 p6, fun i hi => ?_, fun t ht => ?_, fun k k1 k2 => ?_, ?_, h.2.2.2.2.2.1, h.2.2.2.2.2.2⟩
    · have f : ∀ k, k < 76 → va_up (va_up (va_up (va_up a' 76 nc) 77 nt) 78 0) 79 0 k = a' k := fun k hk => by rw [ne_up_n (by omega), ne_up_n (by omega), ne_up_n (by omega), ne_up_n (by omega)]
      obtain ⟨d1, d2, d3, d4, d5, d6⟩ := g4 i hi
      exact ⟨by rw [f _ (by omega)]; exact d1, by rw [f _ (by omega)]; exact d2, by rw [f _ (by omega)]; exact d3, by rw [f _ (by omega)]; exact d4, d5, fun y hy => by rw [f _ (by omega)]; exact d6 y hy⟩
    · rw [ne_up_n (by omega), ne_up_n (by omega), ne_up_n (by omega), ne_up_n (by omega)]
      exact g5 t ht
    · rw [ne_up_n (by omega), ne_up_n (by omega), ne_up_n (by omega), ne_up_n (by omega)]
      exact g6 k k1
    · refine ⟨?_, ?_, ?_, ?_, ?_⟩
      · rw [ne_up_n (by omega), ne_up_n (by omega), ne_up_n (by omega), ne_up_s]
      · rw [ne_up_n (by omega), ne_up_n (by omega), ne_up_s]
      · rw [ne_up_n (by omega), ne_up_s]
      · rw [ne_up_s]
      · rw [ne_up_n (by omega), ne_up_n (by omega), ne_up_n (by omega), ne_up_n (by omega)]
        exact g6 80 (by omega)
/-- one cloth -/
theorem pr_cloth {r : Int32 → sm_St → Option sm_St} (hN : 4000 ≤ N) (hM : prM M nc nt cl co hr) (hJ : pzJ nc nt cl co hr) (hc : c < nc) (h : prI M S a v a' v' cl hr c) : ∃ S' a' v', sm_b1 (pm_layCloth N S (nI c) (nI (cl (3 * c))) (nI (cl (3 * c + 1)))) (fun (S_4 : sm_St) => if sm_in (((3 : Int32) * nI c) + (2 : Int32)) 12 = true then (sm_b1 (pm_set N S_4 ((19 : Int32) + nI c) ((S_4.1 18 (((3 : Int32) * nI c) + (2 : Int32)).toNatClampNeg).toInt64)) (fun (S_5 : sm_St) => sm_lt (0 : Int32) (fun (v2_6 : Int32) => pm_putRead_b61 N r N (nI c) v2_6 S_5))) else none) = r (nI (c + 1)) S' ∧ prI M S' a v a' v' cl hr (c + 1) := by
  obtain ⟨⟨j1, j2⟩, j3, j4, j5⟩ := hJ
  have b := (j3 c hc).2.2
  obtain ⟨g1, g2, g3, g4, g5, g6, g7⟩ := h
  obtain ⟨S1, M1, a1, e1, m1, m2, m3, m4, m5, m6, m7, m8, m9, m10⟩ := np_layCloth (N := N) (c := c) (kd := cl (3 * c)) (hd := cl (3 * c + 1)) hN g1 g2 (show c < 4 by omega)
  obtain ⟨S2, e2, p2⟩ := nP_set (a := 19 + c) (x := cl (3 * c + 2)) hN m1 (by omega) (by omega)
  have f1 : ∀ p, p ≠ 1 → p ≠ 6 → S1.1 p = M.1 p := fun p p1 p6 => by rw [nP_1 m1 p6, m9 p p1]; exact g3 p p1 p6
  have f2 : ∀ p, p ≠ 1 → p ≠ 6 → S2.1 p = M.1 p := fun p p1 p6 => by rw [nP_1 p2 p6, m9 p p1]; exact g3 p p1 p6
  have s18 : S1.1 18 (3 * c + 2) = nI (cl (3 * c + 2)) := by rw [f1 18 (by decide) (by decide)]; exact hM.2.2.1 _ (by omega)
  have I2 : prI M S2 a v a1 (va_up v' (19 + c) (cl (3 * c + 2))) cl hr c := by
    refine ⟨nP_own p2, nP_nw p2 m2, f2, fun i hi => ?_, fun k hk => by rw [m8 k (by omega) (by omega)]; exact g5 k hk, by rw [ne_up_n (by omega)]; exact g6, fun s hs => by rw [ne_up_n (by omega)]; exact g7 s hs⟩
    obtain ⟨d1, d2, d3, d4, d5, d6⟩ := g4 i hi
    exact ⟨by rw [m8 _ (by omega) (by omega)]; exact d1, by rw [m8 _ (by omega) (by omega)]; exact d2, by rw [m8 _ (by omega) (by omega)]; exact d3, by rw [m8 _ (by omega) (by omega)]; exact d4, by rw [ne_up_n (by omega)]; exact d5, fun y hy => by rw [m8 _ (by omega) (by omega)]; exact d6 y hy⟩
  obtain ⟨S3, a3, e3, I3⟩ := pr_hours (r := r) hN hM (show c < 4 by omega) I2 ⟨m3, m4, m5, m6, ne_up_s, fun y hy => by omega⟩
  refine ⟨S3, a3, _, ?_, I3⟩
  rw [e1, sm_b1s]
  simp (disch := omega) only [sm_lt, sm_b1s, sm_b2s, ↓reduceIte, sm_in_nI, nI_clamp, nI_add, pk_mul, pk_sub, ne_addneg, nI_l, ne_ltT, ne_ltF, ne_leT, ne_leF, ne_eqT, ne_eqF, ne_sI1s, ne_sI1n, ne_sI2, ne_sI3, ne_sL1, ne_sL2s, ne_sL2n, ne_sL3, pk_us, pk_un, pk_uLs, pk_uLn, mm_Z, mm_L, mm_1, mm_2, mm_3, ne_rz0, ne_rz1, not_true_eq_false, not_false_eq_true, ne_i0, ne_i1, ne_i2, ne_i3, ne_i4, ne_i5, ne_i6, ne_i7, ne_i8, ne_i9, ne_i10, ne_i12, ne_i14, ne_i16, ne_i18, ne_i19, ne_i20, ne_i23, ne_i24, ne_i27, ne_i29, ne_i30, ne_i31, ne_i32, ne_i35, ne_i48, ne_i52, ne_i54, ne_i57, ne_i59, ne_i63, ne_i64, ne_i76, ne_i77, ne_i78, ne_i79, ne_i80, ne_i81, ne_i97, ne_i99, ne_i100, ne_i101, ne_i104, ne_i105, ne_i108, ne_i110, ne_i111, ne_i116, ne_i117, ne_i122, ne_i103, ne_i200, ne_i255, ne_i256, ne_i320, ne_i384, ne_i1000, ne_l0, ne_l1, ne_l2, ne_l3, ne_l4, ne_l5, ne_l8, ne_l12, ne_l31, ne_l48, ne_l57, ne_l97, ne_l99, ne_l122, ne_l255, ne_l673, ne_l1073741823, ne_l1073741824, s18, e2, e3]
theorem pr_all (hN : 4000 ≤ N) (hM : prM M nc nt cl co hr) (hJ : pzJ nc nt cl co hr) (hP : nP M v M) (hw : nw a M) : ∃ S' a' v', pm_putRead N M = some S' ∧ prZ M S' a v a' v' cl co hr nc nt := by
  have j1 := hJ.1.1
  obtain ⟨S1, e1, p1⟩ := nP_set (a := 23) (x := 1) hN hP (by decide) (by decide)
  have h0 : prI M S1 a v a (va_up v 23 1) cl hr 0 := ⟨nP_own p1, nP_nw p1 hw, fun p _ p6 => nP_1 p1 p6, fun i hi => absurd hi (Nat.not_lt_zero _), fun _ _ => rfl, ne_up_s, fun s hs => ne_up_n (by omega)⟩
  have main : ∃ S' a' v', pm_putRead_b9 N N (nI 0) S1 = some S' ∧ prZ M S' a v a' v' cl co hr nc nt := by
    refine ne_loop (fun f c (s : sm_St) => pm_putRead_b9 N f (nI c) s) (fun c s => ∃ a' v', prI M s a v a' v' cl hr c) nc (fun o => ∃ S' a' v', o = some S' ∧ prZ M S' a v a' v' cl co hr nc nt) ?_ ?_ N 0 S1 (by omega) (by omega) ⟨_, _, h0⟩
    · rintro f c s hc ⟨a', v', h⟩
      left
      obtain ⟨S', a2, v2, e, g⟩ := pr_cloth (r := pm_putRead_b9 N f) hN hM hJ hc h
      refine ⟨S', ⟨a2, v2, g⟩, ?_⟩
      have s29 : s.1 0 29 = nI nc := by rw [h.2.2.1 0 (by decide) (by decide)]; exact hM.1
      have s18 : ∀ k, k < 3 * nc → s.1 18 k = nI (cl k) := fun k hk => by rw [h.2.2.1 18 (by decide) (by decide)]; exact hM.2.2.1 k hk
      have i0 : ((3 : Int32) * nI c).toNatClampNeg = 3 * c := by simp (disch := omega) only [sm_lt, sm_b1s, sm_b2s, ↓reduceIte, sm_in_nI, nI_clamp, nI_add, pk_mul, pk_sub, ne_addneg, nI_l, ne_ltT, ne_ltF, ne_leT, ne_leF, ne_eqT, ne_eqF, ne_sI1s, ne_sI1n, ne_sI2, ne_sI3, ne_sL1, ne_sL2s, ne_sL2n, ne_sL3, pk_us, pk_un, pk_uLs, pk_uLn, mm_Z, mm_L, mm_1, mm_2, mm_3, ne_rz0, ne_rz1, not_true_eq_false, not_false_eq_true, ne_i0, ne_i1, ne_i2, ne_i3, ne_i4, ne_i5, ne_i6, ne_i7, ne_i8, ne_i9, ne_i10, ne_i12, ne_i14, ne_i16, ne_i18, ne_i19, ne_i20, ne_i23, ne_i24, ne_i27, ne_i29, ne_i30, ne_i31, ne_i32, ne_i35, ne_i48, ne_i52, ne_i54, ne_i57, ne_i59, ne_i63, ne_i64, ne_i76, ne_i77, ne_i78, ne_i79, ne_i80, ne_i81, ne_i97, ne_i99, ne_i100, ne_i101, ne_i104, ne_i105, ne_i108, ne_i110, ne_i111, ne_i116, ne_i117, ne_i122, ne_i103, ne_i200, ne_i255, ne_i256, ne_i320, ne_i384, ne_i1000, ne_l0, ne_l1, ne_l2, ne_l3, ne_l4, ne_l5, ne_l8, ne_l12, ne_l31, ne_l48, ne_l57, ne_l97, ne_l99, ne_l122, ne_l255, ne_l673, ne_l1073741823, ne_l1073741824]
      have i1 : (((3 : Int32) * nI c) + (1 : Int32)).toNatClampNeg = 3 * c + 1 := by simp (disch := omega) only [sm_lt, sm_b1s, sm_b2s, ↓reduceIte, sm_in_nI, nI_clamp, nI_add, pk_mul, pk_sub, ne_addneg, nI_l, ne_ltT, ne_ltF, ne_leT, ne_leF, ne_eqT, ne_eqF, ne_sI1s, ne_sI1n, ne_sI2, ne_sI3, ne_sL1, ne_sL2s, ne_sL2n, ne_sL3, pk_us, pk_un, pk_uLs, pk_uLn, mm_Z, mm_L, mm_1, mm_2, mm_3, ne_rz0, ne_rz1, not_true_eq_false, not_false_eq_true, ne_i0, ne_i1, ne_i2, ne_i3, ne_i4, ne_i5, ne_i6, ne_i7, ne_i8, ne_i9, ne_i10, ne_i12, ne_i14, ne_i16, ne_i18, ne_i19, ne_i20, ne_i23, ne_i24, ne_i27, ne_i29, ne_i30, ne_i31, ne_i32, ne_i35, ne_i48, ne_i52, ne_i54, ne_i57, ne_i59, ne_i63, ne_i64, ne_i76, ne_i77, ne_i78, ne_i79, ne_i80, ne_i81, ne_i97, ne_i99, ne_i100, ne_i101, ne_i104, ne_i105, ne_i108, ne_i110, ne_i111, ne_i116, ne_i117, ne_i122, ne_i103, ne_i200, ne_i255, ne_i256, ne_i320, ne_i384, ne_i1000, ne_l0, ne_l1, ne_l2, ne_l3, ne_l4, ne_l5, ne_l8, ne_l12, ne_l31, ne_l48, ne_l57, ne_l97, ne_l99, ne_l122, ne_l255, ne_l673, ne_l1073741823, ne_l1073741824]
      have n0 : sm_in ((3 : Int32) * nI c) 12 = true := by simp (disch := omega) only [sm_lt, sm_b1s, sm_b2s, ↓reduceIte, sm_in_nI, nI_clamp, nI_add, pk_mul, pk_sub, ne_addneg, nI_l, ne_ltT, ne_ltF, ne_leT, ne_leF, ne_eqT, ne_eqF, ne_sI1s, ne_sI1n, ne_sI2, ne_sI3, ne_sL1, ne_sL2s, ne_sL2n, ne_sL3, pk_us, pk_un, pk_uLs, pk_uLn, mm_Z, mm_L, mm_1, mm_2, mm_3, ne_rz0, ne_rz1, not_true_eq_false, not_false_eq_true, ne_i0, ne_i1, ne_i2, ne_i3, ne_i4, ne_i5, ne_i6, ne_i7, ne_i8, ne_i9, ne_i10, ne_i12, ne_i14, ne_i16, ne_i18, ne_i19, ne_i20, ne_i23, ne_i24, ne_i27, ne_i29, ne_i30, ne_i31, ne_i32, ne_i35, ne_i48, ne_i52, ne_i54, ne_i57, ne_i59, ne_i63, ne_i64, ne_i76, ne_i77, ne_i78, ne_i79, ne_i80, ne_i81, ne_i97, ne_i99, ne_i100, ne_i101, ne_i104, ne_i105, ne_i108, ne_i110, ne_i111, ne_i116, ne_i117, ne_i122, ne_i103, ne_i200, ne_i255, ne_i256, ne_i320, ne_i384, ne_i1000, ne_l0, ne_l1, ne_l2, ne_l3, ne_l4, ne_l5, ne_l8, ne_l12, ne_l31, ne_l48, ne_l57, ne_l97, ne_l99, ne_l122, ne_l255, ne_l673, ne_l1073741823, ne_l1073741824]
      have n1 : sm_in (((3 : Int32) * nI c) + (1 : Int32)) 12 = true := by simp (disch := omega) only [sm_lt, sm_b1s, sm_b2s, ↓reduceIte, sm_in_nI, nI_clamp, nI_add, pk_mul, pk_sub, ne_addneg, nI_l, ne_ltT, ne_ltF, ne_leT, ne_leF, ne_eqT, ne_eqF, ne_sI1s, ne_sI1n, ne_sI2, ne_sI3, ne_sL1, ne_sL2s, ne_sL2n, ne_sL3, pk_us, pk_un, pk_uLs, pk_uLn, mm_Z, mm_L, mm_1, mm_2, mm_3, ne_rz0, ne_rz1, not_true_eq_false, not_false_eq_true, ne_i0, ne_i1, ne_i2, ne_i3, ne_i4, ne_i5, ne_i6, ne_i7, ne_i8, ne_i9, ne_i10, ne_i12, ne_i14, ne_i16, ne_i18, ne_i19, ne_i20, ne_i23, ne_i24, ne_i27, ne_i29, ne_i30, ne_i31, ne_i32, ne_i35, ne_i48, ne_i52, ne_i54, ne_i57, ne_i59, ne_i63, ne_i64, ne_i76, ne_i77, ne_i78, ne_i79, ne_i80, ne_i81, ne_i97, ne_i99, ne_i100, ne_i101, ne_i104, ne_i105, ne_i108, ne_i110, ne_i111, ne_i116, ne_i117, ne_i122, ne_i103, ne_i200, ne_i255, ne_i256, ne_i320, ne_i384, ne_i1000, ne_l0, ne_l1, ne_l2, ne_l3, ne_l4, ne_l5, ne_l8, ne_l12, ne_l31, ne_l48, ne_l57, ne_l97, ne_l99, ne_l122, ne_l255, ne_l673, ne_l1073741823, ne_l1073741824]
      show pm_putRead_b9 N (f + 1) _ _ = _
      rw [pm_putRead_b9, s29, if_neg (show ¬ nI nc ≤ nI c from nI_ge hc (by omega)), if_pos n0, if_pos n1, i0, i1, s18 (3 * c) (by omega), s18 (3 * c + 1) (by omega)]
      exact e
    · rintro f s ⟨a', v', h⟩
      have s29 : s.1 0 29 = nI nc := by rw [h.2.2.1 0 (by decide) (by decide)]; exact hM.1
      obtain ⟨S', a2, e, g⟩ := pr_things hN hM j1 hJ.1.2 h
      refine ⟨S', a2, v', ?_, g⟩
      show pm_putRead_b9 N (f + 1) _ _ = _
      rw [pm_putRead_b9]
      simp (disch := omega) only [sm_lt, sm_b1s, sm_b2s, ↓reduceIte, sm_in_nI, nI_clamp, nI_add, pk_mul, pk_sub, ne_addneg, nI_l, ne_ltT, ne_ltF, ne_leT, ne_leF, ne_eqT, ne_eqF, ne_sI1s, ne_sI1n, ne_sI2, ne_sI3, ne_sL1, ne_sL2s, ne_sL2n, ne_sL3, pk_us, pk_un, pk_uLs, pk_uLn, mm_Z, mm_L, mm_1, mm_2, mm_3, ne_rz0, ne_rz1, not_true_eq_false, not_false_eq_true, ne_i0, ne_i1, ne_i2, ne_i3, ne_i4, ne_i5, ne_i6, ne_i7, ne_i8, ne_i9, ne_i10, ne_i12, ne_i14, ne_i16, ne_i18, ne_i19, ne_i20, ne_i23, ne_i24, ne_i27, ne_i29, ne_i30, ne_i31, ne_i32, ne_i35, ne_i48, ne_i52, ne_i54, ne_i57, ne_i59, ne_i63, ne_i64, ne_i76, ne_i77, ne_i78, ne_i79, ne_i80, ne_i81, ne_i97, ne_i99, ne_i100, ne_i101, ne_i104, ne_i105, ne_i108, ne_i110, ne_i111, ne_i116, ne_i117, ne_i122, ne_i103, ne_i200, ne_i255, ne_i256, ne_i320, ne_i384, ne_i1000, ne_l0, ne_l1, ne_l2, ne_l3, ne_l4, ne_l5, ne_l8, ne_l12, ne_l31, ne_l48, ne_l57, ne_l97, ne_l99, ne_l122, ne_l255, ne_l673, ne_l1073741823, ne_l1073741824, s29, e]
  obtain ⟨S', a', v', e, g⟩ := main
  refine ⟨S', a', v', ?_, g⟩
  unfold pm_putRead
  have e1' : pm_set N M (23 : Int32) (1 : Int64) = some S1 := e1
  rw [e1', sm_b1s]
  simp (disch := omega) only [sm_lt, sm_b1s, sm_b2s, ↓reduceIte, sm_in_nI, nI_clamp, nI_add, pk_mul, pk_sub, ne_addneg, nI_l, ne_ltT, ne_ltF, ne_leT, ne_leF, ne_eqT, ne_eqF, ne_sI1s, ne_sI1n, ne_sI2, ne_sI3, ne_sL1, ne_sL2s, ne_sL2n, ne_sL3, pk_us, pk_un, pk_uLs, pk_uLn, mm_Z, mm_L, mm_1, mm_2, mm_3, ne_rz0, ne_rz1, not_true_eq_false, not_false_eq_true, ne_i0, ne_i1, ne_i2, ne_i3, ne_i4, ne_i5, ne_i6, ne_i7, ne_i8, ne_i9, ne_i10, ne_i12, ne_i14, ne_i16, ne_i18, ne_i19, ne_i20, ne_i23, ne_i24, ne_i27, ne_i29, ne_i30, ne_i31, ne_i32, ne_i35, ne_i48, ne_i52, ne_i54, ne_i57, ne_i59, ne_i63, ne_i64, ne_i76, ne_i77, ne_i78, ne_i79, ne_i80, ne_i81, ne_i97, ne_i99, ne_i100, ne_i101, ne_i104, ne_i105, ne_i108, ne_i110, ne_i111, ne_i116, ne_i117, ne_i122, ne_i103, ne_i200, ne_i255, ne_i256, ne_i320, ne_i384, ne_i1000, ne_l0, ne_l1, ne_l2, ne_l3, ne_l4, ne_l5, ne_l8, ne_l12, ne_l31, ne_l48, ne_l57, ne_l97, ne_l99, ne_l122, ne_l255, ne_l673, ne_l1073741823, ne_l1073741824, e]
end
