section
variable {N : Nat} {X S : sm_St} {a b v ik tx : Nat → Nat} {len : Nat}
/-- the base is M0's but for table and colours and the orders -/
def MC (M S : sm_St) : Prop := ∀ p, p ≠ 7 → p ≠ 8 → p ≠ 15 → p ≠ 16 → M.1 p = S.1 p
theorem MC_nw {M : sm_St} (h : MC M S) (hn : nw a S) : nw a M := fun k hk => by rw [h 1 (by decide) (by decide) (by decide) (by decide)]; exact hn k hk
theorem np_zero {M : sm_St} {w : Nat → Nat} (hN : 4000 ≤ N) (hW : nW M v w S) : ∃ M' S', pm_comesOutWell_b6 N N (nI 0) S = pm_comesOutWell_b27 N N (nI 1) S' ∧ nW M' v w S' ∧ tbl M' (fun _ => 0) ∧ ∀ p, p ≠ 7 → M'.1 p = M.1 p := by
  have z7 : (zm_sh 7).2 = 32 := rfl
  refine ne_loop (fun f i (s : sm_St × sm_St) => pm_comesOutWell_b6 N f (nI i) s.2) (fun i s => nW s.1 v w s.2 ∧ (∀ k, k < i → s.1.1 7 k = nI 0) ∧ ∀ p, p ≠ 7 → s.1.1 p = M.1 p) 32 (fun o => ∃ M' S', o = pm_comesOutWell_b27 N N (nI 1) S' ∧ nW M' v w S' ∧ tbl M' (fun _ => 0) ∧ ∀ p, p ≠ 7 → M'.1 p = M.1 p) ?_ ?_ N 0 (M, S) (by omega) (by omega) ⟨hW, fun k h => by omega, fun p _ => rfl⟩
  · rintro f i ⟨M1, S1⟩ hi ⟨i1, i2, i3⟩
    simp only at i1 i2 i3
    left
    refine ⟨(sm_sI M1 7 i (nI 0), sm_sI S1 7 i (nI 0)), ⟨nW_sI i1 (by decide), fun k hk => ?_, fun p hp => by rw [ne_sI1n hp]; exact i3 p hp⟩, ?_⟩
    · rw [ne_sI1s]
      by_cases e : k = i
      · subst e
        exact pk_us
      · rw [pk_un e]
        exact i2 k (by omega)
    · show pm_comesOutWell_b6 N (f + 1) _ _ = pm_comesOutWell_b6 N f _ _
      rw [pm_comesOutWell_b6]
      simp (disch := omega) only [sm_lt, sm_b1s, sm_b2s, ↓reduceIte, sm_in_nI, nI_clamp, nI_add, pk_mul, pk_sub, ne_addneg, nI_l, ne_ltT, ne_ltF, ne_leT, ne_leF, ne_eqT, ne_eqF, ne_sI1s, ne_sI1n, ne_sI2, ne_sI3, ne_sL1, ne_sL2s, ne_sL2n, ne_sL3, pk_us, pk_un, pk_uLs, pk_uLn, mm_Z, mm_L, mm_1, mm_2, mm_3, ne_rz0, ne_rz1, not_true_eq_false, not_false_eq_true, ne_i0, ne_i1, ne_i2, ne_i3, ne_i4, ne_i5, ne_i6, ne_i7, ne_i8, ne_i9, ne_i10, ne_i12, ne_i14, ne_i16, ne_i18, ne_i19, ne_i20, ne_i23, ne_i24, ne_i27, ne_i29, ne_i30, ne_i31, ne_i32, ne_i35, ne_i48, ne_i52, ne_i54, ne_i57, ne_i59, ne_i63, ne_i64, ne_i76, ne_i77, ne_i78, ne_i79, ne_i80, ne_i81, ne_i97, ne_i99, ne_i100, ne_i101, ne_i104, ne_i105, ne_i108, ne_i110, ne_i111, ne_i116, ne_i117, ne_i122, ne_i103, ne_i200, ne_i255, ne_i256, ne_i320, ne_i384, ne_i1000, ne_l0, ne_l1, ne_l2, ne_l3, ne_l4, ne_l5, ne_l8, ne_l12, ne_l31, ne_l48, ne_l57, ne_l97, ne_l99, ne_l122, ne_l255, ne_l673, ne_l1073741823, ne_l1073741824, z7]
  · rintro f ⟨M1, S1⟩ ⟨i1, i2, i3⟩
    simp only at i1 i2 i3
    dsimp only
    rw [pm_comesOutWell_b6]
    refine ⟨M1, S1, ?_, i1, fun k hk => i2 k hk, i3⟩
    simp (disch := omega) only [sm_lt, sm_b1s, sm_b2s, ↓reduceIte, sm_in_nI, nI_clamp, nI_add, pk_mul, pk_sub, ne_addneg, nI_l, ne_ltT, ne_ltF, ne_leT, ne_leF, ne_eqT, ne_eqF, ne_sI1s, ne_sI1n, ne_sI2, ne_sI3, ne_sL1, ne_sL2s, ne_sL2n, ne_sL3, pk_us, pk_un, pk_uLs, pk_uLn, mm_Z, mm_L, mm_1, mm_2, mm_3, ne_rz0, ne_rz1, not_true_eq_false, not_false_eq_true, ne_i0, ne_i1, ne_i2, ne_i3, ne_i4, ne_i5, ne_i6, ne_i7, ne_i8, ne_i9, ne_i10, ne_i12, ne_i14, ne_i16, ne_i18, ne_i19, ne_i20, ne_i23, ne_i24, ne_i27, ne_i29, ne_i30, ne_i31, ne_i32, ne_i35, ne_i48, ne_i52, ne_i54, ne_i57, ne_i59, ne_i63, ne_i64, ne_i76, ne_i77, ne_i78, ne_i79, ne_i80, ne_i81, ne_i97, ne_i99, ne_i100, ne_i101, ne_i104, ne_i105, ne_i108, ne_i110, ne_i111, ne_i116, ne_i117, ne_i122, ne_i103, ne_i200, ne_i255, ne_i256, ne_i320, ne_i384, ne_i1000, ne_l0, ne_l1, ne_l2, ne_l3, ne_l4, ne_l5, ne_l8, ne_l12, ne_l31, ne_l48, ne_l57, ne_l97, ne_l99, ne_l122, ne_l255, ne_l673, ne_l1073741823, ne_l1073741824]
theorem np_well {M : sm_St} {w o : Nat → Nat} (hN : 4000 ≤ N) (hok : sp_ok a) (hW : nW M v w S) (hwi : ∀ i, 5 ≤ i → w i = v (14 + i)) (hn : nw a M) (hwv : wv1 a (wn v) (a 78)) (ho : ∀ i, i < a 76 → o i < a 76 ∧ M.1 15 i = nI (o i)) : ∃ M' S' w', pm_comesOutWell N S = some (nI (sp_b (sp_ft a (sp_ns a (sp_hc o (a 76 - 1)) (ac_ a) (wn v) 1) (a 76))), S') ∧ nW M' v w' S' ∧ (∀ i, 5 ≤ i → w' i = v (14 + i)) ∧ ∀ p, p ≠ 7 → p ≠ 8 → M'.1 p = M.1 p := by
  have hs := sp_ok_sc hok
  obtain ⟨o1, o2, o3, o4, o5, o6, o7, o8, o9, o10⟩ := hok
  obtain ⟨S1, e1, g1⟩ := nW_again (N := N) hN hW hwi hn
  obtain ⟨M2, S2, e2, g2, t2, f2⟩ := np_zero (N := N) hN g1
  have hsc : sc a (sp_hc o (a 76 - 1)) (ac_ a) := sc_hc hs
  have fM2 : ∀ p, p ≠ 7 → p ≠ 8 → M2.1 p = M.1 p := fun p h7 h8 => by rw [f2 p h7, tn_1 h7 h8]
  have c8 : ∀ k, k < 4 → M2.1 8 k = nI (ac_ a k) := fun k hk => by rw [f2 8 (by decide)]; exact (tn_t (M := M)).2 k hk
  unfold pm_comesOutWell
  rw [e1, sm_b1s]
  simp (disch := omega) only [sm_lt, sm_b1s, sm_b2s, ↓reduceIte, sm_in_nI, nI_clamp, nI_add, pk_mul, pk_sub, ne_addneg, nI_l, ne_ltT, ne_ltF, ne_leT, ne_leF, ne_eqT, ne_eqF, ne_sI1s, ne_sI1n, ne_sI2, ne_sI3, ne_sL1, ne_sL2s, ne_sL2n, ne_sL3, pk_us, pk_un, pk_uLs, pk_uLn, mm_Z, mm_L, mm_1, mm_2, mm_3, ne_rz0, ne_rz1, not_true_eq_false, not_false_eq_true, ne_i0, ne_i1, ne_i2, ne_i3, ne_i4, ne_i5, ne_i6, ne_i7, ne_i8, ne_i9, ne_i10, ne_i12, ne_i14, ne_i16, ne_i18, ne_i19, ne_i20, ne_i23, ne_i24, ne_i27, ne_i29, ne_i30, ne_i31, ne_i32, ne_i35, ne_i48, ne_i52, ne_i54, ne_i57, ne_i59, ne_i63, ne_i64, ne_i76, ne_i77, ne_i78, ne_i79, ne_i80, ne_i81, ne_i97, ne_i99, ne_i100, ne_i101, ne_i104, ne_i105, ne_i108, ne_i110, ne_i111, ne_i116, ne_i117, ne_i122, ne_i103, ne_i200, ne_i255, ne_i256, ne_i320, ne_i384, ne_i1000, ne_l0, ne_l1, ne_l2, ne_l3, ne_l4, ne_l5, ne_l8, ne_l12, ne_l31, ne_l48, ne_l57, ne_l97, ne_l99, ne_l122, ne_l255, ne_l673, ne_l1073741823, ne_l1073741824]
  rw [e2]
  refine ne_loop (fun f k (s : sm_St × sm_St) => pm_comesOutWell_b27 N f (nI (k + 1)) s.2) (fun k s => nW s.1 v (wn v) s.2 ∧ tbl s.1 (sp_hc o k) ∧ ∀ p, p ≠ 7 → s.1.1 p = M2.1 p) (a 76 - 1) (fun r => ∃ M' S' w', r = some (nI (sp_b (sp_ft a (sp_ns a (sp_hc o (a 76 - 1)) (ac_ a) (wn v) 1) (a 76))), S') ∧ nW M' v w' S' ∧ (∀ i, 5 ≤ i → w' i = v (14 + i)) ∧ ∀ p, p ≠ 7 → p ≠ 8 → M'.1 p = M.1 p) ?_ ?_ N 0 (M2, S2) (by omega) (by omega) ⟨g2, t2, fun p _ => rfl⟩
  · rintro f k ⟨M3, S3⟩ hk ⟨i1, i2, i3⟩
    simp only at i1 i2 i3
    left
    have hw3 : nw a M3 := fun k hk => by rw [i3 1 (by decide), fM2 1 (by decide) (by decide)]; exact hn k hk
    have hc := np_cloths (N := N) (nW_nw i1 hw3)
    have w1 := ho k (by omega)
    have w2 := ho (k + 1) (by omega)
    have y1 : S3.1 15 k = nI (o k) := by rw [nW_1 i1 (by decide), i3 15 (by decide), fM2 15 (by decide) (by decide)]; exact w1.2
    have y2 : S3.1 15 (k + 1) = nI (o (k + 1)) := by rw [nW_1 i1 (by decide), i3 15 (by decide), fM2 15 (by decide) (by decide)]; exact w2.2
    obtain ⟨M4, S4, e, j1, j2, j3⟩ := np_ph (N := N) (n := 3) (x := o k) (y := o (k + 1)) i1 i2 (by omega) (by omega)
    have e1 : nI (k + 1) - nI 1 = nI k := by
      rw [Int32.sub_eq_add_neg, ne_addneg (by omega), Nat.add_sub_cancel]
    refine ⟨(M4, S4), ⟨j1, j2, fun p hp => by rw [j3 p hp]; exact i3 p hp⟩, ?_⟩
    show pm_comesOutWell_b27 N (f + 1) _ _ = pm_comesOutWell_b27 N f _ _
    rw [pm_comesOutWell_b27]
    simp (disch := omega) only [sm_lt, sm_b1s, sm_b2s, ↓reduceIte, sm_in_nI, nI_clamp, nI_add, pk_mul, pk_sub, ne_addneg, nI_l, ne_ltT, ne_ltF, ne_leT, ne_leF, ne_eqT, ne_eqF, ne_sI1s, ne_sI1n, ne_sI2, ne_sI3, ne_sL1, ne_sL2s, ne_sL2n, ne_sL3, pk_us, pk_un, pk_uLs, pk_uLn, mm_Z, mm_L, mm_1, mm_2, mm_3, ne_rz0, ne_rz1, not_true_eq_false, not_false_eq_true, ne_i0, ne_i1, ne_i2, ne_i3, ne_i4, ne_i5, ne_i6, ne_i7, ne_i8, ne_i9, ne_i10, ne_i12, ne_i14, ne_i16, ne_i18, ne_i19, ne_i20, ne_i23, ne_i24, ne_i27, ne_i29, ne_i30, ne_i31, ne_i32, ne_i35, ne_i48, ne_i52, ne_i54, ne_i57, ne_i59, ne_i63, ne_i64, ne_i76, ne_i77, ne_i78, ne_i79, ne_i80, ne_i81, ne_i97, ne_i99, ne_i100, ne_i101, ne_i104, ne_i105, ne_i108, ne_i110, ne_i111, ne_i116, ne_i117, ne_i122, ne_i103, ne_i200, ne_i255, ne_i256, ne_i320, ne_i384, ne_i1000, ne_l0, ne_l1, ne_l2, ne_l3, ne_l4, ne_l5, ne_l8, ne_l12, ne_l31, ne_l48, ne_l57, ne_l97, ne_l99, ne_l122, ne_l255, ne_l673, ne_l1073741823, ne_l1073741824, hc, e1, y1, y2, e]
  · rintro f ⟨M3, S3⟩ ⟨i1, i2, i3⟩
    simp only at i1 i2 i3
    dsimp only
    have hw3 : nw a M3 := fun k hk => by rw [i3 1 (by decide), fM2 1 (by decide) (by decide)]; exact hn k hk
    have hc := np_cloths (N := N) (nW_nw i1 hw3)
    have hnt : nt (sp_hc o (a 76 - 1)) (ac_ a) M3 := ⟨i2, fun k hk => by rw [i3 8 (by decide)]; exact c8 k hk⟩
    obtain ⟨S4, e4, g4⟩ := nW_night (N := N) hN i1 hw3 hnt hsc hwv.1 (sp_1000 hwv.2.2.2 (by omega))
    have b4 := sp_ns_4 (m := a 78) hsc hwv.2.2.2 1
    have hb := sp_1000 b4 (by omega)
    rw [pm_comesOutWell_b27]
    simp (disch := omega) only [sm_lt, sm_b1s, sm_b2s, ↓reduceIte, sm_in_nI, nI_clamp, nI_add, pk_mul, pk_sub, ne_addneg, nI_l, ne_ltT, ne_ltF, ne_leT, ne_leF, ne_eqT, ne_eqF, ne_sI1s, ne_sI1n, ne_sI2, ne_sI3, ne_sL1, ne_sL2s, ne_sL2n, ne_sL3, pk_us, pk_un, pk_uLs, pk_uLn, mm_Z, mm_L, mm_1, mm_2, mm_3, ne_rz0, ne_rz1, not_true_eq_false, not_false_eq_true, ne_i0, ne_i1, ne_i2, ne_i3, ne_i4, ne_i5, ne_i6, ne_i7, ne_i8, ne_i9, ne_i10, ne_i12, ne_i14, ne_i16, ne_i18, ne_i19, ne_i20, ne_i23, ne_i24, ne_i27, ne_i29, ne_i30, ne_i31, ne_i32, ne_i35, ne_i48, ne_i52, ne_i54, ne_i57, ne_i59, ne_i63, ne_i64, ne_i76, ne_i77, ne_i78, ne_i79, ne_i80, ne_i81, ne_i97, ne_i99, ne_i100, ne_i101, ne_i104, ne_i105, ne_i108, ne_i110, ne_i111, ne_i116, ne_i117, ne_i122, ne_i103, ne_i200, ne_i255, ne_i256, ne_i320, ne_i384, ne_i1000, ne_l0, ne_l1, ne_l2, ne_l3, ne_l4, ne_l5, ne_l8, ne_l12, ne_l31, ne_l48, ne_l57, ne_l97, ne_l99, ne_l122, ne_l255, ne_l673, ne_l1073741823, ne_l1073741824, hc, e4]
    refine ne_loop (fun f c (s : sm_St) => pm_comesOutWell_b72 N f (nI (sp_b (sp_ft a (sp_ns a (sp_hc o (a 76 - 1)) (ac_ a) (wn v) 1) c))) (nI c) s) (fun c s => nW M3 v (sp_ns a (sp_hc o (a 76 - 1)) (ac_ a) (wn v) 1) s) (a 76) (fun r => ∃ M' S' w', r = some (nI (sp_b (sp_ft a (sp_ns a (sp_hc o (a 76 - 1)) (ac_ a) (wn v) 1) (a 76))), S') ∧ nW M' v w' S' ∧ (∀ i, 5 ≤ i → w' i = v (14 + i)) ∧ ∀ p, p ≠ 7 → p ≠ 8 → M'.1 p = M.1 p) ?_ ?_ N 0 S4 (by omega) (by omega) g4
    · intro f c s hcc hI
      have hcs := np_cloths (N := N) (nW_nw hI hw3)
      have hns := nW_nw hI hw3
      obtain ⟨b1, b2, b3, b4⟩ := o7 c hcc
      have m2 : s.1 1 (4 * c + 2) = nI (a (4 * c + 2)) := hns _ (by omega)
      have m3 : s.1 1 (4 * c + 3) = nI (a (4 * c + 3)) := hns _ (by omega)
      show (∃ s', _ ∧ pm_comesOutWell_b72 N (f + 1) _ _ _ = pm_comesOutWell_b72 N f _ _ _) ∨ ∃ M' S' w', pm_comesOutWell_b72 N (f + 1) _ _ _ = _ ∧ _
      rw [pm_comesOutWell_b72]
      unfold pm_comesOutWell_b128 pm_comesOutWell_b129
      cases hf : sp_ft a (sp_ns a (sp_hc o (a 76 - 1)) (ac_ a) (wn v) 1) c with
      | false =>
        right
        have up : sp_ft a (sp_ns a (sp_hc o (a 76 - 1)) (ac_ a) (wn v) 1) (a 76) = false := by
          have := sp_ft_no hf (a 76 - c)
          rwa [show c + (a 76 - c) = a 76 by omega] at this
        have e0 : sp_b false = 0 := rfl
        rw [up, e0]
        refine ⟨M3, s, _, ?_, hI, fun i hi => (sp_ns_hi o1 hi 1).trans (wn_hi hi), fun p h7 h8 => by rw [i3 p h7, fM2 p h7 h8]⟩
        simp (disch := omega) only [sm_lt, sm_b1s, sm_b2s, ↓reduceIte, sm_in_nI, nI_clamp, nI_add, pk_mul, pk_sub, ne_addneg, nI_l, ne_ltT, ne_ltF, ne_leT, ne_leF, ne_eqT, ne_eqF, ne_sI1s, ne_sI1n, ne_sI2, ne_sI3, ne_sL1, ne_sL2s, ne_sL2n, ne_sL3, pk_us, pk_un, pk_uLs, pk_uLn, mm_Z, mm_L, mm_1, mm_2, mm_3, ne_rz0, ne_rz1, not_true_eq_false, not_false_eq_true, ne_i0, ne_i1, ne_i2, ne_i3, ne_i4, ne_i5, ne_i6, ne_i7, ne_i8, ne_i9, ne_i10, ne_i12, ne_i14, ne_i16, ne_i18, ne_i19, ne_i20, ne_i23, ne_i24, ne_i27, ne_i29, ne_i30, ne_i31, ne_i32, ne_i35, ne_i48, ne_i52, ne_i54, ne_i57, ne_i59, ne_i63, ne_i64, ne_i76, ne_i77, ne_i78, ne_i79, ne_i80, ne_i81, ne_i97, ne_i99, ne_i100, ne_i101, ne_i104, ne_i105, ne_i108, ne_i110, ne_i111, ne_i116, ne_i117, ne_i122, ne_i103, ne_i200, ne_i255, ne_i256, ne_i320, ne_i384, ne_i1000, ne_l0, ne_l1, ne_l2, ne_l3, ne_l4, ne_l5, ne_l8, ne_l12, ne_l31, ne_l48, ne_l57, ne_l97, ne_l99, ne_l122, ne_l255, ne_l673, ne_l1073741823, ne_l1073741824, hcs]
      | true =>
        left
        rw [sp_ft, hf, Bool.true_and]
        have e1 : sp_b true = 1 := rfl
        rw [e1]
        obtain ⟨s1, el, h1⟩ := nW_least (N := N) (c := c) (p := a (4 * c + 2)) hN hI (by omega) b3 hb
        have m3' : s1.1 1 (4 * c + 3) = nI (a (4 * c + 3)) := (nW_nw h1 hw3) _ (by omega)
        by_cases d1 : sp_ns a (sp_hc o (a 76 - 1)) (ac_ a) (wn v) 1 4 * a (4 * c + 2) ≤ sp_ns a (sp_hc o (a 76 - 1)) (ac_ a) (wn v) 1 c
        · rw [if_pos d1] at el
          obtain ⟨s2, em, h2⟩ := nW_most (N := N) (c := c) (p := a (4 * c + 3)) hN h1 (by omega) b4 hb
          by_cases d2 : sp_ns a (sp_hc o (a 76 - 1)) (ac_ a) (wn v) 1 c ≤ sp_ns a (sp_hc o (a 76 - 1)) (ac_ a) (wn v) 1 4 * a (4 * c + 3)
          · rw [if_pos d2] at em
            refine ⟨s2, h2, ?_⟩
            have e : sp_b (decide (sp_ns a (sp_hc o (a 76 - 1)) (ac_ a) (wn v) 1 4 * a (4 * c + 2) ≤ sp_ns a (sp_hc o (a 76 - 1)) (ac_ a) (wn v) 1 c) && decide (sp_ns a (sp_hc o (a 76 - 1)) (ac_ a) (wn v) 1 c ≤ sp_ns a (sp_hc o (a 76 - 1)) (ac_ a) (wn v) 1 4 * a (4 * c + 3))) = 1 := by rw [decide_eq_true d1, decide_eq_true d2]; rfl
            rw [e]
            simp (disch := omega) only [sm_lt, sm_b1s, sm_b2s, ↓reduceIte, sm_in_nI, nI_clamp, nI_add, pk_mul, pk_sub, ne_addneg, nI_l, ne_ltT, ne_ltF, ne_leT, ne_leF, ne_eqT, ne_eqF, ne_sI1s, ne_sI1n, ne_sI2, ne_sI3, ne_sL1, ne_sL2s, ne_sL2n, ne_sL3, pk_us, pk_un, pk_uLs, pk_uLn, mm_Z, mm_L, mm_1, mm_2, mm_3, ne_rz0, ne_rz1, not_true_eq_false, not_false_eq_true, ne_i0, ne_i1, ne_i2, ne_i3, ne_i4, ne_i5, ne_i6, ne_i7, ne_i8, ne_i9, ne_i10, ne_i12, ne_i14, ne_i16, ne_i18, ne_i19, ne_i20, ne_i23, ne_i24, ne_i27, ne_i29, ne_i30, ne_i31, ne_i32, ne_i35, ne_i48, ne_i52, ne_i54, ne_i57, ne_i59, ne_i63, ne_i64, ne_i76, ne_i77, ne_i78, ne_i79, ne_i80, ne_i81, ne_i97, ne_i99, ne_i100, ne_i101, ne_i104, ne_i105, ne_i108, ne_i110, ne_i111, ne_i116, ne_i117, ne_i122, ne_i103, ne_i200, ne_i255, ne_i256, ne_i320, ne_i384, ne_i1000, ne_l0, ne_l1, ne_l2, ne_l3, ne_l4, ne_l5, ne_l8, ne_l12, ne_l31, ne_l48, ne_l57, ne_l97, ne_l99, ne_l122, ne_l255, ne_l673, ne_l1073741823, ne_l1073741824, hcs, Nat.zero_add, m2, m3', el, em]
          · rw [if_neg d2] at em
            refine ⟨s2, h2, ?_⟩
            have e : sp_b (decide (sp_ns a (sp_hc o (a 76 - 1)) (ac_ a) (wn v) 1 4 * a (4 * c + 2) ≤ sp_ns a (sp_hc o (a 76 - 1)) (ac_ a) (wn v) 1 c) && decide (sp_ns a (sp_hc o (a 76 - 1)) (ac_ a) (wn v) 1 c ≤ sp_ns a (sp_hc o (a 76 - 1)) (ac_ a) (wn v) 1 4 * a (4 * c + 3))) = 0 := by rw [decide_eq_false d2, Bool.and_false]; rfl
            rw [e]
            simp (disch := omega) only [sm_lt, sm_b1s, sm_b2s, ↓reduceIte, sm_in_nI, nI_clamp, nI_add, pk_mul, pk_sub, ne_addneg, nI_l, ne_ltT, ne_ltF, ne_leT, ne_leF, ne_eqT, ne_eqF, ne_sI1s, ne_sI1n, ne_sI2, ne_sI3, ne_sL1, ne_sL2s, ne_sL2n, ne_sL3, pk_us, pk_un, pk_uLs, pk_uLn, mm_Z, mm_L, mm_1, mm_2, mm_3, ne_rz0, ne_rz1, not_true_eq_false, not_false_eq_true, ne_i0, ne_i1, ne_i2, ne_i3, ne_i4, ne_i5, ne_i6, ne_i7, ne_i8, ne_i9, ne_i10, ne_i12, ne_i14, ne_i16, ne_i18, ne_i19, ne_i20, ne_i23, ne_i24, ne_i27, ne_i29, ne_i30, ne_i31, ne_i32, ne_i35, ne_i48, ne_i52, ne_i54, ne_i57, ne_i59, ne_i63, ne_i64, ne_i76, ne_i77, ne_i78, ne_i79, ne_i80, ne_i81, ne_i97, ne_i99, ne_i100, ne_i101, ne_i104, ne_i105, ne_i108, ne_i110, ne_i111, ne_i116, ne_i117, ne_i122, ne_i103, ne_i200, ne_i255, ne_i256, ne_i320, ne_i384, ne_i1000, ne_l0, ne_l1, ne_l2, ne_l3, ne_l4, ne_l5, ne_l8, ne_l12, ne_l31, ne_l48, ne_l57, ne_l97, ne_l99, ne_l122, ne_l255, ne_l673, ne_l1073741823, ne_l1073741824, hcs, Nat.zero_add, m2, m3', el, em]
        · rw [if_neg d1] at el
          refine ⟨s1, h1, ?_⟩
          have e : sp_b (decide (sp_ns a (sp_hc o (a 76 - 1)) (ac_ a) (wn v) 1 4 * a (4 * c + 2) ≤ sp_ns a (sp_hc o (a 76 - 1)) (ac_ a) (wn v) 1 c) && decide (sp_ns a (sp_hc o (a 76 - 1)) (ac_ a) (wn v) 1 c ≤ sp_ns a (sp_hc o (a 76 - 1)) (ac_ a) (wn v) 1 4 * a (4 * c + 3))) = 0 := by rw [decide_eq_false d1, Bool.false_and]; rfl
          rw [e]
          simp (disch := omega) only [sm_lt, sm_b1s, sm_b2s, ↓reduceIte, sm_in_nI, nI_clamp, nI_add, pk_mul, pk_sub, ne_addneg, nI_l, ne_ltT, ne_ltF, ne_leT, ne_leF, ne_eqT, ne_eqF, ne_sI1s, ne_sI1n, ne_sI2, ne_sI3, ne_sL1, ne_sL2s, ne_sL2n, ne_sL3, pk_us, pk_un, pk_uLs, pk_uLn, mm_Z, mm_L, mm_1, mm_2, mm_3, ne_rz0, ne_rz1, not_true_eq_false, not_false_eq_true, ne_i0, ne_i1, ne_i2, ne_i3, ne_i4, ne_i5, ne_i6, ne_i7, ne_i8, ne_i9, ne_i10, ne_i12, ne_i14, ne_i16, ne_i18, ne_i19, ne_i20, ne_i23, ne_i24, ne_i27, ne_i29, ne_i30, ne_i31, ne_i32, ne_i35, ne_i48, ne_i52, ne_i54, ne_i57, ne_i59, ne_i63, ne_i64, ne_i76, ne_i77, ne_i78, ne_i79, ne_i80, ne_i81, ne_i97, ne_i99, ne_i100, ne_i101, ne_i104, ne_i105, ne_i108, ne_i110, ne_i111, ne_i116, ne_i117, ne_i122, ne_i103, ne_i200, ne_i255, ne_i256, ne_i320, ne_i384, ne_i1000, ne_l0, ne_l1, ne_l2, ne_l3, ne_l4, ne_l5, ne_l8, ne_l12, ne_l31, ne_l48, ne_l57, ne_l97, ne_l99, ne_l122, ne_l255, ne_l673, ne_l1073741823, ne_l1073741824, hcs, Nat.zero_add, m2, el]
    · intro f s hI
      have hcs := np_cloths (N := N) (nW_nw hI hw3)
      show ∃ M' S' w', pm_comesOutWell_b72 N (f + 1) _ _ _ = _ ∧ _
      rw [pm_comesOutWell_b72]
      refine ⟨M3, s, _, ?_, hI, fun i hi => (sp_ns_hi o1 hi 1).trans (wn_hi hi), fun p h7 h8 => by rw [i3 p h7, fM2 p h7 h8]⟩
      generalize sp_ft a (sp_ns a (sp_hc o (a 76 - 1)) (ac_ a) (wn v) 1) (a 76) = z
      cases z <;> unfold sp_b <;> simp (disch := omega) only [sm_lt, sm_b1s, sm_b2s, ↓reduceIte, sm_in_nI, nI_clamp, nI_add, pk_mul, pk_sub, ne_addneg, nI_l, ne_ltT, ne_ltF, ne_leT, ne_leF, ne_eqT, ne_eqF, ne_sI1s, ne_sI1n, ne_sI2, ne_sI3, ne_sL1, ne_sL2s, ne_sL2n, ne_sL3, pk_us, pk_un, pk_uLs, pk_uLn, mm_Z, mm_L, mm_1, mm_2, mm_3, ne_rz0, ne_rz1, not_true_eq_false, not_false_eq_true, ne_i0, ne_i1, ne_i2, ne_i3, ne_i4, ne_i5, ne_i6, ne_i7, ne_i8, ne_i9, ne_i10, ne_i12, ne_i14, ne_i16, ne_i18, ne_i19, ne_i20, ne_i23, ne_i24, ne_i27, ne_i29, ne_i30, ne_i31, ne_i32, ne_i35, ne_i48, ne_i52, ne_i54, ne_i57, ne_i59, ne_i63, ne_i64, ne_i76, ne_i77, ne_i78, ne_i79, ne_i80, ne_i81, ne_i97, ne_i99, ne_i100, ne_i101, ne_i104, ne_i105, ne_i108, ne_i110, ne_i111, ne_i116, ne_i117, ne_i122, ne_i103, ne_i200, ne_i255, ne_i256, ne_i320, ne_i384, ne_i1000, ne_l0, ne_l1, ne_l2, ne_l3, ne_l4, ne_l5, ne_l8, ne_l12, ne_l31, ne_l48, ne_l57, ne_l97, ne_l99, ne_l122, ne_l255, ne_l673, ne_l1073741823, ne_l1073741824, hcs, Bool.false_eq_true]
end
