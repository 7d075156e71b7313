section
variable {N : Nat} {X S : sm_St} {a b v ik tx : Nat → Nat} {len : Nat}
theorem nW_sI {M : sm_St} {w : Nat → Nat} {p k : Nat} {x : Int32} (h : nW M v w S) (hp : p ≠ 6) : nW (sm_sI M p k x) v w (sm_sI S p k x) := by
  obtain ⟨v', h1, h2, h3⟩ := h
  exact ⟨v', nP_sI h1 hp, h2, h3⟩
theorem nW_again {M : sm_St} {w : Nat → Nat} (hN : 4000 ≤ N) (h : nW M v w S) (hw : ∀ i, 5 ≤ i → w i = v (14 + i)) (hn : nw a M) : ∃ S', pm_takeNow N S = some S' ∧ nW (sm_tn a M) v (wn v) S' := by
  obtain ⟨v', h1, h2, h3⟩ := h
  have hi : ∀ s, 19 ≤ s → v' s = v s := fun s hs => by
    have := congrFun h2 (s - 14)
    rw [show 14 + (s - 14) = s by omega, hw _ (by omega), show 14 + (s - 14) = s by omega] at this
    exact this
  obtain ⟨S', e, v2, g1, g2, g3⟩ := np_takeNow (N := N) hN h1 hn
  refine ⟨S', e, v2, g1, ?_, fun s hs => by rw [g3 s hs]; exact h3 s hs⟩
  rw [g2]
  funext i
  unfold wn
  by_cases h5 : i < 5
  · rw [if_pos h5, if_pos h5]
    exact hi _ (by omega)
  · rw [if_neg h5, if_neg h5]
    exact hi _ (by omega)
/-- the base is the start's, but for table and colours -/
def MB (M S : sm_St) : Prop := ∀ p, p ≠ 7 → p ≠ 8 → M.1 p = S.1 p
theorem MB_nw {M : sm_St} (h : MB M S) (hn : nw a S) : nw a M := fun k hk => by rw [h 1 (by decide) (by decide)]; exact hn k hk
theorem MB_tn {M : sm_St} (h : MB M S) : MB (sm_tn a M) S := fun p h7 h8 => by rw [tn_1 h7 h8]; exact h p h7 h8
theorem MB_sI {M : sm_St} {p k : Nat} {x : Int32} (h : MB M S) (hp : p = 7 ∨ p = 8) : MB (sm_sI M p k x) S := fun q h7 h8 => by rw [ne_sI1n (by omega)]; exact h q h7 h8
theorem RR_endM {X' S' M : sm_St} {w' : Nat → Nat} (h : RR X S a b v ik tx len) (hW : nW M v w' S') (hw : ∀ i, 5 ≤ i → w' i = v (14 + i)) (hM : MB M S) (hX : ∀ p, p < 102 ∨ 103 ≤ p ∧ p < 107 → X'.1 p = X.1 p) (hX102 : X'.1 102 1 = X.1 102 1) (hXr : X'.2.2 = X.2.2) : R X' S' :=
  RR_end h hW hw (fun p hp => hM p (by omega) (by omega)) (by rw [hM 0 (by decide) (by decide)]) (by rw [hM 0 (by decide) (by decide)]) hX hX102 hXr
theorem sp_ns_1 {t co w : Nat → Nat} {n : Nat} : sp_ns a t co (sp_ns a t co w n) 1 = sp_ns a t co w (n + 1) := rfl
theorem c_soRed {v1 v2 : Int32} (hN : 4000 ≤ N) (h : R X S) : OKr (px_L_soRed N X v1 v2) (pm_soRed N S v1 v2) := by
  obtain ⟨a, b, v, ik, tx, len, h⟩ := h
  have hk := RR_ok h
  have k4 := hk.1
  have hs := RR_sc h
  obtain ⟨q1, q2⟩ := RR_cl h
  have hw := RR_wv h
  have n12 := hk.2.2.1
  unfold px_L_soRed pm_soRed px_L_soRed_b20 pm_soRed_b20
  rcases ne_arg v1 3 (by decide) with ⟨c, hc, rfl⟩ | hb
  · by_cases hck : c < a 76
    · rcases ne_arg v2 12 (by decide) with ⟨p, hp, rfl⟩ | hb2
      · obtain ⟨⟨X1, e1, x1, x2, x3, x4⟩, S1, e2, s1⟩ := RR_begin hN h
        simp (disch := omega) only [sm_lt, sm_b1s, sm_b2s, ↓reduceIte, sm_in_nI, nI_clamp, nI_add, pk_mul, pk_sub, ne_addneg, nI_l, ne_ltT, ne_ltF, ne_leT, ne_leF, ne_eqT, ne_eqF, ne_sI1s, ne_sI1n, ne_sI2, ne_sI3, ne_sL1, ne_sL2s, ne_sL2n, ne_sL3, pk_us, pk_un, pk_uLs, pk_uLn, mm_Z, mm_L, mm_1, mm_2, mm_3, ne_rz0, ne_rz1, not_true_eq_false, not_false_eq_true, ne_i0, ne_i1, ne_i2, ne_i3, ne_i4, ne_i5, ne_i6, ne_i7, ne_i8, ne_i9, ne_i10, ne_i12, ne_i14, ne_i16, ne_i18, ne_i19, ne_i20, ne_i23, ne_i24, ne_i27, ne_i29, ne_i30, ne_i31, ne_i32, ne_i35, ne_i48, ne_i52, ne_i54, ne_i57, ne_i59, ne_i63, ne_i64, ne_i76, ne_i77, ne_i78, ne_i79, ne_i80, ne_i81, ne_i97, ne_i99, ne_i100, ne_i101, ne_i104, ne_i105, ne_i108, ne_i110, ne_i111, ne_i116, ne_i117, ne_i122, ne_i103, ne_i200, ne_i255, ne_i256, ne_i320, ne_i384, ne_i1000, ne_l0, ne_l1, ne_l2, ne_l3, ne_l4, ne_l5, ne_l8, ne_l12, ne_l31, ne_l48, ne_l57, ne_l97, ne_l99, ne_l122, ne_l255, ne_l673, ne_l1073741823, ne_l1073741824, xq_clT q1, xq_wT, e1, np_clT h.1 k4, ne_inT, e2]
        refine ne_loop (fun f i (s : (Nat × sm_St) × sm_St) => (px_L_soRed_b61 N f (nI c) (nI p) s.1.1 (nI i) s.1.2, pm_soRed_b33 N f (nI c) (nI p) (nI i) s.2)) (fun i s => xsh s.1.2 s.1.1 (a 76) (sp_ns a (at_ a) (ac_ a) (wn v) (i - 1)) ∧ xq s.1.1 ∧ (∀ p, p < 122 ∨ 126 ≤ p → s.1.2.1 p = X1.1 p) ∧ s.1.2.2.2 = X.2.2 ∧ nW (sm_tn a S) v (sp_ns a (at_ a) (ac_ a) (wn v) i) s.2) 13 (fun r => OKr r.1 r.2) ?_ ?_ N 0 ((12, X1), S1) (by omega) (by omega) ⟨x2, Or.inl rfl, fun _ _ => rfl, by rw [x4], s1⟩
        · rintro f i ⟨⟨q, s⟩, s'⟩ hi ⟨i1, i2, i3, i4, i5⟩
          simp only at i1 i2 i3 i4 i5
          have ts : xt s a (at_ a) (ac_ a) := xt_fr hs x1 (fun p h1 h2 => i3 p (by omega))
          -- the shades behind i nights on the built side
          have step : ∃ q' s2, (∀ r, px_L_soRed_b61 N (f + 1) (nI c) (nI p) q (nI i) s = r ↔ px_L_soRed_b83 N (px_L_soRed_b61 N f) (nI c) (nI p) q' (nI i) s2 = r) ∧ xsh s2 q' (a 76) (sp_ns a (at_ a) (ac_ a) (wn v) i) ∧ xq q' ∧ (∀ p, p < 122 ∨ 126 ≤ p → s2.1 p = X1.1 p) ∧ s2.2.2 = X.2.2 := by
            by_cases h0 : i = 0
            · subst h0
              refine ⟨q, s, fun r => ?_, i1, i2, i3, i4⟩
              rw [px_L_soRed_b61]
              simp (disch := omega) only [sm_lt, sm_b1s, sm_b2s, ↓reduceIte, sm_in_nI, nI_clamp, nI_add, pk_mul, pk_sub, ne_addneg, nI_l, ne_ltT, ne_ltF, ne_leT, ne_leF, ne_eqT, ne_eqF, ne_sI1s, ne_sI1n, ne_sI2, ne_sI3, ne_sL1, ne_sL2s, ne_sL2n, ne_sL3, pk_us, pk_un, pk_uLs, pk_uLn, mm_Z, mm_L, mm_1, mm_2, mm_3, ne_rz0, ne_rz1, not_true_eq_false, not_false_eq_true, ne_i0, ne_i1, ne_i2, ne_i3, ne_i4, ne_i5, ne_i6, ne_i7, ne_i8, ne_i9, ne_i10, ne_i12, ne_i14, ne_i16, ne_i18, ne_i19, ne_i20, ne_i23, ne_i24, ne_i27, ne_i29, ne_i30, ne_i31, ne_i32, ne_i35, ne_i48, ne_i52, ne_i54, ne_i57, ne_i59, ne_i63, ne_i64, ne_i76, ne_i77, ne_i78, ne_i79, ne_i80, ne_i81, ne_i97, ne_i99, ne_i100, ne_i101, ne_i104, ne_i105, ne_i108, ne_i110, ne_i111, ne_i116, ne_i117, ne_i122, ne_i103, ne_i200, ne_i255, ne_i256, ne_i320, ne_i384, ne_i1000, ne_l0, ne_l1, ne_l2, ne_l3, ne_l4, ne_l5, ne_l8, ne_l12, ne_l31, ne_l48, ne_l57, ne_l97, ne_l99, ne_l122, ne_l255, ne_l673, ne_l1073741823, ne_l1073741824]
            · obtain ⟨q', s2, e3, y1, y2, y3, y4⟩ := xq_behind (N := N) (n := 1) (m := 12 + (i - 1)) hN hs ts i1 (sp_ns_w hs hw.1 _) (Nat.le_trans (sp_ns_4 hs hw.2.2.2 (i - 1)) (Nat.pow_le_pow_right (by decide) (by omega))) (by omega) i2
              rw [sp_ns_1, show i - 1 + 1 = i by omega] at y1
              refine ⟨q', s2, fun r => ?_, y1, y2, fun p hp => by rw [y3 p hp]; exact i3 p hp, by rw [y4]; exact i4⟩
              rw [px_L_soRed_b61]
              simp (disch := omega) only [sm_lt, sm_b1s, sm_b2s, ↓reduceIte, sm_in_nI, nI_clamp, nI_add, pk_mul, pk_sub, ne_addneg, nI_l, ne_ltT, ne_ltF, ne_leT, ne_leF, ne_eqT, ne_eqF, ne_sI1s, ne_sI1n, ne_sI2, ne_sI3, ne_sL1, ne_sL2s, ne_sL2n, ne_sL3, pk_us, pk_un, pk_uLs, pk_uLn, mm_Z, mm_L, mm_1, mm_2, mm_3, ne_rz0, ne_rz1, not_true_eq_false, not_false_eq_true, ne_i0, ne_i1, ne_i2, ne_i3, ne_i4, ne_i5, ne_i6, ne_i7, ne_i8, ne_i9, ne_i10, ne_i12, ne_i14, ne_i16, ne_i18, ne_i19, ne_i20, ne_i23, ne_i24, ne_i27, ne_i29, ne_i30, ne_i31, ne_i32, ne_i35, ne_i48, ne_i52, ne_i54, ne_i57, ne_i59, ne_i63, ne_i64, ne_i76, ne_i77, ne_i78, ne_i79, ne_i80, ne_i81, ne_i97, ne_i99, ne_i100, ne_i101, ne_i104, ne_i105, ne_i108, ne_i110, ne_i111, ne_i116, ne_i117, ne_i122, ne_i103, ne_i200, ne_i255, ne_i256, ne_i320, ne_i384, ne_i1000, ne_l0, ne_l1, ne_l2, ne_l3, ne_l4, ne_l5, ne_l8, ne_l12, ne_l31, ne_l48, ne_l57, ne_l97, ne_l99, ne_l122, ne_l255, ne_l673, ne_l1073741823, ne_l1073741824, e3, xq_16 y2]
          obtain ⟨q', s2, e3, y1, y2, y3, y4⟩ := step
          have e3' := (e3 _).mpr rfl
          have el := xsh_least (N := N) (t := p) hN y1 k4 hck hp
          have b4 := sp_ns_4 hs hw.2.2.2 i
          obtain ⟨S2, em, sm⟩ := nW_least (N := N) (c := c) (p := p) hN i5 (by omega) hp (sp_1000 b4 (by omega))
          by_cases ht : sp_ns a (at_ a) (ac_ a) (wn v) i 4 * p ≤ sp_ns a (at_ a) (ac_ a) (wn v) i c
          · right
            show OKr (px_L_soRed_b61 N (f + 1) _ _ _ _ _) (pm_soRed_b33 N (f + 1) _ _ _ _)
            rw [e3', pm_soRed_b33]
            unfold px_L_soRed_b83
            rw [if_pos ht] at el em
            simp (disch := omega) only [sm_lt, sm_b1s, sm_b2s, ↓reduceIte, sm_in_nI, nI_clamp, nI_add, pk_mul, pk_sub, ne_addneg, nI_l, ne_ltT, ne_ltF, ne_leT, ne_leF, ne_eqT, ne_eqF, ne_sI1s, ne_sI1n, ne_sI2, ne_sI3, ne_sL1, ne_sL2s, ne_sL2n, ne_sL3, pk_us, pk_un, pk_uLs, pk_uLn, mm_Z, mm_L, mm_1, mm_2, mm_3, ne_rz0, ne_rz1, not_true_eq_false, not_false_eq_true, ne_i0, ne_i1, ne_i2, ne_i3, ne_i4, ne_i5, ne_i6, ne_i7, ne_i8, ne_i9, ne_i10, ne_i12, ne_i14, ne_i16, ne_i18, ne_i19, ne_i20, ne_i23, ne_i24, ne_i27, ne_i29, ne_i30, ne_i31, ne_i32, ne_i35, ne_i48, ne_i52, ne_i54, ne_i57, ne_i59, ne_i63, ne_i64, ne_i76, ne_i77, ne_i78, ne_i79, ne_i80, ne_i81, ne_i97, ne_i99, ne_i100, ne_i101, ne_i104, ne_i105, ne_i108, ne_i110, ne_i111, ne_i116, ne_i117, ne_i122, ne_i103, ne_i200, ne_i255, ne_i256, ne_i320, ne_i384, ne_i1000, ne_l0, ne_l1, ne_l2, ne_l3, ne_l4, ne_l5, ne_l8, ne_l12, ne_l31, ne_l48, ne_l57, ne_l97, ne_l99, ne_l122, ne_l255, ne_l673, ne_l1073741823, ne_l1073741824, el, em]
            exact ⟨_, _, _, rfl, rfl, RR_endt h sm (fun i hi => by rw [sp_ns_hi k4 hi, wn_hi hi]) (fun p hp => by rw [y3 p (by omega)]; exact x3 p (by omega)) (by rw [y3 102 (by omega), x3 102 (by omega)]) y4⟩
          · left
            obtain ⟨S3, en, sn⟩ := nW_night (N := N) hN sm (tn_nw h.1) tn_t hs (sp_ns_w hs hw.1 i) (sp_1000 b4 (by omega))
            refine ⟨((q', s2), S3), ⟨by rw [show i + 1 - 1 = i by omega]; exact y1, y2, y3, y4, sn⟩, ?_⟩
            show (px_L_soRed_b61 N (f + 1) _ _ _ _ _, pm_soRed_b33 N (f + 1) _ _ _ _) = (px_L_soRed_b61 N f _ _ _ _ _, pm_soRed_b33 N f _ _ _ _)
            rw [e3', pm_soRed_b33]
            unfold px_L_soRed_b83
            rw [if_neg ht] at el em
            simp (disch := omega) only [sm_lt, sm_b1s, sm_b2s, ↓reduceIte, sm_in_nI, nI_clamp, nI_add, pk_mul, pk_sub, ne_addneg, nI_l, ne_ltT, ne_ltF, ne_leT, ne_leF, ne_eqT, ne_eqF, ne_sI1s, ne_sI1n, ne_sI2, ne_sI3, ne_sL1, ne_sL2s, ne_sL2n, ne_sL3, pk_us, pk_un, pk_uLs, pk_uLn, mm_Z, mm_L, mm_1, mm_2, mm_3, ne_rz0, ne_rz1, not_true_eq_false, not_false_eq_true, ne_i0, ne_i1, ne_i2, ne_i3, ne_i4, ne_i5, ne_i6, ne_i7, ne_i8, ne_i9, ne_i10, ne_i12, ne_i14, ne_i16, ne_i18, ne_i19, ne_i20, ne_i23, ne_i24, ne_i27, ne_i29, ne_i30, ne_i31, ne_i32, ne_i35, ne_i48, ne_i52, ne_i54, ne_i57, ne_i59, ne_i63, ne_i64, ne_i76, ne_i77, ne_i78, ne_i79, ne_i80, ne_i81, ne_i97, ne_i99, ne_i100, ne_i101, ne_i104, ne_i105, ne_i108, ne_i110, ne_i111, ne_i116, ne_i117, ne_i122, ne_i103, ne_i200, ne_i255, ne_i256, ne_i320, ne_i384, ne_i1000, ne_l0, ne_l1, ne_l2, ne_l3, ne_l4, ne_l5, ne_l8, ne_l12, ne_l31, ne_l48, ne_l57, ne_l97, ne_l99, ne_l122, ne_l255, ne_l673, ne_l1073741823, ne_l1073741824, el, em, en]
        · rintro f ⟨⟨q, s⟩, s'⟩ ⟨i1, i2, i3, i4, i5⟩
          simp only at i1 i2 i3 i4 i5
          dsimp only
          rw [px_L_soRed_b61, pm_soRed_b33]
          simp (disch := omega) only [sm_lt, sm_b1s, sm_b2s, ↓reduceIte, sm_in_nI, nI_clamp, nI_add, pk_mul, pk_sub, ne_addneg, nI_l, ne_ltT, ne_ltF, ne_leT, ne_leF, ne_eqT, ne_eqF, ne_sI1s, ne_sI1n, ne_sI2, ne_sI3, ne_sL1, ne_sL2s, ne_sL2n, ne_sL3, pk_us, pk_un, pk_uLs, pk_uLn, mm_Z, mm_L, mm_1, mm_2, mm_3, ne_rz0, ne_rz1, not_true_eq_false, not_false_eq_true, ne_i0, ne_i1, ne_i2, ne_i3, ne_i4, ne_i5, ne_i6, ne_i7, ne_i8, ne_i9, ne_i10, ne_i12, ne_i14, ne_i16, ne_i18, ne_i19, ne_i20, ne_i23, ne_i24, ne_i27, ne_i29, ne_i30, ne_i31, ne_i32, ne_i35, ne_i48, ne_i52, ne_i54, ne_i57, ne_i59, ne_i63, ne_i64, ne_i76, ne_i77, ne_i78, ne_i79, ne_i80, ne_i81, ne_i97, ne_i99, ne_i100, ne_i101, ne_i104, ne_i105, ne_i108, ne_i110, ne_i111, ne_i116, ne_i117, ne_i122, ne_i103, ne_i200, ne_i255, ne_i256, ne_i320, ne_i384, ne_i1000, ne_l0, ne_l1, ne_l2, ne_l3, ne_l4, ne_l5, ne_l8, ne_l12, ne_l31, ne_l48, ne_l57, ne_l97, ne_l99, ne_l122, ne_l255, ne_l673, ne_l1073741823, ne_l1073741824]
          exact ⟨_, _, _, rfl, rfl, RR_endt h i5 (fun i hi => by rw [sp_ns_hi k4 hi, wn_hi hi]) (fun p hp => by rw [i3 p (by omega)]; exact x3 p (by omega)) (by rw [i3 102 (by omega), x3 102 (by omega)]) i4⟩
      · have e1 := xq_wF (N := N) (X := X) hb2 (by decide)
        have e2 := ne_inB (N := N) (S := S) hb2 (by decide)
        simp (disch := omega) only [sm_lt, sm_b1s, sm_b2s, ↓reduceIte, sm_in_nI, nI_clamp, nI_add, pk_mul, pk_sub, ne_addneg, nI_l, ne_ltT, ne_ltF, ne_leT, ne_leF, ne_eqT, ne_eqF, ne_sI1s, ne_sI1n, ne_sI2, ne_sI3, ne_sL1, ne_sL2s, ne_sL2n, ne_sL3, pk_us, pk_un, pk_uLs, pk_uLn, mm_Z, mm_L, mm_1, mm_2, mm_3, ne_rz0, ne_rz1, not_true_eq_false, not_false_eq_true, ne_i0, ne_i1, ne_i2, ne_i3, ne_i4, ne_i5, ne_i6, ne_i7, ne_i8, ne_i9, ne_i10, ne_i12, ne_i14, ne_i16, ne_i18, ne_i19, ne_i20, ne_i23, ne_i24, ne_i27, ne_i29, ne_i30, ne_i31, ne_i32, ne_i35, ne_i48, ne_i52, ne_i54, ne_i57, ne_i59, ne_i63, ne_i64, ne_i76, ne_i77, ne_i78, ne_i79, ne_i80, ne_i81, ne_i97, ne_i99, ne_i100, ne_i101, ne_i104, ne_i105, ne_i108, ne_i110, ne_i111, ne_i116, ne_i117, ne_i122, ne_i103, ne_i200, ne_i255, ne_i256, ne_i320, ne_i384, ne_i1000, ne_l0, ne_l1, ne_l2, ne_l3, ne_l4, ne_l5, ne_l8, ne_l12, ne_l31, ne_l48, ne_l57, ne_l97, ne_l99, ne_l122, ne_l255, ne_l673, ne_l1073741823, ne_l1073741824, xq_clT q1, np_clT h.1 k4, e1, e2, xq_bad, np_bad]
        exact ⟨_, _, _, rfl, rfl, R_bad (RR_R h)⟩
    · have e1 := xq_clF (N := N) (v := nI c) q1 (by rw [nI_toInt (by omega)]; omega) k4
      simp (disch := omega) only [sm_lt, sm_b1s, sm_b2s, ↓reduceIte, sm_in_nI, nI_clamp, nI_add, pk_mul, pk_sub, ne_addneg, nI_l, ne_ltT, ne_ltF, ne_leT, ne_leF, ne_eqT, ne_eqF, ne_sI1s, ne_sI1n, ne_sI2, ne_sI3, ne_sL1, ne_sL2s, ne_sL2n, ne_sL3, pk_us, pk_un, pk_uLs, pk_uLn, mm_Z, mm_L, mm_1, mm_2, mm_3, ne_rz0, ne_rz1, not_true_eq_false, not_false_eq_true, ne_i0, ne_i1, ne_i2, ne_i3, ne_i4, ne_i5, ne_i6, ne_i7, ne_i8, ne_i9, ne_i10, ne_i12, ne_i14, ne_i16, ne_i18, ne_i19, ne_i20, ne_i23, ne_i24, ne_i27, ne_i29, ne_i30, ne_i31, ne_i32, ne_i35, ne_i48, ne_i52, ne_i54, ne_i57, ne_i59, ne_i63, ne_i64, ne_i76, ne_i77, ne_i78, ne_i79, ne_i80, ne_i81, ne_i97, ne_i99, ne_i100, ne_i101, ne_i104, ne_i105, ne_i108, ne_i110, ne_i111, ne_i116, ne_i117, ne_i122, ne_i103, ne_i200, ne_i255, ne_i256, ne_i320, ne_i384, ne_i1000, ne_l0, ne_l1, ne_l2, ne_l3, ne_l4, ne_l5, ne_l8, ne_l12, ne_l31, ne_l48, ne_l57, ne_l97, ne_l99, ne_l122, ne_l255, ne_l673, ne_l1073741823, ne_l1073741824, e1, np_clF h.1 k4, xq_bad, np_bad]
      exact ⟨_, _, _, rfl, rfl, R_bad (RR_R h)⟩
  · have e1 := xq_clF (N := N) (v := v1) q1 (by omega) k4
    have e2 := np_clB (N := N) h.1 k4 hb
    simp (disch := omega) only [sm_lt, sm_b1s, sm_b2s, ↓reduceIte, sm_in_nI, nI_clamp, nI_add, pk_mul, pk_sub, ne_addneg, nI_l, ne_ltT, ne_ltF, ne_leT, ne_leF, ne_eqT, ne_eqF, ne_sI1s, ne_sI1n, ne_sI2, ne_sI3, ne_sL1, ne_sL2s, ne_sL2n, ne_sL3, pk_us, pk_un, pk_uLs, pk_uLn, mm_Z, mm_L, mm_1, mm_2, mm_3, ne_rz0, ne_rz1, not_true_eq_false, not_false_eq_true, ne_i0, ne_i1, ne_i2, ne_i3, ne_i4, ne_i5, ne_i6, ne_i7, ne_i8, ne_i9, ne_i10, ne_i12, ne_i14, ne_i16, ne_i18, ne_i19, ne_i20, ne_i23, ne_i24, ne_i27, ne_i29, ne_i30, ne_i31, ne_i32, ne_i35, ne_i48, ne_i52, ne_i54, ne_i57, ne_i59, ne_i63, ne_i64, ne_i76, ne_i77, ne_i78, ne_i79, ne_i80, ne_i81, ne_i97, ne_i99, ne_i100, ne_i101, ne_i104, ne_i105, ne_i108, ne_i110, ne_i111, ne_i116, ne_i117, ne_i122, ne_i103, ne_i200, ne_i255, ne_i256, ne_i320, ne_i384, ne_i1000, ne_l0, ne_l1, ne_l2, ne_l3, ne_l4, ne_l5, ne_l8, ne_l12, ne_l31, ne_l48, ne_l57, ne_l97, ne_l99, ne_l122, ne_l255, ne_l673, ne_l1073741823, ne_l1073741824, e1, e2, xq_bad, np_bad]
    exact ⟨_, _, _, rfl, rfl, R_bad (RR_R h)⟩
theorem sc_up {t co : Nat → Nat} {th x : Nat} (hs : sc a t co) (hx : x ≤ 12) : sc a t (va_up co th x) := by
  obtain ⟨h1, h2, h3, h4, h5⟩ := hs
  refine ⟨h1, h2, h3, h4, fun i hi => ?_⟩
  by_cases e : i = th
  · subst e
    rw [ne_up_s]
    exact hx
  · rw [ne_up_n e]
    exact h5 i hi
theorem c_least {v1 v2 v3 v4 : Int32} (hN : 4000 ≤ N) (h : R X S) : OKr (px_L_least N X v1 v2 v3 v4) (pm_least N S v1 v2 v3 v4) := by
  obtain ⟨a, b, v, ik, tx, len, h⟩ := h
  have hk := RR_ok h
  have k4 := hk.1
  have t4 := hk.2.1
  have hs := RR_sc h
  obtain ⟨q1, q2⟩ := RR_cl h
  have hw := RR_wv h
  have n12 := hk.2.2.1
  have hx0 := RR_xhd h
  unfold px_L_least pm_least px_L_least_b41 pm_least_b41
  rcases ne_arg v1 3 (by decide) with ⟨th, hth, rfl⟩ | hb
  · by_cases htt : th < a 77
    · rcases ne_arg v2 3 (by decide) with ⟨c, hc, rfl⟩ | hb
      · by_cases hck : c < a 76
        · rcases ne_arg v3 12 (by decide) with ⟨n, hn, rfl⟩ | hb3
          · rcases ne_arg v4 12 (by decide) with ⟨p, hp, rfl⟩ | hb4
            · simp (disch := omega) only [sm_lt, sm_b1s, sm_b2s, ↓reduceIte, sm_in_nI, nI_clamp, nI_add, pk_mul, pk_sub, ne_addneg, nI_l, ne_ltT, ne_ltF, ne_leT, ne_leF, ne_eqT, ne_eqF, ne_sI1s, ne_sI1n, ne_sI2, ne_sI3, ne_sL1, ne_sL2s, ne_sL2n, ne_sL3, pk_us, pk_un, pk_uLs, pk_uLn, mm_Z, mm_L, mm_1, mm_2, mm_3, ne_rz0, ne_rz1, not_true_eq_false, not_false_eq_true, ne_i0, ne_i1, ne_i2, ne_i3, ne_i4, ne_i5, ne_i6, ne_i7, ne_i8, ne_i9, ne_i10, ne_i12, ne_i14, ne_i16, ne_i18, ne_i19, ne_i20, ne_i23, ne_i24, ne_i27, ne_i29, ne_i30, ne_i31, ne_i32, ne_i35, ne_i48, ne_i52, ne_i54, ne_i57, ne_i59, ne_i63, ne_i64, ne_i76, ne_i77, ne_i78, ne_i79, ne_i80, ne_i81, ne_i97, ne_i99, ne_i100, ne_i101, ne_i104, ne_i105, ne_i108, ne_i110, ne_i111, ne_i116, ne_i117, ne_i122, ne_i103, ne_i200, ne_i255, ne_i256, ne_i320, ne_i384, ne_i1000, ne_l0, ne_l1, ne_l2, ne_l3, ne_l4, ne_l5, ne_l8, ne_l12, ne_l31, ne_l48, ne_l57, ne_l97, ne_l99, ne_l122, ne_l255, ne_l673, ne_l1073741823, ne_l1073741824, xq_thT q2, np_thT h.1 t4, xq_clT q1, np_clT h.1 k4, xq_wT, ne_inT]
              -- the colours are copied
              have cpy : ∃ X0, px_L_least_b49 N N (nI th) (nI c) (nI n) (nI p) (nI 0) X = px_L_least_b81 N N (nI th) (nI c) (nI n) (nI p) (nI 0) X0 ∧ (∀ x, x < a 77 → X0.1 146 x = nI (a (48 + x))) ∧ (∀ p, p ≠ 146 → X0.1 p = X.1 p) ∧ X0.2 = X.2 := by
                have q := ne_loop (fun f i (g : Nat → Int32) => px_L_least_b49 N f (nI th) (nI c) (nI n) (nI p) (nI i) (sm_sF X 146 g)) (fun i g => ∀ x, x < i → g x = X.1 6 x) 4 (fun r => ∃ X0, r = px_L_least_b81 N N (nI th) (nI c) (nI n) (nI p) (nI 0) X0 ∧ (∀ x, x < a 77 → X0.1 146 x = nI (a (48 + x))) ∧ (∀ p, p ≠ 146 → X0.1 p = X.1 p) ∧ X0.2 = X.2) ?_ ?_ N 0 (X.1 146) (by omega) (by omega) (fun x hx => by omega)
                · simp only [sF_self] at q
                  exact q
                · intro f i g hi hI
                  left
                  refine ⟨upd g i (X.1 6 i), fun x hx => ?_, ?_⟩
                  · by_cases e : x = i
                    · subst e
                      exact pk_us
                    · rw [pk_un e]
                      exact hI x (by omega)
                  · show px_L_least_b49 N (f + 1) _ _ _ _ _ _ = _
                    rw [px_L_least_b49]
                    simp (disch := omega) only [sm_lt, sm_b1s, sm_b2s, ↓reduceIte, sm_in_nI, nI_clamp, nI_add, pk_mul, pk_sub, ne_addneg, nI_l, ne_ltT, ne_ltF, ne_leT, ne_leF, ne_eqT, ne_eqF, ne_sI1s, ne_sI1n, ne_sI2, ne_sI3, ne_sL1, ne_sL2s, ne_sL2n, ne_sL3, pk_us, pk_un, pk_uLs, pk_uLn, mm_Z, mm_L, mm_1, mm_2, mm_3, ne_rz0, ne_rz1, not_true_eq_false, not_false_eq_true, ne_i0, ne_i1, ne_i2, ne_i3, ne_i4, ne_i5, ne_i6, ne_i7, ne_i8, ne_i9, ne_i10, ne_i12, ne_i14, ne_i16, ne_i18, ne_i19, ne_i20, ne_i23, ne_i24, ne_i27, ne_i29, ne_i30, ne_i31, ne_i32, ne_i35, ne_i48, ne_i52, ne_i54, ne_i57, ne_i59, ne_i63, ne_i64, ne_i76, ne_i77, ne_i78, ne_i79, ne_i80, ne_i81, ne_i97, ne_i99, ne_i100, ne_i101, ne_i104, ne_i105, ne_i108, ne_i110, ne_i111, ne_i116, ne_i117, ne_i122, ne_i103, ne_i200, ne_i255, ne_i256, ne_i320, ne_i384, ne_i1000, ne_l0, ne_l1, ne_l2, ne_l3, ne_l4, ne_l5, ne_l8, ne_l12, ne_l31, ne_l48, ne_l57, ne_l97, ne_l99, ne_l122, ne_l255, ne_l673, ne_l1073741823, ne_l1073741824, sF_n, sF_sI]
                · intro f g hI
                  show ∃ X0, px_L_least_b49 N (f + 1) _ _ _ _ _ _ = _ ∧ _
                  rw [px_L_least_b49]
                  simp (disch := omega) only [sm_lt, sm_b1s, sm_b2s, ↓reduceIte, sm_in_nI, nI_clamp, nI_add, pk_mul, pk_sub, ne_addneg, nI_l, ne_ltT, ne_ltF, ne_leT, ne_leF, ne_eqT, ne_eqF, ne_sI1s, ne_sI1n, ne_sI2, ne_sI3, ne_sL1, ne_sL2s, ne_sL2n, ne_sL3, pk_us, pk_un, pk_uLs, pk_uLn, mm_Z, mm_L, mm_1, mm_2, mm_3, ne_rz0, ne_rz1, not_true_eq_false, not_false_eq_true, ne_i0, ne_i1, ne_i2, ne_i3, ne_i4, ne_i5, ne_i6, ne_i7, ne_i8, ne_i9, ne_i10, ne_i12, ne_i14, ne_i16, ne_i18, ne_i19, ne_i20, ne_i23, ne_i24, ne_i27, ne_i29, ne_i30, ne_i31, ne_i32, ne_i35, ne_i48, ne_i52, ne_i54, ne_i57, ne_i59, ne_i63, ne_i64, ne_i76, ne_i77, ne_i78, ne_i79, ne_i80, ne_i81, ne_i97, ne_i99, ne_i100, ne_i101, ne_i104, ne_i105, ne_i108, ne_i110, ne_i111, ne_i116, ne_i117, ne_i122, ne_i103, ne_i200, ne_i255, ne_i256, ne_i320, ne_i384, ne_i1000, ne_l0, ne_l1, ne_l2, ne_l3, ne_l4, ne_l5, ne_l8, ne_l12, ne_l31, ne_l48, ne_l57, ne_l97, ne_l99, ne_l122, ne_l255, ne_l673, ne_l1073741823, ne_l1073741824]
                  exact ⟨_, rfl, fun x hx => by rw [sF_s, hI x (by omega)]; exact hx0.2.2.2.2 x hx, fun p hp => sF_n hp, rfl⟩
              obtain ⟨X0, e0, z1, z2, z3⟩ := cpy
              rw [e0]
              refine ne_loop (fun f i (s : sm_St × sm_St) => (px_L_least_b81 N f (nI th) (nI c) (nI n) (nI p) (nI i) s.1, pm_least_b51 N f (nI th) (nI c) (nI n) (nI p) (nI i) s.2)) (fun i s => (∀ x, x < a 77 → x ≠ th → s.1.1 146 x = nI (a (48 + x))) ∧ (∀ p, p < 107 ∨ 126 ≤ p ∧ p ≠ 146 → s.1.1 p = X.1 p) ∧ s.1.2.2 = X.2.2 ∧ ∃ M w, MB M S ∧ nW M v w s.2 ∧ ∀ i, 5 ≤ i → w i = v (14 + i)) 13 (fun r => OKr r.1 r.2) ?_ ?_ N 0 (X0, S) (by omega) (by omega) ⟨fun x hx _ => z1 x hx, fun p hp => z2 p (by omega), by rw [z3], S, fun i => v (14 + i), fun p _ _ => rfl, ⟨v, h.2.1, rfl, fun _ _ => rfl⟩, fun i _ => rfl⟩
              · rintro f i ⟨s, s'⟩ hi ⟨i1, i2, i3, M, w, i4, i5, i6⟩
                simp only at i1 i2 i3 i5
                have hs' : sc a (at_ a) (va_up (ac_ a) th i) := sc_up hs (by omega)
                have hxd : xhd (sm_sI s 146 th (nI i)) a (at_ a) (va_up (ac_ a) th i) 7 146 := by
                  have fr : ∀ p, p < 107 → (sm_sI s 146 th (nI i)).1 p = X.1 p := fun p hp => by rw [ne_sI1n (by omega)]; exact i2 p (by omega)
                  obtain ⟨d1, d2, d3, d4, d5⟩ := hx0
                  refine ⟨by rw [fr 1 (by omega)]; exact d1, by rw [fr 1 (by omega)]; exact d2, fun j hj => by rw [fr 2 (by omega), fr 3 (by omega)]; exact d3 j hj, fun j x hj hx => by rw [fr _ (by omega)]; exact d4 j x hj hx, fun x hx => ?_⟩
                  by_cases e : x = th
                  · subst e
                    rw [ne_sI1s, pk_us, ne_up_s]
                  · rw [ne_sI1s, pk_un e, ne_up_n e]
                    exact i1 x hx e
                obtain ⟨X1, e1, x1, x2, x3⟩ := xq_reckon (N := N) hN hs' ⟨Or.inl rfl, Or.inr rfl⟩ hxd
                have now1 : xsh X1 12 (a 76) (wn v) := xsh_fr (by rw [x2 12 (by omega), ne_sI1n (by omega)]; exact i2 12 (by omega)) (by rw [x2 13 (by omega), ne_sI1n (by omega)]; exact i2 13 (by omega)) (RR_now h)
                obtain ⟨q', X2, e3, y1, y2, y3, y4⟩ := xq_behind (N := N) (n := n) hN hs' x1 now1 hw.1 hw.2.2.2 (by omega) (Or.inl rfl)
                obtain ⟨S1, e4, s1⟩ := nW_again (N := N) hN i5 i6 (MB_nw i4 h.1)
                have s1' := nW_sI (p := 8) (k := th) (x := nI i) s1 (by decide)
                have nt1 : nt (at_ a) (va_up (ac_ a) th i) (sm_sI (sm_tn a M) 8 th (nI i)) := by
                  refine ⟨fun k hk => by rw [ne_sI1n (by decide)]; exact tn_t.1 k hk, fun k hk => ?_⟩
                  by_cases e : k = th
                  · subst e
                    rw [ne_sI1s, pk_us, ne_up_s]
                  · rw [ne_sI1s, pk_un e, ne_up_n e]
                    exact tn_t.2 k hk
                have nw1 : nw a (sm_sI (sm_tn a M) 8 th (nI i)) := fun k hk => by rw [ne_sI1n (by decide)]; exact tn_nw (MB_nw i4 h.1) k hk
                obtain ⟨S2, e5, s2⟩ := nW_nights (N := N) (n := n) hN s1' nw1 nt1 hs' hw.1 hw.2.2.2 n12 hn
                have b4 := sp_ns_4 hs' hw.2.2.2 n
                have el := xsh_least (N := N) (t := p) hN y1 k4 hck hp
                obtain ⟨S3, em, sm⟩ := nW_least (N := N) (c := c) (p := p) hN s2 (by omega) hp (sp_1000 b4 (by omega))
                have hhi : ∀ i', 5 ≤ i' → sp_ns a (at_ a) (va_up (ac_ a) th i) (wn v) n i' = v (14 + i') := fun i' hi' => by rw [sp_ns_hi k4 hi', wn_hi hi']
                have hfr : ∀ p, p < 107 ∨ 126 ≤ p ∧ p ≠ 146 → X2.1 p = X.1 p := fun p hp => by rw [y3 p (by omega), x2 p (by omega), ne_sI1n (by omega)]; exact i2 p hp
                have hMB : MB (sm_sI (sm_tn a M) 8 th (nI i)) S := MB_sI (MB_tn i4) (Or.inr rfl)
                have hr2 : X2.2.2 = X.2.2 := by rw [y4, x3]; exact i3
                by_cases ht : sp_ns a (at_ a) (va_up (ac_ a) th i) (wn v) n 4 * p ≤ sp_ns a (at_ a) (va_up (ac_ a) th i) (wn v) n c
                · right
                  show OKr (px_L_least_b81 N (f + 1) _ _ _ _ _ _) (pm_least_b51 N (f + 1) _ _ _ _ _ _)
                  rw [px_L_least_b81, pm_least_b51]
                  rw [if_pos ht] at el em
                  simp (disch := omega) only [sm_lt, sm_b1s, sm_b2s, ↓reduceIte, sm_in_nI, nI_clamp, nI_add, pk_mul, pk_sub, ne_addneg, nI_l, ne_ltT, ne_ltF, ne_leT, ne_leF, ne_eqT, ne_eqF, ne_sI1s, ne_sI1n, ne_sI2, ne_sI3, ne_sL1, ne_sL2s, ne_sL2n, ne_sL3, pk_us, pk_un, pk_uLs, pk_uLn, mm_Z, mm_L, mm_1, mm_2, mm_3, ne_rz0, ne_rz1, not_true_eq_false, not_false_eq_true, ne_i0, ne_i1, ne_i2, ne_i3, ne_i4, ne_i5, ne_i6, ne_i7, ne_i8, ne_i9, ne_i10, ne_i12, ne_i14, ne_i16, ne_i18, ne_i19, ne_i20, ne_i23, ne_i24, ne_i27, ne_i29, ne_i30, ne_i31, ne_i32, ne_i35, ne_i48, ne_i52, ne_i54, ne_i57, ne_i59, ne_i63, ne_i64, ne_i76, ne_i77, ne_i78, ne_i79, ne_i80, ne_i81, ne_i97, ne_i99, ne_i100, ne_i101, ne_i104, ne_i105, ne_i108, ne_i110, ne_i111, ne_i116, ne_i117, ne_i122, ne_i103, ne_i200, ne_i255, ne_i256, ne_i320, ne_i384, ne_i1000, ne_l0, ne_l1, ne_l2, ne_l3, ne_l4, ne_l5, ne_l8, ne_l12, ne_l31, ne_l48, ne_l57, ne_l97, ne_l99, ne_l122, ne_l255, ne_l673, ne_l1073741823, ne_l1073741824, e1, e3, xq_16 y2, el, e4, e5, em]
                  exact ⟨_, _, _, rfl, rfl, RR_endM h sm hhi hMB (fun p hp => hfr p (by omega)) (by rw [hfr 102 (by omega)]) hr2⟩
                · left
                  refine ⟨(X2, S3), ⟨fun x hx hxt => ?_, hfr, hr2, _, _, hMB, sm, hhi⟩, ?_⟩
                  · show X2.1 146 x = _
                    rw [y3 146 (by omega), x2 146 (by omega), ne_sI1s, pk_un hxt]
                    exact i1 x hx hxt
                  · show (px_L_least_b81 N (f + 1) _ _ _ _ _ _, pm_least_b51 N (f + 1) _ _ _ _ _ _) = (px_L_least_b81 N f _ _ _ _ _ _, pm_least_b51 N f _ _ _ _ _ _)
                    rw [px_L_least_b81, pm_least_b51]
                    rw [if_neg ht] at el em
                    simp (disch := omega) only [sm_lt, sm_b1s, sm_b2s, ↓reduceIte, sm_in_nI, nI_clamp, nI_add, pk_mul, pk_sub, ne_addneg, nI_l, ne_ltT, ne_ltF, ne_leT, ne_leF, ne_eqT, ne_eqF, ne_sI1s, ne_sI1n, ne_sI2, ne_sI3, ne_sL1, ne_sL2s, ne_sL2n, ne_sL3, pk_us, pk_un, pk_uLs, pk_uLn, mm_Z, mm_L, mm_1, mm_2, mm_3, ne_rz0, ne_rz1, not_true_eq_false, not_false_eq_true, ne_i0, ne_i1, ne_i2, ne_i3, ne_i4, ne_i5, ne_i6, ne_i7, ne_i8, ne_i9, ne_i10, ne_i12, ne_i14, ne_i16, ne_i18, ne_i19, ne_i20, ne_i23, ne_i24, ne_i27, ne_i29, ne_i30, ne_i31, ne_i32, ne_i35, ne_i48, ne_i52, ne_i54, ne_i57, ne_i59, ne_i63, ne_i64, ne_i76, ne_i77, ne_i78, ne_i79, ne_i80, ne_i81, ne_i97, ne_i99, ne_i100, ne_i101, ne_i104, ne_i105, ne_i108, ne_i110, ne_i111, ne_i116, ne_i117, ne_i122, ne_i103, ne_i200, ne_i255, ne_i256, ne_i320, ne_i384, ne_i1000, ne_l0, ne_l1, ne_l2, ne_l3, ne_l4, ne_l5, ne_l8, ne_l12, ne_l31, ne_l48, ne_l57, ne_l97, ne_l99, ne_l122, ne_l255, ne_l673, ne_l1073741823, ne_l1073741824, e1, e3, xq_16 y2, el, e4, e5, em]
              · rintro f ⟨s, s'⟩ ⟨i1, i2, i3, M, w, i4, i5, i6⟩
                simp only at i1 i2 i3 i5
                dsimp only
                rw [px_L_least_b81, pm_least_b51]
                simp (disch := omega) only [sm_lt, sm_b1s, sm_b2s, ↓reduceIte, sm_in_nI, nI_clamp, nI_add, pk_mul, pk_sub, ne_addneg, nI_l, ne_ltT, ne_ltF, ne_leT, ne_leF, ne_eqT, ne_eqF, ne_sI1s, ne_sI1n, ne_sI2, ne_sI3, ne_sL1, ne_sL2s, ne_sL2n, ne_sL3, pk_us, pk_un, pk_uLs, pk_uLn, mm_Z, mm_L, mm_1, mm_2, mm_3, ne_rz0, ne_rz1, not_true_eq_false, not_false_eq_true, ne_i0, ne_i1, ne_i2, ne_i3, ne_i4, ne_i5, ne_i6, ne_i7, ne_i8, ne_i9, ne_i10, ne_i12, ne_i14, ne_i16, ne_i18, ne_i19, ne_i20, ne_i23, ne_i24, ne_i27, ne_i29, ne_i30, ne_i31, ne_i32, ne_i35, ne_i48, ne_i52, ne_i54, ne_i57, ne_i59, ne_i63, ne_i64, ne_i76, ne_i77, ne_i78, ne_i79, ne_i80, ne_i81, ne_i97, ne_i99, ne_i100, ne_i101, ne_i104, ne_i105, ne_i108, ne_i110, ne_i111, ne_i116, ne_i117, ne_i122, ne_i103, ne_i200, ne_i255, ne_i256, ne_i320, ne_i384, ne_i1000, ne_l0, ne_l1, ne_l2, ne_l3, ne_l4, ne_l5, ne_l8, ne_l12, ne_l31, ne_l48, ne_l57, ne_l97, ne_l99, ne_l122, ne_l255, ne_l673, ne_l1073741823, ne_l1073741824]
                exact ⟨_, _, _, rfl, rfl, RR_endM h i5 i6 i4 (fun p hp => i2 p (by omega)) (by rw [i2 102 (by omega)]) i3⟩
            · have e1 := xq_wF (N := N) (X := X) hb4 (by decide)
              have e2 := ne_inB (N := N) (S := S) hb4 (by decide)
              simp (disch := omega) only [sm_lt, sm_b1s, sm_b2s, ↓reduceIte, sm_in_nI, nI_clamp, nI_add, pk_mul, pk_sub, ne_addneg, nI_l, ne_ltT, ne_ltF, ne_leT, ne_leF, ne_eqT, ne_eqF, ne_sI1s, ne_sI1n, ne_sI2, ne_sI3, ne_sL1, ne_sL2s, ne_sL2n, ne_sL3, pk_us, pk_un, pk_uLs, pk_uLn, mm_Z, mm_L, mm_1, mm_2, mm_3, ne_rz0, ne_rz1, not_true_eq_false, not_false_eq_true, ne_i0, ne_i1, ne_i2, ne_i3, ne_i4, ne_i5, ne_i6, ne_i7, ne_i8, ne_i9, ne_i10, ne_i12, ne_i14, ne_i16, ne_i18, ne_i19, ne_i20, ne_i23, ne_i24, ne_i27, ne_i29, ne_i30, ne_i31, ne_i32, ne_i35, ne_i48, ne_i52, ne_i54, ne_i57, ne_i59, ne_i63, ne_i64, ne_i76, ne_i77, ne_i78, ne_i79, ne_i80, ne_i81, ne_i97, ne_i99, ne_i100, ne_i101, ne_i104, ne_i105, ne_i108, ne_i110, ne_i111, ne_i116, ne_i117, ne_i122, ne_i103, ne_i200, ne_i255, ne_i256, ne_i320, ne_i384, ne_i1000, ne_l0, ne_l1, ne_l2, ne_l3, ne_l4, ne_l5, ne_l8, ne_l12, ne_l31, ne_l48, ne_l57, ne_l97, ne_l99, ne_l122, ne_l255, ne_l673, ne_l1073741823, ne_l1073741824, xq_thT q2, np_thT h.1 t4, xq_clT q1, np_clT h.1 k4, xq_wT, ne_inT, e1, e2, xq_bad, np_bad]
              exact ⟨_, _, _, rfl, rfl, R_bad (RR_R h)⟩
          · have e1 := xq_wF (N := N) (X := X) hb3 (by decide)
            have e2 := ne_inB (N := N) (S := S) hb3 (by decide)
            simp (disch := omega) only [sm_lt, sm_b1s, sm_b2s, ↓reduceIte, sm_in_nI, nI_clamp, nI_add, pk_mul, pk_sub, ne_addneg, nI_l, ne_ltT, ne_ltF, ne_leT, ne_leF, ne_eqT, ne_eqF, ne_sI1s, ne_sI1n, ne_sI2, ne_sI3, ne_sL1, ne_sL2s, ne_sL2n, ne_sL3, pk_us, pk_un, pk_uLs, pk_uLn, mm_Z, mm_L, mm_1, mm_2, mm_3, ne_rz0, ne_rz1, not_true_eq_false, not_false_eq_true, ne_i0, ne_i1, ne_i2, ne_i3, ne_i4, ne_i5, ne_i6, ne_i7, ne_i8, ne_i9, ne_i10, ne_i12, ne_i14, ne_i16, ne_i18, ne_i19, ne_i20, ne_i23, ne_i24, ne_i27, ne_i29, ne_i30, ne_i31, ne_i32, ne_i35, ne_i48, ne_i52, ne_i54, ne_i57, ne_i59, ne_i63, ne_i64, ne_i76, ne_i77, ne_i78, ne_i79, ne_i80, ne_i81, ne_i97, ne_i99, ne_i100, ne_i101, ne_i104, ne_i105, ne_i108, ne_i110, ne_i111, ne_i116, ne_i117, ne_i122, ne_i103, ne_i200, ne_i255, ne_i256, ne_i320, ne_i384, ne_i1000, ne_l0, ne_l1, ne_l2, ne_l3, ne_l4, ne_l5, ne_l8, ne_l12, ne_l31, ne_l48, ne_l57, ne_l97, ne_l99, ne_l122, ne_l255, ne_l673, ne_l1073741823, ne_l1073741824, xq_thT q2, np_thT h.1 t4, xq_clT q1, np_clT h.1 k4, e1, e2, xq_bad, np_bad]
            exact ⟨_, _, _, rfl, rfl, R_bad (RR_R h)⟩
        · have e1 := xq_clF (N := N) (v := nI c) q1 (by rw [nI_toInt (by omega)]; omega) k4
          simp (disch := omega) only [sm_lt, sm_b1s, sm_b2s, ↓reduceIte, sm_in_nI, nI_clamp, nI_add, pk_mul, pk_sub, ne_addneg, nI_l, ne_ltT, ne_ltF, ne_leT, ne_leF, ne_eqT, ne_eqF, ne_sI1s, ne_sI1n, ne_sI2, ne_sI3, ne_sL1, ne_sL2s, ne_sL2n, ne_sL3, pk_us, pk_un, pk_uLs, pk_uLn, mm_Z, mm_L, mm_1, mm_2, mm_3, ne_rz0, ne_rz1, not_true_eq_false, not_false_eq_true, ne_i0, ne_i1, ne_i2, ne_i3, ne_i4, ne_i5, ne_i6, ne_i7, ne_i8, ne_i9, ne_i10, ne_i12, ne_i14, ne_i16, ne_i18, ne_i19, ne_i20, ne_i23, ne_i24, ne_i27, ne_i29, ne_i30, ne_i31, ne_i32, ne_i35, ne_i48, ne_i52, ne_i54, ne_i57, ne_i59, ne_i63, ne_i64, ne_i76, ne_i77, ne_i78, ne_i79, ne_i80, ne_i81, ne_i97, ne_i99, ne_i100, ne_i101, ne_i104, ne_i105, ne_i108, ne_i110, ne_i111, ne_i116, ne_i117, ne_i122, ne_i103, ne_i200, ne_i255, ne_i256, ne_i320, ne_i384, ne_i1000, ne_l0, ne_l1, ne_l2, ne_l3, ne_l4, ne_l5, ne_l8, ne_l12, ne_l31, ne_l48, ne_l57, ne_l97, ne_l99, ne_l122, ne_l255, ne_l673, ne_l1073741823, ne_l1073741824, xq_thT q2, np_thT h.1 t4, e1, np_clF h.1 k4, xq_bad, np_bad]
          exact ⟨_, _, _, rfl, rfl, R_bad (RR_R h)⟩
      · have e1 := xq_clF (N := N) (v := v2) q1 (by omega) k4
        have e2 := np_clB (N := N) h.1 k4 hb
        simp (disch := omega) only [sm_lt, sm_b1s, sm_b2s, ↓reduceIte, sm_in_nI, nI_clamp, nI_add, pk_mul, pk_sub, ne_addneg, nI_l, ne_ltT, ne_ltF, ne_leT, ne_leF, ne_eqT, ne_eqF, ne_sI1s, ne_sI1n, ne_sI2, ne_sI3, ne_sL1, ne_sL2s, ne_sL2n, ne_sL3, pk_us, pk_un, pk_uLs, pk_uLn, mm_Z, mm_L, mm_1, mm_2, mm_3, ne_rz0, ne_rz1, not_true_eq_false, not_false_eq_true, ne_i0, ne_i1, ne_i2, ne_i3, ne_i4, ne_i5, ne_i6, ne_i7, ne_i8, ne_i9, ne_i10, ne_i12, ne_i14, ne_i16, ne_i18, ne_i19, ne_i20, ne_i23, ne_i24, ne_i27, ne_i29, ne_i30, ne_i31, ne_i32, ne_i35, ne_i48, ne_i52, ne_i54, ne_i57, ne_i59, ne_i63, ne_i64, ne_i76, ne_i77, ne_i78, ne_i79, ne_i80, ne_i81, ne_i97, ne_i99, ne_i100, ne_i101, ne_i104, ne_i105, ne_i108, ne_i110, ne_i111, ne_i116, ne_i117, ne_i122, ne_i103, ne_i200, ne_i255, ne_i256, ne_i320, ne_i384, ne_i1000, ne_l0, ne_l1, ne_l2, ne_l3, ne_l4, ne_l5, ne_l8, ne_l12, ne_l31, ne_l48, ne_l57, ne_l97, ne_l99, ne_l122, ne_l255, ne_l673, ne_l1073741823, ne_l1073741824, xq_thT q2, np_thT h.1 t4, e1, e2, xq_bad, np_bad]
        exact ⟨_, _, _, rfl, rfl, R_bad (RR_R h)⟩
    · have e1 := xq_thF (N := N) (v := nI th) q2 (by rw [nI_toInt (by omega)]; omega) t4
      simp (disch := omega) only [sm_lt, sm_b1s, sm_b2s, ↓reduceIte, sm_in_nI, nI_clamp, nI_add, pk_mul, pk_sub, ne_addneg, nI_l, ne_ltT, ne_ltF, ne_leT, ne_leF, ne_eqT, ne_eqF, ne_sI1s, ne_sI1n, ne_sI2, ne_sI3, ne_sL1, ne_sL2s, ne_sL2n, ne_sL3, pk_us, pk_un, pk_uLs, pk_uLn, mm_Z, mm_L, mm_1, mm_2, mm_3, ne_rz0, ne_rz1, not_true_eq_false, not_false_eq_true, ne_i0, ne_i1, ne_i2, ne_i3, ne_i4, ne_i5, ne_i6, ne_i7, ne_i8, ne_i9, ne_i10, ne_i12, ne_i14, ne_i16, ne_i18, ne_i19, ne_i20, ne_i23, ne_i24, ne_i27, ne_i29, ne_i30, ne_i31, ne_i32, ne_i35, ne_i48, ne_i52, ne_i54, ne_i57, ne_i59, ne_i63, ne_i64, ne_i76, ne_i77, ne_i78, ne_i79, ne_i80, ne_i81, ne_i97, ne_i99, ne_i100, ne_i101, ne_i104, ne_i105, ne_i108, ne_i110, ne_i111, ne_i116, ne_i117, ne_i122, ne_i103, ne_i200, ne_i255, ne_i256, ne_i320, ne_i384, ne_i1000, ne_l0, ne_l1, ne_l2, ne_l3, ne_l4, ne_l5, ne_l8, ne_l12, ne_l31, ne_l48, ne_l57, ne_l97, ne_l99, ne_l122, ne_l255, ne_l673, ne_l1073741823, ne_l1073741824, e1, np_thF h.1 t4, xq_bad, np_bad]
      exact ⟨_, _, _, rfl, rfl, R_bad (RR_R h)⟩
  · have e1 := xq_thF (N := N) (v := v1) q2 (by omega) t4
    have e2 := np_thB (N := N) h.1 t4 hb
    simp (disch := omega) only [sm_lt, sm_b1s, sm_b2s, ↓reduceIte, sm_in_nI, nI_clamp, nI_add, pk_mul, pk_sub, ne_addneg, nI_l, ne_ltT, ne_ltF, ne_leT, ne_leF, ne_eqT, ne_eqF, ne_sI1s, ne_sI1n, ne_sI2, ne_sI3, ne_sL1, ne_sL2s, ne_sL2n, ne_sL3, pk_us, pk_un, pk_uLs, pk_uLn, mm_Z, mm_L, mm_1, mm_2, mm_3, ne_rz0, ne_rz1, not_true_eq_false, not_false_eq_true, ne_i0, ne_i1, ne_i2, ne_i3, ne_i4, ne_i5, ne_i6, ne_i7, ne_i8, ne_i9, ne_i10, ne_i12, ne_i14, ne_i16, ne_i18, ne_i19, ne_i20, ne_i23, ne_i24, ne_i27, ne_i29, ne_i30, ne_i31, ne_i32, ne_i35, ne_i48, ne_i52, ne_i54, ne_i57, ne_i59, ne_i63, ne_i64, ne_i76, ne_i77, ne_i78, ne_i79, ne_i80, ne_i81, ne_i97, ne_i99, ne_i100, ne_i101, ne_i104, ne_i105, ne_i108, ne_i110, ne_i111, ne_i116, ne_i117, ne_i122, ne_i103, ne_i200, ne_i255, ne_i256, ne_i320, ne_i384, ne_i1000, ne_l0, ne_l1, ne_l2, ne_l3, ne_l4, ne_l5, ne_l8, ne_l12, ne_l31, ne_l48, ne_l57, ne_l97, ne_l99, ne_l122, ne_l255, ne_l673, ne_l1073741823, ne_l1073741824, e1, e2, xq_bad, np_bad]
    exact ⟨_, _, _, rfl, rfl, R_bad (RR_R h)⟩
end
