section
variable {N : Nat} {X S : sm_St} {a b v ik tx : Nat → Nat} {len : Nat}
/-- the reference begins to read -/
theorem md_start {f : Nat} (hN : 4000 ≤ N) (hT : lkT S tx len) (hP : nP S v S) : ∃ M' S', pm_read N S = pm_read_b38 N N (nI 0) S' ∧ mdS S M' S' v tx len 0 0 0 (3 * 0) (fun _ => 0) (fun _ => 0) (fun _ => 0) := by
  unfold pm_read
  simp (disch := omega) only [sm_lt, sm_b1s, sm_b2s, ↓reduceIte, sm_in_nI, nI_clamp, nI_add, pk_mul, pk_sub, ne_addneg, nI_l, ne_ltT, ne_ltF, ne_leT, ne_leF, ne_eqT, ne_eqF, ne_sI1s, ne_sI1n, ne_sI2, ne_sI3, ne_sL1, ne_sL2s, ne_sL2n, ne_sL3, pk_us, pk_un, pk_uLs, pk_uLn, mm_Z, mm_L, mm_1, mm_2, mm_3, ne_rz0, ne_rz1, not_true_eq_false, not_false_eq_true, ne_i0, ne_i1, ne_i2, ne_i3, ne_i4, ne_i5, ne_i6, ne_i7, ne_i8, ne_i9, ne_i10, ne_i12, ne_i14, ne_i16, ne_i18, ne_i19, ne_i20, ne_i23, ne_i24, ne_i27, ne_i29, ne_i30, ne_i31, ne_i32, ne_i35, ne_i48, ne_i52, ne_i54, ne_i57, ne_i59, ne_i63, ne_i64, ne_i76, ne_i77, ne_i78, ne_i79, ne_i80, ne_i81, ne_i97, ne_i99, ne_i100, ne_i101, ne_i104, ne_i105, ne_i108, ne_i110, ne_i111, ne_i116, ne_i117, ne_i122, ne_i103, ne_i200, ne_i255, ne_i256, ne_i320, ne_i384, ne_i1000, ne_l0, ne_l1, ne_l2, ne_l3, ne_l4, ne_l5, ne_l8, ne_l12, ne_l31, ne_l48, ne_l57, ne_l97, ne_l99, ne_l122, ne_l255, ne_l673, ne_l1073741823, ne_l1073741824]
  refine ne_loop (fun f k (s : sm_St) => pm_read_b12 N f (nI k) s) (fun k s => mdE S s s v ∧ s.1 0 29 = nI 0 ∧ s.1 0 30 = nI 0 ∧ ∀ j, j < k → s.1 19 j = nI 0) 32 (fun o => ∃ M' S', o = pm_read_b38 N N (nI 0) S' ∧ mdS S M' S' v tx len 0 0 0 (3 * 0) (fun _ => 0) (fun _ => 0) (fun _ => 0)) ?_ ?_ N 0 _ (by omega) (by omega) ⟨⟨nP_sIo (nP_sIo hP (by decide)) (by decide), fun p p0 _ _ _ => by rw [ne_sI1n p0, ne_sI1n p0], fun k hk => by rw [ne_sI1s, ne_sI1s, pk_un (by omega), pk_un (by omega)]⟩, by rw [ne_sI1s, ne_sI1s, pk_un (by decide), pk_us], by rw [ne_sI1s, pk_us], fun j hj => absurd hj (Nat.not_lt_zero _)⟩
  · rintro f k s hk ⟨g1, g2, g3, g4⟩
    left
    refine ⟨sm_sI s 19 k (nI 0), ⟨mdE_p g1 (Or.inr (Or.inl rfl)), by rw [ne_sI1n (by decide)]; exact g2, by rw [ne_sI1n (by decide)]; exact g3, fun j hj => ?_⟩, ?_⟩
    · rw [ne_sI1s]
      by_cases e : j = k
      · rw [e, pk_us]
      · rw [pk_un e]
        exact g4 j (by omega)
    · show pm_read_b12 N (f + 1) _ _ = _
      rw [pm_read_b12]
      simp (disch := omega) only [sm_lt, sm_b1s, sm_b2s, ↓reduceIte, sm_in_nI, nI_clamp, nI_add, pk_mul, pk_sub, ne_addneg, nI_l, ne_ltT, ne_ltF, ne_leT, ne_leF, ne_eqT, ne_eqF, ne_sI1s, ne_sI1n, ne_sI2, ne_sI3, ne_sL1, ne_sL2s, ne_sL2n, ne_sL3, pk_us, pk_un, pk_uLs, pk_uLn, mm_Z, mm_L, mm_1, mm_2, mm_3, ne_rz0, ne_rz1, not_true_eq_false, not_false_eq_true, ne_i0, ne_i1, ne_i2, ne_i3, ne_i4, ne_i5, ne_i6, ne_i7, ne_i8, ne_i9, ne_i10, ne_i12, ne_i14, ne_i16, ne_i18, ne_i19, ne_i20, ne_i23, ne_i24, ne_i27, ne_i29, ne_i30, ne_i31, ne_i32, ne_i35, ne_i48, ne_i52, ne_i54, ne_i57, ne_i59, ne_i63, ne_i64, ne_i76, ne_i77, ne_i78, ne_i79, ne_i80, ne_i81, ne_i97, ne_i99, ne_i100, ne_i101, ne_i104, ne_i105, ne_i108, ne_i110, ne_i111, ne_i116, ne_i117, ne_i122, ne_i103, ne_i200, ne_i255, ne_i256, ne_i320, ne_i384, ne_i1000, ne_l0, ne_l1, ne_l2, ne_l3, ne_l4, ne_l5, ne_l8, ne_l12, ne_l31, ne_l48, ne_l57, ne_l97, ne_l99, ne_l122, ne_l255, ne_l673, ne_l1073741823, ne_l1073741824]
  · rintro f s ⟨g1, g2, g3, g4⟩
    obtain ⟨M', S', e, g, _⟩ := md_look (N := N) (M0 := S) (M := s) (S := s) (r := 0) (nc := 0) (nt := 0) (cn := 3 * 0) (cl := fun _ => 0) (co := fun _ => 0) (hr := fun _ => 0) hN hT (Nat.zero_le _) g1 g2 g3 (fun k hk => absurd hk (Nat.not_lt_zero _)) (fun k hk => absurd hk (Nat.not_lt_zero _)) g4
    refine ⟨M', S', ?_, g⟩
    show pm_read_b12 N (f + 1) _ _ = _
    rw [pm_read_b12]
    simp (disch := omega) only [sm_lt, sm_b1s, sm_b2s, ↓reduceIte, sm_in_nI, nI_clamp, nI_add, pk_mul, pk_sub, ne_addneg, nI_l, ne_ltT, ne_ltF, ne_leT, ne_leF, ne_eqT, ne_eqF, ne_sI1s, ne_sI1n, ne_sI2, ne_sI3, ne_sL1, ne_sL2s, ne_sL2n, ne_sL3, pk_us, pk_un, pk_uLs, pk_uLn, mm_Z, mm_L, mm_1, mm_2, mm_3, ne_rz0, ne_rz1, not_true_eq_false, not_false_eq_true, ne_i0, ne_i1, ne_i2, ne_i3, ne_i4, ne_i5, ne_i6, ne_i7, ne_i8, ne_i9, ne_i10, ne_i12, ne_i14, ne_i16, ne_i18, ne_i19, ne_i20, ne_i23, ne_i24, ne_i27, ne_i29, ne_i30, ne_i31, ne_i32, ne_i35, ne_i48, ne_i52, ne_i54, ne_i57, ne_i59, ne_i63, ne_i64, ne_i76, ne_i77, ne_i78, ne_i79, ne_i80, ne_i81, ne_i97, ne_i99, ne_i100, ne_i101, ne_i104, ne_i105, ne_i108, ne_i110, ne_i111, ne_i116, ne_i117, ne_i122, ne_i103, ne_i200, ne_i255, ne_i256, ne_i320, ne_i384, ne_i1000, ne_l0, ne_l1, ne_l2, ne_l3, ne_l4, ne_l5, ne_l8, ne_l12, ne_l31, ne_l48, ne_l57, ne_l97, ne_l99, ne_l122, ne_l255, ne_l673, ne_l1073741823, ne_l1073741824, e]
/-- what was read, as told -/
theorem rd_ok {a' v' cl co hr : Nat → Nat} {nc nt : Nat} {M S' : sm_St} (o : sp_ok a) (hJ : pzJ nc nt cl co hr) (g : prZ M S' a v a' v' cl co hr nc nt) : sp_ok a' := by
  obtain ⟨o1, o2, o3, o4, o5, o6, o7, o8, o9, o10⟩ := o
  obtain ⟨g1, g2, g3, g4, g5, g6, ⟨g7, g8, g9, g10, g11⟩, g12, g13⟩ := g
  obtain ⟨⟨j1, j2⟩, j3, j4, j5⟩ := hJ
  refine ⟨by omega, by omega, by omega, by omega, by omega, by omega, fun c hc => ?_, fun c x hc hx => ?_, fun t ht => ?_, fun k hk => ?_⟩
  · rw [g7] at hc
    obtain ⟨d1, d2, d3, d4, d5, d6⟩ := g4 c hc
    obtain ⟨b1, b2, b3⟩ := j3 c hc
    rw [d1, d2, d3, d4]
    omega
  · rw [g7] at hc
    obtain ⟨d1, d2, d3, d4, d5, d6⟩ := g4 c hc
    obtain ⟨b1, b2, b3⟩ := j5 c x (by omega) hx
    unfold sp_h8
    rw [d6 x hx, g7, g8]
    refine ⟨b1, fun q => b2 (by omega), fun q => ?_⟩
    rw [(g4 x q).2.2.2.2.2 c (by omega)]
    exact b3 (by omega)
  · rw [g8] at ht
    rw [g5 t ht]
    exact j4 t ht
  · rw [g11] at hk
    rw [g6 _ (by omega) (by omega), g6 _ (by omega) (by omega), g6 _ (by omega) (by omega), g6 _ (by omega) (by omega)]
    exact o10 k hk
theorem rd_gH {a' v' cl co hr : Nat → Nat} {nc nt : Nat} {M S' X' : sm_St} (o : sp_ok a) (hx : xhs X 1 a (fun c => v (19 + c)) (fun j c => v (24 + 5 * j + c))) (hJ : pzJ nc nt cl co hr) (g : prZ M S' a v a' v' cl co hr nc nt) (hp : hp2 X X' nc nt cl co hr) : gH X' 1 a' (fun c => v' (19 + c)) (fun j c => v' (24 + 5 * j + c)) := by
  have ok := rd_ok o hJ g
  have o6 := o.2.2.2.2.2.1
  obtain ⟨g1, g2, g3, g4, g5, g6, ⟨g7, g8, g9, g10, g11⟩, g12, g13⟩ := g
  obtain ⟨⟨p1, p2, p3, p4, p5⟩, p6, p7, p8, p9, p10, p11⟩ := hp
  obtain ⟨⟨j1, j2⟩, j3, j4, j5⟩ := hJ
  obtain ⟨c1, k1, co1, hh, hz, wi, now, past⟩ := hx
  refine ⟨ok, ⟨⟨fun c hc => ?_, ?_, ?_, ?_⟩, fun j hj => ?_⟩, ⟨by rw [g7]; exact p1, by rw [g8]; exact p2, by rw [g9]; exact p3, by rw [g10]; exact p4, by rw [p5, g11]; exact c1.2.2.2.2⟩, fun i hi => ?_, fun t ht => ?_, fun i x hi hx => ?_, fun i x hi hi4 hx => ?_, fun k f hk hf => ?_, ?_, fun j hj => ?_⟩
  · rw [g7] at hc
    show v' (19 + c) ≤ 12 * v' 23
    rw [(g4 c hc).2.2.2.2.1, g12]
    have := (j3 c hc).2.2
    omega
  · show 0 < v' 23
    rw [g12]
    decide
  · show sm0 (v' 23)
    rw [g12]
    intro d hd h1
    exact absurd (Nat.dvd_one.mp hd) h1
  · show v' 23 ≤ _
    rw [g12, g9]
    decide
  · rw [g10] at hj
    exact absurd hj (Nat.not_lt_zero _)
  · rw [g7] at hi
    obtain ⟨d1, d2, d3, d4, d5, d6⟩ := g4 i hi
    rw [d1, d2, d3, d4]
    exact p6 i hi
  · rw [g8] at ht
    rw [g5 t ht]
    exact p7 t ht
  · rw [g7] at hi
    rw [(g4 i hi).2.2.2.2.2 x hx]
    exact p8 i x (by omega) hx
  · rw [g7] at hi
    have e := p8 i x hi4 hx
    rw [(j5 i x hi4 hx).2.1 (by omega)] at e
    exact e
  · rw [g11] at hk
    rw [p10 _ (by omega) (by omega), g6 _ (by omega) (by omega)]
    exact wi k f hk hf
  · obtain ⟨u, u1, u2, u3, u4, u5⟩ := p9
    rw [g7]
    have e4 : rw_ cl 4 = 1 := if_pos rfl
    rw [e4] at u4
    refine ⟨u, u1, u2, u3, ?_, fun r hr => ?_⟩
    · show 12 * v' 23 < _
      rw [g12]
      exact u4
    · have e := u5 r hr
      have er : rw_ cl r = v' (19 + r) := by
        rcases hr with hr | hr
        · rw [(g4 r hr).2.2.2.2.1]
          exact if_neg (by omega)
        · rw [hr, e4]
          exact g12.symm
      rw [er] at e
      exact e
  · rw [g10] at hj
    exact absurd hj (Nat.not_lt_zero _)
theorem c_read (hN : 4000 ≤ N) (h : R X S) : OKr (px_L_read N X) (pm_read N S) := by
  obtain ⟨a, b, v, ik, tx, len, h⟩ := h
  have o := RR_ok h
  have hx := RR_hs h
  obtain ⟨t1, t2, t3, t4⟩ := h.2.2.2.2.1
  have hTx : rdT X tx len := ⟨t1, fun k hk => ⟨(t4 k hk).1, (t4 k hk).2.1⟩⟩
  have hTm : lkT S tx len := ⟨t1, t3, fun k hk => ⟨(t4 k hk).1, (t4 k hk).2.2⟩⟩
  obtain ⟨M1, S1, e1, s1⟩ := md_start (N := N) (f := 0) hN hTm h.2.1
  obtain ⟨_, j2⟩ := pz_J (tx := tx) (len := len) (len + 1) 0 0 0 0 (fun _ => 0) (fun _ => 0) (fun _ => 0) (Nat.le_refl 0) (Nat.zero_le _) (pzJ_0 _ _)
  obtain ⟨M2, S2, hm⟩ := md_loop (N := N) hN hTm (len + 1) 0 0 0 0 (fun _ => 0) (fun _ => 0) (fun _ => 0) N M1 S1 (by omega) (Nat.zero_le _) (Nat.zero_le _) (Nat.zero_le _) (by omega) s1
  rw [← e1] at hm
  obtain ⟨x1, x2⟩ := xr_read (N := N) hN hTx t2 rfl
  cases hz : pz tx len (len + 1) 0 0 0 0 (fun _ => 0) (fun _ => 0) (fun _ => 0) with
  | inl fl =>
    rw [hz] at hm
    obtain ⟨e2, m1, m2, m3⟩ := hm
    obtain ⟨X', ex, y1, y2, y3⟩ := x1 fl hz
    have f : ∀ p, p ≠ 0 → p ≠ 18 → p ≠ 19 → p ≠ 20 → p ≠ 6 → S2.1 p = S.1 p := fun p p0 p1 p2 p3 p6 => by rw [nP_1 m1 p6]; exact m2 p p0 p1 p2 p3
    have f0 : ∀ k, k < 22 → S2.1 0 k = S.1 0 k := fun k hk => by rw [nP_1 m1 (by decide)]; exact m3 k hk
    exact ⟨_, X', S2, ex, e2, RR_R (RR_t (tx' := tx) (len' := len) h (nP_own m1) (fun p hp => f p (by omega) (by omega) (by omega) (by omega) (by omega)) (f0 6 (by decide)) (fun p p1 _ _ => y1 p p1) (by rw [y2]) ⟨t1, y3, by rw [f0 21 (by decide)]; exact t3, fun k hk => ⟨(t4 k hk).1, by rw [y1 103 (by decide)]; exact (t4 k hk).2.1, by rw [f 17 (by decide) (by decide) (by decide) (by decide) (by decide)]; exact (t4 k hk).2.2⟩⟩)⟩
  | inr r =>
    rw [hz] at hm j2
    obtain ⟨_, hJ⟩ := j2 r rfl
    obtain ⟨e2, q', s2⟩ := hm
    obtain ⟨X', ex, hp, x102⟩ := x2 r hz
    obtain ⟨s0, s18, s19, s20⟩ := mdS_S s2
    obtain ⟨⟨m1, m2, m3⟩, m4, m5, m6, m7, m8, m9⟩ := s2
    have f : ∀ p, p ≠ 0 → p ≠ 18 → p ≠ 19 → p ≠ 20 → p ≠ 6 → S2.1 p = S.1 p := fun p p0 p1 p2 p3 p6 => by rw [nP_1 m1 p6]; exact m2 p p0 p1 p2 p3
    have f0 : ∀ k, k < 22 → S2.1 0 k = S.1 0 k := fun k hk => by rw [nP_1 m1 (by decide)]; exact m3 k hk
    obtain ⟨S3, a', v', e3, g⟩ := pr_all (N := N) (a := a) hN (show prM S2 r.2.1 r.2.2.1 r.2.2.2.1 r.2.2.2.2.1 r.2.2.2.2.2 from ⟨by rw [s0]; exact m5, by rw [s0]; exact m6, fun k hk => by rw [s18]; exact m7 k hk, fun t ht => by rw [s20]; exact m8 t ht, fun k hk => by rw [s19]; exact m9 k hk⟩) hJ (nP_own m1) (fun k hk => by rw [f 1 (by decide) (by decide) (by decide) (by decide) (by decide)]; exact h.1 k hk)
    have hH := rd_gH o hx hJ g hp
    obtain ⟨g1, g2, g3, g4, g5, g6, g7, g8, g9⟩ := g
    have p10 := hp.2.2.2.2.2.1
    have p11 := hp.2.2.2.2.2.2
    rw [e3, sm_b1s] at e2
    exact ⟨_, X', S3, ex, e2, RR_R (RR_h (a' := a') (v' := v') h g2 g1 hH (fun s hs => g9 s (by omega)) (fun p hp => by rw [g3 p (by omega) (by omega)]; exact f p (by omega) (by omega) (by omega) (by omega) (by omega)) (by rw [g3 0 (by decide) (by decide)]; exact f0 6 (by decide)) (by rw [g3 0 (by decide) (by decide)]; exact f0 21 (by decide)) (fun p hp => p10 p (by omega) (by omega)) (by rw [x102, t2]) (hpl_fr (by rw [p11]) h.2.2.2.2.2.2.2.1) (fun p hp => by rw [p11]))⟩
end
