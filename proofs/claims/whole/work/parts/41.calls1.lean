/-! calls over nights -/
abbrev at_ (a : Nat → Nat) : Nat → Nat := fun k => a (16 + k)
abbrev ac_ (a : Nat → Nat) : Nat → Nat := fun k => a (48 + k)
/-- the shades now, as takeNow leaves them -/
def wn (v : Nat → Nat) : Nat → Nat := fun i => if i < 5 then v (19 + i) else v (14 + i)
section
variable {N : Nat} {X S : sm_St} {a b v ik tx : Nat → Nat} {len : Nat}
theorem wn_c {c : Nat} (h : c ≤ 4) : wn v c = v (19 + c) := if_pos (by omega)
theorem wn_hi {c : Nat} (h : 5 ≤ c) : wn v c = v (14 + c) := if_neg (by omega)
theorem RR_ok (h : RR X S a b v ik tx len) : sp_ok a := h.2.2.1.1
theorem RR_sc (h : RR X S a b v ik tx len) : sc a (at_ a) (ac_ a) := sp_ok_sc (RR_ok h)
theorem RR_xhd (h : RR X S a b v ik tx len) : xhd X a (at_ a) (ac_ a) 7 6 := by
  obtain ⟨_, _, ⟨_, _, ⟨c, k, co, hh, _⟩⟩, _⟩ := h
  refine ⟨c.1, c.2.1, fun i hi => ⟨(k i hi).1, (k i hi).2.1⟩, fun i x hi hx => ?_, co⟩
  have := hh i x hi hx
  rw [show 7 + 1 + i = 1 + 7 + i by omega]
  show X.1 (1 + 7 + i) x = nI (a (16 + (8 * i + x)))
  rw [← Nat.add_assoc 16]
  exact this
theorem RR_wv (h : RR X S a b v ik tx len) : wv1 a (wn v) (a 78) := (wv_eq (pw' := fun j c => v (24 + 5 * j + c)) (fun c hc => wn_c hc) (fun _ _ _ _ => rfl) (RR_ok h).1 (RR_ok h).2.2.2.1 h.2.2.1.2.1).1
theorem RR_now (h : RR X S a b v ik tx len) : xsh X 12 (a 76) (wn v) := xsh_eq (RR_ok h).1 (fun c hc => wn_c hc) h.2.2.1.2.2.2.2.2.2.2.2.1
theorem RR_cl (h : RR X S a b v ik tx len) : X.1 1 9 = nI (a 76) ∧ X.1 1 10 = nI (a 77) := ⟨h.2.2.1.2.2.1.1, h.2.2.1.2.2.1.2.1⟩
/-- both sides begin -/
theorem RR_begin (hN : 4000 ≤ N) (h : RR X S a b v ik tx len) : (∃ X1, px_Takings_reckon N X 1 7 6 = some X1 ∧ xt X1 a (at_ a) (ac_ a) ∧ xsh X1 12 (a 76) (wn v) ∧ (∀ p, p < 110 ∨ 122 ≤ p → X1.1 p = X.1 p) ∧ X1.2 = X.2) ∧ ∃ S1, pm_takeNow N S = some S1 ∧ nW (sm_tn a S) v (wn v) S1 := by
  obtain ⟨X1, e1, h1, h2, h3⟩ := xq_reckon (N := N) hN (RR_sc h) ⟨Or.inl rfl, Or.inl rfl⟩ (RR_xhd h)
  obtain ⟨S1, e2, h4⟩ := np_takeNow (N := N) hN h.2.1 h.1
  exact ⟨⟨X1, e1, h1, xsh_fr (h2 12 (by decide)) (h2 13 (by decide)) (RR_now h), h2, h3⟩, S1, e2, h4⟩
theorem sp_ns_hi {t co w : Nat → Nat} (hk : a 76 ≤ 4) {i : Nat} (h : 5 ≤ i) : ∀ n, sp_ns a t co w n i = w i
  | 0 => rfl
  | n + 1 => by
    rw [sp_ns]
    unfold sp_nw
    rw [if_neg (by omega), if_neg (by omega)]
    exact sp_ns_hi hk h n
/-- and both end -/
theorem RR_end {X' S' M : sm_St} {w' : Nat → Nat} (h : RR X S a b v ik tx len) (hW : nW M v w' S') (hw : ∀ i, 5 ≤ i → w' i = v (14 + i)) (hM : ∀ p, (p = 1 ∨ p = 2 ∨ p = 3 ∨ p = 4 ∨ p = 17) → M.1 p = S.1 p) (hM6 : M.1 0 6 = S.1 0 6) (hM21 : M.1 0 21 = S.1 0 21) (hX : ∀ p, p < 102 ∨ 103 ≤ p ∧ p < 107 → X'.1 p = X.1 p) (hX102 : X'.1 102 1 = X.1 102 1) (hXr : X'.2.2 = X.2.2) : R X' S' := by
  obtain ⟨v', h1, h2, h3⟩ := hW
  refine ⟨a, b, v', ik, tx, len, RR_q h (nP_own h1) (fun s hs => ?_) ?_ ?_ ?_ ?_ ?_ ?_ ?_ hX hX102 hXr⟩
  · rcases hs with hs | hs
    · exact h3 s (by omega)
    · have := congrFun h2 (s - 14)
      rw [show 14 + (s - 14) = s by omega, hw _ (by omega), show 14 + (s - 14) = s by omega] at this
      exact this
  · rw [nP_1 h1 (by decide)]; exact hM 1 (by simp)
  · rw [nP_1 h1 (by decide)]; exact hM 2 (by simp)
  · rw [nP_1 h1 (by decide)]; exact hM 3 (by simp)
  · rw [nP_1 h1 (by decide)]; exact hM 4 (by simp)
  · rw [nP_1 h1 (by decide)]; exact hM 17 (by simp)
  · rw [nP_1 h1 (by decide)]; exact hM6
  · rw [nP_1 h1 (by decide)]; exact hM21
theorem RR_endt {X' S' : sm_St} {w' : Nat → Nat} (h : RR X S a b v ik tx len) (hW : nW (sm_tn a S) v w' S') (hw : ∀ i, 5 ≤ i → w' i = v (14 + i)) (hX : ∀ p, p < 102 ∨ 103 ≤ p ∧ p < 107 → X'.1 p = X.1 p) (hX102 : X'.1 102 1 = X.1 102 1) (hXr : X'.2.2 = X.2.2) : R X' S' :=
  RR_end h hW hw (fun p hp => tn_1 (by omega) (by omega)) (by rw [tn_1 (by decide) (by decide)]) (by rw [tn_1 (by decide) (by decide)]) hX hX102 hXr
/-- the fraction is told on both sides -/
theorem RR_frac {X' S' M : sm_St} {v' : Nat → Nat} {V D : Nat} (h : RR X S a b v ik tx len) (hP : nP (sm_sI M 0 6 (nI (if V = 0 then 0 else 1))) v' S') (hf : fh X' (V / Nat.gcd V D) (D / Nat.gcd V D)) (h0 : v' 0 = V / Nat.gcd V D) (h1 : v' 1 = D / Nat.gcd V D) (hv : ∀ s, 19 ≤ s → v' s = v s) (hM : ∀ p, (p = 1 ∨ p = 2 ∨ p = 3 ∨ p = 4 ∨ p = 17) → M.1 p = S.1 p) (hM21 : M.1 0 21 = S.1 0 21) (hX : ∀ p, p < 102 ∨ p = 103 → X'.1 p = X.1 p) (hX102 : X'.1 102 1 = X.1 102 1) (hXr : X'.2.2 = X.2.2) : R X' S' := by
  have m1 : ∀ p, p ≠ 0 → p ≠ 6 → S'.1 p = M.1 p := fun p h0 h6 => by rw [nP_1 hP h6, ne_sI1n h0]
  have ez : (V / Nat.gcd V D = 0) = (V = 0) := by
    apply propext
    constructor
    · intro e
      have := Nat.div_mul_cancel (Nat.gcd_dvd_left V D)
      rw [e, Nat.zero_mul] at this
      exact this.symm
    · intro e
      rw [e, Nat.zero_div]
  refine ⟨a, b, v', ik, tx, len, RR_g h (nP_own hP) hv ⟨by rw [h0, h1]; exact hf, ?_⟩ ?_ ?_ ?_ ?_ ?_ ?_ hX hX102 hXr⟩
  · rw [nP_1 hP (by decide), ne_sI1s, pk_us, h0]
    simp only [ez]
  · rw [m1 1 (by decide) (by decide)]; exact hM 1 (by simp)
  · rw [m1 2 (by decide) (by decide)]; exact hM 2 (by simp)
  · rw [m1 3 (by decide) (by decide)]; exact hM 3 (by simp)
  · rw [m1 4 (by decide) (by decide)]; exact hM 4 (by simp)
  · rw [m1 17 (by decide) (by decide)]; exact hM 17 (by simp)
  · rw [nP_1 hP (by decide), ne_sI1s, pk_un (by decide)]; exact hM21
theorem RR_R (h : RR X S a b v ik tx len) : R X S := ⟨a, b, v, ik, tx, len, h⟩
/-- a refused call -/
theorem OK_bad (h : R X S) : OKr (px_L_refusedBad N X) (pm_bad N S (-nI 2)) := ⟨_, _, _, xq_bad, np_bad, R_bad h⟩
theorem OK_no (h : R X S) : OKr (px_L_refusedNo N X) (pm_no N S) := ⟨_, _, _, xq_no, np_no, R_no h⟩
theorem OK_full (h : R X S) : OKr (px_L_refusedFull N X) (pm_full N S) := ⟨_, _, _, xq_full, np_full, R_full h⟩
theorem c_shade {v1 v2 : Int32} (hN : 4000 ≤ N) (h : R X S) : OKr (px_L_shade N X v1 v2) (pm_shade N S v1 v2) := by
  obtain ⟨a, b, v, ik, tx, len, h⟩ := h
  have hk := RR_ok h
  have k4 := hk.1
  have hs := RR_sc h
  obtain ⟨q1, q2⟩ := RR_cl h
  have hw := RR_wv h
  unfold px_L_shade pm_shade px_L_shade_b20 pm_shade_b20
  rcases ne_arg v1 3 (by decide) with ⟨c, hc, rfl⟩ | hb
  · by_cases hck : c < a 76
    · rcases ne_arg v2 12 (by decide) with ⟨n, hn, rfl⟩ | hb2
      · obtain ⟨⟨X1, e1, x1, x2, x3, x4⟩, S1, e2, s1⟩ := RR_begin hN h
        obtain ⟨q', X2, e3, y1, y2, y3, y4⟩ := xq_behind (N := N) (n := n) hN hs x1 x2 hw.1 hw.2.2.2 (by have := hk.2.2.1; omega) (Or.inl rfl)
        obtain ⟨S2, e4, s2⟩ := nW_nights (N := N) (n := n) hN s1 (tn_nw h.1) tn_t hs hw.1 hw.2.2.2 hk.2.2.1 hn
        obtain ⟨g, e5, g0⟩ := xq_begin (X := X2) (N := N) (p := 107) hN
        have p0 := sp_ns_0 (w := wn v) hs hw.2.1 n
        have p4 := sp_ns_4 hs hw.2.2.2 n
        have hcf : xcf ((sm_lF X2 108 (vp_updL g c (lN 1))).2.1 108) a (sp_ns a (at_ a) (ac_ a) (wn v) n) (sp_ns a (at_ a) (ac_ a) (wn v) n c * 1) := by
          rw [lF_s]
          exact xcf_one g0 (by omega) (Or.inl hck) (by omega) rfl
        obtain ⟨X3, e6, z1, z2⟩ := xq_put (X := sm_lF X2 108 (vp_updL g c (lN 1))) (N := N) (T := 1) hN k4 y2 (xsh_fr rfl rfl y1) hcf (by decide) (by decide) p0 (sm0_ns hs hw.2.2.1 n)
        obtain ⟨v', w1, w2, w3⟩ := s2
        have w18 : v' 18 = sp_ns a (at_ a) (ac_ a) (wn v) n 4 := congrFun w2 4
        have wc : v' (14 + c) = sp_ns a (at_ a) (ac_ a) (wn v) n c := congrFun w2 c
        obtain ⟨S3, v3, e7, t1, t2, t3, t4⟩ := nW_tell (N := N) (src := 14 + c) (by' := 12) hN w1 (by omega) (by omega) (by rw [w18]; exact p0) (by rw [w18]; exact sp_1000 p4 (by have := hk.2.2.1; omega)) (by decide) (by decide)
        rw [wc, w18] at t2 t3
        rw [wc] at t1
        rw [Nat.mul_one, show 12 * 1 = 12 from rfl] at z1
        refine ⟨nI 1, X3, S3, ?_, ?_, RR_frac h t1 z1 t2 t3 (fun s hs' => ?_) (fun p hp => tn_1 (by omega) (by omega)) (by rw [tn_1 (by decide) (by decide)]) (fun p hp => ?_) ?_ ?_⟩
        · have el : sm_lF X2 (107 + 1) g = sm_lF X2 108 g := rfl
          simp (disch := omega) only [sm_lt, sm_b1s, sm_b2s, ↓reduceIte, sm_in_nI, nI_clamp, nI_add, pk_mul, pk_sub, ne_addneg, nI_l, ne_ltT, ne_ltF, ne_leT, ne_leF, ne_eqT, ne_eqF, ne_sI1s, ne_sI1n, ne_sI2, ne_sI3, ne_sL1, ne_sL2s, ne_sL2n, ne_sL3, pk_us, pk_un, pk_uLs, pk_uLn, mm_Z, mm_L, mm_1, mm_2, mm_3, ne_rz0, ne_rz1, not_true_eq_false, not_false_eq_true, ne_i0, ne_i1, ne_i2, ne_i3, ne_i4, ne_i5, ne_i6, ne_i7, ne_i8, ne_i9, ne_i10, ne_i12, ne_i14, ne_i16, ne_i18, ne_i19, ne_i20, ne_i23, ne_i24, ne_i27, ne_i29, ne_i30, ne_i31, ne_i32, ne_i35, ne_i48, ne_i52, ne_i54, ne_i57, ne_i59, ne_i63, ne_i64, ne_i76, ne_i77, ne_i78, ne_i79, ne_i80, ne_i81, ne_i97, ne_i99, ne_i100, ne_i101, ne_i104, ne_i105, ne_i108, ne_i110, ne_i111, ne_i116, ne_i117, ne_i122, ne_i103, ne_i200, ne_i255, ne_i256, ne_i320, ne_i384, ne_i1000, ne_l0, ne_l1, ne_l2, ne_l3, ne_l4, ne_l5, ne_l8, ne_l12, ne_l31, ne_l48, ne_l57, ne_l97, ne_l99, ne_l122, ne_l255, ne_l673, ne_l1073741823, ne_l1073741824, xq_clT q1, xq_wT, e1, e3, xq_16 y2, e5, lF_sL, e6]
        · simp (disch := omega) only [sm_lt, sm_b1s, sm_b2s, ↓reduceIte, sm_in_nI, nI_clamp, nI_add, pk_mul, pk_sub, ne_addneg, nI_l, ne_ltT, ne_ltF, ne_leT, ne_leF, ne_eqT, ne_eqF, ne_sI1s, ne_sI1n, ne_sI2, ne_sI3, ne_sL1, ne_sL2s, ne_sL2n, ne_sL3, pk_us, pk_un, pk_uLs, pk_uLn, mm_Z, mm_L, mm_1, mm_2, mm_3, ne_rz0, ne_rz1, not_true_eq_false, not_false_eq_true, ne_i0, ne_i1, ne_i2, ne_i3, ne_i4, ne_i5, ne_i6, ne_i7, ne_i8, ne_i9, ne_i10, ne_i12, ne_i14, ne_i16, ne_i18, ne_i19, ne_i20, ne_i23, ne_i24, ne_i27, ne_i29, ne_i30, ne_i31, ne_i32, ne_i35, ne_i48, ne_i52, ne_i54, ne_i57, ne_i59, ne_i63, ne_i64, ne_i76, ne_i77, ne_i78, ne_i79, ne_i80, ne_i81, ne_i97, ne_i99, ne_i100, ne_i101, ne_i104, ne_i105, ne_i108, ne_i110, ne_i111, ne_i116, ne_i117, ne_i122, ne_i103, ne_i200, ne_i255, ne_i256, ne_i320, ne_i384, ne_i1000, ne_l0, ne_l1, ne_l2, ne_l3, ne_l4, ne_l5, ne_l8, ne_l12, ne_l31, ne_l48, ne_l57, ne_l97, ne_l99, ne_l122, ne_l255, ne_l673, ne_l1073741823, ne_l1073741824, np_clT h.1 k4, ne_inT, e2, e4, e7]
        · rw [t4 s (by omega)]
          have := congrFun w2 (s - 14)
          rw [show 14 + (s - 14) = s by omega, sp_ns_hi k4 (by omega), wn_hi (by omega), show 14 + (s - 14) = s by omega] at this
          exact this
        · rw [z2.1 p (by omega) (by omega) (by omega), lF_1, y3 p (by omega)]
          exact x3 p (by omega)
        · rw [z2.1 102 (by omega) (by omega) (by omega), lF_1, y3 102 (by omega), x3 102 (by omega)]
        · rw [z2.2, lF_3, y4, x4]
      · have e1 := xq_wF (N := N) (X := X) hb2 (by decide)
        have e2 := ne_inB (N := N) (S := S) hb2 (by decide)
        simp (disch := omega) only [sm_lt, sm_b1s, sm_b2s, ↓reduceIte, sm_in_nI, nI_clamp, nI_add, pk_mul, pk_sub, ne_addneg, nI_l, ne_ltT, ne_ltF, ne_leT, ne_leF, ne_eqT, ne_eqF, ne_sI1s, ne_sI1n, ne_sI2, ne_sI3, ne_sL1, ne_sL2s, ne_sL2n, ne_sL3, pk_us, pk_un, pk_uLs, pk_uLn, mm_Z, mm_L, mm_1, mm_2, mm_3, ne_rz0, ne_rz1, not_true_eq_false, not_false_eq_true, ne_i0, ne_i1, ne_i2, ne_i3, ne_i4, ne_i5, ne_i6, ne_i7, ne_i8, ne_i9, ne_i10, ne_i12, ne_i14, ne_i16, ne_i18, ne_i19, ne_i20, ne_i23, ne_i24, ne_i27, ne_i29, ne_i30, ne_i31, ne_i32, ne_i35, ne_i48, ne_i52, ne_i54, ne_i57, ne_i59, ne_i63, ne_i64, ne_i76, ne_i77, ne_i78, ne_i79, ne_i80, ne_i81, ne_i97, ne_i99, ne_i100, ne_i101, ne_i104, ne_i105, ne_i108, ne_i110, ne_i111, ne_i116, ne_i117, ne_i122, ne_i103, ne_i200, ne_i255, ne_i256, ne_i320, ne_i384, ne_i1000, ne_l0, ne_l1, ne_l2, ne_l3, ne_l4, ne_l5, ne_l8, ne_l12, ne_l31, ne_l48, ne_l57, ne_l97, ne_l99, ne_l122, ne_l255, ne_l673, ne_l1073741823, ne_l1073741824, xq_clT q1, np_clT h.1 k4, e1, e2, xq_bad, np_bad]
        exact ⟨_, _, _, rfl, rfl, R_bad (RR_R h)⟩
    · have e1 := xq_clF (N := N) (v := nI c) q1 (by rw [nI_toInt (by omega)]; omega) k4
      simp (disch := omega) only [sm_lt, sm_b1s, sm_b2s, ↓reduceIte, sm_in_nI, nI_clamp, nI_add, pk_mul, pk_sub, ne_addneg, nI_l, ne_ltT, ne_ltF, ne_leT, ne_leF, ne_eqT, ne_eqF, ne_sI1s, ne_sI1n, ne_sI2, ne_sI3, ne_sL1, ne_sL2s, ne_sL2n, ne_sL3, pk_us, pk_un, pk_uLs, pk_uLn, mm_Z, mm_L, mm_1, mm_2, mm_3, ne_rz0, ne_rz1, not_true_eq_false, not_false_eq_true, ne_i0, ne_i1, ne_i2, ne_i3, ne_i4, ne_i5, ne_i6, ne_i7, ne_i8, ne_i9, ne_i10, ne_i12, ne_i14, ne_i16, ne_i18, ne_i19, ne_i20, ne_i23, ne_i24, ne_i27, ne_i29, ne_i30, ne_i31, ne_i32, ne_i35, ne_i48, ne_i52, ne_i54, ne_i57, ne_i59, ne_i63, ne_i64, ne_i76, ne_i77, ne_i78, ne_i79, ne_i80, ne_i81, ne_i97, ne_i99, ne_i100, ne_i101, ne_i104, ne_i105, ne_i108, ne_i110, ne_i111, ne_i116, ne_i117, ne_i122, ne_i103, ne_i200, ne_i255, ne_i256, ne_i320, ne_i384, ne_i1000, ne_l0, ne_l1, ne_l2, ne_l3, ne_l4, ne_l5, ne_l8, ne_l12, ne_l31, ne_l48, ne_l57, ne_l97, ne_l99, ne_l122, ne_l255, ne_l673, ne_l1073741823, ne_l1073741824, e1, np_clF h.1 k4, xq_bad, np_bad]
      exact ⟨_, _, _, rfl, rfl, R_bad (RR_R h)⟩
  · have e1 := xq_clF (N := N) (v := v1) q1 (by omega) k4
    have e2 := np_clB (N := N) h.1 k4 hb
    simp (disch := omega) only [sm_lt, sm_b1s, sm_b2s, ↓reduceIte, sm_in_nI, nI_clamp, nI_add, pk_mul, pk_sub, ne_addneg, nI_l, ne_ltT, ne_ltF, ne_leT, ne_leF, ne_eqT, ne_eqF, ne_sI1s, ne_sI1n, ne_sI2, ne_sI3, ne_sL1, ne_sL2s, ne_sL2n, ne_sL3, pk_us, pk_un, pk_uLs, pk_uLn, mm_Z, mm_L, mm_1, mm_2, mm_3, ne_rz0, ne_rz1, not_true_eq_false, not_false_eq_true, ne_i0, ne_i1, ne_i2, ne_i3, ne_i4, ne_i5, ne_i6, ne_i7, ne_i8, ne_i9, ne_i10, ne_i12, ne_i14, ne_i16, ne_i18, ne_i19, ne_i20, ne_i23, ne_i24, ne_i27, ne_i29, ne_i30, ne_i31, ne_i32, ne_i35, ne_i48, ne_i52, ne_i54, ne_i57, ne_i59, ne_i63, ne_i64, ne_i76, ne_i77, ne_i78, ne_i79, ne_i80, ne_i81, ne_i97, ne_i99, ne_i100, ne_i101, ne_i104, ne_i105, ne_i108, ne_i110, ne_i111, ne_i116, ne_i117, ne_i122, ne_i103, ne_i200, ne_i255, ne_i256, ne_i320, ne_i384, ne_i1000, ne_l0, ne_l1, ne_l2, ne_l3, ne_l4, ne_l5, ne_l8, ne_l12, ne_l31, ne_l48, ne_l57, ne_l97, ne_l99, ne_l122, ne_l255, ne_l673, ne_l1073741823, ne_l1073741824, e1, e2, xq_bad, np_bad]
    exact ⟨_, _, _, rfl, rfl, R_bad (RR_R h)⟩
end
