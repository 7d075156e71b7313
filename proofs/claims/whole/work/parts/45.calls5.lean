/-! calls that change the house -/
section
variable {N : Nat} {X S : sm_St} {a b v ik tx : Nat → Nat} {len : Nat}
theorem nw_up {k x : Nat} (h : nw a S) (hk : k < 81) : nw (va_up a k x) (sm_sI S 1 k (nI x)) := fun j hj => by
  rw [ne_sI1s]
  by_cases e : j = k
  · subst e
    rw [pk_us, ne_up_s]
  · rw [pk_un e, ne_up_n e]
    exact h j hj
/-- the house is another one on both sides -/
theorem RR_h {X' S' : sm_St} {a' v' : Nat → Nat} (h : RR X S a b v ik tx len) (hn : nw a' S') (hv : nP S' v' S') (hH : gH X' 1 a' (fun c => v' (19 + c)) (fun j c => v' (24 + 5 * j + c))) (hv2 : ∀ s, (s < 2 ∨ 54 ≤ s) → v' s = v s) (hS : ∀ p, (p = 2 ∨ p = 3 ∨ p = 4 ∨ p = 17) → S'.1 p = S.1 p) (h06 : S'.1 0 6 = S.1 0 6) (h021 : S'.1 0 21 = S.1 0 21) (hX : ∀ p, (p = 0 ∨ 34 ≤ p ∧ p < 102 ∨ 103 ≤ p ∧ p < 107) → X'.1 p = X.1 p) (hX102 : X'.1 102 1 = X.1 102 1) (hP : hpl X' 1) (hr : ∀ p, 34 ≤ p → X'.2.2 p = X.2.2 p) : RR X' S' a' b v' ik tx len := by
  obtain ⟨r1, r2, r3, r4, r5, r6, r7, r8⟩ := h
  refine ⟨hn, hv, hH, ⟨fun k hk => by rw [hS 2 (by omega)]; exact r4.1 k hk, fun i hi => ?_⟩, ?_, ?_, ?_, hP, hpl_fr (hr _ (by omega)) r8.2.1, hpl_fr (hr _ (by omega)) r8.2.2⟩
  · obtain ⟨i1, i2, i3, i4⟩ := r4.2 i hi
    refine ⟨i1, by rw [hS 3 (by omega)]; exact i2, by rw [hX 101 (by omega)]; exact i3, fun e => gH_eq (fun c _ => hv2 _ (by omega)) (fun j c _ _ => hv2 _ (by omega)) (gH_fr ?_ (fun q a b => hX q (by omega)) (hr _ (by omega)) (i4 e))⟩
    have hi' : i = 0 ∨ i = 1 := by omega
    rcases hi' with rfl | rfl
    · exact r8.2.1
    · exact r8.2.2
  · obtain ⟨t1, t2, t3, t4⟩ := r5
    exact ⟨t1, by rw [hX102]; exact t2, by rw [h021]; exact t3, fun k hk => by rw [hX 103 (by omega), hS 17 (by omega)]; exact t4 k hk⟩
  · exact gF_v (gF_fr r6 (hX 104 (by omega)) (hX 105 (by omega)) (hX 106 (by omega)) h06) (hv2 0 (by omega)) (hv2 1 (by omega))
  · unfold gC
    rw [hX 0 (by omega), hS 4 (by omega)]
    exact r7
theorem wv_a {a' w : Nat → Nat} {pw : Nat → Nat → Nat} (h : wv a w pw) (h6 : a' 76 = a 76) (h8 : a' 78 = a 78) (h9 : a' 79 = a 79) : wv a' w pw := by
  unfold wv wv1 sp_w at *
  rw [h6, h8, h9]
  exact h
/-- one write on each side -/
theorem RR_w {p k m x : Nat} (h : RR X S a b v ik tx len) (hp : 1 ≤ p) (hp2 : p < 34) (hm : m < 81) (h6 : m ≠ 76) (h8 : m ≠ 78) (h9 : m ≠ 79) (ho : sp_ok (va_up a m x)) (hx : xhs (sm_sI X p k (nI x)) 1 (va_up a m x) (fun c => v (19 + c)) (fun j c => v (24 + 5 * j + c))) : RR (sm_sI X p k (nI x)) (sm_sI S 1 m (nI x)) (va_up a m x) b v ik tx len :=
  RR_h h (nw_up h.1 hm) (nP_sIo h.2.1 (by decide)) ⟨ho, wv_a h.2.2.1.2.1 (ne_up_n (Ne.symm h6)) (ne_up_n (Ne.symm h8)) (ne_up_n (Ne.symm h9)), hx⟩ (fun _ _ => rfl) (fun q hq => ne_sI1n (by omega)) (by rw [ne_sI1n (by decide)]) (by rw [ne_sI1n (by decide)]) (fun q hq => ne_sI1n (by omega)) (by rw [ne_sI1n (by omega)]) (hpl_fr rfl h.2.2.2.2.2.2.2.1) (fun _ _ => rfl)
theorem RR_hs (h : RR X S a b v ik tx len) : xhs X 1 a (fun c => v (19 + c)) (fun j c => v (24 + 5 * j + c)) := h.2.2.1.2.2
theorem xsh_w {q p k n : Nat} {x : Int32} {w : Nat → Nat} (h : xsh X q n w) (h1 : q ≠ p) (h2 : q + 1 ≠ p) : xsh (sm_sI X p k x) q n w := xsh_fr (ne_sI1n h1) (ne_sI1n h2) h
/-- a colour -/
theorem RR_colour {t x : Nat} (h : RR X S a b v ik tx len) (ht : t < 4) (hx : x ≤ 12) : RR (sm_sI X 6 t (nI x)) (sm_sI S 1 (48 + t) (nI x)) (va_up a (48 + t) x) b v ik tx len := by
  have e : ∀ k, k ≠ 48 + t → va_up a (48 + t) x k = a k := fun k hk => ne_up_n hk
  have fX : ∀ p, p ≠ 6 → (sm_sI X 6 t (nI x)).1 p = X.1 p := fun p hp => ne_sI1n hp
  have hP := h.2.2.2.2.2.2.2.1
  obtain ⟨o1, o2, o3, o4, o5, o6, o7, o8, o9, o10⟩ := RR_ok h
  obtain ⟨c, k, co, hh, hz, wi, now, past⟩ := RR_hs h
  refine RR_w h (by decide) (by decide) (by omega) (by omega) (by omega) (by omega) ?_ ?_
  · refine ⟨by rw [e _ (by omega)]; exact o1, by rw [e _ (by omega)]; exact o2, by rw [e _ (by omega)]; exact o3, by rw [e _ (by omega)]; exact o4, by rw [e _ (by omega), e _ (by omega)]; exact o5, by rw [e _ (by omega)]; exact o6, fun c hc => ?_, fun c x hc hx => ?_, fun s hs => ?_, fun k hk => ?_⟩
    · rw [e _ (by omega)] at hc
      rw [e _ (by omega), e _ (by omega), e _ (by omega), e _ (by omega)]
      exact o7 c hc
    · exact sp_h8_eq o1 (e 76 (by omega)) (e 77 (by omega)) (fun k h1 h2 => e k (by omega)) o8 c x hc hx
    · rw [e _ (by omega)] at hs
      by_cases q : s = t
      · subst q
        rw [ne_up_s]
        exact hx
      · rw [e _ (by omega)]
        exact o9 s hs
    · rw [e _ (by omega)] at hk
      rw [e _ (by omega), e _ (by omega), e _ (by omega), e _ (by omega)]
      exact o10 k hk
  · refine ⟨?_, fun i hi => ?_, fun s hs => ?_, fun i x hi hx => ?_, fun i x hi hi4 hx => ?_, fun k f hk hf => ?_, ?_, fun j hj => ?_⟩
    · rw [fX 1 (by decide), e _ (by omega), e _ (by omega), e _ (by omega), e _ (by omega), e _ (by omega)]
      exact c
    · rw [e _ (by omega)] at hi
      rw [fX _ (by decide), fX _ (by decide), fX _ (by decide), fX _ (by decide), e _ (by omega), e _ (by omega), e _ (by omega), e _ (by omega)]
      exact k i hi
    · rw [e _ (by omega)] at hs
      by_cases q : s = t
      · subst q
        rw [ne_up_s, ne_sI1s, pk_us]
      · rw [e _ (by omega), ne_sI1s, pk_un q]
        exact co s hs
    · rw [e _ (by omega)] at hi
      rw [fX _ (by omega), e _ (by omega)]
      exact hh i x hi hx
    · rw [e _ (by omega)] at hi
      rw [fX _ (by omega)]
      exact hz i x hi hi4 hx
    · rw [e _ (by omega)] at hk
      rw [fX _ (by omega), e _ (by omega)]
      exact wi k f hk hf
    · rw [e _ (by omega)]
      exact xsh_w now (by decide) (by decide)
    · rw [e _ (by omega)] at hj
      rw [e _ (by omega)]
      obtain ⟨s, s1, s2⟩ := hP.1 j (by omega)
      exact xsh_w (q := X.2.2 (1 + 13) j) (past j hj) (by omega) (by omega)
theorem c_colour {v1 v2 : Int32} (hN : 4000 ≤ N) (h : R X S) : OKr (px_L_colour N X v1 v2) (pm_colour N S v1 v2) := by
  obtain ⟨a, b, v, ik, tx, len, h⟩ := h
  have hR := RR_R h
  have t4 := (RR_ok h).2.1
  obtain ⟨q1, q2⟩ := RR_cl h
  have hw := h.1
  unfold px_L_colour pm_colour px_L_colour_b20 pm_colour_b20
  rcases ne_arg v1 3 (by decide) with ⟨th, hth, rfl⟩ | hb
  · by_cases htt : th < a 77
    · rcases ne_arg v2 12 (by decide) with ⟨x, hx, rfl⟩ | hb2
      · have e := (RR_hs h).2.2.1 th htt
        simp (disch := omega) only [sm_lt, sm_b1s, sm_b2s, ↓reduceIte, sm_in_nI, nI_clamp, nI_add, pk_mul, pk_sub, ne_addneg, nI_l, ne_ltT, ne_ltF, ne_leT, ne_leF, ne_eqT, ne_eqF, ne_sI1s, ne_sI1n, ne_sI2, ne_sI3, ne_sL1, ne_sL2s, ne_sL2n, ne_sL3, pk_us, pk_un, pk_uLs, pk_uLn, mm_Z, mm_L, mm_1, mm_2, mm_3, ne_rz0, ne_rz1, not_true_eq_false, not_false_eq_true, ne_i0, ne_i1, ne_i2, ne_i3, ne_i4, ne_i5, ne_i6, ne_i7, ne_i8, ne_i9, ne_i10, ne_i12, ne_i14, ne_i16, ne_i18, ne_i19, ne_i20, ne_i23, ne_i24, ne_i27, ne_i29, ne_i30, ne_i31, ne_i32, ne_i35, ne_i48, ne_i52, ne_i54, ne_i57, ne_i59, ne_i63, ne_i64, ne_i76, ne_i77, ne_i78, ne_i79, ne_i80, ne_i81, ne_i97, ne_i99, ne_i100, ne_i101, ne_i104, ne_i105, ne_i108, ne_i110, ne_i111, ne_i116, ne_i117, ne_i122, ne_i103, ne_i200, ne_i255, ne_i256, ne_i320, ne_i384, ne_i1000, ne_l0, ne_l1, ne_l2, ne_l3, ne_l4, ne_l5, ne_l8, ne_l12, ne_l31, ne_l48, ne_l57, ne_l97, ne_l99, ne_l122, ne_l255, ne_l673, ne_l1073741823, ne_l1073741824, xq_thT q2, np_thT h.1 t4, xq_wT, ne_inT, e, hw]
        exact ⟨_, _, _, rfl, rfl, RR_R (RR_colour h (by omega) hx)⟩
      · have e1 := xq_wF (N := N) (X := X) hb2 (by decide)
        have e2 := ne_inB (N := N) (S := S) hb2 (by decide)
        simp (disch := omega) only [sm_lt, sm_b1s, sm_b2s, ↓reduceIte, sm_in_nI, nI_clamp, nI_add, pk_mul, pk_sub, ne_addneg, nI_l, ne_ltT, ne_ltF, ne_leT, ne_leF, ne_eqT, ne_eqF, ne_sI1s, ne_sI1n, ne_sI2, ne_sI3, ne_sL1, ne_sL2s, ne_sL2n, ne_sL3, pk_us, pk_un, pk_uLs, pk_uLn, mm_Z, mm_L, mm_1, mm_2, mm_3, ne_rz0, ne_rz1, not_true_eq_false, not_false_eq_true, ne_i0, ne_i1, ne_i2, ne_i3, ne_i4, ne_i5, ne_i6, ne_i7, ne_i8, ne_i9, ne_i10, ne_i12, ne_i14, ne_i16, ne_i18, ne_i19, ne_i20, ne_i23, ne_i24, ne_i27, ne_i29, ne_i30, ne_i31, ne_i32, ne_i35, ne_i48, ne_i52, ne_i54, ne_i57, ne_i59, ne_i63, ne_i64, ne_i76, ne_i77, ne_i78, ne_i79, ne_i80, ne_i81, ne_i97, ne_i99, ne_i100, ne_i101, ne_i104, ne_i105, ne_i108, ne_i110, ne_i111, ne_i116, ne_i117, ne_i122, ne_i103, ne_i200, ne_i255, ne_i256, ne_i320, ne_i384, ne_i1000, ne_l0, ne_l1, ne_l2, ne_l3, ne_l4, ne_l5, ne_l8, ne_l12, ne_l31, ne_l48, ne_l57, ne_l97, ne_l99, ne_l122, ne_l255, ne_l673, ne_l1073741823, ne_l1073741824, xq_thT q2, np_thT h.1 t4, e1, e2, xq_bad, np_bad]
        exact ⟨_, _, _, rfl, rfl, R_bad hR⟩
    · have e1 := xq_thF (N := N) (v := nI th) q2 (by rw [nI_toInt (by omega)]; omega) t4
      simp (disch := omega) only [sm_lt, sm_b1s, sm_b2s, ↓reduceIte, sm_in_nI, nI_clamp, nI_add, pk_mul, pk_sub, ne_addneg, nI_l, ne_ltT, ne_ltF, ne_leT, ne_leF, ne_eqT, ne_eqF, ne_sI1s, ne_sI1n, ne_sI2, ne_sI3, ne_sL1, ne_sL2s, ne_sL2n, ne_sL3, pk_us, pk_un, pk_uLs, pk_uLn, mm_Z, mm_L, mm_1, mm_2, mm_3, ne_rz0, ne_rz1, not_true_eq_false, not_false_eq_true, ne_i0, ne_i1, ne_i2, ne_i3, ne_i4, ne_i5, ne_i6, ne_i7, ne_i8, ne_i9, ne_i10, ne_i12, ne_i14, ne_i16, ne_i18, ne_i19, ne_i20, ne_i23, ne_i24, ne_i27, ne_i29, ne_i30, ne_i31, ne_i32, ne_i35, ne_i48, ne_i52, ne_i54, ne_i57, ne_i59, ne_i63, ne_i64, ne_i76, ne_i77, ne_i78, ne_i79, ne_i80, ne_i81, ne_i97, ne_i99, ne_i100, ne_i101, ne_i104, ne_i105, ne_i108, ne_i110, ne_i111, ne_i116, ne_i117, ne_i122, ne_i103, ne_i200, ne_i255, ne_i256, ne_i320, ne_i384, ne_i1000, ne_l0, ne_l1, ne_l2, ne_l3, ne_l4, ne_l5, ne_l8, ne_l12, ne_l31, ne_l48, ne_l57, ne_l97, ne_l99, ne_l122, ne_l255, ne_l673, ne_l1073741823, ne_l1073741824, e1, np_thF h.1 t4, xq_bad, np_bad]
      exact ⟨_, _, _, rfl, rfl, R_bad hR⟩
  · have e1 := xq_thF (N := N) (v := v1) q2 (by omega) t4
    have e2 := np_thB (N := N) h.1 t4 hb
    simp (disch := omega) only [sm_lt, sm_b1s, sm_b2s, ↓reduceIte, sm_in_nI, nI_clamp, nI_add, pk_mul, pk_sub, ne_addneg, nI_l, ne_ltT, ne_ltF, ne_leT, ne_leF, ne_eqT, ne_eqF, ne_sI1s, ne_sI1n, ne_sI2, ne_sI3, ne_sL1, ne_sL2s, ne_sL2n, ne_sL3, pk_us, pk_un, pk_uLs, pk_uLn, mm_Z, mm_L, mm_1, mm_2, mm_3, ne_rz0, ne_rz1, not_true_eq_false, not_false_eq_true, ne_i0, ne_i1, ne_i2, ne_i3, ne_i4, ne_i5, ne_i6, ne_i7, ne_i8, ne_i9, ne_i10, ne_i12, ne_i14, ne_i16, ne_i18, ne_i19, ne_i20, ne_i23, ne_i24, ne_i27, ne_i29, ne_i30, ne_i31, ne_i32, ne_i35, ne_i48, ne_i52, ne_i54, ne_i57, ne_i59, ne_i63, ne_i64, ne_i76, ne_i77, ne_i78, ne_i79, ne_i80, ne_i81, ne_i97, ne_i99, ne_i100, ne_i101, ne_i104, ne_i105, ne_i108, ne_i110, ne_i111, ne_i116, ne_i117, ne_i122, ne_i103, ne_i200, ne_i255, ne_i256, ne_i320, ne_i384, ne_i1000, ne_l0, ne_l1, ne_l2, ne_l3, ne_l4, ne_l5, ne_l8, ne_l12, ne_l31, ne_l48, ne_l57, ne_l97, ne_l99, ne_l122, ne_l255, ne_l673, ne_l1073741823, ne_l1073741824, e1, e2, xq_bad, np_bad]
    exact ⟨_, _, _, rfl, rfl, R_bad hR⟩
/-- a thing more -/
theorem RR_things {n : Nat} (h : RR X S a b v ik tx len) (hn : n ≤ 4) (hn2 : a 77 ≤ n) (hc : ∀ t, t < n → a (48 + t) ≤ 12 ∧ X.1 6 t = nI (a (48 + t))) : RR (sm_sI X 1 10 (nI n)) (sm_sI S 1 77 (nI n)) (va_up a 77 n) b v ik tx len := by
  have e : ∀ k, k ≠ 77 → va_up a 77 n k = a k := fun k hk => ne_up_n hk
  have e7 : va_up a 77 n 77 = n := ne_up_s
  have fX : ∀ p, p ≠ 1 → (sm_sI X 1 10 (nI n)).1 p = X.1 p := fun p hp => ne_sI1n hp
  have hP := h.2.2.2.2.2.2.2.1
  obtain ⟨o1, o2, o3, o4, o5, o6, o7, o8, o9, o10⟩ := RR_ok h
  obtain ⟨c, k, co, hh, hz, wi, now, past⟩ := RR_hs h
  refine RR_w h (by decide) (by decide) (by omega) (by omega) (by omega) (by omega) ?_ ?_
  · refine ⟨by rw [e _ (by omega)]; exact o1, by rw [e7]; exact hn, by rw [e _ (by omega)]; exact o3, by rw [e _ (by omega)]; exact o4, by rw [e _ (by omega), e _ (by omega)]; exact o5, by rw [e _ (by omega)]; exact o6, fun c hc => ?_, fun c x hc hx => ?_, fun s hs => ?_, fun k hk => ?_⟩
    · rw [e _ (by omega)] at hc
      rw [e _ (by omega), e _ (by omega), e _ (by omega), e _ (by omega)]
      exact o7 c hc
    · rw [e _ (by omega)] at hc
      obtain ⟨g1, g2, g3⟩ := o8 c x hc hx
      refine ⟨by rw [e _ (by omega)]; exact g1, fun q => ?_, fun q => ?_⟩
      · rw [e 76 (by omega), e7] at q
        rw [e _ (by omega)]
        exact g2 (by omega)
      · rw [e 76 (by omega)] at q
        rw [e _ (by omega), e _ (by omega)]
        exact g3 q
    · rw [e7] at hs
      rw [e _ (by omega)]
      exact (hc s hs).1
    · rw [e _ (by omega)] at hk
      rw [e _ (by omega), e _ (by omega), e _ (by omega), e _ (by omega)]
      exact o10 k hk
  · refine ⟨?_, fun i hi => ?_, fun s hs => ?_, fun i x hi hx => ?_, fun i x hi hi4 hx => ?_, fun k f hk hf => ?_, ?_, fun j hj => ?_⟩
    · rw [ne_sI1s, e 76 (by omega), e7, e 78 (by omega), e 79 (by omega), e 80 (by omega), pk_un (by decide), pk_us, pk_un (by decide), pk_un (by decide), pk_un (by decide)]
      exact ⟨c.1, rfl, c.2.2⟩
    · rw [e _ (by omega)] at hi
      rw [fX _ (by decide), fX _ (by decide), fX _ (by decide), fX _ (by decide), e _ (by omega), e _ (by omega), e _ (by omega), e _ (by omega)]
      exact k i hi
    · rw [e7] at hs
      rw [e _ (by omega), fX _ (by decide)]
      exact (hc s hs).2
    · rw [e _ (by omega)] at hi
      rw [fX _ (by omega), e _ (by omega)]
      exact hh i x hi hx
    · rw [e _ (by omega)] at hi
      rw [fX _ (by omega)]
      exact hz i x hi hi4 hx
    · rw [e _ (by omega)] at hk
      rw [fX _ (by omega), e _ (by omega)]
      exact wi k f hk hf
    · rw [e _ (by omega)]
      exact xsh_w now (by decide) (by decide)
    · rw [e _ (by omega)] at hj
      rw [e _ (by omega)]
      obtain ⟨s, s1, s2⟩ := hP.1 j (by omega)
      exact xsh_w (q := X.2.2 (1 + 13) j) (past j hj) (by omega) (by omega)
theorem c_thing {v1 : Int32} (hN : 4000 ≤ N) (h : R X S) : OKr (px_L_thing N X v1) (pm_thing N S v1) := by
  obtain ⟨a, b, v, ik, tx, len, h⟩ := h
  have hR := RR_R h
  have t4 := (RR_ok h).2.1
  have o9 := (RR_ok h).2.2.2.2.2.2.2.2.1
  obtain ⟨q1, q2⟩ := RR_cl h
  have hw := h.1
  unfold px_L_thing pm_thing px_House_addThing
  rcases ne_arg v1 12 (by decide) with ⟨x, hx, rfl⟩ | hb
  · by_cases ht : a 77 < 4
    · have h1 := RR_colour h ht hx
      have h2 := RR_things (n := a 77 + 1) h1 (by omega) (by rw [ne_up_n (by omega)]; omega) (fun t htn => by
        by_cases e : t = a 77
        · subst e
          rw [ne_up_s, ne_sI1s, pk_us]
          exact ⟨hx, rfl⟩
        · rw [ne_up_n (by omega), ne_sI1s, pk_un e]
          exact ⟨o9 t (by omega), (RR_hs h).2.2.1 t (by omega)⟩)
      simp (disch := omega) only [sm_lt, sm_b1s, sm_b2s, ↓reduceIte, sm_in_nI, nI_clamp, nI_add, pk_mul, pk_sub, ne_addneg, nI_l, ne_ltT, ne_ltF, ne_leT, ne_leF, ne_eqT, ne_eqF, ne_sI1s, ne_sI1n, ne_sI2, ne_sI3, ne_sL1, ne_sL2s, ne_sL2n, ne_sL3, pk_us, pk_un, pk_uLs, pk_uLn, mm_Z, mm_L, mm_1, mm_2, mm_3, ne_rz0, ne_rz1, not_true_eq_false, not_false_eq_true, ne_i0, ne_i1, ne_i2, ne_i3, ne_i4, ne_i5, ne_i6, ne_i7, ne_i8, ne_i9, ne_i10, ne_i12, ne_i14, ne_i16, ne_i18, ne_i19, ne_i20, ne_i23, ne_i24, ne_i27, ne_i29, ne_i30, ne_i31, ne_i32, ne_i35, ne_i48, ne_i52, ne_i54, ne_i57, ne_i59, ne_i63, ne_i64, ne_i76, ne_i77, ne_i78, ne_i79, ne_i80, ne_i81, ne_i97, ne_i99, ne_i100, ne_i101, ne_i104, ne_i105, ne_i108, ne_i110, ne_i111, ne_i116, ne_i117, ne_i122, ne_i103, ne_i200, ne_i255, ne_i256, ne_i320, ne_i384, ne_i1000, ne_l0, ne_l1, ne_l2, ne_l3, ne_l4, ne_l5, ne_l8, ne_l12, ne_l31, ne_l48, ne_l57, ne_l97, ne_l99, ne_l122, ne_l255, ne_l673, ne_l1073741823, ne_l1073741824, xq_wT, ne_inT, q2, np_things hw, hw, Nat.add_sub_cancel]
      exact ⟨_, _, _, rfl, rfl, RR_R h2⟩
    · simp (disch := omega) only [sm_lt, sm_b1s, sm_b2s, ↓reduceIte, sm_in_nI, nI_clamp, nI_add, pk_mul, pk_sub, ne_addneg, nI_l, ne_ltT, ne_ltF, ne_leT, ne_leF, ne_eqT, ne_eqF, ne_sI1s, ne_sI1n, ne_sI2, ne_sI3, ne_sL1, ne_sL2s, ne_sL2n, ne_sL3, pk_us, pk_un, pk_uLs, pk_uLn, mm_Z, mm_L, mm_1, mm_2, mm_3, ne_rz0, ne_rz1, not_true_eq_false, not_false_eq_true, ne_i0, ne_i1, ne_i2, ne_i3, ne_i4, ne_i5, ne_i6, ne_i7, ne_i8, ne_i9, ne_i10, ne_i12, ne_i14, ne_i16, ne_i18, ne_i19, ne_i20, ne_i23, ne_i24, ne_i27, ne_i29, ne_i30, ne_i31, ne_i32, ne_i35, ne_i48, ne_i52, ne_i54, ne_i57, ne_i59, ne_i63, ne_i64, ne_i76, ne_i77, ne_i78, ne_i79, ne_i80, ne_i81, ne_i97, ne_i99, ne_i100, ne_i101, ne_i104, ne_i105, ne_i108, ne_i110, ne_i111, ne_i116, ne_i117, ne_i122, ne_i103, ne_i200, ne_i255, ne_i256, ne_i320, ne_i384, ne_i1000, ne_l0, ne_l1, ne_l2, ne_l3, ne_l4, ne_l5, ne_l8, ne_l12, ne_l31, ne_l48, ne_l57, ne_l97, ne_l99, ne_l122, ne_l255, ne_l673, ne_l1073741823, ne_l1073741824, xq_wT, ne_inT, q2, np_things hw, xq_full, np_full]
      exact ⟨_, _, _, rfl, rfl, R_full hR⟩
  · have e1 := xq_wF (N := N) (X := X) hb (by decide)
    have e2 := ne_inB (N := N) (S := S) hb (by decide)
    simp (disch := omega) only [sm_lt, sm_b1s, sm_b2s, ↓reduceIte, sm_in_nI, nI_clamp, nI_add, pk_mul, pk_sub, ne_addneg, nI_l, ne_ltT, ne_ltF, ne_leT, ne_leF, ne_eqT, ne_eqF, ne_sI1s, ne_sI1n, ne_sI2, ne_sI3, ne_sL1, ne_sL2s, ne_sL2n, ne_sL3, pk_us, pk_un, pk_uLs, pk_uLn, mm_Z, mm_L, mm_1, mm_2, mm_3, ne_rz0, ne_rz1, not_true_eq_false, not_false_eq_true, ne_i0, ne_i1, ne_i2, ne_i3, ne_i4, ne_i5, ne_i6, ne_i7, ne_i8, ne_i9, ne_i10, ne_i12, ne_i14, ne_i16, ne_i18, ne_i19, ne_i20, ne_i23, ne_i24, ne_i27, ne_i29, ne_i30, ne_i31, ne_i32, ne_i35, ne_i48, ne_i52, ne_i54, ne_i57, ne_i59, ne_i63, ne_i64, ne_i76, ne_i77, ne_i78, ne_i79, ne_i80, ne_i81, ne_i97, ne_i99, ne_i100, ne_i101, ne_i104, ne_i105, ne_i108, ne_i110, ne_i111, ne_i116, ne_i117, ne_i122, ne_i103, ne_i200, ne_i255, ne_i256, ne_i320, ne_i384, ne_i1000, ne_l0, ne_l1, ne_l2, ne_l3, ne_l4, ne_l5, ne_l8, ne_l12, ne_l31, ne_l48, ne_l57, ne_l97, ne_l99, ne_l122, ne_l255, ne_l673, ne_l1073741823, ne_l1073741824, e1, e2, xq_bad, np_bad]
    exact ⟨_, _, _, rfl, rfl, R_bad hR⟩
/-- hours of a cloth and another number -/
theorem xhs_hours {i x n : Nat} {w : Nat → Nat} {pw : Nat → Nat → Nat} (hP : hpl X 1) (o1 : a 76 ≤ 4) (o4 : a 79 ≤ 6) (o6 : a 80 ≤ 6) (o2 : a 77 ≤ 4) (h : xhs X 1 a w pw) (hi : i < a 76) (hx8 : x < 8) : xhs (sm_sI X (8 + i) x (nI n)) 1 (va_up a (16 + 8 * i + x) n) w pw := by
  obtain ⟨c, k, co, hh, hz, wi, now, past⟩ := h
  have hi4 : i < 4 := by omega
  have e : ∀ k, k ≠ 16 + 8 * i + x → va_up a (16 + 8 * i + x) n k = a k := fun k hk => ne_up_n hk
  have fX : ∀ p, p ≠ 8 + i → (sm_sI X (8 + i) x (nI n)).1 p = X.1 p := fun p hp => ne_sI1n hp
  refine ⟨?_, fun i' hi' => ?_, fun s hs => ?_, fun i' y hi' hy => ?_, fun i' y hi' hi4' hy => ?_, fun k f hk hf => ?_, ?_, fun j hj => ?_⟩
  · rw [fX 1 (by omega), e _ (by omega), e _ (by omega), e _ (by omega), e _ (by omega), e _ (by omega)]
    exact c
  · rw [e _ (by omega)] at hi'
    rw [fX _ (by omega), fX _ (by omega), fX _ (by omega), fX _ (by omega), e _ (by omega), e _ (by omega), e _ (by omega), e _ (by omega)]
    exact k i' hi'
  · rw [e _ (by omega)] at hs
    rw [e _ (by omega), fX _ (by omega)]
    exact co s hs
  · rw [e _ (by omega)] at hi'
    by_cases q : i' = i
    · subst q
      rw [show 1 + 7 + i' = 8 + i' by omega, ne_sI1s]
      by_cases qy : y = x
      · subst qy
        rw [pk_us, ne_up_s]
      · rw [pk_un qy, e _ (by omega)]
        exact hh i' y hi' hy
    · rw [fX _ (by omega), e _ (by omega)]
      exact hh i' y hi' hy
  · rw [e _ (by omega)] at hi'
    rw [fX _ (by omega)]
    exact hz i' y hi' hi4' hy
  · rw [e _ (by omega)] at hk
    rw [fX _ (by omega), e _ (by omega)]
    exact wi k f hk hf
  · rw [e _ (by omega)]
    exact xsh_w now (by omega) (by omega)
  · rw [e _ (by omega)] at hj
    rw [e _ (by omega)]
    obtain ⟨s, s1, s2⟩ := hP.1 j (by omega)
    exact xsh_w (q := X.2.2 (1 + 13) j) (past j hj) (by omega) (by omega)
theorem sp_ok_h {i x n : Nat} (o : sp_ok a) (hi : i < a 76) (hx : 4 ≤ x ∧ x < 4 + a 77) (hn : n ≤ 3) : sp_ok (va_up a (16 + 8 * i + x) n) := by
  have o1 := o.1
  have o2 := o.2.1
  have o8 := o.2.2.2.2.2.2.2.1
  have e : ∀ k, k ≠ 16 + 8 * i + x → va_up a (16 + 8 * i + x) n k = a k := fun k hk => ne_up_n hk
  refine sp_ok_8 o (fun k hk => e k (by omega)) (fun c y hc hy => ?_)
  obtain ⟨g1, g2, g3⟩ := o8 c y hc hy
  by_cases q : 16 + 8 * c + y = 16 + 8 * i + x
  · refine ⟨?_, fun q' => ?_, fun q' => ?_⟩
    · rw [q, ne_up_s]; exact hn
    · rw [e 76 (by omega), e 77 (by omega)] at q'
      exact absurd (show y < a 76 ∨ 4 ≤ y ∧ y < 4 + a 77 by omega) q'
    · rw [e 76 (by omega)] at q'
      omega
  · refine ⟨by rw [e _ q]; exact g1, fun q' => ?_, fun q' => ?_⟩
    · rw [e 76 (by omega), e 77 (by omega)] at q'
      rw [e _ q]; exact g2 q'
    · rw [e 76 (by omega)] at q'
      rw [e _ (by omega), e _ q]; exact g3 q'
theorem sp_ok_h2 {i x n : Nat} (o : sp_ok a) (hi : i < a 76) (hx : x < a 76) (hix : i ≠ x) (hn : n ≤ 3) : sp_ok (va_up (va_up a (16 + 8 * i + x) n) (16 + 8 * x + i) n) := by
  have o1 := o.1
  have o2 := o.2.1
  have o8 := o.2.2.2.2.2.2.2.1
  have e : ∀ k, k ≠ 16 + 8 * i + x → k ≠ 16 + 8 * x + i → va_up (va_up a (16 + 8 * i + x) n) (16 + 8 * x + i) n k = a k := fun k h1 h2 => by rw [ne_up_n h2, ne_up_n h1]
  have s1 : va_up (va_up a (16 + 8 * i + x) n) (16 + 8 * x + i) n (16 + 8 * i + x) = n := by rw [ne_up_n (by omega), ne_up_s]
  have s2 : va_up (va_up a (16 + 8 * i + x) n) (16 + 8 * x + i) n (16 + 8 * x + i) = n := ne_up_s
  generalize va_up (va_up a (16 + 8 * i + x) n) (16 + 8 * x + i) n = a' at *
  refine sp_ok_8 o (fun k hk => e k (by omega) (by omega)) (fun c y hc hy => ?_)
  have e6 := e 76 (by omega) (by omega)
  have e7 := e 77 (by omega) (by omega)
  obtain ⟨g1, g2, g3⟩ := o8 c y hc hy
  by_cases q : c = i ∧ y = x
  · obtain ⟨rfl, rfl⟩ := q
    exact ⟨by rw [s1]; exact hn, fun q' => by omega, fun q' => by rw [s1, s2]⟩
  · by_cases q2 : c = x ∧ y = i
    · obtain ⟨rfl, rfl⟩ := q2
      exact ⟨by rw [s2]; exact hn, fun q' => by omega, fun q' => by rw [s1, s2]⟩
    · have z := e (16 + 8 * c + y) (by omega) (by omega)
      refine ⟨by rw [z]; exact g1, fun q' => ?_, fun q' => ?_⟩
      · rw [e6, e7] at q'
        rw [z]; exact g2 q'
      · rw [e6] at q'
        rw [z, e _ (by omega) (by omega)]; exact g3 q'
theorem RR_hours {i x n : Nat} (h : RR X S a b v ik tx len) (hi : i < a 76) (hx : 4 ≤ x ∧ x < 4 + a 77) (hn : n ≤ 3) : RR (sm_sI X (8 + i) x (nI n)) (sm_sI S 1 (16 + 8 * i + x) (nI n)) (va_up a (16 + 8 * i + x) n) b v ik tx len := by
  have hP := h.2.2.2.2.2.2.2.1
  have o := RR_ok h
  have o1 := o.1
  have o2 := o.2.1
  exact RR_w h (by omega) (by omega) (by omega) (by omega) (by omega) (by omega) (sp_ok_h o hi hx hn) (xhs_hours hP o1 o.2.2.2.1 o.2.2.2.2.2.1 o2 (RR_hs h) hi (by omega))
theorem RR_hours2 {i x n : Nat} (h : RR X S a b v ik tx len) (hi : i < a 76) (hx : x < a 76) (hix : i ≠ x) (hn : n ≤ 3) : RR (sm_sI (sm_sI X (8 + i) x (nI n)) (8 + x) i (nI n)) (sm_sI (sm_sI S 1 (16 + 8 * i + x) (nI n)) 1 (16 + 8 * x + i) (nI n)) (va_up (va_up a (16 + 8 * i + x) n) (16 + 8 * x + i) n) b v ik tx len := by
  have hP := h.2.2.2.2.2.2.2.1
  have o := RR_ok h
  have o1 := o.1
  have o2 := o.2.1
  have e : ∀ k, k ≠ 16 + 8 * i + x → va_up a (16 + 8 * i + x) n k = a k := fun k hk => ne_up_n hk
  have e2 : ∀ k, 48 ≤ k → va_up (va_up a (16 + 8 * i + x) n) (16 + 8 * x + i) n k = a k := fun k hk => by rw [ne_up_n (by omega), ne_up_n (by omega)]
  have x1 := xhs_hours (n := n) hP o1 o.2.2.2.1 o.2.2.2.2.2.1 o2 (RR_hs h) hi (show x < 8 by omega)
  have x2 := xhs_hours (X := sm_sI X (8 + i) x (nI n)) (a := va_up a (16 + 8 * i + x) n) (n := n) (i := x) (x := i) (hpl_fr rfl hP) (by rw [e _ (by omega)]; exact o1) (by rw [e _ (by omega)]; exact o.2.2.2.1) (by rw [e _ (by omega)]; exact o.2.2.2.2.2.1) (by rw [e _ (by omega)]; exact o2) x1 (by rw [e _ (by omega)]; exact hx) (by omega)
  have fX : ∀ q, (q = 0 ∨ 34 ≤ q) → (sm_sI (sm_sI X (8 + i) x (nI n)) (8 + x) i (nI n)).1 q = X.1 q := fun q hq => by rw [ne_sI1n (by omega), ne_sI1n (by omega)]
  have fS : ∀ q, q ≠ 1 → (sm_sI (sm_sI S 1 (16 + 8 * i + x) (nI n)) 1 (16 + 8 * x + i) (nI n)).1 q = S.1 q := fun q hq => by rw [ne_sI1n hq, ne_sI1n hq]
  exact RR_h h (nw_up (nw_up h.1 (by omega)) (by omega)) (nP_sIo (nP_sIo h.2.1 (by decide)) (by decide)) ⟨sp_ok_h2 o hi hx hix hn, wv_a h.2.2.1.2.1 (e2 76 (by decide)) (e2 78 (by decide)) (e2 79 (by decide)), x2⟩ (fun _ _ => rfl) (fun q hq => fS q (by omega)) (by rw [fS 0 (by decide)]) (by rw [fS 0 (by decide)]) (fun q hq => fX q (by omega)) (by rw [fX 102 (by omega)]) (hpl_fr rfl hP) (fun _ _ => rfl)
theorem zs7 : (zx_sh 7).2 = 4 := rfl
theorem zrl7 : zx_rl 7 = 8 := rfl
theorem zm1 : (zm_sy.1 1).2 = 81 := rfl
/-- the hours of two numbers, on both sides -/
theorem RR_touch {x y n : Nat} (h : RR X S a b v ik tx len) (hx : x < a 76 ∨ 4 ≤ x ∧ x < 4 + a 77) (hy : y < a 76 ∨ 4 ≤ y ∧ y < 4 + a 77) (hxy : x < 4 ∨ y < 4) (hne : x ≠ y) (hn : n ≤ 3) : ∃ X' S', px_L_putHours N X 7 (nI x) (nI y) (nI n) = some X' ∧ pm_putHours N S 1 (nI 16) (nI x) (nI y) (nI n) = some S' ∧ R X' S' := by
  have o1 := (RR_ok h).1
  have o2 := (RR_ok h).2.1
  have c7 : (zm_sy.1 1).2 = 81 := rfl
  unfold px_L_putHours pm_putHours px_L_putHours_b11 pm_putHours_b17
  by_cases hx4 : x < 4
  · by_cases hy4 : y < 4
    · have h2 := RR_hours2 h (show x < a 76 by omega) (show y < a 76 by omega) hne hn
      simp (disch := omega) only [sm_lt, sm_b1s, sm_b2s, ↓reduceIte, sm_in_nI, nI_clamp, nI_add, pk_mul, pk_sub, ne_addneg, nI_l, ne_ltT, ne_ltF, ne_leT, ne_leF, ne_eqT, ne_eqF, ne_sI1s, ne_sI1n, ne_sI2, ne_sI3, ne_sL1, ne_sL2s, ne_sL2n, ne_sL3, pk_us, pk_un, pk_uLs, pk_uLn, mm_Z, mm_L, mm_1, mm_2, mm_3, ne_rz0, ne_rz1, not_true_eq_false, not_false_eq_true, ne_i0, ne_i1, ne_i2, ne_i3, ne_i4, ne_i5, ne_i6, ne_i7, ne_i8, ne_i9, ne_i10, ne_i12, ne_i14, ne_i16, ne_i18, ne_i19, ne_i20, ne_i23, ne_i24, ne_i27, ne_i29, ne_i30, ne_i31, ne_i32, ne_i35, ne_i48, ne_i52, ne_i54, ne_i57, ne_i59, ne_i63, ne_i64, ne_i76, ne_i77, ne_i78, ne_i79, ne_i80, ne_i81, ne_i97, ne_i99, ne_i100, ne_i101, ne_i104, ne_i105, ne_i108, ne_i110, ne_i111, ne_i116, ne_i117, ne_i122, ne_i103, ne_i200, ne_i255, ne_i256, ne_i320, ne_i384, ne_i1000, ne_l0, ne_l1, ne_l2, ne_l3, ne_l4, ne_l5, ne_l8, ne_l12, ne_l31, ne_l48, ne_l57, ne_l97, ne_l99, ne_l122, ne_l255, ne_l673, ne_l1073741823, ne_l1073741824, zs7, zrl7, c7, zm_sh]
      exact ⟨_, _, rfl, rfl, RR_R h2⟩
    · have h2 := RR_hours h (show x < a 76 by omega) (show 4 ≤ y ∧ y < 4 + a 77 by omega) hn
      simp (disch := omega) only [sm_lt, sm_b1s, sm_b2s, ↓reduceIte, sm_in_nI, nI_clamp, nI_add, pk_mul, pk_sub, ne_addneg, nI_l, ne_ltT, ne_ltF, ne_leT, ne_leF, ne_eqT, ne_eqF, ne_sI1s, ne_sI1n, ne_sI2, ne_sI3, ne_sL1, ne_sL2s, ne_sL2n, ne_sL3, pk_us, pk_un, pk_uLs, pk_uLn, mm_Z, mm_L, mm_1, mm_2, mm_3, ne_rz0, ne_rz1, not_true_eq_false, not_false_eq_true, ne_i0, ne_i1, ne_i2, ne_i3, ne_i4, ne_i5, ne_i6, ne_i7, ne_i8, ne_i9, ne_i10, ne_i12, ne_i14, ne_i16, ne_i18, ne_i19, ne_i20, ne_i23, ne_i24, ne_i27, ne_i29, ne_i30, ne_i31, ne_i32, ne_i35, ne_i48, ne_i52, ne_i54, ne_i57, ne_i59, ne_i63, ne_i64, ne_i76, ne_i77, ne_i78, ne_i79, ne_i80, ne_i81, ne_i97, ne_i99, ne_i100, ne_i101, ne_i104, ne_i105, ne_i108, ne_i110, ne_i111, ne_i116, ne_i117, ne_i122, ne_i103, ne_i200, ne_i255, ne_i256, ne_i320, ne_i384, ne_i1000, ne_l0, ne_l1, ne_l2, ne_l3, ne_l4, ne_l5, ne_l8, ne_l12, ne_l31, ne_l48, ne_l57, ne_l97, ne_l99, ne_l122, ne_l255, ne_l673, ne_l1073741823, ne_l1073741824, zs7, zrl7, c7, zm_sh]
      exact ⟨_, _, rfl, rfl, RR_R h2⟩
  · have h2 := RR_hours h (show y < a 76 by omega) (show 4 ≤ x ∧ x < 4 + a 77 by omega) hn
    simp (disch := omega) only [sm_lt, sm_b1s, sm_b2s, ↓reduceIte, sm_in_nI, nI_clamp, nI_add, pk_mul, pk_sub, ne_addneg, nI_l, ne_ltT, ne_ltF, ne_leT, ne_leF, ne_eqT, ne_eqF, ne_sI1s, ne_sI1n, ne_sI2, ne_sI3, ne_sL1, ne_sL2s, ne_sL2n, ne_sL3, pk_us, pk_un, pk_uLs, pk_uLn, mm_Z, mm_L, mm_1, mm_2, mm_3, ne_rz0, ne_rz1, not_true_eq_false, not_false_eq_true, ne_i0, ne_i1, ne_i2, ne_i3, ne_i4, ne_i5, ne_i6, ne_i7, ne_i8, ne_i9, ne_i10, ne_i12, ne_i14, ne_i16, ne_i18, ne_i19, ne_i20, ne_i23, ne_i24, ne_i27, ne_i29, ne_i30, ne_i31, ne_i32, ne_i35, ne_i48, ne_i52, ne_i54, ne_i57, ne_i59, ne_i63, ne_i64, ne_i76, ne_i77, ne_i78, ne_i79, ne_i80, ne_i81, ne_i97, ne_i99, ne_i100, ne_i101, ne_i104, ne_i105, ne_i108, ne_i110, ne_i111, ne_i116, ne_i117, ne_i122, ne_i103, ne_i200, ne_i255, ne_i256, ne_i320, ne_i384, ne_i1000, ne_l0, ne_l1, ne_l2, ne_l3, ne_l4, ne_l5, ne_l8, ne_l12, ne_l31, ne_l48, ne_l57, ne_l97, ne_l99, ne_l122, ne_l255, ne_l673, ne_l1073741823, ne_l1073741824, zs7, zrl7, c7, zm_sh]
    exact ⟨_, _, rfl, rfl, RR_R h2⟩
end
