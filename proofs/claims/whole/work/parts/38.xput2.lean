section
variable {N : Nat} {X : sm_St}
theorem xdg_0 {X1 : sm_St} {u V : Nat} (hV : V < nm_B ^ (u + 1)) (h : ∀ j, j ≤ u → X1.1 105 (0 + j) = nI (nm_dg V j)) : xdg X1 105 (u + 1) V := ⟨hV, fun k hk => by rw [← h k (by omega), Nat.zero_add]⟩
theorem xdg_0b {X1 : sm_St} {u V : Nat} (hV : V < nm_B ^ (u + 1)) (h : ∀ j, j ≤ u → X1.1 106 (0 + j) = nI (nm_dg V j)) : xdg X1 106 (u + 1) V := ⟨hV, fun k hk => by rw [← h k (by omega), Nat.zero_add]⟩
theorem xdg_fr {X1 X2 : sm_St} {q n v : Nat} (h : xdg X1 q n v) (e : X2.1 q = X1.1 q) : xdg X2 q n v := ⟨h.1, fun k hk => by rw [e]; exact h.2 k hk⟩
/-- the sum by 12 T times the unit is the fraction -/
theorem xq_put {q T V : Nat} {a w : Nat → Nat} (hN : 4000 ≤ N) (hk : a 76 ≤ 4) (hq : xq q) (hx : xsh X q (a 76) w) (hc : xcf (X.2.1 108) a w V) (hT : 0 < T) (hT2 : T < 67108864) (hw0 : 0 < w 4) (hsm : sm0 (w 4)) : ∃ X', px_Fraction_put N X 107 q (nI T) = some X' ∧ fh X' (V / Nat.gcd V (w 4 * (12 * T))) (w 4 * (12 * T) / Nat.gcd V (w 4 * (12 * T))) ∧ fo X X' := by
  obtain ⟨u, hu, hu0, hu2, hlt, hrow⟩ := hx
  obtain ⟨c, c1, c2, c3, c4⟩ := hc
  have q5 : 105 ≠ q := by rcases hq with rfl | rfl | rfl <;> decide
  have q51 : 105 ≠ q + 1 := by rcases hq with rfl | rfl | rfl <;> decide
  have q6 : 106 ≠ q := by rcases hq with rfl | rfl | rfl <;> decide
  have q61 : 106 ≠ q + 1 := by rcases hq with rfl | rfl | rfl <;> decide
  have q4 : 104 ≠ q := by rcases hq with rfl | rfl | rfl <;> decide
  have q41 : 104 ≠ q + 1 := by rcases hq with rfl | rfl | rfl <;> decide
  obtain ⟨L1, g1, e1, v1, v2, v3⟩ := xq_write (X := X) (N := N) (p := 107) (q1 := q) (q2 := 105) (base := 0) (c := c) (w := w) hN hu hu0 hu2 zs105 (by omega) (by omega) q5 q51 c1 c4 (fun r h5 h0 => hrow r (c3 r h5 h0))
  rw [c2] at v1 v2
  generalize hX1 : sm_sF (sm_lF X (107 + 2) L1) 105 g1 = X1 at e1
  have f1 : ∀ p, p ≠ 105 → X1.1 p = X.1 p := fun p hp => by rw [← hX1, sF_n hp]; rfl
  have r1 : X1.2.2 = X.2.2 := by rw [← hX1]; rfl
  have d1 : xdg X1 105 (u + 1) V := xdg_0 v1 (fun j hj => by rw [← hX1, sF_s]; exact v2 j hj)
  have t1 := xq_trimmed (N := N) hN zs105 (show u + 1 ≤ 20 by omega) d1
  have hu1 : X1.1 q 1 = nI u := by rw [f1 q (Ne.symm q5)]; exact hu
  have ndV : nm_nd V ≤ 20 := Nat.le_trans (nm_nd_le.mpr v1) (by omega)
  unfold px_Fraction_put
  rcases Nat.eq_zero_or_pos V with eV | eV
  · subst eV
    rw [nm_nd_0] at t1
    have n1 : nm_nd 1 = 1 := by decide
    refine ⟨sm_sI (sm_sI (sm_sI X1 104 2 (nI 0)) 106 0 (nI 1)) 104 3 (nI 1), ?_, ?_, ⟨fun p a b c => ?_, r1⟩⟩
    · simp (disch := omega) only [sm_lt, sm_b1s, sm_b2s, ↓reduceIte, sm_in_nI, nI_clamp, nI_add, pk_mul, pk_sub, ne_addneg, nI_l, ne_ltT, ne_ltF, ne_leT, ne_leF, ne_eqT, ne_eqF, ne_sI1s, ne_sI1n, ne_sI2, ne_sI3, ne_sL1, ne_sL2s, ne_sL2n, ne_sL3, pk_us, pk_un, pk_uLs, pk_uLn, mm_Z, mm_L, mm_1, mm_2, mm_3, ne_rz0, ne_rz1, not_true_eq_false, not_false_eq_true, ne_i0, ne_i1, ne_i2, ne_i3, ne_i4, ne_i5, ne_i6, ne_i7, ne_i8, ne_i9, ne_i10, ne_i12, ne_i14, ne_i16, ne_i18, ne_i19, ne_i20, ne_i23, ne_i24, ne_i27, ne_i29, ne_i30, ne_i31, ne_i32, ne_i35, ne_i48, ne_i52, ne_i54, ne_i57, ne_i59, ne_i63, ne_i64, ne_i76, ne_i77, ne_i78, ne_i79, ne_i80, ne_i81, ne_i97, ne_i99, ne_i100, ne_i101, ne_i104, ne_i105, ne_i108, ne_i110, ne_i111, ne_i116, ne_i117, ne_i122, ne_i103, ne_i200, ne_i255, ne_i256, ne_i320, ne_i384, ne_i1000, ne_l0, ne_l1, ne_l2, ne_l3, ne_l4, ne_l5, ne_l8, ne_l12, ne_l31, ne_l48, ne_l57, ne_l97, ne_l99, ne_l122, ne_l255, ne_l673, ne_l1073741823, ne_l1073741824, e1, hu1, t1]
    · rw [Nat.gcd_zero_left, Nat.zero_div, Nat.div_self (Nat.mul_pos hw0 (by omega))]
      refine ⟨?_, ?_, ⟨by rw [nm_nd_0]; decide, fun k hk => by rw [nm_nd_0] at hk; omega⟩, ⟨by rw [n1]; decide, fun k hk => ?_⟩, by rw [nm_nd_0]; decide, by rw [n1]; decide⟩
      · rw [ne_sI1s, pk_un (by decide), ne_sI1n (by decide), ne_sI1s, pk_us, nm_nd_0]
      · rw [ne_sI1s, pk_us, n1]
      · rw [n1] at hk
        obtain rfl : k = 0 := by omega
        rw [ne_sI1n (by decide), ne_sI1s, pk_us]
        decide
    · rw [ne_sI1n a, ne_sI1n c, ne_sI1n a]
      exact f1 p b
  · have hnd := nm_nd_pos eV
    -- the common divisor of T and the sum
    have hgp : 0 < Nat.gcd T V := Nat.gcd_pos_of_pos_left _ hT
    have hgT := Nat.gcd_le_left V hT
    have hmod := Nat.mod_lt V hT
    have eg : Nat.gcd T (V % T) = Nat.gcd T V := by rw [Nat.gcd_comm T (V % T), ← Nat.gcd_rec]
    generalize hX4 : sm_sI X1 104 2 (nI (nm_nd V)) = X4
    have f4 : ∀ p, p ≠ 104 → X4.1 p = X1.1 p := fun p hp => by rw [← hX4, ne_sI1n hp]
    have z4 : X4.1 104 2 = nI (nm_nd V) := by rw [← hX4, ne_sI1s, pk_us]
    have d4 : xdg X4 105 (nm_nd V) V := xdg_fr (xdg_nd d1) (f4 105 (by decide))
    have rm := xq_remainder (N := N) hN zs105 hT (by omega) ndV d4
    have gd := xq_gcd2 (N := N) (X := X4) (x := T) (y := V % T) hN (by omega) (by omega)
    rw [eg] at gd
    obtain ⟨g2, e2, d5⟩ := xq_divide (X := X4) (N := N) hN zs105 hgp (by omega) ndV d4
    generalize hX5 : sm_sF X4 105 g2 = X5 at e2 d5
    have f5 : ∀ p, p ≠ 105 → X5.1 p = X4.1 p := fun p hp => by rw [← hX5, sF_n hp]
    have t2 := xq_trimmed (N := N) hN zs105 ndV d5
    have z5 : X5.1 104 2 = nI (nm_nd V) := by rw [f5 104 (by decide)]; exact z4
    generalize hX6 : sm_sI X5 104 2 (nI (nm_nd (V / Nat.gcd T V))) = X6
    have f6 : ∀ p, p ≠ 104 → X6.1 p = X5.1 p := fun p hp => by rw [← hX6, ne_sI1n hp]
    have d6 : xdg X6 105 (nm_nd (V / Nat.gcd T V)) (V / Nat.gcd T V) := xdg_fr (xdg_nd d5) (f6 105 (by decide))
    obtain ⟨g, e3, g0⟩ := xq_begin (X := X6) (N := N) (p := 107) hN
    -- what is below
    have hTg : T / Nat.gcd T V ≤ T := Nat.div_le_self _ _
    obtain ⟨b, b1, b2, b3, b4⟩ := xcf_one (a := a) (w := w) (i := 4) (b := 12 * (T / Nat.gcd T V)) g0 (by decide) (Or.inr rfl) (by omega) rfl
    generalize hX7 : sm_lF X6 108 (vp_updL g 4 (lN (12 * (T / Nat.gcd T V)))) = X7
    have f7 : X7.1 = X6.1 := by rw [← hX7]; rfl
    have fX : ∀ p, p ≠ 104 → p ≠ 105 → X7.1 p = X.1 p := fun p a b => by rw [f7, f6 p a, f5 p b, f4 p a, f1 p b]
    have hu7 : X7.1 q 1 = nI u := by rw [fX q (Ne.symm q4) (Ne.symm q5)]; exact hu
    obtain ⟨L2, g3, e4, w1, w2, w3⟩ := xq_write (X := X7) (N := N) (p := 107) (q1 := q) (q2 := 106) (base := 0) (c := b) (w := w) hN hu7 hu0 hu2 zs106 (by omega) (by omega) q6 q61 (fun r h5 => by rw [← hX7, lF_s]; exact b1 r h5) b4 (fun r h5 h0 => by rw [fX (q + 1) (Ne.symm q41) (Ne.symm q51)]; exact hrow r (b3 r h5 h0))
    rw [b2] at w1 w2
    generalize hX8 : sm_sF (sm_lF X7 (107 + 2) L2) 106 g3 = X8 at e4
    have f8 : ∀ p, p ≠ 106 → X8.1 p = X7.1 p := fun p hp => by rw [← hX8, sF_n hp]; rfl
    have d8 : xdg X8 106 (u + 1) (w 4 * (12 * (T / Nat.gcd T V))) := xdg_0b w1 (fun j hj => by rw [← hX8, sF_s]; exact w2 j hj)
    have t3 := xq_trimmed (N := N) hN zs106 (show u + 1 ≤ 20 by omega) d8
    have hu8 : X8.1 q 1 = nI u := by rw [f8 q (Ne.symm q6)]; exact hu7
    have ndQ : nm_nd (w 4 * (12 * (T / Nat.gcd T V))) ≤ 20 := Nat.le_trans (nm_nd_le.mpr w1) (by omega)
    generalize hX9 : sm_sI X8 104 3 (nI (nm_nd (w 4 * (12 * (T / Nat.gcd T V))))) = X9
    have f9 : ∀ p, p ≠ 104 → X9.1 p = X8.1 p := fun p hp => by rw [← hX9, ne_sI1n hp]
    have h9 : fh X9 (V / Nat.gcd T V) (w 4 * (12 * (T / Nat.gcd T V))) := by
      refine ⟨?_, ?_, ?_, ?_, Nat.le_trans (nm_nd_mono (Nat.div_le_self _ _)) ndV, ndQ⟩
      · rw [← hX9, ne_sI1s, pk_un (by decide), f8 104 (by decide), f7, ← hX6, ne_sI1s, pk_us]
      · rw [← hX9, ne_sI1s, pk_us]
      · exact xdg_fr d6 (by rw [f9 105 (by decide), f8 105 (by decide), f7])
      · exact xdg_fr (xdg_nd d8) (f9 106 (by decide))
    have hPpos : 0 < V / Nat.gcd T V := Nat.div_pos (Nat.gcd_le_right _ eV) hgp
    obtain ⟨X', P', Q', k, e5, r2, r3, r4, r5, r6, r7⟩ := xq_reduce (N := N) hN h9 hPpos
    obtain ⟨l1, l2⟩ := sm0_low hT (sm0_mul hsm (sm0_37 (by decide) (by decide))) r3 r4 r5 r6
    refine ⟨X', ?_, by rw [← l1, ← l2]; exact r2, fo_tr ⟨fun p a b c => ?_, ?_⟩ r7⟩
    · clear l1 l2
      generalize Nat.gcd T V = G at *
      have el : sm_lF X6 (107 + 1) g = sm_lF X6 108 g := rfl
      by_cases h1 : 1 < G
      · simp (disch := omega) only [sm_lt, sm_b1s, sm_b2s, ↓reduceIte, sm_in_nI, nI_clamp, nI_add, pk_mul, pk_sub, ne_addneg, nI_l, ne_ltT, ne_ltF, ne_leT, ne_leF, ne_eqT, ne_eqF, ne_sI1s, ne_sI1n, ne_sI2, ne_sI3, ne_sL1, ne_sL2s, ne_sL2n, ne_sL3, pk_us, pk_un, pk_uLs, pk_uLn, mm_Z, mm_L, mm_1, mm_2, mm_3, ne_rz0, ne_rz1, not_true_eq_false, not_false_eq_true, ne_i0, ne_i1, ne_i2, ne_i3, ne_i4, ne_i5, ne_i6, ne_i7, ne_i8, ne_i9, ne_i10, ne_i12, ne_i14, ne_i16, ne_i18, ne_i19, ne_i20, ne_i23, ne_i24, ne_i27, ne_i29, ne_i30, ne_i31, ne_i32, ne_i35, ne_i48, ne_i52, ne_i54, ne_i57, ne_i59, ne_i63, ne_i64, ne_i76, ne_i77, ne_i78, ne_i79, ne_i80, ne_i81, ne_i97, ne_i99, ne_i100, ne_i101, ne_i104, ne_i105, ne_i108, ne_i110, ne_i111, ne_i116, ne_i117, ne_i122, ne_i103, ne_i200, ne_i255, ne_i256, ne_i320, ne_i384, ne_i1000, ne_l0, ne_l1, ne_l2, ne_l3, ne_l4, ne_l5, ne_l8, ne_l12, ne_l31, ne_l48, ne_l57, ne_l97, ne_l99, ne_l122, ne_l255, ne_l673, ne_l1073741823, ne_l1073741824, e1, hu1, t1, hX4, z4, rm, gd, e2, z5, t2, hX6, e3, pk_div, lN_mul, lF_sL, hX7, e4, hu8, t3, hX9, e5]
      · obtain rfl : G = 1 := by omega
        simp (disch := omega) only [sm_lt, sm_b1s, sm_b2s, ↓reduceIte, sm_in_nI, nI_clamp, nI_add, pk_mul, pk_sub, ne_addneg, nI_l, ne_ltT, ne_ltF, ne_leT, ne_leF, ne_eqT, ne_eqF, ne_sI1s, ne_sI1n, ne_sI2, ne_sI3, ne_sL1, ne_sL2s, ne_sL2n, ne_sL3, pk_us, pk_un, pk_uLs, pk_uLn, mm_Z, mm_L, mm_1, mm_2, mm_3, ne_rz0, ne_rz1, not_true_eq_false, not_false_eq_true, ne_i0, ne_i1, ne_i2, ne_i3, ne_i4, ne_i5, ne_i6, ne_i7, ne_i8, ne_i9, ne_i10, ne_i12, ne_i14, ne_i16, ne_i18, ne_i19, ne_i20, ne_i23, ne_i24, ne_i27, ne_i29, ne_i30, ne_i31, ne_i32, ne_i35, ne_i48, ne_i52, ne_i54, ne_i57, ne_i59, ne_i63, ne_i64, ne_i76, ne_i77, ne_i78, ne_i79, ne_i80, ne_i81, ne_i97, ne_i99, ne_i100, ne_i101, ne_i104, ne_i105, ne_i108, ne_i110, ne_i111, ne_i116, ne_i117, ne_i122, ne_i103, ne_i200, ne_i255, ne_i256, ne_i320, ne_i384, ne_i1000, ne_l0, ne_l1, ne_l2, ne_l3, ne_l4, ne_l5, ne_l8, ne_l12, ne_l31, ne_l48, ne_l57, ne_l97, ne_l99, ne_l122, ne_l255, ne_l673, ne_l1073741823, ne_l1073741824, e1, hu1, t1, hX4, z4, rm, gd, e2, z5, t2, hX6, e3, pk_div, lN_mul, lF_sL, hX7, e4, hu8, t3, hX9, e5]
    · rw [f9 p a, f8 p c, fX p a b]
    · rw [← hX9, ne_sI3, ← hX8, sF_3, lF_3, ← hX7, lF_3, ← hX6, ne_sI3, ← hX5, sF_3, ← hX4, ne_sI3, r1]
end
section
variable {N : Nat} {M S : sm_St} {v w : Nat → Nat}
/-- the reference's fraction -/
theorem nW_tell {src by' : Nat} (hN : 4000 ≤ N) (h : nP M v S) (hs : src < 124) (hs2 : 7 ≤ src) (h0 : 0 < v 18) (hb : v 18 < 2 ^ 1000) (hy : 0 < by') (hy2 : by' ≤ 1073741824) : ∃ S' v', pm_tellOver N S (nI src) (lN by') = some (nI 1, S') ∧ nP (sm_sI M 0 6 (nI (if v src = 0 then 0 else 1))) v' S' ∧ v' 0 = v src / Nat.gcd (v src) (v 18 * by') ∧ v' 1 = v 18 * by' / Nat.gcd (v src) (v 18 * by') ∧ ∀ s, 7 ≤ s → v' s = v s := by
  obtain ⟨S1, e1, h1⟩ := nP_copy (a := 2) (b := src) hN h (by omega) (by omega) (by omega) (by omega)
  obtain ⟨S2, e2, h2⟩ := nP_copy (a := 3) (b := 18) hN h1 (by omega) (by omega) (by omega) (by omega)
  obtain ⟨S3, e3, h3⟩ := nP_times (a := 3) (m := by') hN h2 (by omega) (by omega) (by omega) (by
    rw [ne_up_s, ne_up_n (by decide)]
    exact sp_big hb (by omega))
  rw [ne_up_s, bx_uu, ne_up_n (by decide)] at h3
  have q3 : va_up (va_up v 2 (v src)) 3 (v 18 * by') 3 = v 18 * by' := ne_up_s
  have q2 : va_up (va_up v 2 (v src)) 3 (v 18 * by') 2 = v src := by rw [ne_up_n (by decide), ne_up_s]
  have qs : ∀ s, s ≠ 2 → s ≠ 3 → va_up (va_up v 2 (v src)) 3 (v 18 * by') s = v s := fun s a b => by rw [ne_up_n b, ne_up_n a]
  generalize va_up (va_up v 2 (v src)) 3 (v 18 * by') = v3 at *
  obtain ⟨L, Z, rfl, hA⟩ := h3
  have n2 := hA 2 (by decide) (by decide)
  have n3 := hA 3 (by decide) (by decide)
  rw [q2] at n2
  rw [q3] at n3
  have hd : nm_nd (2 * (v 18 * by')) ≤ 60 := nm_nd_le.mpr (by
    rw [Nat.mul_left_comm]
    exact sp_big hb (by omega))
  obtain ⟨L', Z', e4, t0, t1, t2⟩ := nm_tell (M := M) hN (Nat.mul_pos h0 hy) hd n2 n3
  have es : (if v src = 0 then (0 : Int32) else 1) = nI (if v src = 0 then 0 else 1) := by split <;> rfl
  refine ⟨_, fun s => if s = 0 then v src / Nat.gcd (v src) (v 18 * by') else if s = 1 then v 18 * by' / Nat.gcd (v src) (v 18 * by') else v3 s, ?_, ⟨L', Z', rfl, fun s hs hs' => ?_⟩, rfl, rfl, fun s hs => ?_⟩
  · unfold pm_tellOver
    rw [es] at e4
    have e4' : pm_tell N (mm M L Z) (nI 2) (nI 3) (nI 0) = some (mm (sm_sI M 0 6 (nI (if v src = 0 then 0 else 1))) L' Z') := e4
    simp (disch := omega) only [sm_lt, sm_b1s, sm_b2s, ↓reduceIte, sm_in_nI, nI_clamp, nI_add, pk_mul, pk_sub, ne_addneg, nI_l, ne_ltT, ne_ltF, ne_leT, ne_leF, ne_eqT, ne_eqF, ne_sI1s, ne_sI1n, ne_sI2, ne_sI3, ne_sL1, ne_sL2s, ne_sL2n, ne_sL3, pk_us, pk_un, pk_uLs, pk_uLn, mm_Z, mm_L, mm_1, mm_2, mm_3, ne_rz0, ne_rz1, not_true_eq_false, not_false_eq_true, ne_i0, ne_i1, ne_i2, ne_i3, ne_i4, ne_i5, ne_i6, ne_i7, ne_i8, ne_i9, ne_i10, ne_i12, ne_i14, ne_i16, ne_i18, ne_i19, ne_i20, ne_i23, ne_i24, ne_i27, ne_i29, ne_i30, ne_i31, ne_i32, ne_i35, ne_i48, ne_i52, ne_i54, ne_i57, ne_i59, ne_i63, ne_i64, ne_i76, ne_i77, ne_i78, ne_i79, ne_i80, ne_i81, ne_i97, ne_i99, ne_i100, ne_i101, ne_i104, ne_i105, ne_i108, ne_i110, ne_i111, ne_i116, ne_i117, ne_i122, ne_i103, ne_i200, ne_i255, ne_i256, ne_i320, ne_i384, ne_i1000, ne_l0, ne_l1, ne_l2, ne_l3, ne_l4, ne_l5, ne_l8, ne_l12, ne_l31, ne_l48, ne_l57, ne_l97, ne_l99, ne_l122, ne_l255, ne_l673, ne_l1073741823, ne_l1073741824, e1, e2, e3, e4']
  · by_cases s0 : s = 0
    · subst s0
      exact t0
    · by_cases s1 : s = 1
      · subst s1
        exact t1
      · show nm_N L' Z' s (if s = 0 then _ else if s = 1 then _ else v3 s)
        rw [if_neg s0, if_neg s1]
        exact nm_same_N (t2 s s0 s1 (by omega) (by omega) (by omega)) (hA s hs hs')
  · show (if s = 0 then _ else if s = 1 then _ else v3 s) = _
    rw [if_neg (by omega), if_neg (by omega)]
    exact qs s (by omega) (by omega)
end
