section
variable {N : Nat} {X S : sm_St} {a b v ik tx : Nat → Nat} {len : Nat}
theorem np_layCloth {c kd hd : Nat} {M : sm_St} (hN : 4000 ≤ N) (h : nP M v S) (hw : nw a M) (hc : c < 4) : ∃ S' M' a', pm_layCloth N S (nI c) (nI kd) (nI hd) = some S' ∧ nP M' v S' ∧ nw a' M' ∧ a' (4 * c) = kd ∧ a' (4 * c + 1) = hd ∧ a' (4 * c + 2) = 0 ∧ a' (4 * c + 3) = 12 ∧ (∀ x, x < 8 → a' (16 + 8 * c + x) = 0) ∧ (∀ k, ¬ (4 * c ≤ k ∧ k < 4 * c + 4) → ¬ (16 + 8 * c ≤ k ∧ k < 16 + 8 * c + 8) → a' k = a k) ∧ (∀ p, p ≠ 1 → M'.1 p = M.1 p) ∧ M'.2 = M.2 := by
  have h1 := nP_sI (p := 1) (k := 4 * c) (x := nI kd) h (by decide)
  have h2 := nP_sI (p := 1) (k := 4 * c + 1) (x := nI hd) h1 (by decide)
  have h3 := nP_sI (p := 1) (k := 4 * c + 2) (x := nI 0) h2 (by decide)
  have h4 := nP_sI (p := 1) (k := 4 * c + 3) (x := nI 12) h3 (by decide)
  have w4 := nw_up (x := 12) (k := 4 * c + 3) (nw_up (x := 0) (k := 4 * c + 2) (nw_up (x := hd) (k := 4 * c + 1) (nw_up (x := kd) (k := 4 * c) hw (by omega)) (by omega)) (by omega)) (by omega)
  unfold pm_layCloth
  simp (disch := omega) only [sm_lt, sm_b1s, sm_b2s, ↓reduceIte, sm_in_nI, nI_clamp, nI_add, pk_mul, pk_sub, ne_addneg, nI_l, ne_ltT, ne_ltF, ne_leT, ne_leF, ne_eqT, ne_eqF, ne_sI1s, ne_sI1n, ne_sI2, ne_sI3, ne_sL1, ne_sL2s, ne_sL2n, ne_sL3, pk_us, pk_un, pk_uLs, pk_uLn, mm_Z, mm_L, mm_1, mm_2, mm_3, ne_rz0, ne_rz1, not_true_eq_false, not_false_eq_true, ne_i0, ne_i1, ne_i2, ne_i3, ne_i4, ne_i5, ne_i6, ne_i7, ne_i8, ne_i9, ne_i10, ne_i12, ne_i14, ne_i16, ne_i18, ne_i19, ne_i20, ne_i23, ne_i24, ne_i27, ne_i29, ne_i30, ne_i31, ne_i32, ne_i35, ne_i48, ne_i52, ne_i54, ne_i57, ne_i59, ne_i63, ne_i64, ne_i76, ne_i77, ne_i78, ne_i79, ne_i80, ne_i81, ne_i97, ne_i99, ne_i100, ne_i101, ne_i104, ne_i105, ne_i108, ne_i110, ne_i111, ne_i116, ne_i117, ne_i122, ne_i103, ne_i200, ne_i255, ne_i256, ne_i320, ne_i384, ne_i1000, ne_l0, ne_l1, ne_l2, ne_l3, ne_l4, ne_l5, ne_l8, ne_l12, ne_l31, ne_l48, ne_l57, ne_l97, ne_l99, ne_l122, ne_l255, ne_l673, ne_l1073741823, ne_l1073741824, Nat.zero_add]
  refine ne_loop (fun f i (s : sm_St) => pm_layCloth_b54 N f (nI c) (nI i) s) (fun i s => ∃ M' a', nP M' v s ∧ nw a' M' ∧ a' (4 * c) = kd ∧ a' (4 * c + 1) = hd ∧ a' (4 * c + 2) = 0 ∧ a' (4 * c + 3) = 12 ∧ (∀ x, x < i → a' (16 + 8 * c + x) = 0) ∧ (∀ k, ¬ (4 * c ≤ k ∧ k < 4 * c + 4) → ¬ (16 + 8 * c ≤ k ∧ k < 16 + 8 * c + 8) → a' k = a k) ∧ (∀ p, p ≠ 1 → M'.1 p = M.1 p) ∧ M'.2 = M.2) 8 (fun r => ∃ S' M' a', r = some S' ∧ nP M' v S' ∧ nw a' M' ∧ a' (4 * c) = kd ∧ a' (4 * c + 1) = hd ∧ a' (4 * c + 2) = 0 ∧ a' (4 * c + 3) = 12 ∧ (∀ x, x < 8 → a' (16 + 8 * c + x) = 0) ∧ (∀ k, ¬ (4 * c ≤ k ∧ k < 4 * c + 4) → ¬ (16 + 8 * c ≤ k ∧ k < 16 + 8 * c + 8) → a' k = a k) ∧ (∀ p, p ≠ 1 → M'.1 p = M.1 p) ∧ M'.2 = M.2) ?_ ?_ N 0 _ (by omega) (by omega) ⟨_, _, h4, w4, ?_, ?_, ?_, ?_, fun x hx => by omega, fun k k1 k2 => ?_, fun p hp => ?_, rfl⟩
  · rintro f i s hi ⟨M', a', g1, g2, g3, g4, g5, g6, g7, g8, g9, g10⟩
    left
    refine ⟨sm_sI s 1 (16 + 8 * c + i) (nI 0), ⟨_, _, nP_sI g1 (by decide), nw_up g2 (by omega), by rw [ne_up_n (by omega)]; exact g3, by rw [ne_up_n (by omega)]; exact g4, by rw [ne_up_n (by omega)]; exact g5, by rw [ne_up_n (by omega)]; exact g6, fun x hx => ?_, fun k k1 k2 => by rw [ne_up_n (by omega)]; exact g8 k k1 k2, fun p hp => by rw [ne_sI1n hp]; exact g9 p hp, g10⟩, ?_⟩
    · by_cases e : x = i
      · subst e
        exact ne_up_s
      · rw [ne_up_n (by omega)]
        exact g7 x (by omega)
    · show pm_layCloth_b54 N (f + 1) _ _ _ = _
      rw [pm_layCloth_b54]
      simp (disch := omega) only [sm_lt, sm_b1s, sm_b2s, ↓reduceIte, sm_in_nI, nI_clamp, nI_add, pk_mul, pk_sub, ne_addneg, nI_l, ne_ltT, ne_ltF, ne_leT, ne_leF, ne_eqT, ne_eqF, ne_sI1s, ne_sI1n, ne_sI2, ne_sI3, ne_sL1, ne_sL2s, ne_sL2n, ne_sL3, pk_us, pk_un, pk_uLs, pk_uLn, mm_Z, mm_L, mm_1, mm_2, mm_3, ne_rz0, ne_rz1, not_true_eq_false, not_false_eq_true, ne_i0, ne_i1, ne_i2, ne_i3, ne_i4, ne_i5, ne_i6, ne_i7, ne_i8, ne_i9, ne_i10, ne_i12, ne_i14, ne_i16, ne_i18, ne_i19, ne_i20, ne_i23, ne_i24, ne_i27, ne_i29, ne_i30, ne_i31, ne_i32, ne_i35, ne_i48, ne_i52, ne_i54, ne_i57, ne_i59, ne_i63, ne_i64, ne_i76, ne_i77, ne_i78, ne_i79, ne_i80, ne_i81, ne_i97, ne_i99, ne_i100, ne_i101, ne_i104, ne_i105, ne_i108, ne_i110, ne_i111, ne_i116, ne_i117, ne_i122, ne_i103, ne_i200, ne_i255, ne_i256, ne_i320, ne_i384, ne_i1000, ne_l0, ne_l1, ne_l2, ne_l3, ne_l4, ne_l5, ne_l8, ne_l12, ne_l31, ne_l48, ne_l57, ne_l97, ne_l99, ne_l122, ne_l255, ne_l673, ne_l1073741823, ne_l1073741824]
  · rintro f s ⟨M', a', g1, g2, g3, g4, g5, g6, g7, g8, g9, g10⟩
    show ∃ S' M' a', pm_layCloth_b54 N (f + 1) _ _ _ = _ ∧ _
    rw [pm_layCloth_b54]
    simp (disch := omega) only [sm_lt, sm_b1s, sm_b2s, ↓reduceIte, sm_in_nI, nI_clamp, nI_add, pk_mul, pk_sub, ne_addneg, nI_l, ne_ltT, ne_ltF, ne_leT, ne_leF, ne_eqT, ne_eqF, ne_sI1s, ne_sI1n, ne_sI2, ne_sI3, ne_sL1, ne_sL2s, ne_sL2n, ne_sL3, pk_us, pk_un, pk_uLs, pk_uLn, mm_Z, mm_L, mm_1, mm_2, mm_3, ne_rz0, ne_rz1, not_true_eq_false, not_false_eq_true, ne_i0, ne_i1, ne_i2, ne_i3, ne_i4, ne_i5, ne_i6, ne_i7, ne_i8, ne_i9, ne_i10, ne_i12, ne_i14, ne_i16, ne_i18, ne_i19, ne_i20, ne_i23, ne_i24, ne_i27, ne_i29, ne_i30, ne_i31, ne_i32, ne_i35, ne_i48, ne_i52, ne_i54, ne_i57, ne_i59, ne_i63, ne_i64, ne_i76, ne_i77, ne_i78, ne_i79, ne_i80, ne_i81, ne_i97, ne_i99, ne_i100, ne_i101, ne_i104, ne_i105, ne_i108, ne_i110, ne_i111, ne_i116, ne_i117, ne_i122, ne_i103, ne_i200, ne_i255, ne_i256, ne_i320, ne_i384, ne_i1000, ne_l0, ne_l1, ne_l2, ne_l3, ne_l4, ne_l5, ne_l8, ne_l12, ne_l31, ne_l48, ne_l57, ne_l97, ne_l99, ne_l122, ne_l255, ne_l673, ne_l1073741823, ne_l1073741824]
    exact ⟨s, M', a', rfl, g1, g2, g3, g4, g5, g6, g7, g8, g9, g10⟩
  · rw [ne_up_n (by omega), ne_up_n (by omega), ne_up_n (by omega), ne_up_s]
  · rw [ne_up_n (by omega), ne_up_n (by omega), ne_up_s]
  · rw [ne_up_n (by omega), ne_up_s]
  · rw [ne_up_s]
  · rw [ne_up_n (by omega), ne_up_n (by omega), ne_up_n (by omega), ne_up_n (by omega)]
  · rw [ne_sI1n hp, ne_sI1n hp, ne_sI1n hp, ne_sI1n hp]
/-- a cloth more on the built side -/
theorem xq_addCloth {c kd hd sh : Nat} (hN : 4000 ≤ N) (hc : c < 4) (hsh : sh ≤ 12) (h9 : X.1 1 9 = nI c) {w : Nat → Nat} (hx : xsh X 12 c w) : ∃ X', px_House_addCloth N X 1 (nI kd) (nI hd) (nI sh) = some X' ∧ X'.1 1 9 = nI (c + 1) ∧ X'.1 1 12 = nI 0 ∧ (∀ k, k ≠ 9 → k ≠ 12 → X'.1 1 k = X.1 1 k) ∧ X'.1 2 c = nI kd ∧ X'.1 3 c = nI hd ∧ X'.1 4 c = nI 0 ∧ X'.1 5 c = nI 12 ∧ (∀ p k, (p = 2 ∨ p = 3 ∨ p = 4 ∨ p = 5) → k ≠ c → X'.1 p k = X.1 p k) ∧ xsh X' 12 (c + 1) (va_up w c (w 4 * sh)) ∧ (∀ p, ¬ (1 ≤ p ∧ p ≤ 5) → p ≠ 13 → X'.1 p = X.1 p) ∧ X'.2 = X.2 := by
  obtain ⟨u, hu, hu0, hu2, hlt, hrow⟩ := hx
  generalize hY : sm_sI (sm_sI (sm_sI (sm_sI X 2 c (nI kd)) 3 c (nI hd)) 4 c (nI 0)) 5 c (nI 12) = Y
  have fY : ∀ p, p ≠ 2 → p ≠ 3 → p ≠ 4 → p ≠ 5 → Y.1 p = X.1 p := fun p a b c d => by rw [← hY, ne_sI1n d, ne_sI1n c, ne_sI1n b, ne_sI1n a]
  obtain ⟨g, e, g1, g2⟩ := xq_putParts (X := Y) (N := N) (p := 12) (row := c) (parts := sh) (w := w 4) hN (by rw [fY 12 (by decide) (by decide) (by decide) (by decide)]; exact hu) (by omega) hc hsh hlt (by rw [fY _ (by decide) (by decide) (by decide) (by decide)]; exact hrow 4 (Or.inr rfl))
  have hz : (sm_sF Y 13 g).1 1 = X.1 1 := by rw [sF_n (by decide)]; exact fY 1 (by decide) (by decide) (by decide) (by decide)
  refine ⟨sm_sI (sm_sI (sm_sF Y 13 g) 1 9 (nI (c + 1))) 1 12 (nI 0), ?_, ?_, ?_, fun k h1 h2 => ?_, ?_, ?_, ?_, ?_, fun p k hp hk => ?_, ⟨u, ?_, hu0, hu2, ?_, fun r hr => ?_⟩, fun p hp h13 => ?_, ?_⟩
  · unfold px_House_addCloth
    simp (disch := omega) only [sm_lt, sm_b1s, sm_b2s, ↓reduceIte, sm_in_nI, nI_clamp, nI_add, pk_mul, pk_sub, ne_addneg, nI_l, ne_ltT, ne_ltF, ne_leT, ne_leF, ne_eqT, ne_eqF, ne_sI1s, ne_sI1n, ne_sI2, ne_sI3, ne_sL1, ne_sL2s, ne_sL2n, ne_sL3, pk_us, pk_un, pk_uLs, pk_uLn, mm_Z, mm_L, mm_1, mm_2, mm_3, ne_rz0, ne_rz1, not_true_eq_false, not_false_eq_true, ne_i0, ne_i1, ne_i2, ne_i3, ne_i4, ne_i5, ne_i6, ne_i7, ne_i8, ne_i9, ne_i10, ne_i12, ne_i14, ne_i16, ne_i18, ne_i19, ne_i20, ne_i23, ne_i24, ne_i27, ne_i29, ne_i30, ne_i31, ne_i32, ne_i35, ne_i48, ne_i52, ne_i54, ne_i57, ne_i59, ne_i63, ne_i64, ne_i76, ne_i77, ne_i78, ne_i79, ne_i80, ne_i81, ne_i97, ne_i99, ne_i100, ne_i101, ne_i104, ne_i105, ne_i108, ne_i110, ne_i111, ne_i116, ne_i117, ne_i122, ne_i103, ne_i200, ne_i255, ne_i256, ne_i320, ne_i384, ne_i1000, ne_l0, ne_l1, ne_l2, ne_l3, ne_l4, ne_l5, ne_l8, ne_l12, ne_l31, ne_l48, ne_l57, ne_l97, ne_l99, ne_l122, ne_l255, ne_l673, ne_l1073741823, ne_l1073741824, h9, hY, fY, e, hz]
  · rw [ne_sI1s, pk_un (by decide), ne_sI1s, pk_us]
  · rw [ne_sI1s, pk_us]
  · rw [ne_sI1s, pk_un h2, ne_sI1s, pk_un h1, hz]
  · rw [ne_sI1n (by decide), ne_sI1n (by decide), sF_n (by decide), ← hY, ne_sI1n (by decide), ne_sI1n (by decide), ne_sI1n (by decide), ne_sI1s, pk_us]
  · rw [ne_sI1n (by decide), ne_sI1n (by decide), sF_n (by decide), ← hY, ne_sI1n (by decide), ne_sI1n (by decide), ne_sI1s, pk_us]
  · rw [ne_sI1n (by decide), ne_sI1n (by decide), sF_n (by decide), ← hY, ne_sI1n (by decide), ne_sI1s, pk_us]
  · rw [ne_sI1n (by decide), ne_sI1n (by decide), sF_n (by decide), ← hY, ne_sI1s, pk_us]
  · rw [ne_sI1n (by omega), ne_sI1n (by omega), sF_n (by omega), ← hY]
    rcases hp with rfl | rfl | rfl | rfl
    · rw [ne_sI1n (by decide), ne_sI1n (by decide), ne_sI1n (by decide), ne_sI1s, pk_un hk]
    · rw [ne_sI1n (by decide), ne_sI1n (by decide), ne_sI1s, pk_un hk, ne_sI1n (by decide)]
    · rw [ne_sI1n (by decide), ne_sI1s, pk_un hk, ne_sI1n (by decide), ne_sI1n (by decide)]
    · rw [ne_sI1s, pk_un hk, ne_sI1n (by decide), ne_sI1n (by decide), ne_sI1n (by decide)]
  · rw [ne_sI1n (by decide), ne_sI1n (by decide), sF_n (by decide), fY 12 (by decide) (by decide) (by decide) (by decide)]
    exact hu
  · rw [ne_up_n (by omega)]; exact hlt
  · rw [ne_sI1n (by decide), ne_sI1n (by decide), sF_s]
    by_cases q : r = c
    · subst q
      rw [ne_up_s]
      exact g1
    · rw [ne_up_n q]
      obtain ⟨r1, r2⟩ := hrow r (by omega)
      refine ⟨r1, fun k hk => ?_⟩
      rw [g2 _ (by omega), fY _ (by decide) (by decide) (by decide) (by decide)]
      exact r2 k hk
  · rw [ne_sI1n (by omega), ne_sI1n (by omega), sF_n h13, fY p (by omega) (by omega) (by omega) (by omega)]
  · rw [← hY]
    rfl
theorem c_cloth {v1 v2 v3 : Int32} (hN : 4000 ≤ N) (h : R X S) : OKr (px_L_cloth N X v1 v2 v3) (pm_cloth N S v1 v2 v3) := by
  obtain ⟨a, b, v, ik, tx, len, h⟩ := h
  have hR := RR_R h
  obtain ⟨o1, o2, o3, o4, o5, o6, o7, o8, o9, o10⟩ := RR_ok h
  obtain ⟨q1, q2⟩ := RR_cl h
  have hw := h.1
  have fin : ∀ {o1 o2 : Option (Int32 × sm_St)}, o1 = some (-nI 2, sm_sI X 0 11 (X.1 0 11 + nI 1)) → o2 = some (-nI 2, sm_sI S 4 0 (S.1 4 0 + nI 1)) → OKr o1 o2 := fun e1 e2 => ⟨_, _, _, e1, e2, R_bad hR⟩
  have z1 : ¬ (nI 1 = 0) := by decide
  have z0 : nI 0 = 0 := rfl
  unfold px_L_cloth pm_cloth px_L_cloth_b25 pm_cloth_b36
  rcases w_or (N := N) (X := X) (S := S) v1 (show 4 < 2 ^ 31 by decide) with ⟨kd, rfl, hkd⟩ | ⟨e1, e2⟩
  · have n1 : px_L_within N X (nI kd) (4 : Int32) = some (nI 1, X) := xq_wT hkd (by decide)
    have n2 : pm_in N S (nI kd).toInt64 (0 : Int64) (4 : Int64) = some (nI 1, S) := by rw [nI_l (show kd < 2 ^ 31 by omega)]; exact ne_inT (a := 0) (b := 4) (by omega) hkd (by decide)
    rw [n1, sm_b2s, if_neg z1, n2, sm_b2s, if_neg z1]
    rcases w_or (N := N) (X := X) (S := S) v2 (show 3 < 2 ^ 31 by decide) with ⟨hd, rfl, hhd⟩ | ⟨e1, e2⟩
    · have n1 : px_L_within N X (nI hd) (3 : Int32) = some (nI 1, X) := xq_wT hhd (by decide)
      have n2 : pm_in N S (nI hd).toInt64 (0 : Int64) (3 : Int64) = some (nI 1, S) := by rw [nI_l (show hd < 2 ^ 31 by omega)]; exact ne_inT (a := 0) (b := 3) (by omega) hhd (by decide)
      rw [n1, sm_b2s, if_neg z1, n2, sm_b2s, if_neg z1]
      rcases w_or (N := N) (X := X) (S := S) v3 (show 12 < 2 ^ 31 by decide) with ⟨sh, rfl, hsh⟩ | ⟨e1, e2⟩
      · have n1 : px_L_within N X (nI sh) (12 : Int32) = some (nI 1, X) := xq_wT hsh (by decide)
        have n2 : pm_in N S (nI sh).toInt64 (0 : Int64) (12 : Int64) = some (nI 1, S) := by rw [nI_l (show sh < 2 ^ 31 by omega)]; exact ne_inT (a := 0) (b := 12) (by omega) hsh (by decide)
        rw [n1, sm_b2s, if_neg z1, n2, sm_b2s, if_neg z1, np_cloths hw, sm_b2s, q1]
        by_cases h4 : a 76 < 4
        · obtain ⟨hw1, hw0, hsm, hwb⟩ := h.2.2.1.2.1.1
          have wb : v 23 < 2 ^ 1000 := sp_1000 hwb (by omega)
          obtain ⟨X', ex, x1, x2, x3, x4, x5, x6, x7, x8, x9, x10, x11⟩ := xq_addCloth (X := X) (N := N) (kd := kd) (hd := hd) (sh := sh) hN h4 hsh q1 (RR_hs h).2.2.2.2.2.2.1
          obtain ⟨S1, M1, a1, e1, m1, m2, m3, m4, m5, m6, m7, m8, m9, m10⟩ := np_layCloth (N := N) (c := a 76) (kd := kd) (hd := hd) hN h.2.1 hw h4
          obtain ⟨S2, e2, p2⟩ := nP_copy (a := 19 + a 76) (b := 23) hN m1 (by omega) (by omega) (by omega) (by omega)
          obtain ⟨S3, e3, p3⟩ := nP_times (a := 19 + a 76) (m := sh) hN p2 (by omega) (by omega) (by omega) (by
            rw [ne_up_s]
            exact sp_big wb (by omega))
          rw [ne_up_s, bx_uu] at p3
          have w3 := nP_nw p3 m2
          have a76 : a1 76 = a 76 := m8 76 (by omega) (by omega)
          have s76 : S3.1 1 76 = nI (a 76) := by rw [w3 76 (by decide), a76]
          have n5 := nw_up (x := 0) (k := 79) (nw_up (x := a 76 + 1) (k := 76) w3 (by decide)) (by decide)
          have p5 := nP_own (nP_sI (p := 1) (k := 79) (x := nI 0) (nP_sI (p := 1) (k := 76) (x := nI (a 76 + 1)) p3 (by decide)) (by decide))
          have hf : ∀ k, k ≠ 76 → k ≠ 79 → va_up (va_up a1 76 (a 76 + 1)) 79 0 k = a1 k := fun k h1 h2 => by rw [ne_up_n h2, ne_up_n h1]
          have f76 : va_up (va_up a1 76 (a 76 + 1)) 79 0 76 = a 76 + 1 := by rw [ne_up_n (by decide), ne_up_s]
          have f79 : va_up (va_up a1 76 (a 76 + 1)) 79 0 79 = 0 := ne_up_s
          generalize va_up (va_up a1 76 (a 76 + 1)) 79 0 = a' at n5 hf f76 f79
          have ff : ∀ k, k ≠ 76 → k ≠ 79 → ¬ (4 * a 76 ≤ k ∧ k < 4 * a 76 + 4) → ¬ (16 + 8 * a 76 ≤ k ∧ k < 16 + 8 * a 76 + 8) → a' k = a k := fun k h1 h2 h3 h4 => by rw [hf k h1 h2]; exact m8 k h3 h4
          obtain ⟨c1, k1, co, hh, hz, wi, now, past⟩ := RR_hs h
          have hv' : ∀ s, s ≠ 19 + a 76 → va_up v (19 + a 76) (v 23 * sh) s = v s := fun s hs => ne_up_n hs
          have hvs : va_up v (19 + a 76) (v 23 * sh) (19 + a 76) = v 23 * sh := ne_up_s
          generalize va_up v (19 + a 76) (v 23 * sh) = v' at p3 p5 hv' hvs
          refine ⟨nI (a 76), X', _, ?_, ?_, RR_R (RR_h (a' := a') (v' := v') h n5 p5 ⟨?_, ?_, ?_⟩ (fun s hs => hv' s (by omega)) (fun p hp => ?_) ?_ ?_ (fun p hp => x10 p (by omega) (by omega)) (by rw [x10 102 (by omega) (by omega)]) (hpl_fr (by rw [x11]) h.2.2.2.2.2.2.2.1) (fun p hp => by rw [x11]))⟩
          · simp (disch := omega) only [sm_lt, sm_b1s, sm_b2s, ↓reduceIte, sm_in_nI, nI_clamp, nI_add, pk_mul, pk_sub, ne_addneg, nI_l, ne_ltT, ne_ltF, ne_leT, ne_leF, ne_eqT, ne_eqF, ne_sI1s, ne_sI1n, ne_sI2, ne_sI3, ne_sL1, ne_sL2s, ne_sL2n, ne_sL3, pk_us, pk_un, pk_uLs, pk_uLn, mm_Z, mm_L, mm_1, mm_2, mm_3, ne_rz0, ne_rz1, not_true_eq_false, not_false_eq_true, ne_i0, ne_i1, ne_i2, ne_i3, ne_i4, ne_i5, ne_i6, ne_i7, ne_i8, ne_i9, ne_i10, ne_i12, ne_i14, ne_i16, ne_i18, ne_i19, ne_i20, ne_i23, ne_i24, ne_i27, ne_i29, ne_i30, ne_i31, ne_i32, ne_i35, ne_i48, ne_i52, ne_i54, ne_i57, ne_i59, ne_i63, ne_i64, ne_i76, ne_i77, ne_i78, ne_i79, ne_i80, ne_i81, ne_i97, ne_i99, ne_i100, ne_i101, ne_i104, ne_i105, ne_i108, ne_i110, ne_i111, ne_i116, ne_i117, ne_i122, ne_i103, ne_i200, ne_i255, ne_i256, ne_i320, ne_i384, ne_i1000, ne_l0, ne_l1, ne_l2, ne_l3, ne_l4, ne_l5, ne_l8, ne_l12, ne_l31, ne_l48, ne_l57, ne_l97, ne_l99, ne_l122, ne_l255, ne_l673, ne_l1073741823, ne_l1073741824, ex, x1, Nat.add_sub_cancel]
          · simp (disch := omega) only [sm_lt, sm_b1s, sm_b2s, ↓reduceIte, sm_in_nI, nI_clamp, nI_add, pk_mul, pk_sub, ne_addneg, nI_l, ne_ltT, ne_ltF, ne_leT, ne_leF, ne_eqT, ne_eqF, ne_sI1s, ne_sI1n, ne_sI2, ne_sI3, ne_sL1, ne_sL2s, ne_sL2n, ne_sL3, pk_us, pk_un, pk_uLs, pk_uLn, mm_Z, mm_L, mm_1, mm_2, mm_3, ne_rz0, ne_rz1, not_true_eq_false, not_false_eq_true, ne_i0, ne_i1, ne_i2, ne_i3, ne_i4, ne_i5, ne_i6, ne_i7, ne_i8, ne_i9, ne_i10, ne_i12, ne_i14, ne_i16, ne_i18, ne_i19, ne_i20, ne_i23, ne_i24, ne_i27, ne_i29, ne_i30, ne_i31, ne_i32, ne_i35, ne_i48, ne_i52, ne_i54, ne_i57, ne_i59, ne_i63, ne_i64, ne_i76, ne_i77, ne_i78, ne_i79, ne_i80, ne_i81, ne_i97, ne_i99, ne_i100, ne_i101, ne_i104, ne_i105, ne_i108, ne_i110, ne_i111, ne_i116, ne_i117, ne_i122, ne_i103, ne_i200, ne_i255, ne_i256, ne_i320, ne_i384, ne_i1000, ne_l0, ne_l1, ne_l2, ne_l3, ne_l4, ne_l5, ne_l8, ne_l12, ne_l31, ne_l48, ne_l57, ne_l97, ne_l99, ne_l122, ne_l255, ne_l673, ne_l1073741823, ne_l1073741824, e1, e2, e3, s76]
          · -- the ints are as told
            refine ⟨by omega, by rw [ff 77 (by omega) (by omega) (by omega) (by omega)]; exact o2, by rw [ff 78 (by omega) (by omega) (by omega) (by omega)]; exact o3, by omega, by rw [f79, ff 78 (by omega) (by omega) (by omega) (by omega)]; omega, by rw [ff 80 (by omega) (by omega) (by omega) (by omega)]; exact o6, fun c hc => ?_, fun c x hc hx => ?_, fun t ht => ?_, fun k hk => ?_⟩
            · by_cases q : c = a 76
              · subst q
                rw [hf _ (by omega) (by omega), hf _ (by omega) (by omega), hf _ (by omega) (by omega), hf _ (by omega) (by omega), m3, m4, m5, m6]
                omega
              · rw [ff _ (by omega) (by omega) (by omega) (by omega), ff _ (by omega) (by omega) (by omega) (by omega), ff _ (by omega) (by omega) (by omega) (by omega), ff _ (by omega) (by omega) (by omega) (by omega)]
                exact o7 c (by omega)
            · by_cases q : c = a 76
              · subst q
                refine ⟨by rw [hf _ (by omega) (by omega), m7 x hx]; omega, fun _ => by rw [hf _ (by omega) (by omega), m7 x hx], fun hxa => ?_⟩
                rw [hf (16 + 8 * a 76 + x) (by omega) (by omega), m7 x hx]
                by_cases qx : x = a 76
                · rw [qx, hf _ (by omega) (by omega), m7 (a 76) (by omega)]
                · rw [ff _ (by omega) (by omega) (by omega) (by omega)]
                  exact (o8 x (a 76) (by omega) (by omega)).2.1 (by omega)
              · obtain ⟨g1, g2, g3⟩ := o8 c x (by omega) hx
                refine ⟨by rw [ff _ (by omega) (by omega) (by omega) (by omega)]; exact g1, fun q' => ?_, fun hxa => ?_⟩
                · rw [f76, ff 77 (by omega) (by omega) (by omega) (by omega)] at q'
                  rw [ff _ (by omega) (by omega) (by omega) (by omega)]
                  exact g2 (by omega)
                · by_cases qx : x = a 76
                  · rw [qx, hf (16 + 8 * a 76 + c) (by omega) (by omega), m7 c (by omega), ff _ (by omega) (by omega) (by omega) (by omega)]
                    exact ((o8 c (a 76) (by omega) (by omega)).2.1 (by omega)).symm
                  · rw [ff (16 + 8 * x + c) (by omega) (by omega) (by omega) (by omega), ff (16 + 8 * c + x) (by omega) (by omega) (by omega) (by omega)]
                    exact g3 (by omega)
            · rw [ff 77 (by omega) (by omega) (by omega) (by omega)] at ht
              rw [ff _ (by omega) (by omega) (by omega) (by omega)]
              exact o9 t ht
            · rw [ff 80 (by omega) (by omega) (by omega) (by omega)] at hk
              rw [ff _ (by omega) (by omega) (by omega) (by omega), ff _ (by omega) (by omega) (by omega) (by omega), ff _ (by omega) (by omega) (by omega) (by omega), ff _ (by omega) (by omega) (by omega) (by omega)]
              exact o10 k hk
          · -- the shades
            refine ⟨⟨fun c hc => ?_, ?_, ?_, ?_⟩, fun j hj => by omega⟩
            · show v' (19 + c) ≤ 12 * v' (19 + 4)
              rw [hv' (19 + 4) (by omega)]
              by_cases q : c = a 76
              · subst q
                rw [hvs, Nat.mul_comm]
                exact Nat.mul_le_mul_right _ hsh
              · rw [hv' _ (by omega)]
                exact hw1 c (by omega)
            · show 0 < v' (19 + 4)
              rw [hv' (19 + 4) (by omega)]; exact hw0
            · show sm0 (v' (19 + 4))
              rw [hv' (19 + 4) (by omega)]; exact hsm
            · show v' (19 + 4) ≤ _
              rw [hv' (19 + 4) (by omega), ff 78 (by omega) (by omega) (by omega) (by omega)]; exact hwb
          · -- the cells
            refine ⟨?_, fun i hi => ?_, fun t ht => ?_, fun i x hi hx => ?_, fun i x hi hi4 hx => ?_, fun k f hk hf' => ?_, ?_, fun j hj => by omega⟩
            · rw [x1, x3 10 (by decide) (by decide), x3 11 (by decide) (by decide), x2, x3 13 (by decide) (by decide), f76, f79, ff 77 (by omega) (by omega) (by omega) (by omega), ff 78 (by omega) (by omega) (by omega) (by omega), ff 80 (by omega) (by omega) (by omega) (by omega)]
              exact ⟨rfl, c1.2.1, c1.2.2.1, rfl, c1.2.2.2.2⟩
            · by_cases q : i = a 76
              · subst q
                rw [hf _ (by omega) (by omega), hf _ (by omega) (by omega), hf _ (by omega) (by omega), hf _ (by omega) (by omega), m3, m4, m5, m6]
                exact ⟨x4, x5, x6, x7⟩
              · rw [ff _ (by omega) (by omega) (by omega) (by omega), ff _ (by omega) (by omega) (by omega) (by omega), ff _ (by omega) (by omega) (by omega) (by omega), ff _ (by omega) (by omega) (by omega) (by omega), x8 (1 + 1) i (by omega) q, x8 (1 + 2) i (by omega) q, x8 (1 + 3) i (by omega) q, x8 (1 + 4) i (by omega) q]
                exact k1 i (by omega)
            · rw [ff 77 (by omega) (by omega) (by omega) (by omega)] at ht
              rw [ff _ (by omega) (by omega) (by omega) (by omega), x10 _ (by omega) (by omega)]
              exact co t ht
            · rw [x10 _ (by omega) (by omega)]
              by_cases q : i = a 76
              · subst q
                rw [hf _ (by omega) (by omega), m7 x hx]
                exact hz _ x (Nat.le_refl _) h4 hx
              · rw [ff _ (by omega) (by omega) (by omega) (by omega)]
                exact hh i x (by omega) hx
            · rw [x10 _ (by omega) (by omega)]
              exact hz i x (by omega) hi4 hx
            · rw [ff 80 (by omega) (by omega) (by omega) (by omega)] at hk
              rw [ff _ (by omega) (by omega) (by omega) (by omega), x10 _ (by omega) (by omega)]
              exact wi k f hk hf'
            · rw [f76]
              refine xsh_eq (by omega) (fun c hc => ?_) x9
              by_cases q : c = a 76
              · subst q
                rw [ne_up_s]
                exact hvs
              · rw [ne_up_n q]
                exact hv' _ (by omega)
          · show (sm_sI (sm_sI S3 1 76 _) 1 79 _).1 p = S.1 p
            rw [ne_sI1n (by omega), ne_sI1n (by omega), nP_1 p3 (by omega)]
            exact m9 p (by omega)
          · show (sm_sI (sm_sI S3 1 76 _) 1 79 _).1 0 6 = S.1 0 6
            rw [ne_sI1n (by omega), ne_sI1n (by omega), nP_1 p3 (by omega), m9 0 (by omega)]
          · show (sm_sI (sm_sI S3 1 76 _) 1 79 _).1 0 21 = S.1 0 21
            rw [ne_sI1n (by omega), ne_sI1n (by omega), nP_1 p3 (by omega), m9 0 (by omega)]
        · simp (disch := omega) only [sm_lt, sm_b1s, sm_b2s, ↓reduceIte, sm_in_nI, nI_clamp, nI_add, pk_mul, pk_sub, ne_addneg, nI_l, ne_ltT, ne_ltF, ne_leT, ne_leF, ne_eqT, ne_eqF, ne_sI1s, ne_sI1n, ne_sI2, ne_sI3, ne_sL1, ne_sL2s, ne_sL2n, ne_sL3, pk_us, pk_un, pk_uLs, pk_uLn, mm_Z, mm_L, mm_1, mm_2, mm_3, ne_rz0, ne_rz1, not_true_eq_false, not_false_eq_true, ne_i0, ne_i1, ne_i2, ne_i3, ne_i4, ne_i5, ne_i6, ne_i7, ne_i8, ne_i9, ne_i10, ne_i12, ne_i14, ne_i16, ne_i18, ne_i19, ne_i20, ne_i23, ne_i24, ne_i27, ne_i29, ne_i30, ne_i31, ne_i32, ne_i35, ne_i48, ne_i52, ne_i54, ne_i57, ne_i59, ne_i63, ne_i64, ne_i76, ne_i77, ne_i78, ne_i79, ne_i80, ne_i81, ne_i97, ne_i99, ne_i100, ne_i101, ne_i104, ne_i105, ne_i108, ne_i110, ne_i111, ne_i116, ne_i117, ne_i122, ne_i103, ne_i200, ne_i255, ne_i256, ne_i320, ne_i384, ne_i1000, ne_l0, ne_l1, ne_l2, ne_l3, ne_l4, ne_l5, ne_l8, ne_l12, ne_l31, ne_l48, ne_l57, ne_l97, ne_l99, ne_l122, ne_l255, ne_l673, ne_l1073741823, ne_l1073741824, xq_full, np_full]
          exact ⟨_, _, _, rfl, rfl, R_full hR⟩
      · refine fin ?_ ?_
        · rw [show px_L_within N X v3 (12 : Int32) = _ from e1, sm_b2s, if_pos z0]
          simp (disch := omega) only [sm_lt, sm_b1s, sm_b2s, ↓reduceIte, sm_in_nI, nI_clamp, nI_add, pk_mul, pk_sub, ne_addneg, nI_l, ne_ltT, ne_ltF, ne_leT, ne_leF, ne_eqT, ne_eqF, ne_sI1s, ne_sI1n, ne_sI2, ne_sI3, ne_sL1, ne_sL2s, ne_sL2n, ne_sL3, pk_us, pk_un, pk_uLs, pk_uLn, mm_Z, mm_L, mm_1, mm_2, mm_3, ne_rz0, ne_rz1, not_true_eq_false, not_false_eq_true, ne_i0, ne_i1, ne_i2, ne_i3, ne_i4, ne_i5, ne_i6, ne_i7, ne_i8, ne_i9, ne_i10, ne_i12, ne_i14, ne_i16, ne_i18, ne_i19, ne_i20, ne_i23, ne_i24, ne_i27, ne_i29, ne_i30, ne_i31, ne_i32, ne_i35, ne_i48, ne_i52, ne_i54, ne_i57, ne_i59, ne_i63, ne_i64, ne_i76, ne_i77, ne_i78, ne_i79, ne_i80, ne_i81, ne_i97, ne_i99, ne_i100, ne_i101, ne_i104, ne_i105, ne_i108, ne_i110, ne_i111, ne_i116, ne_i117, ne_i122, ne_i103, ne_i200, ne_i255, ne_i256, ne_i320, ne_i384, ne_i1000, ne_l0, ne_l1, ne_l2, ne_l3, ne_l4, ne_l5, ne_l8, ne_l12, ne_l31, ne_l48, ne_l57, ne_l97, ne_l99, ne_l122, ne_l255, ne_l673, ne_l1073741823, ne_l1073741824, xq_bad]
        · rw [show pm_in N S v3.toInt64 (0 : Int64) (12 : Int64) = _ from e2, sm_b2s, if_pos z0]
          simp (disch := omega) only [sm_lt, sm_b1s, sm_b2s, ↓reduceIte, sm_in_nI, nI_clamp, nI_add, pk_mul, pk_sub, ne_addneg, nI_l, ne_ltT, ne_ltF, ne_leT, ne_leF, ne_eqT, ne_eqF, ne_sI1s, ne_sI1n, ne_sI2, ne_sI3, ne_sL1, ne_sL2s, ne_sL2n, ne_sL3, pk_us, pk_un, pk_uLs, pk_uLn, mm_Z, mm_L, mm_1, mm_2, mm_3, ne_rz0, ne_rz1, not_true_eq_false, not_false_eq_true, ne_i0, ne_i1, ne_i2, ne_i3, ne_i4, ne_i5, ne_i6, ne_i7, ne_i8, ne_i9, ne_i10, ne_i12, ne_i14, ne_i16, ne_i18, ne_i19, ne_i20, ne_i23, ne_i24, ne_i27, ne_i29, ne_i30, ne_i31, ne_i32, ne_i35, ne_i48, ne_i52, ne_i54, ne_i57, ne_i59, ne_i63, ne_i64, ne_i76, ne_i77, ne_i78, ne_i79, ne_i80, ne_i81, ne_i97, ne_i99, ne_i100, ne_i101, ne_i104, ne_i105, ne_i108, ne_i110, ne_i111, ne_i116, ne_i117, ne_i122, ne_i103, ne_i200, ne_i255, ne_i256, ne_i320, ne_i384, ne_i1000, ne_l0, ne_l1, ne_l2, ne_l3, ne_l4, ne_l5, ne_l8, ne_l12, ne_l31, ne_l48, ne_l57, ne_l97, ne_l99, ne_l122, ne_l255, ne_l673, ne_l1073741823, ne_l1073741824, np_bad]
    · refine fin ?_ ?_
      · rw [show px_L_within N X v2 (3 : Int32) = _ from e1, sm_b2s, if_pos z0]
        simp (disch := omega) only [sm_lt, sm_b1s, sm_b2s, ↓reduceIte, sm_in_nI, nI_clamp, nI_add, pk_mul, pk_sub, ne_addneg, nI_l, ne_ltT, ne_ltF, ne_leT, ne_leF, ne_eqT, ne_eqF, ne_sI1s, ne_sI1n, ne_sI2, ne_sI3, ne_sL1, ne_sL2s, ne_sL2n, ne_sL3, pk_us, pk_un, pk_uLs, pk_uLn, mm_Z, mm_L, mm_1, mm_2, mm_3, ne_rz0, ne_rz1, not_true_eq_false, not_false_eq_true, ne_i0, ne_i1, ne_i2, ne_i3, ne_i4, ne_i5, ne_i6, ne_i7, ne_i8, ne_i9, ne_i10, ne_i12, ne_i14, ne_i16, ne_i18, ne_i19, ne_i20, ne_i23, ne_i24, ne_i27, ne_i29, ne_i30, ne_i31, ne_i32, ne_i35, ne_i48, ne_i52, ne_i54, ne_i57, ne_i59, ne_i63, ne_i64, ne_i76, ne_i77, ne_i78, ne_i79, ne_i80, ne_i81, ne_i97, ne_i99, ne_i100, ne_i101, ne_i104, ne_i105, ne_i108, ne_i110, ne_i111, ne_i116, ne_i117, ne_i122, ne_i103, ne_i200, ne_i255, ne_i256, ne_i320, ne_i384, ne_i1000, ne_l0, ne_l1, ne_l2, ne_l3, ne_l4, ne_l5, ne_l8, ne_l12, ne_l31, ne_l48, ne_l57, ne_l97, ne_l99, ne_l122, ne_l255, ne_l673, ne_l1073741823, ne_l1073741824, xq_bad]
      · rw [show pm_in N S v2.toInt64 (0 : Int64) (3 : Int64) = _ from e2, sm_b2s, if_pos z0]
        simp (disch := omega) only [sm_lt, sm_b1s, sm_b2s, ↓reduceIte, sm_in_nI, nI_clamp, nI_add, pk_mul, pk_sub, ne_addneg, nI_l, ne_ltT, ne_ltF, ne_leT, ne_leF, ne_eqT, ne_eqF, ne_sI1s, ne_sI1n, ne_sI2, ne_sI3, ne_sL1, ne_sL2s, ne_sL2n, ne_sL3, pk_us, pk_un, pk_uLs, pk_uLn, mm_Z, mm_L, mm_1, mm_2, mm_3, ne_rz0, ne_rz1, not_true_eq_false, not_false_eq_true, ne_i0, ne_i1, ne_i2, ne_i3, ne_i4, ne_i5, ne_i6, ne_i7, ne_i8, ne_i9, ne_i10, ne_i12, ne_i14, ne_i16, ne_i18, ne_i19, ne_i20, ne_i23, ne_i24, ne_i27, ne_i29, ne_i30, ne_i31, ne_i32, ne_i35, ne_i48, ne_i52, ne_i54, ne_i57, ne_i59, ne_i63, ne_i64, ne_i76, ne_i77, ne_i78, ne_i79, ne_i80, ne_i81, ne_i97, ne_i99, ne_i100, ne_i101, ne_i104, ne_i105, ne_i108, ne_i110, ne_i111, ne_i116, ne_i117, ne_i122, ne_i103, ne_i200, ne_i255, ne_i256, ne_i320, ne_i384, ne_i1000, ne_l0, ne_l1, ne_l2, ne_l3, ne_l4, ne_l5, ne_l8, ne_l12, ne_l31, ne_l48, ne_l57, ne_l97, ne_l99, ne_l122, ne_l255, ne_l673, ne_l1073741823, ne_l1073741824, np_bad]
  · refine fin ?_ ?_
    · rw [show px_L_within N X v1 (4 : Int32) = _ from e1, sm_b2s, if_pos z0]
      simp (disch := omega) only [sm_lt, sm_b1s, sm_b2s, ↓reduceIte, sm_in_nI, nI_clamp, nI_add, pk_mul, pk_sub, ne_addneg, nI_l, ne_ltT, ne_ltF, ne_leT, ne_leF, ne_eqT, ne_eqF, ne_sI1s, ne_sI1n, ne_sI2, ne_sI3, ne_sL1, ne_sL2s, ne_sL2n, ne_sL3, pk_us, pk_un, pk_uLs, pk_uLn, mm_Z, mm_L, mm_1, mm_2, mm_3, ne_rz0, ne_rz1, not_true_eq_false, not_false_eq_true, ne_i0, ne_i1, ne_i2, ne_i3, ne_i4, ne_i5, ne_i6, ne_i7, ne_i8, ne_i9, ne_i10, ne_i12, ne_i14, ne_i16, ne_i18, ne_i19, ne_i20, ne_i23, ne_i24, ne_i27, ne_i29, ne_i30, ne_i31, ne_i32, ne_i35, ne_i48, ne_i52, ne_i54, ne_i57, ne_i59, ne_i63, ne_i64, ne_i76, ne_i77, ne_i78, ne_i79, ne_i80, ne_i81, ne_i97, ne_i99, ne_i100, ne_i101, ne_i104, ne_i105, ne_i108, ne_i110, ne_i111, ne_i116, ne_i117, ne_i122, ne_i103, ne_i200, ne_i255, ne_i256, ne_i320, ne_i384, ne_i1000, ne_l0, ne_l1, ne_l2, ne_l3, ne_l4, ne_l5, ne_l8, ne_l12, ne_l31, ne_l48, ne_l57, ne_l97, ne_l99, ne_l122, ne_l255, ne_l673, ne_l1073741823, ne_l1073741824, xq_bad]
    · rw [show pm_in N S v1.toInt64 (0 : Int64) (4 : Int64) = _ from e2, sm_b2s, if_pos z0]
      simp (disch := omega) only [sm_lt, sm_b1s, sm_b2s, ↓reduceIte, sm_in_nI, nI_clamp, nI_add, pk_mul, pk_sub, ne_addneg, nI_l, ne_ltT, ne_ltF, ne_leT, ne_leF, ne_eqT, ne_eqF, ne_sI1s, ne_sI1n, ne_sI2, ne_sI3, ne_sL1, ne_sL2s, ne_sL2n, ne_sL3, pk_us, pk_un, pk_uLs, pk_uLn, mm_Z, mm_L, mm_1, mm_2, mm_3, ne_rz0, ne_rz1, not_true_eq_false, not_false_eq_true, ne_i0, ne_i1, ne_i2, ne_i3, ne_i4, ne_i5, ne_i6, ne_i7, ne_i8, ne_i9, ne_i10, ne_i12, ne_i14, ne_i16, ne_i18, ne_i19, ne_i20, ne_i23, ne_i24, ne_i27, ne_i29, ne_i30, ne_i31, ne_i32, ne_i35, ne_i48, ne_i52, ne_i54, ne_i57, ne_i59, ne_i63, ne_i64, ne_i76, ne_i77, ne_i78, ne_i79, ne_i80, ne_i81, ne_i97, ne_i99, ne_i100, ne_i101, ne_i104, ne_i105, ne_i108, ne_i110, ne_i111, ne_i116, ne_i117, ne_i122, ne_i103, ne_i200, ne_i255, ne_i256, ne_i320, ne_i384, ne_i1000, ne_l0, ne_l1, ne_l2, ne_l3, ne_l4, ne_l5, ne_l8, ne_l12, ne_l31, ne_l48, ne_l57, ne_l97, ne_l99, ne_l122, ne_l255, ne_l673, ne_l1073741823, ne_l1073741824, np_bad]
end
