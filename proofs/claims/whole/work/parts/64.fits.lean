section
variable {N : Nat} {X S : sm_St} {a b v ik tx : Nat → Nat} {len : Nat}
/-- hours of a chest laid in the order o, behind k neighbours -/
def sp_hc (o : Nat → Nat) : Nat → Nat → Nat
  | 0 => fun _ => 0
  | k + 1 => sp_ph (sp_hc o k) (o k) (o (k + 1)) 3
theorem sp_hc_le {o : Nat → Nat} : ∀ k z, sp_hc o k z ≤ 3
  | 0, _ => Nat.zero_le _
  | k + 1, z => sp_ph_le (sp_hc_le k) (Nat.le_refl _) z
/-- the first cloths are within their bounds -/
def sp_ft (a w : Nat → Nat) : Nat → Bool
  | 0 => true
  | c + 1 => sp_ft a w c && (decide (w 4 * a (4 * c + 2) ≤ w c) && decide (w c ≤ w 4 * a (4 * c + 3)))
theorem sp_ft_no {a w : Nat → Nat} {c : Nat} (h : sp_ft a w c = false) : ∀ d, sp_ft a w (c + d) = false
  | 0 => h
  | d + 1 => by rw [← Nat.add_assoc, sp_ft, sp_ft_no h d, Bool.false_and]
theorem sc_hc {o : Nat → Nat} {t co : Nat → Nat} {k : Nat} (h : sc a t co) : sc a (sp_hc o k) co := ⟨h.1, h.2.1, h.2.2.1, fun c x _ _ => sp_hc_le k _, h.2.2.2.2⟩
theorem xq_zero (hN : 4000 ≤ N) : ∃ X', px_Chest_fits_b2 N 1 N (nI 0) X = px_Chest_fits_b41 N 1 N (nI 1) X' ∧ hrw X' 139 (fun _ => 0) ∧ (∀ p, p < 140 ∨ 144 ≤ p → X'.1 p = X.1 p) ∧ X'.2 = X.2 := by
  refine ne_loop (fun f i (s : sm_St) => px_Chest_fits_b2 N 1 f (nI i) s) (fun i s => (∀ r z, r < i → z < 8 → s.1 (140 + r) z = nI 0) ∧ (∀ p, p < 140 ∨ 144 ≤ p → s.1 p = X.1 p) ∧ s.2 = X.2) 4 (fun o => ∃ X', o = px_Chest_fits_b41 N 1 N (nI 1) X' ∧ hrw X' 139 (fun _ => 0) ∧ (∀ p, p < 140 ∨ 144 ≤ p → X'.1 p = X.1 p) ∧ X'.2 = X.2) ?_ ?_ N 0 X (by omega) (by omega) ⟨fun r z h _ => by omega, fun p _ => rfl, rfl⟩
  · intro f i s hi hI
    left
    have inner : ∃ s', px_Chest_fits_b10 N 1 (px_Chest_fits_b2 N 1 f) N (nI i) (nI 0) s = px_Chest_fits_b2 N 1 f (nI (i + 1)) s' ∧ ((∀ r z, r < i → z < 8 → s'.1 (140 + r) z = nI 0) ∧ (∀ p, p < 140 ∨ 144 ≤ p → s'.1 p = X.1 p) ∧ s'.2 = X.2) ∧ ∀ z, z < 8 → s'.1 (140 + i) z = nI 0 := by
      refine ne_loop (fun f' z (s : sm_St) => px_Chest_fits_b10 N 1 (px_Chest_fits_b2 N 1 f) f' (nI i) (nI z) s) (fun k s' => ((∀ r z, r < i → z < 8 → s'.1 (140 + r) z = nI 0) ∧ (∀ p, p < 140 ∨ 144 ≤ p → s'.1 p = X.1 p) ∧ s'.2 = X.2) ∧ ∀ z, z < k → s'.1 (140 + i) z = nI 0) 8 (fun o => ∃ s', o = px_Chest_fits_b2 N 1 f (nI (i + 1)) s' ∧ ((∀ r z, r < i → z < 8 → s'.1 (140 + r) z = nI 0) ∧ (∀ p, p < 140 ∨ 144 ≤ p → s'.1 p = X.1 p) ∧ s'.2 = X.2) ∧ ∀ z, z < 8 → s'.1 (140 + i) z = nI 0) ?_ ?_ N 0 s (by omega) (by omega) ⟨hI, fun z h => by omega⟩
      · intro f' k s hk hI
        left
        obtain ⟨⟨i1, i2, i3⟩, i4⟩ := hI
        refine ⟨sm_sI s (140 + i) k (nI 0), ⟨⟨fun r z hr hz => by rw [ne_sI1n (by omega)]; exact i1 r z hr hz, fun p hp => by rw [ne_sI1n (by omega)]; exact i2 p hp, i3⟩, fun z hz => ?_⟩, ?_⟩
        · rw [ne_sI1s]
          by_cases e : z = k
          · subst e
            exact pk_us
          · rw [pk_un e]
            exact i4 z (by omega)
        · show px_Chest_fits_b10 N 1 _ (f' + 1) _ _ _ = px_Chest_fits_b10 N 1 _ f' _ _ _
          rw [px_Chest_fits_b10]
          simp (disch := omega) only [sm_lt, sm_b1s, sm_b2s, ↓reduceIte, sm_in_nI, nI_clamp, nI_add, pk_mul, pk_sub, ne_addneg, nI_l, ne_ltT, ne_ltF, ne_leT, ne_leF, ne_eqT, ne_eqF, ne_sI1s, ne_sI1n, ne_sI2, ne_sI3, ne_sL1, ne_sL2s, ne_sL2n, ne_sL3, pk_us, pk_un, pk_uLs, pk_uLn, mm_Z, mm_L, mm_1, mm_2, mm_3, ne_rz0, ne_rz1, not_true_eq_false, not_false_eq_true, ne_i0, ne_i1, ne_i2, ne_i3, ne_i4, ne_i5, ne_i6, ne_i7, ne_i8, ne_i9, ne_i10, ne_i12, ne_i14, ne_i16, ne_i18, ne_i19, ne_i20, ne_i23, ne_i24, ne_i27, ne_i29, ne_i30, ne_i31, ne_i32, ne_i35, ne_i48, ne_i52, ne_i54, ne_i57, ne_i59, ne_i63, ne_i64, ne_i76, ne_i77, ne_i78, ne_i79, ne_i80, ne_i81, ne_i97, ne_i99, ne_i100, ne_i101, ne_i104, ne_i105, ne_i108, ne_i110, ne_i111, ne_i116, ne_i117, ne_i122, ne_i103, ne_i200, ne_i255, ne_i256, ne_i320, ne_i384, ne_i1000, ne_l0, ne_l1, ne_l2, ne_l3, ne_l4, ne_l5, ne_l8, ne_l12, ne_l31, ne_l48, ne_l57, ne_l97, ne_l99, ne_l122, ne_l255, ne_l673, ne_l1073741823, ne_l1073741824]
      · intro f' s hI
        show ∃ s', px_Chest_fits_b10 N 1 _ (f' + 1) _ _ _ = _ ∧ _
        rw [px_Chest_fits_b10]
        refine ⟨s, ?_, hI.1, hI.2⟩
        simp (disch := omega) only [sm_lt, sm_b1s, sm_b2s, ↓reduceIte, sm_in_nI, nI_clamp, nI_add, pk_mul, pk_sub, ne_addneg, nI_l, ne_ltT, ne_ltF, ne_leT, ne_leF, ne_eqT, ne_eqF, ne_sI1s, ne_sI1n, ne_sI2, ne_sI3, ne_sL1, ne_sL2s, ne_sL2n, ne_sL3, pk_us, pk_un, pk_uLs, pk_uLn, mm_Z, mm_L, mm_1, mm_2, mm_3, ne_rz0, ne_rz1, not_true_eq_false, not_false_eq_true, ne_i0, ne_i1, ne_i2, ne_i3, ne_i4, ne_i5, ne_i6, ne_i7, ne_i8, ne_i9, ne_i10, ne_i12, ne_i14, ne_i16, ne_i18, ne_i19, ne_i20, ne_i23, ne_i24, ne_i27, ne_i29, ne_i30, ne_i31, ne_i32, ne_i35, ne_i48, ne_i52, ne_i54, ne_i57, ne_i59, ne_i63, ne_i64, ne_i76, ne_i77, ne_i78, ne_i79, ne_i80, ne_i81, ne_i97, ne_i99, ne_i100, ne_i101, ne_i104, ne_i105, ne_i108, ne_i110, ne_i111, ne_i116, ne_i117, ne_i122, ne_i103, ne_i200, ne_i255, ne_i256, ne_i320, ne_i384, ne_i1000, ne_l0, ne_l1, ne_l2, ne_l3, ne_l4, ne_l5, ne_l8, ne_l12, ne_l31, ne_l48, ne_l57, ne_l97, ne_l99, ne_l122, ne_l255, ne_l673, ne_l1073741823, ne_l1073741824]
    obtain ⟨s', e, ⟨j1, j2, j3⟩, j4⟩ := inner
    refine ⟨s', ⟨fun r z hr hz => ?_, j2, j3⟩, ?_⟩
    · by_cases q : r = i
      · subst q
        exact j4 z hz
      · exact j1 r z (by omega) hz
    · show px_Chest_fits_b2 N 1 (f + 1) _ _ = px_Chest_fits_b2 N 1 f _ _
      rw [px_Chest_fits_b2]
      simp (disch := omega) only [sm_lt, sm_b1s, sm_b2s, ↓reduceIte, sm_in_nI, nI_clamp, nI_add, pk_mul, pk_sub, ne_addneg, nI_l, ne_ltT, ne_ltF, ne_leT, ne_leF, ne_eqT, ne_eqF, ne_sI1s, ne_sI1n, ne_sI2, ne_sI3, ne_sL1, ne_sL2s, ne_sL2n, ne_sL3, pk_us, pk_un, pk_uLs, pk_uLn, mm_Z, mm_L, mm_1, mm_2, mm_3, ne_rz0, ne_rz1, not_true_eq_false, not_false_eq_true, ne_i0, ne_i1, ne_i2, ne_i3, ne_i4, ne_i5, ne_i6, ne_i7, ne_i8, ne_i9, ne_i10, ne_i12, ne_i14, ne_i16, ne_i18, ne_i19, ne_i20, ne_i23, ne_i24, ne_i27, ne_i29, ne_i30, ne_i31, ne_i32, ne_i35, ne_i48, ne_i52, ne_i54, ne_i57, ne_i59, ne_i63, ne_i64, ne_i76, ne_i77, ne_i78, ne_i79, ne_i80, ne_i81, ne_i97, ne_i99, ne_i100, ne_i101, ne_i104, ne_i105, ne_i108, ne_i110, ne_i111, ne_i116, ne_i117, ne_i122, ne_i103, ne_i200, ne_i255, ne_i256, ne_i320, ne_i384, ne_i1000, ne_l0, ne_l1, ne_l2, ne_l3, ne_l4, ne_l5, ne_l8, ne_l12, ne_l31, ne_l48, ne_l57, ne_l97, ne_l99, ne_l122, ne_l255, ne_l673, ne_l1073741823, ne_l1073741824, e]
  · rintro f s ⟨i1, i2, i3⟩
    show ∃ X', px_Chest_fits_b2 N 1 (f + 1) _ _ = _ ∧ _
    rw [px_Chest_fits_b2]
    refine ⟨s, ?_, fun i z hi hz => ?_, i2, i3⟩
    · simp (disch := omega) only [sm_lt, sm_b1s, sm_b2s, ↓reduceIte, sm_in_nI, nI_clamp, nI_add, pk_mul, pk_sub, ne_addneg, nI_l, ne_ltT, ne_ltF, ne_leT, ne_leF, ne_eqT, ne_eqF, ne_sI1s, ne_sI1n, ne_sI2, ne_sI3, ne_sL1, ne_sL2s, ne_sL2n, ne_sL3, pk_us, pk_un, pk_uLs, pk_uLn, mm_Z, mm_L, mm_1, mm_2, mm_3, ne_rz0, ne_rz1, not_true_eq_false, not_false_eq_true, ne_i0, ne_i1, ne_i2, ne_i3, ne_i4, ne_i5, ne_i6, ne_i7, ne_i8, ne_i9, ne_i10, ne_i12, ne_i14, ne_i16, ne_i18, ne_i19, ne_i20, ne_i23, ne_i24, ne_i27, ne_i29, ne_i30, ne_i31, ne_i32, ne_i35, ne_i48, ne_i52, ne_i54, ne_i57, ne_i59, ne_i63, ne_i64, ne_i76, ne_i77, ne_i78, ne_i79, ne_i80, ne_i81, ne_i97, ne_i99, ne_i100, ne_i101, ne_i104, ne_i105, ne_i108, ne_i110, ne_i111, ne_i116, ne_i117, ne_i122, ne_i103, ne_i200, ne_i255, ne_i256, ne_i320, ne_i384, ne_i1000, ne_l0, ne_l1, ne_l2, ne_l3, ne_l4, ne_l5, ne_l8, ne_l12, ne_l31, ne_l48, ne_l57, ne_l97, ne_l99, ne_l122, ne_l255, ne_l673, ne_l1073741823, ne_l1073741824]
    · rw [show 139 + 1 + i = 140 + i by omega]
      exact i1 i z hi hz
/-- does this order fit? the built side -/
theorem xq_fits {o : Nat → Nat} (hN : 4000 ≤ N) (hok : sp_ok a) (hx0 : xhd X a (at_ a) (ac_ a) 7 6) (hnow : xsh X 12 (a 76) (wn v)) (hwv : wv1 a (wn v) (a 78)) (hlm : ∀ c, c < a 76 → X.1 4 c = nI (a (4 * c + 2)) ∧ X.1 5 c = nI (a (4 * c + 3))) (ho : ∀ i, i < a 76 → o i < a 76 ∧ X.1 144 i = nI (o i)) : ∃ X', px_Chest_fits N X 1 = some (nI (sp_b (sp_ft a (sp_ns a (sp_hc o (a 76 - 1)) (ac_ a) (wn v) 1) (a 76))), X') ∧ (∀ p, p < 110 ∨ 126 ≤ p ∧ p < 140 ∨ 144 ≤ p → X'.1 p = X.1 p) ∧ X'.2.2 = X.2.2 := by
  have hs := sp_ok_sc hok
  obtain ⟨o1, o2, o3, o4, o5, o6, o7, o8, o9, o10⟩ := hok
  obtain ⟨Xz, ez, hz, fz, gz⟩ := xq_zero (N := N) (X := X) hN
  have z144 : (zx_sh 144).2 = 4 := rfl
  have hsc : sc a (sp_hc o (a 76 - 1)) (ac_ a) := sc_hc hs
  -- behind the neighbours
  have p3 : ∀ s, hrw s 139 (sp_hc o (a 76 - 1)) → (∀ p, p < 140 ∨ 144 ≤ p → s.1 p = X.1 p) → s.2 = X.2 → ∀ f, ∃ X', px_Chest_fits_b41 N 1 (f + 1) (nI (a 76 - 1 + 1)) s = some (nI (sp_b (sp_ft a (sp_ns a (sp_hc o (a 76 - 1)) (ac_ a) (wn v) 1) (a 76))), X') ∧ (∀ p, p < 110 ∨ 126 ≤ p ∧ p < 140 ∨ 144 ≤ p → X'.1 p = X.1 p) ∧ X'.2.2 = X.2.2 := by
    intro s j1 j2 j3 f
    have hx1 : xhd s a (sp_hc o (a 76 - 1)) (ac_ a) 139 6 := by
      obtain ⟨k1, k2, k3, k4, k5⟩ := hx0
      refine ⟨by rw [j2 1 (by decide)]; exact k1, by rw [j2 1 (by decide)]; exact k2, fun i hi => ?_, fun i x hi hx => j1 i x (by omega) hx, fun x hx => by rw [j2 6 (by decide)]; exact k5 x hx⟩
      rw [j2 2 (by decide), j2 3 (by decide)]
      exact k3 i hi
    obtain ⟨X1, e1, t1, f1, g1⟩ := xq_reckon (N := N) hN hsc ⟨Or.inr (Or.inr rfl), Or.inl rfl⟩ hx1
    have n1 : xsh X1 12 (a 76) (wn v) := xsh_fr (by rw [f1 12 (by decide), j2 12 (by decide)]) (by rw [f1 13 (by decide), j2 13 (by decide)]) hnow
    obtain ⟨q, X2, e2, x2, xq2, f2, g2⟩ := xq_behind (N := N) (n := 1) (m := a 78) hN hsc t1 n1 hwv.1 hwv.2.2.2 (by omega) (Or.inl rfl)
    have e1' : px_Takings_reckon N s 1 139 (1 + 5) = some X1 := e1
    have e2' : px_Takings_behind N X1 (1 + 11) (nI 1) = some (q, X2) := e2
    have fX : ∀ p, p < 110 ∨ 126 ≤ p ∧ p < 140 ∨ 144 ≤ p → X2.1 p = X.1 p := fun p hp => by rw [f2 p (by omega), f1 p (by omega), j2 p (by omega)]
    have c9 : s.1 1 9 = nI (a 76) := hx1.1
    have c9' : X2.1 1 9 = nI (a 76) := by rw [fX 1 (by decide)]; exact hx0.1
    -- the bounds
    have fin : px_Chest_fits_b103 N 1 N q (nI 0) X2 = some (nI (sp_b (sp_ft a (sp_ns a (sp_hc o (a 76 - 1)) (ac_ a) (wn v) 1) (a 76))), X2) := by
      refine ne_loop (fun f c (_ : Unit) => px_Chest_fits_b103 N 1 f q (nI c) X2) (fun c _ => sp_ft a (sp_ns a (sp_hc o (a 76 - 1)) (ac_ a) (wn v) 1) c = true) (a 76) (fun r => r = some (nI (sp_b (sp_ft a (sp_ns a (sp_hc o (a 76 - 1)) (ac_ a) (wn v) 1) (a 76))), X2)) ?_ ?_ N 0 () (by omega) (by omega) rfl
      · intro f c _ hc hI
        have up : sp_ft a (sp_ns a (sp_hc o (a 76 - 1)) (ac_ a) (wn v) 1) (c + 1) = false → sp_ft a (sp_ns a (sp_hc o (a 76 - 1)) (ac_ a) (wn v) 1) (a 76) = false := fun q => by
          have := sp_ft_no q (a 76 - (c + 1))
          rwa [show c + 1 + (a 76 - (c + 1)) = a 76 by omega] at this
        obtain ⟨b1, b2, b3, b4⟩ := o7 c hc
        have l1 := (hlm c hc).1
        have l2 := (hlm c hc).2
        have l1' : X2.1 (1 + 3) c = nI (a (4 * c + 2)) := by rw [fX (1 + 3) (by decide)]; exact l1
        have l2' : X2.1 (1 + 4) c = nI (a (4 * c + 3)) := by rw [fX (1 + 4) (by decide)]; exact l2
        have el := xsh_least (N := N) hN x2 o1 hc b3
        have em := xsh_most (N := N) hN x2 o1 hc b4
        show (∃ s', _ ∧ px_Chest_fits_b103 N 1 (f + 1) _ _ _ = _) ∨ px_Chest_fits_b103 N 1 (f + 1) _ _ _ = _
        rw [px_Chest_fits_b103]
        rw [sp_ft, hI, Bool.true_and] at up
        rw [sp_ft, hI, Bool.true_and]
        by_cases d1 : sp_ns a (sp_hc o (a 76 - 1)) (ac_ a) (wn v) 1 4 * a (4 * c + 2) ≤ sp_ns a (sp_hc o (a 76 - 1)) (ac_ a) (wn v) 1 c
        · rw [if_pos d1] at el
          by_cases d2 : sp_ns a (sp_hc o (a 76 - 1)) (ac_ a) (wn v) 1 c ≤ sp_ns a (sp_hc o (a 76 - 1)) (ac_ a) (wn v) 1 4 * a (4 * c + 3)
          · rw [if_pos d2] at em
            left
            refine ⟨(), by rw [decide_eq_true d1, decide_eq_true d2]; rfl, ?_⟩
            simp (disch := omega) only [sm_lt, sm_b1s, sm_b2s, ↓reduceIte, sm_in_nI, nI_clamp, nI_add, pk_mul, pk_sub, ne_addneg, nI_l, ne_ltT, ne_ltF, ne_leT, ne_leF, ne_eqT, ne_eqF, ne_sI1s, ne_sI1n, ne_sI2, ne_sI3, ne_sL1, ne_sL2s, ne_sL2n, ne_sL3, pk_us, pk_un, pk_uLs, pk_uLn, mm_Z, mm_L, mm_1, mm_2, mm_3, ne_rz0, ne_rz1, not_true_eq_false, not_false_eq_true, ne_i0, ne_i1, ne_i2, ne_i3, ne_i4, ne_i5, ne_i6, ne_i7, ne_i8, ne_i9, ne_i10, ne_i12, ne_i14, ne_i16, ne_i18, ne_i19, ne_i20, ne_i23, ne_i24, ne_i27, ne_i29, ne_i30, ne_i31, ne_i32, ne_i35, ne_i48, ne_i52, ne_i54, ne_i57, ne_i59, ne_i63, ne_i64, ne_i76, ne_i77, ne_i78, ne_i79, ne_i80, ne_i81, ne_i97, ne_i99, ne_i100, ne_i101, ne_i104, ne_i105, ne_i108, ne_i110, ne_i111, ne_i116, ne_i117, ne_i122, ne_i103, ne_i200, ne_i255, ne_i256, ne_i320, ne_i384, ne_i1000, ne_l0, ne_l1, ne_l2, ne_l3, ne_l4, ne_l5, ne_l8, ne_l12, ne_l31, ne_l48, ne_l57, ne_l97, ne_l99, ne_l122, ne_l255, ne_l673, ne_l1073741823, ne_l1073741824, c9', l1', l2', el, em]
          · rw [if_neg d2] at em
            right
            rw [up (by rw [decide_eq_false d2, Bool.and_false])]
            have e0 : sp_b false = 0 := rfl
            rw [e0]
            simp (disch := omega) only [sm_lt, sm_b1s, sm_b2s, ↓reduceIte, sm_in_nI, nI_clamp, nI_add, pk_mul, pk_sub, ne_addneg, nI_l, ne_ltT, ne_ltF, ne_leT, ne_leF, ne_eqT, ne_eqF, ne_sI1s, ne_sI1n, ne_sI2, ne_sI3, ne_sL1, ne_sL2s, ne_sL2n, ne_sL3, pk_us, pk_un, pk_uLs, pk_uLn, mm_Z, mm_L, mm_1, mm_2, mm_3, ne_rz0, ne_rz1, not_true_eq_false, not_false_eq_true, ne_i0, ne_i1, ne_i2, ne_i3, ne_i4, ne_i5, ne_i6, ne_i7, ne_i8, ne_i9, ne_i10, ne_i12, ne_i14, ne_i16, ne_i18, ne_i19, ne_i20, ne_i23, ne_i24, ne_i27, ne_i29, ne_i30, ne_i31, ne_i32, ne_i35, ne_i48, ne_i52, ne_i54, ne_i57, ne_i59, ne_i63, ne_i64, ne_i76, ne_i77, ne_i78, ne_i79, ne_i80, ne_i81, ne_i97, ne_i99, ne_i100, ne_i101, ne_i104, ne_i105, ne_i108, ne_i110, ne_i111, ne_i116, ne_i117, ne_i122, ne_i103, ne_i200, ne_i255, ne_i256, ne_i320, ne_i384, ne_i1000, ne_l0, ne_l1, ne_l2, ne_l3, ne_l4, ne_l5, ne_l8, ne_l12, ne_l31, ne_l48, ne_l57, ne_l97, ne_l99, ne_l122, ne_l255, ne_l673, ne_l1073741823, ne_l1073741824, c9', l1', l2', el, em]
        · rw [if_neg d1] at el
          right
          rw [up (by rw [decide_eq_false d1, Bool.false_and])]
          have e0 : sp_b false = 0 := rfl
          rw [e0]
          simp (disch := omega) only [sm_lt, sm_b1s, sm_b2s, ↓reduceIte, sm_in_nI, nI_clamp, nI_add, pk_mul, pk_sub, ne_addneg, nI_l, ne_ltT, ne_ltF, ne_leT, ne_leF, ne_eqT, ne_eqF, ne_sI1s, ne_sI1n, ne_sI2, ne_sI3, ne_sL1, ne_sL2s, ne_sL2n, ne_sL3, pk_us, pk_un, pk_uLs, pk_uLn, mm_Z, mm_L, mm_1, mm_2, mm_3, ne_rz0, ne_rz1, not_true_eq_false, not_false_eq_true, ne_i0, ne_i1, ne_i2, ne_i3, ne_i4, ne_i5, ne_i6, ne_i7, ne_i8, ne_i9, ne_i10, ne_i12, ne_i14, ne_i16, ne_i18, ne_i19, ne_i20, ne_i23, ne_i24, ne_i27, ne_i29, ne_i30, ne_i31, ne_i32, ne_i35, ne_i48, ne_i52, ne_i54, ne_i57, ne_i59, ne_i63, ne_i64, ne_i76, ne_i77, ne_i78, ne_i79, ne_i80, ne_i81, ne_i97, ne_i99, ne_i100, ne_i101, ne_i104, ne_i105, ne_i108, ne_i110, ne_i111, ne_i116, ne_i117, ne_i122, ne_i103, ne_i200, ne_i255, ne_i256, ne_i320, ne_i384, ne_i1000, ne_l0, ne_l1, ne_l2, ne_l3, ne_l4, ne_l5, ne_l8, ne_l12, ne_l31, ne_l48, ne_l57, ne_l97, ne_l99, ne_l122, ne_l255, ne_l673, ne_l1073741823, ne_l1073741824, c9', l1', l2', el]
      · intro f _ hI
        show px_Chest_fits_b103 N 1 (f + 1) _ _ _ = _
        have e1 : sp_b true = 1 := rfl
        rw [hI, e1, px_Chest_fits_b103]
        simp (disch := omega) only [sm_lt, sm_b1s, sm_b2s, ↓reduceIte, sm_in_nI, nI_clamp, nI_add, pk_mul, pk_sub, ne_addneg, nI_l, ne_ltT, ne_ltF, ne_leT, ne_leF, ne_eqT, ne_eqF, ne_sI1s, ne_sI1n, ne_sI2, ne_sI3, ne_sL1, ne_sL2s, ne_sL2n, ne_sL3, pk_us, pk_un, pk_uLs, pk_uLn, mm_Z, mm_L, mm_1, mm_2, mm_3, ne_rz0, ne_rz1, not_true_eq_false, not_false_eq_true, ne_i0, ne_i1, ne_i2, ne_i3, ne_i4, ne_i5, ne_i6, ne_i7, ne_i8, ne_i9, ne_i10, ne_i12, ne_i14, ne_i16, ne_i18, ne_i19, ne_i20, ne_i23, ne_i24, ne_i27, ne_i29, ne_i30, ne_i31, ne_i32, ne_i35, ne_i48, ne_i52, ne_i54, ne_i57, ne_i59, ne_i63, ne_i64, ne_i76, ne_i77, ne_i78, ne_i79, ne_i80, ne_i81, ne_i97, ne_i99, ne_i100, ne_i101, ne_i104, ne_i105, ne_i108, ne_i110, ne_i111, ne_i116, ne_i117, ne_i122, ne_i103, ne_i200, ne_i255, ne_i256, ne_i320, ne_i384, ne_i1000, ne_l0, ne_l1, ne_l2, ne_l3, ne_l4, ne_l5, ne_l8, ne_l12, ne_l31, ne_l48, ne_l57, ne_l97, ne_l99, ne_l122, ne_l255, ne_l673, ne_l1073741823, ne_l1073741824, c9']
    refine ⟨X2, ?_, fX, by rw [g2, g1, j3]⟩
    rw [px_Chest_fits_b41]
    simp (disch := omega) only [sm_lt, sm_b1s, sm_b2s, ↓reduceIte, sm_in_nI, nI_clamp, nI_add, pk_mul, pk_sub, ne_addneg, nI_l, ne_ltT, ne_ltF, ne_leT, ne_leF, ne_eqT, ne_eqF, ne_sI1s, ne_sI1n, ne_sI2, ne_sI3, ne_sL1, ne_sL2s, ne_sL2n, ne_sL3, pk_us, pk_un, pk_uLs, pk_uLn, mm_Z, mm_L, mm_1, mm_2, mm_3, ne_rz0, ne_rz1, not_true_eq_false, not_false_eq_true, ne_i0, ne_i1, ne_i2, ne_i3, ne_i4, ne_i5, ne_i6, ne_i7, ne_i8, ne_i9, ne_i10, ne_i12, ne_i14, ne_i16, ne_i18, ne_i19, ne_i20, ne_i23, ne_i24, ne_i27, ne_i29, ne_i30, ne_i31, ne_i32, ne_i35, ne_i48, ne_i52, ne_i54, ne_i57, ne_i59, ne_i63, ne_i64, ne_i76, ne_i77, ne_i78, ne_i79, ne_i80, ne_i81, ne_i97, ne_i99, ne_i100, ne_i101, ne_i104, ne_i105, ne_i108, ne_i110, ne_i111, ne_i116, ne_i117, ne_i122, ne_i103, ne_i200, ne_i255, ne_i256, ne_i320, ne_i384, ne_i1000, ne_l0, ne_l1, ne_l2, ne_l3, ne_l4, ne_l5, ne_l8, ne_l12, ne_l31, ne_l48, ne_l57, ne_l97, ne_l99, ne_l122, ne_l255, ne_l673, ne_l1073741823, ne_l1073741824, c9, e1', e2', xq_16 xq2]
    exact fin
  unfold px_Chest_fits
  simp (disch := omega) only [sm_lt, sm_b1s, sm_b2s, ↓reduceIte, sm_in_nI, nI_clamp, nI_add, pk_mul, pk_sub, ne_addneg, nI_l, ne_ltT, ne_ltF, ne_leT, ne_leF, ne_eqT, ne_eqF, ne_sI1s, ne_sI1n, ne_sI2, ne_sI3, ne_sL1, ne_sL2s, ne_sL2n, ne_sL3, pk_us, pk_un, pk_uLs, pk_uLn, mm_Z, mm_L, mm_1, mm_2, mm_3, ne_rz0, ne_rz1, not_true_eq_false, not_false_eq_true, ne_i0, ne_i1, ne_i2, ne_i3, ne_i4, ne_i5, ne_i6, ne_i7, ne_i8, ne_i9, ne_i10, ne_i12, ne_i14, ne_i16, ne_i18, ne_i19, ne_i20, ne_i23, ne_i24, ne_i27, ne_i29, ne_i30, ne_i31, ne_i32, ne_i35, ne_i48, ne_i52, ne_i54, ne_i57, ne_i59, ne_i63, ne_i64, ne_i76, ne_i77, ne_i78, ne_i79, ne_i80, ne_i81, ne_i97, ne_i99, ne_i100, ne_i101, ne_i104, ne_i105, ne_i108, ne_i110, ne_i111, ne_i116, ne_i117, ne_i122, ne_i103, ne_i200, ne_i255, ne_i256, ne_i320, ne_i384, ne_i1000, ne_l0, ne_l1, ne_l2, ne_l3, ne_l4, ne_l5, ne_l8, ne_l12, ne_l31, ne_l48, ne_l57, ne_l97, ne_l99, ne_l122, ne_l255, ne_l673, ne_l1073741823, ne_l1073741824]
  rw [ez]
  refine ne_loop (fun f k (s : sm_St) => px_Chest_fits_b41 N 1 f (nI (k + 1)) s) (fun k s => hrw s 139 (sp_hc o k) ∧ (∀ p, p < 140 ∨ 144 ≤ p → s.1 p = X.1 p) ∧ s.2 = X.2) (a 76 - 1) (fun r => ∃ X', r = some (nI (sp_b (sp_ft a (sp_ns a (sp_hc o (a 76 - 1)) (ac_ a) (wn v) 1) (a 76))), X') ∧ (∀ p, p < 110 ∨ 126 ≤ p ∧ p < 140 ∨ 144 ≤ p → X'.1 p = X.1 p) ∧ X'.2.2 = X.2.2) ?_ ?_ N 0 Xz (by omega) (by omega) ⟨hz, fz, gz⟩
  · rintro f k s hk ⟨j1, j2, j3⟩
    left
    have w1 := ho k (by omega)
    have w2 := ho (k + 1) (by omega)
    have y1 : s.1 144 k = nI (o k) := by rw [j2 144 (by decide)]; exact w1.2
    have y2 : s.1 144 (k + 1) = nI (o (k + 1)) := by rw [j2 144 (by decide)]; exact w2.2
    have c9 : s.1 1 9 = nI (a 76) := by rw [j2 1 (by decide)]; exact hx0.1
    obtain ⟨s', e, g1, g2, g3⟩ := xq_ph (N := N) (n := 3) (q := 139) (x := o k) (y := o (k + 1)) (Or.inr (Or.inr rfl)) j1 (by omega) (by omega)
    have e1 : nI (k + 1) - nI 1 = nI k := by
      rw [Int32.sub_eq_add_neg, ne_addneg (by omega), Nat.add_sub_cancel]
    refine ⟨s', ⟨g1, fun p hp => by rw [g2 p (by omega)]; exact j2 p hp, by rw [g3]; exact j3⟩, ?_⟩
    show px_Chest_fits_b41 N 1 (f + 1) _ _ = px_Chest_fits_b41 N 1 f _ _
    rw [px_Chest_fits_b41]
    simp (disch := omega) only [sm_lt, sm_b1s, sm_b2s, ↓reduceIte, sm_in_nI, nI_clamp, nI_add, pk_mul, pk_sub, ne_addneg, nI_l, ne_ltT, ne_ltF, ne_leT, ne_leF, ne_eqT, ne_eqF, ne_sI1s, ne_sI1n, ne_sI2, ne_sI3, ne_sL1, ne_sL2s, ne_sL2n, ne_sL3, pk_us, pk_un, pk_uLs, pk_uLn, mm_Z, mm_L, mm_1, mm_2, mm_3, ne_rz0, ne_rz1, not_true_eq_false, not_false_eq_true, ne_i0, ne_i1, ne_i2, ne_i3, ne_i4, ne_i5, ne_i6, ne_i7, ne_i8, ne_i9, ne_i10, ne_i12, ne_i14, ne_i16, ne_i18, ne_i19, ne_i20, ne_i23, ne_i24, ne_i27, ne_i29, ne_i30, ne_i31, ne_i32, ne_i35, ne_i48, ne_i52, ne_i54, ne_i57, ne_i59, ne_i63, ne_i64, ne_i76, ne_i77, ne_i78, ne_i79, ne_i80, ne_i81, ne_i97, ne_i99, ne_i100, ne_i101, ne_i104, ne_i105, ne_i108, ne_i110, ne_i111, ne_i116, ne_i117, ne_i122, ne_i103, ne_i200, ne_i255, ne_i256, ne_i320, ne_i384, ne_i1000, ne_l0, ne_l1, ne_l2, ne_l3, ne_l4, ne_l5, ne_l8, ne_l12, ne_l31, ne_l48, ne_l57, ne_l97, ne_l99, ne_l122, ne_l255, ne_l673, ne_l1073741823, ne_l1073741824, c9, e1, y1, y2, e]
  · rintro f s ⟨j1, j2, j3⟩
    exact p3 s j1 j2 j3 f
end
