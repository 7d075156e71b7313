/-! a house is copied -/
theorem ne_cpk (n : Nat) (h : n = 4 ∨ n = 8 ∨ n = 100) : sm_cpk (nI 0) (nI 0) (nI n) n n = true := by rcases h with rfl | rfl | rfl <;> decide
section
variable {N : Nat} {X : sm_St} {p q : Nat}
theorem hc_L1 {n k : Nat} {pw : Nat → Nat → Nat} (hN : 4000 ≤ N) (hp : p = 1 ∨ p = 35 ∨ p = 68) (hq : q = 1 ∨ q = 35 ∨ q = 68) (hd : p ≠ q) (hPp : hpl X p) (hPq : hpl X q) (hn : n ≤ 6) (hk : k ≤ 4) (h12 : X.1 q 12 = nI n) (hx : ∀ j, j < n → xsh X (X.2.2 (q + 13) j) k (pw j)) : ∃ Y, px_House_copyFrom_b53 N p q N (nI 0) X = px_House_copyFrom_b84 N p q N (nI 0) Y ∧ (∀ j, j < n → xsh Y (X.2.2 (p + 13) j) k (pw j)) ∧ (∀ r, ¬ (p + 14 ≤ r ∧ r < p + 26) → Y.1 r = X.1 r) ∧ Y.2 = X.2 := by
  have sh : ∀ p, (p = 1 ∨ p = 35 ∨ p = 68) → ∀ s, s < 6 → (decide (zx_sy.1 (p + 14 + 2 * s) = (16, 0))) = true := by
    intro p hp
    rcases hp with rfl | rfl | rfl <;> decide
  have far : p + 33 ≤ q ∨ q + 33 ≤ p := by omega
  refine ne_loop (fun f i (Y : sm_St) => px_House_copyFrom_b53 N p q f (nI i) Y) (fun i Y => (∀ j, j < i → xsh Y (X.2.2 (p + 13) j) k (pw j)) ∧ (∀ r, ¬ (p + 14 ≤ r ∧ r < p + 26) → Y.1 r = X.1 r) ∧ Y.2 = X.2) n (fun r => ∃ Y, r = px_House_copyFrom_b84 N p q N (nI 0) Y ∧ (∀ j, j < n → xsh Y (X.2.2 (p + 13) j) k (pw j)) ∧ (∀ r, ¬ (p + 14 ≤ r ∧ r < p + 26) → Y.1 r = X.1 r) ∧ Y.2 = X.2) ?_ ?_ N 0 X (by omega) (by omega) ⟨fun j hj => by omega, fun _ _ => rfl, rfl⟩
  · rintro f i Y hi ⟨i1, i2, i3⟩
    left
    obtain ⟨s, s1, s2⟩ := hPp.1 i (by omega)
    obtain ⟨s', s1', s2'⟩ := hPq.1 i (by omega)
    have d1 := sh p hp s s1
    have d2 := sh q hq s' s1'
    have hsrc : xsh Y (q + 14 + 2 * s') k (pw i) := by
      have := hx i hi
      rw [s2'] at this
      exact xsh_fr (i2 _ (by omega)) (i2 _ (by omega)) this
    obtain ⟨Y1, e1, a1, a2, a3⟩ := xsh_copyFrom (N := N) (p := p + 14 + 2 * s) hsrc hk (by omega) (by omega)
    refine ⟨Y1, ⟨fun j hj => ?_, fun r hr => by rw [a2 r (by omega) (by omega)]; exact i2 r hr, by rw [a3]; exact i3⟩, ?_⟩
    · by_cases e : j = i
      · subst e
        rw [s2]
        exact a1
      · obtain ⟨t, t1, t2⟩ := hPp.1 j (by omega)
        have ne : X.2.2 (p + 13) j ≠ X.2.2 (p + 13) i := fun q => e (hPp.2 j i (by omega) (by omega) q)
        have := i1 j (by omega)
        rw [t2] at this ⊢
        rw [t2, s2] at ne
        exact xsh_fr (a2 _ ne (by omega)) (a2 _ (by omega) (by omega)) this
    · show px_House_copyFrom_b53 N p q (f + 1) _ _ = _
      have h12' : Y.1 q 12 = nI n := by rw [i2 q (by omega)]; exact h12
      have r1 : Y.2.2 (p + 13) i = p + 14 + 2 * s := by rw [i3]; exact s2
      have r2 : Y.2.2 (q + 13) i = q + 14 + 2 * s' := by rw [i3]; exact s2'
      rw [px_House_copyFrom_b53]
      simp (disch := omega) only [sm_lt, sm_b1s, sm_b2s, ↓reduceIte, sm_in_nI, nI_clamp, nI_add, pk_mul, pk_sub, ne_addneg, nI_l, ne_ltT, ne_ltF, ne_leT, ne_leF, ne_eqT, ne_eqF, ne_sI1s, ne_sI1n, ne_sI2, ne_sI3, ne_sL1, ne_sL2s, ne_sL2n, ne_sL3, pk_us, pk_un, pk_uLs, pk_uLn, mm_Z, mm_L, mm_1, mm_2, mm_3, ne_rz0, ne_rz1, not_true_eq_false, not_false_eq_true, ne_i0, ne_i1, ne_i2, ne_i3, ne_i4, ne_i5, ne_i6, ne_i7, ne_i8, ne_i9, ne_i10, ne_i12, ne_i14, ne_i16, ne_i18, ne_i19, ne_i20, ne_i23, ne_i24, ne_i27, ne_i29, ne_i30, ne_i31, ne_i32, ne_i35, ne_i48, ne_i52, ne_i54, ne_i57, ne_i59, ne_i63, ne_i64, ne_i76, ne_i77, ne_i78, ne_i79, ne_i80, ne_i81, ne_i97, ne_i99, ne_i100, ne_i101, ne_i104, ne_i105, ne_i108, ne_i110, ne_i111, ne_i116, ne_i117, ne_i122, ne_i103, ne_i200, ne_i255, ne_i256, ne_i320, ne_i384, ne_i1000, ne_l0, ne_l1, ne_l2, ne_l3, ne_l4, ne_l5, ne_l8, ne_l12, ne_l31, ne_l48, ne_l57, ne_l97, ne_l99, ne_l122, ne_l255, ne_l673, ne_l1073741823, ne_l1073741824, h12', r1, r2, d1, d2, e1]
  · rintro f Y ⟨i1, i2, i3⟩
    show ∃ Y', px_House_copyFrom_b53 N p q (f + 1) _ _ = _ ∧ _
    have h12' : Y.1 q 12 = nI n := by rw [i2 q (by omega)]; exact h12
    rw [px_House_copyFrom_b53]
    simp (disch := omega) only [sm_lt, sm_b1s, sm_b2s, ↓reduceIte, sm_in_nI, nI_clamp, nI_add, pk_mul, pk_sub, ne_addneg, nI_l, ne_ltT, ne_ltF, ne_leT, ne_leF, ne_eqT, ne_eqF, ne_sI1s, ne_sI1n, ne_sI2, ne_sI3, ne_sL1, ne_sL2s, ne_sL2n, ne_sL3, pk_us, pk_un, pk_uLs, pk_uLn, mm_Z, mm_L, mm_1, mm_2, mm_3, ne_rz0, ne_rz1, not_true_eq_false, not_false_eq_true, ne_i0, ne_i1, ne_i2, ne_i3, ne_i4, ne_i5, ne_i6, ne_i7, ne_i8, ne_i9, ne_i10, ne_i12, ne_i14, ne_i16, ne_i18, ne_i19, ne_i20, ne_i23, ne_i24, ne_i27, ne_i29, ne_i30, ne_i31, ne_i32, ne_i35, ne_i48, ne_i52, ne_i54, ne_i57, ne_i59, ne_i63, ne_i64, ne_i76, ne_i77, ne_i78, ne_i79, ne_i80, ne_i81, ne_i97, ne_i99, ne_i100, ne_i101, ne_i104, ne_i105, ne_i108, ne_i110, ne_i111, ne_i116, ne_i117, ne_i122, ne_i103, ne_i200, ne_i255, ne_i256, ne_i320, ne_i384, ne_i1000, ne_l0, ne_l1, ne_l2, ne_l3, ne_l4, ne_l5, ne_l8, ne_l12, ne_l31, ne_l48, ne_l57, ne_l97, ne_l99, ne_l122, ne_l255, ne_l673, ne_l1073741823, ne_l1073741824, h12']
    exact ⟨Y, rfl, i1, i2, i3⟩
theorem hc_L2 (hN : 4000 ≤ N) (far : p + 33 ≤ q ∨ q + 33 ≤ p) : ∃ Y, px_House_copyFrom_b84 N p q N (nI 0) X = px_House_copyFrom_b116 N p q N (nI 0) Y ∧ (∀ k f, k < 6 → f < 4 → Y.1 (p + 27 + k) f = X.1 (q + 27 + k) f) ∧ (∀ r, ¬ (p + 27 ≤ r ∧ r < p + 33) → Y.1 r = X.1 r) ∧ Y.2 = X.2 := by
  refine ne_loop (fun f i (Y : sm_St) => px_House_copyFrom_b84 N p q f (nI i) Y) (fun i Y => (∀ k f, k < i → f < 4 → Y.1 (p + 27 + k) f = X.1 (q + 27 + k) f) ∧ (∀ r, ¬ (p + 27 ≤ r ∧ r < p + 33) → Y.1 r = X.1 r) ∧ Y.2 = X.2) 6 (fun r => ∃ Y, r = px_House_copyFrom_b116 N p q N (nI 0) Y ∧ (∀ k f, k < 6 → f < 4 → Y.1 (p + 27 + k) f = X.1 (q + 27 + k) f) ∧ (∀ r, ¬ (p + 27 ≤ r ∧ r < p + 33) → Y.1 r = X.1 r) ∧ Y.2 = X.2) ?_ ?_ N 0 X (by omega) (by omega) ⟨fun k f hk => by omega, fun _ _ => rfl, rfl⟩
  · rintro f i Y hi ⟨i1, i2, i3⟩
    left
    refine ⟨sm_sF Y (p + 27 + i) (va_cpy (Y.1 (q + 27 + i)) (Y.1 (p + 27 + i)) 0 0 4), ⟨fun k f hk hf => ?_, fun r hr => by rw [sF_n (by omega)]; exact i2 r hr, i3⟩, ?_⟩
    · by_cases e : k = i
      · subst e
        rw [sF_s, pk_cpy_in (by omega) (by omega), Nat.zero_add, Nat.sub_zero, i2 _ (by omega)]
      · rw [sF_n (by omega)]
        exact i1 k f (by omega) hf
    · show px_House_copyFrom_b84 N p q (f + 1) _ _ = _
      rw [px_House_copyFrom_b84]
      simp (disch := omega) only [sm_lt, sm_b1s, sm_b2s, ↓reduceIte, sm_in_nI, nI_clamp, nI_add, pk_mul, pk_sub, ne_addneg, nI_l, ne_ltT, ne_ltF, ne_leT, ne_leF, ne_eqT, ne_eqF, ne_sI1s, ne_sI1n, ne_sI2, ne_sI3, ne_sL1, ne_sL2s, ne_sL2n, ne_sL3, pk_us, pk_un, pk_uLs, pk_uLn, mm_Z, mm_L, mm_1, mm_2, mm_3, ne_rz0, ne_rz1, not_true_eq_false, not_false_eq_true, ne_i0, ne_i1, ne_i2, ne_i3, ne_i4, ne_i5, ne_i6, ne_i7, ne_i8, ne_i9, ne_i10, ne_i12, ne_i14, ne_i16, ne_i18, ne_i19, ne_i20, ne_i23, ne_i24, ne_i27, ne_i29, ne_i30, ne_i31, ne_i32, ne_i35, ne_i48, ne_i52, ne_i54, ne_i57, ne_i59, ne_i63, ne_i64, ne_i76, ne_i77, ne_i78, ne_i79, ne_i80, ne_i81, ne_i97, ne_i99, ne_i100, ne_i101, ne_i104, ne_i105, ne_i108, ne_i110, ne_i111, ne_i116, ne_i117, ne_i122, ne_i103, ne_i200, ne_i255, ne_i256, ne_i320, ne_i384, ne_i1000, ne_l0, ne_l1, ne_l2, ne_l3, ne_l4, ne_l5, ne_l8, ne_l12, ne_l31, ne_l48, ne_l57, ne_l97, ne_l99, ne_l122, ne_l255, ne_l673, ne_l1073741823, ne_l1073741824, ne_cpk 4 (Or.inl rfl)]
  · rintro f Y ⟨i1, i2, i3⟩
    show ∃ Y', px_House_copyFrom_b84 N p q (f + 1) _ _ = _ ∧ _
    rw [px_House_copyFrom_b84]
    simp (disch := omega) only [sm_lt, sm_b1s, sm_b2s, ↓reduceIte, sm_in_nI, nI_clamp, nI_add, pk_mul, pk_sub, ne_addneg, nI_l, ne_ltT, ne_ltF, ne_leT, ne_leF, ne_eqT, ne_eqF, ne_sI1s, ne_sI1n, ne_sI2, ne_sI3, ne_sL1, ne_sL2s, ne_sL2n, ne_sL3, pk_us, pk_un, pk_uLs, pk_uLn, mm_Z, mm_L, mm_1, mm_2, mm_3, ne_rz0, ne_rz1, not_true_eq_false, not_false_eq_true, ne_i0, ne_i1, ne_i2, ne_i3, ne_i4, ne_i5, ne_i6, ne_i7, ne_i8, ne_i9, ne_i10, ne_i12, ne_i14, ne_i16, ne_i18, ne_i19, ne_i20, ne_i23, ne_i24, ne_i27, ne_i29, ne_i30, ne_i31, ne_i32, ne_i35, ne_i48, ne_i52, ne_i54, ne_i57, ne_i59, ne_i63, ne_i64, ne_i76, ne_i77, ne_i78, ne_i79, ne_i80, ne_i81, ne_i97, ne_i99, ne_i100, ne_i101, ne_i104, ne_i105, ne_i108, ne_i110, ne_i111, ne_i116, ne_i117, ne_i122, ne_i103, ne_i200, ne_i255, ne_i256, ne_i320, ne_i384, ne_i1000, ne_l0, ne_l1, ne_l2, ne_l3, ne_l4, ne_l5, ne_l8, ne_l12, ne_l31, ne_l48, ne_l57, ne_l97, ne_l99, ne_l122, ne_l255, ne_l673, ne_l1073741823, ne_l1073741824]
    exact ⟨Y, rfl, i1, i2, i3⟩
theorem hc_L3 (hN : 4000 ≤ N) (far : p + 33 ≤ q ∨ q + 33 ≤ p) : ∃ Y, px_House_copyFrom_b116 N p q N (nI 0) X = some Y ∧ (∀ i, i < 4 → (Y.1 (p + 1) i = X.1 (q + 1) i ∧ Y.1 (p + 2) i = X.1 (q + 2) i ∧ Y.1 (p + 3) i = X.1 (q + 3) i ∧ Y.1 (p + 4) i = X.1 (q + 4) i) ∧ (∀ x, x < 8 → Y.1 (p + 7 + i) x = X.1 (q + 7 + i) x) ∧ Y.1 (p + 5) i = X.1 (q + 5) i) ∧ (∀ r, ¬ (p + 1 ≤ r ∧ r < p + 11) → Y.1 r = X.1 r) ∧ Y.2 = X.2 := by
  refine ne_loop (fun f i (Y : sm_St) => px_House_copyFrom_b116 N p q f (nI i) Y) (fun i Y => (∀ j, j < i → (Y.1 (p + 1) j = X.1 (q + 1) j ∧ Y.1 (p + 2) j = X.1 (q + 2) j ∧ Y.1 (p + 3) j = X.1 (q + 3) j ∧ Y.1 (p + 4) j = X.1 (q + 4) j) ∧ ∀ x, x < 8 → Y.1 (p + 7 + j) x = X.1 (q + 7 + j) x) ∧ (∀ r, ¬ (p + 1 ≤ r ∧ r < p + 11) → Y.1 r = X.1 r) ∧ Y.2 = X.2) 4 (fun r => ∃ Y, r = some Y ∧ (∀ i, i < 4 → (Y.1 (p + 1) i = X.1 (q + 1) i ∧ Y.1 (p + 2) i = X.1 (q + 2) i ∧ Y.1 (p + 3) i = X.1 (q + 3) i ∧ Y.1 (p + 4) i = X.1 (q + 4) i) ∧ (∀ x, x < 8 → Y.1 (p + 7 + i) x = X.1 (q + 7 + i) x) ∧ Y.1 (p + 5) i = X.1 (q + 5) i) ∧ (∀ r, ¬ (p + 1 ≤ r ∧ r < p + 11) → Y.1 r = X.1 r) ∧ Y.2 = X.2) ?_ ?_ N 0 X (by omega) (by omega) ⟨fun j hj => by omega, fun _ _ => rfl, rfl⟩
  · rintro f i Y hi ⟨i1, i2, i3⟩
    left
    generalize hZ : sm_sI (sm_sI (sm_sI (sm_sI Y (p + 1) i (X.1 (q + 1) i)) (p + 2) i (X.1 (q + 2) i)) (p + 3) i (X.1 (q + 3) i)) (p + 4) i (X.1 (q + 4) i) = Z
    have fZ : ∀ r, r ≠ p + 1 → r ≠ p + 2 → r ≠ p + 3 → r ≠ p + 4 → Z.1 r = Y.1 r := fun r a b c d => by rw [← hZ, ne_sI1n d, ne_sI1n c, ne_sI1n b, ne_sI1n a]
    have gZ : ∀ m j, (m = 1 ∨ m = 2 ∨ m = 3 ∨ m = 4) → j ≠ i → Z.1 (p + m) j = Y.1 (p + m) j := by
      intro m j hm hj
      rw [← hZ]
      rcases hm with rfl | rfl | rfl | rfl
      · rw [ne_sI1n (by omega), ne_sI1n (by omega), ne_sI1n (by omega), ne_sI1s, pk_un hj]
      · rw [ne_sI1n (by omega), ne_sI1n (by omega), ne_sI1s, pk_un hj, ne_sI1n (by omega)]
      · rw [ne_sI1n (by omega), ne_sI1s, pk_un hj, ne_sI1n (by omega), ne_sI1n (by omega)]
      · rw [ne_sI1s, pk_un hj, ne_sI1n (by omega), ne_sI1n (by omega), ne_sI1n (by omega)]
    have sZ : ∀ m, (m = 1 ∨ m = 2 ∨ m = 3 ∨ m = 4) → Z.1 (p + m) i = X.1 (q + m) i := by
      intro m hm
      rw [← hZ]
      rcases hm with rfl | rfl | rfl | rfl
      · rw [ne_sI1n (by omega), ne_sI1n (by omega), ne_sI1n (by omega), ne_sI1s, pk_us]
      · rw [ne_sI1n (by omega), ne_sI1n (by omega), ne_sI1s, pk_us]
      · rw [ne_sI1n (by omega), ne_sI1s, pk_us]
      · rw [ne_sI1s, pk_us]
    have q1 : Y.1 (q + 1) = X.1 (q + 1) := i2 _ (by omega)
    have q2 : Y.1 (q + 2) = X.1 (q + 2) := i2 _ (by omega)
    have q3 : Y.1 (q + 3) = X.1 (q + 3) := i2 _ (by omega)
    have q4 : Y.1 (q + 4) = X.1 (q + 4) := i2 _ (by omega)
    have q7 : Z.1 (q + 7 + i) = X.1 (q + 7 + i) := by rw [fZ _ (by omega) (by omega) (by omega) (by omega)]; exact i2 _ (by omega)
    refine ⟨sm_sF Z (p + 7 + i) (va_cpy (X.1 (q + 7 + i)) (Z.1 (p + 7 + i)) 0 0 8), ⟨fun j hj => ?_, fun r hr => by rw [sF_n (by omega), fZ r (by omega) (by omega) (by omega) (by omega)]; exact i2 r hr, by rw [← hZ]; exact i3⟩, ?_⟩
    · by_cases e : j = i
      · subst e
        refine ⟨?_, fun x hx => ?_⟩
        · rw [sF_n (by omega), sF_n (by omega), sF_n (by omega), sF_n (by omega)]
          exact ⟨sZ 1 (by omega), sZ 2 (by omega), sZ 3 (by omega), sZ 4 (by omega)⟩
        · rw [sF_s, pk_cpy_in (by omega) (by omega), Nat.zero_add, Nat.sub_zero]
      · obtain ⟨g1, g2⟩ := i1 j (by omega)
        refine ⟨?_, fun x hx => ?_⟩
        · rw [sF_n (by omega), sF_n (by omega), sF_n (by omega), sF_n (by omega), gZ 1 j (by omega) e, gZ 2 j (by omega) e, gZ 3 j (by omega) e, gZ 4 j (by omega) e]
          exact g1
        · rw [sF_n (by omega), fZ _ (by omega) (by omega) (by omega) (by omega)]
          exact g2 x hx
    · show px_House_copyFrom_b116 N p q (f + 1) _ _ = _
      rw [px_House_copyFrom_b116]
      have n1 : q + 2 ≠ p + 1 := by omega
      simp (disch := omega) only [sm_lt, sm_b1s, sm_b2s, ↓reduceIte, sm_in_nI, nI_clamp, nI_add, pk_mul, pk_sub, ne_addneg, nI_l, ne_ltT, ne_ltF, ne_leT, ne_leF, ne_eqT, ne_eqF, ne_sI1s, ne_sI1n, ne_sI2, ne_sI3, ne_sL1, ne_sL2s, ne_sL2n, ne_sL3, pk_us, pk_un, pk_uLs, pk_uLn, mm_Z, mm_L, mm_1, mm_2, mm_3, ne_rz0, ne_rz1, not_true_eq_false, not_false_eq_true, ne_i0, ne_i1, ne_i2, ne_i3, ne_i4, ne_i5, ne_i6, ne_i7, ne_i8, ne_i9, ne_i10, ne_i12, ne_i14, ne_i16, ne_i18, ne_i19, ne_i20, ne_i23, ne_i24, ne_i27, ne_i29, ne_i30, ne_i31, ne_i32, ne_i35, ne_i48, ne_i52, ne_i54, ne_i57, ne_i59, ne_i63, ne_i64, ne_i76, ne_i77, ne_i78, ne_i79, ne_i80, ne_i81, ne_i97, ne_i99, ne_i100, ne_i101, ne_i104, ne_i105, ne_i108, ne_i110, ne_i111, ne_i116, ne_i117, ne_i122, ne_i103, ne_i200, ne_i255, ne_i256, ne_i320, ne_i384, ne_i1000, ne_l0, ne_l1, ne_l2, ne_l3, ne_l4, ne_l5, ne_l8, ne_l12, ne_l31, ne_l48, ne_l57, ne_l97, ne_l99, ne_l122, ne_l255, ne_l673, ne_l1073741823, ne_l1073741824, ne_cpk 8 (Or.inr (Or.inl rfl)), q1, q2, q3, q4, hZ, q7]
  · rintro f Y ⟨i1, i2, i3⟩
    show ∃ Y', px_House_copyFrom_b116 N p q (f + 1) _ _ = _ ∧ _
    have q5 : Y.1 (q + 5) = X.1 (q + 5) := i2 _ (by omega)
    rw [px_House_copyFrom_b116]
    simp (disch := omega) only [sm_lt, sm_b1s, sm_b2s, ↓reduceIte, sm_in_nI, nI_clamp, nI_add, pk_mul, pk_sub, ne_addneg, nI_l, ne_ltT, ne_ltF, ne_leT, ne_leF, ne_eqT, ne_eqF, ne_sI1s, ne_sI1n, ne_sI2, ne_sI3, ne_sL1, ne_sL2s, ne_sL2n, ne_sL3, pk_us, pk_un, pk_uLs, pk_uLn, mm_Z, mm_L, mm_1, mm_2, mm_3, ne_rz0, ne_rz1, not_true_eq_false, not_false_eq_true, ne_i0, ne_i1, ne_i2, ne_i3, ne_i4, ne_i5, ne_i6, ne_i7, ne_i8, ne_i9, ne_i10, ne_i12, ne_i14, ne_i16, ne_i18, ne_i19, ne_i20, ne_i23, ne_i24, ne_i27, ne_i29, ne_i30, ne_i31, ne_i32, ne_i35, ne_i48, ne_i52, ne_i54, ne_i57, ne_i59, ne_i63, ne_i64, ne_i76, ne_i77, ne_i78, ne_i79, ne_i80, ne_i81, ne_i97, ne_i99, ne_i100, ne_i101, ne_i104, ne_i105, ne_i108, ne_i110, ne_i111, ne_i116, ne_i117, ne_i122, ne_i103, ne_i200, ne_i255, ne_i256, ne_i320, ne_i384, ne_i1000, ne_l0, ne_l1, ne_l2, ne_l3, ne_l4, ne_l5, ne_l8, ne_l12, ne_l31, ne_l48, ne_l57, ne_l97, ne_l99, ne_l122, ne_l255, ne_l673, ne_l1073741823, ne_l1073741824, ne_cpk 4 (Or.inl rfl), q5]
    refine ⟨_, rfl, fun i hi => ?_, fun r hr => by rw [sF_n (by omega)]; exact i2 r hr, i3⟩
    obtain ⟨g1, g2⟩ := i1 i hi
    refine ⟨?_, fun x hx => ?_, ?_⟩
    · rw [sF_n (by omega), sF_n (by omega), sF_n (by omega), sF_n (by omega)]
      exact g1
    · rw [sF_n (by omega)]
      exact g2 x hx
    · rw [sF_s, pk_cpy_in (by omega) (by omega), Nat.zero_add, Nat.sub_zero]
theorem xq_hcopy {a w : Nat → Nat} {pw : Nat → Nat → Nat} (hN : 4000 ≤ N) (hp : p = 1 ∨ p = 35 ∨ p = 68) (hq : q = 1 ∨ q = 35 ∨ q = 68) (hd : p ≠ q) (hPp : hpl X p) (hPq : hpl X q) (ho : sp_ok a) (hx : xhs X q a w pw) : ∃ X', px_House_copyFrom N X p q = some X' ∧ xhs X' p a w pw ∧ (∀ r, ¬ (p ≤ r ∧ r < p + 33) → X'.1 r = X.1 r) ∧ X'.2 = X.2 := by
  obtain ⟨o1, o2, o3, o4, o5, o6, _⟩ := ho
  obtain ⟨c, k, co, hh, hz, wi, now, past⟩ := hx
  have far : p + 33 ≤ q ∨ q + 33 ≤ p := by omega
  generalize hY : sm_sI (sm_sI (sm_sI (sm_sI (sm_sI X p 9 (nI (a 76))) p 10 (nI (a 77))) p 11 (nI (a 78))) p 12 (nI (a 79))) p 13 (nI (a 80)) = Y
  have fY : ∀ r, r ≠ p → Y.1 r = X.1 r := fun r hr => by rw [← hY, ne_sI1n hr, ne_sI1n hr, ne_sI1n hr, ne_sI1n hr, ne_sI1n hr]
  have cY : Y.1 p 9 = nI (a 76) ∧ Y.1 p 10 = nI (a 77) ∧ Y.1 p 11 = nI (a 78) ∧ Y.1 p 12 = nI (a 79) ∧ Y.1 p 13 = nI (a 80) := by
    rw [← hY, ne_sI1s]
    refine ⟨?_, ?_, ?_, ?_, pk_us⟩
    · rw [pk_un (by decide), ne_sI1s, pk_un (by decide), ne_sI1s, pk_un (by decide), ne_sI1s, pk_un (by decide), ne_sI1s, pk_us]
    · rw [pk_un (by decide), ne_sI1s, pk_un (by decide), ne_sI1s, pk_un (by decide), ne_sI1s, pk_us]
    · rw [pk_un (by decide), ne_sI1s, pk_un (by decide), ne_sI1s, pk_us]
    · rw [pk_un (by decide), ne_sI1s, pk_us]
  have rY : Y.2 = X.2 := by rw [← hY]; rfl
  have nY : xsh Y (q + 11) (a 76) w := xsh_fr (fY _ (by omega)) (fY _ (by omega)) now
  obtain ⟨Y6, e6, a1, a2, a3⟩ := xsh_copyFrom (N := N) (p := p + 11) nY o1 (by omega) (by omega)
  have f6 : ∀ r, ¬ (p + 11 ≤ r ∧ r < p + 13) → Y6.1 r = Y.1 r := fun r hr => a2 r (by omega) (by omega)
  have r6 : Y6.2 = X.2 := by rw [a3, rY]
  have f6q : ∀ r, ¬ (p ≤ r ∧ r < p + 33) → Y6.1 r = X.1 r := fun r hr => by rw [f6 r (by omega), fY r (by omega)]
  obtain ⟨Y7, e7, b1, b2, b3⟩ := hc_L1 (X := Y6) (N := N) (n := a 79) (k := a 76) (pw := pw) hN hp hq hd (hpl_fr (by rw [r6]) hPp) (hpl_fr (by rw [r6]) hPq) o4 o1 (by rw [f6q q (by omega)]; exact c.2.2.2.1) (fun j hj => by
    rw [r6]
    obtain ⟨s, s1, s2⟩ := hPq.1 j (by omega)
    have := past j hj
    rw [s2] at this ⊢
    exact xsh_fr (f6q _ (by omega)) (f6q _ (by omega)) this)
  obtain ⟨Y8, e8, c1, c2, c3⟩ := hc_L2 (X := Y7) (N := N) hN far
  obtain ⟨Y9, e9, d1, d2, d3⟩ := hc_L3 (X := Y8) (N := N) hN far
  have f8q : ∀ r, ¬ (p ≤ r ∧ r < p + 33) → Y8.1 r = X.1 r := fun r hr => by rw [c2 r (by omega), b2 r (by omega), f6q r hr]
  have f7q : ∀ r, ¬ (p ≤ r ∧ r < p + 33) → Y7.1 r = X.1 r := fun r hr => by rw [b2 r (by omega), f6q r hr]
  have p9 : Y9.1 p = Y.1 p := by rw [d2 p (by omega), c2 p (by omega), b2 p (by omega), f6 p (by omega)]
  refine ⟨Y9, ?_, ⟨?_, fun i hi => ?_, fun t ht => ?_, fun i x hi hx => ?_, fun i x hi hi4 hx => ?_, fun k' f hk hf => ?_, ?_, fun j hj => ?_⟩, fun r hr => by rw [d2 r (by omega)]; exact f8q r hr, by rw [d3, c3, b3, r6]⟩
  · have npq : q ≠ p := Ne.symm hd
    unfold px_House_copyFrom
    simp (disch := omega) only [sm_lt, sm_b1s, sm_b2s, ↓reduceIte, sm_in_nI, nI_clamp, nI_add, pk_mul, pk_sub, ne_addneg, nI_l, ne_ltT, ne_ltF, ne_leT, ne_leF, ne_eqT, ne_eqF, ne_sI1s, ne_sI1n, ne_sI2, ne_sI3, ne_sL1, ne_sL2s, ne_sL2n, ne_sL3, pk_us, pk_un, pk_uLs, pk_uLn, mm_Z, mm_L, mm_1, mm_2, mm_3, ne_rz0, ne_rz1, not_true_eq_false, not_false_eq_true, ne_i0, ne_i1, ne_i2, ne_i3, ne_i4, ne_i5, ne_i6, ne_i7, ne_i8, ne_i9, ne_i10, ne_i12, ne_i14, ne_i16, ne_i18, ne_i19, ne_i20, ne_i23, ne_i24, ne_i27, ne_i29, ne_i30, ne_i31, ne_i32, ne_i35, ne_i48, ne_i52, ne_i54, ne_i57, ne_i59, ne_i63, ne_i64, ne_i76, ne_i77, ne_i78, ne_i79, ne_i80, ne_i81, ne_i97, ne_i99, ne_i100, ne_i101, ne_i104, ne_i105, ne_i108, ne_i110, ne_i111, ne_i116, ne_i117, ne_i122, ne_i103, ne_i200, ne_i255, ne_i256, ne_i320, ne_i384, ne_i1000, ne_l0, ne_l1, ne_l2, ne_l3, ne_l4, ne_l5, ne_l8, ne_l12, ne_l31, ne_l48, ne_l57, ne_l97, ne_l99, ne_l122, ne_l255, ne_l673, ne_l1073741823, ne_l1073741824, c.1, c.2.1, c.2.2.1, c.2.2.2.1, c.2.2.2.2, hY, e6, e7, e8, e9]
  · rw [p9]; exact cY
  · obtain ⟨g1, g2, g3⟩ := d1 i (by omega)
    rw [f8q _ (by omega), f8q _ (by omega), f8q _ (by omega), f8q _ (by omega)] at g1
    obtain ⟨k1, k2, k3, k4⟩ := k i hi
    exact ⟨g1.1.trans k1, g1.2.1.trans k2, g1.2.2.1.trans k3, g1.2.2.2.trans k4⟩
  · have g3 := (d1 t (by omega)).2.2
    rw [f8q _ (by omega)] at g3
    exact g3.trans (co t ht)
  · have g2 := (d1 i (by omega)).2.1 x hx
    rw [f8q _ (by omega)] at g2
    exact g2.trans (hh i x hi hx)
  · have g2 := (d1 i (by omega)).2.1 x hx
    rw [f8q _ (by omega)] at g2
    exact g2.trans (hz i x hi hi4 hx)
  · rw [d2 _ (by omega)]
    have := c1 k' f (by omega) hf
    rw [f7q _ (by omega)] at this
    exact this.trans (wi k' f hk hf)
  · exact xsh_fr (by rw [d2 _ (by omega), c2 _ (by omega), b2 _ (by omega)]) (by rw [d2 _ (by omega), c2 _ (by omega), b2 _ (by omega)]) a1
  · have er : Y9.2.2 (p + 13) j = Y6.2.2 (p + 13) j := by rw [d3, c3, b3]
    rw [er]
    have := b1 j hj
    obtain ⟨s, s1, s2⟩ := hPp.1 j (by omega)
    have s2' : Y6.2.2 (p + 13) j = p + 14 + 2 * s := by rw [r6]; exact s2
    rw [s2'] at this ⊢
    exact xsh_fr (by rw [d2 _ (by omega), c2 _ (by omega)]) (by rw [d2 _ (by omega), c2 _ (by omega)]) this
end
