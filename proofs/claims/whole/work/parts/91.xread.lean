section
variable {N : Nat} {X X0 s : sm_St} {tx : Nat → Nat} {len : Nat}
/-- the hours are laid down, so far -/
def eoI (X s : sm_St) (i x : Nat) : Prop := (∀ j z, j < 4 → z < 8 → (j < i ∨ j = i ∧ z < x) → s.1 (8 + j) z = nI 0) ∧ (∀ p, ¬ (8 ≤ p ∧ p < 12) → s.1 p = X.1 p) ∧ s.2 = X.2
theorem eoI_s {i x : Nat} (h : eoI X s i x) (hi : i < 4) : eoI X (sm_sI s (8 + i) x (nI 0)) i (x + 1) := by
  obtain ⟨h1, h2, h3⟩ := h
  refine ⟨fun j z hj hz q => ?_, fun p hp => by rw [ne_sI1n (by omega)]; exact h2 p hp, h3⟩
  by_cases e : j = i
  · subst e
    rw [ne_sI1s]
    by_cases ez : z = x
    · rw [ez, pk_us]
    · rw [pk_un ez]
      exact h1 j z hj hz (by omega)
  · rw [ne_sI1n (by omega)]
    exact h1 j z hj hz (by omega)
theorem eo_in {i : Nat} {r : Int32 → sm_St → Option sm_St} (hN : 4000 ≤ N) (h : eoI X s i 0) (hi : i < 4) : ∃ s', px_House_emptyOut_b36 N 1 r N (nI i) (nI 0) s = r (nI (i + 1)) s' ∧ eoI X s' (i + 1) 0 := by
  have c7 : (zx_sh 8).2 = 8 := rfl
  refine ne_loop (fun f x (s : sm_St) => px_House_emptyOut_b36 N 1 r f (nI i) (nI x) s) (fun x s => eoI X s i x) 8 (fun o => ∃ s', o = r (nI (i + 1)) s' ∧ eoI X s' (i + 1) 0) ?_ ?_ N 0 s (by omega) (by omega) h
  · intro f x s hx h
    left
    refine ⟨sm_sI s (8 + i) x (nI 0), eoI_s h hi, ?_⟩
    show px_House_emptyOut_b36 N 1 r (f + 1) _ _ _ = _
    rw [px_House_emptyOut_b36]
    simp (disch := omega) only [sm_lt, sm_b1s, sm_b2s, ↓reduceIte, sm_in_nI, nI_clamp, nI_add, pk_mul, pk_sub, ne_addneg, nI_l, ne_ltT, ne_ltF, ne_leT, ne_leF, ne_eqT, ne_eqF, ne_sI1s, ne_sI1n, ne_sI2, ne_sI3, ne_sL1, ne_sL2s, ne_sL2n, ne_sL3, pk_us, pk_un, pk_uLs, pk_uLn, mm_Z, mm_L, mm_1, mm_2, mm_3, ne_rz0, ne_rz1, not_true_eq_false, not_false_eq_true, ne_i0, ne_i1, ne_i2, ne_i3, ne_i4, ne_i5, ne_i6, ne_i7, ne_i8, ne_i9, ne_i10, ne_i12, ne_i14, ne_i16, ne_i18, ne_i19, ne_i20, ne_i23, ne_i24, ne_i27, ne_i29, ne_i30, ne_i31, ne_i32, ne_i35, ne_i48, ne_i52, ne_i54, ne_i57, ne_i59, ne_i63, ne_i64, ne_i76, ne_i77, ne_i78, ne_i79, ne_i80, ne_i81, ne_i97, ne_i99, ne_i100, ne_i101, ne_i104, ne_i105, ne_i108, ne_i110, ne_i111, ne_i116, ne_i117, ne_i122, ne_i103, ne_i200, ne_i255, ne_i256, ne_i320, ne_i384, ne_i1000, ne_l0, ne_l1, ne_l2, ne_l3, ne_l4, ne_l5, ne_l8, ne_l12, ne_l31, ne_l48, ne_l57, ne_l97, ne_l99, ne_l122, ne_l255, ne_l673, ne_l1073741823, ne_l1073741824]
  · intro f s h
    show ∃ s', px_House_emptyOut_b36 N 1 r (f + 1) _ _ _ = _ ∧ _
    rw [px_House_emptyOut_b36]
    simp (disch := omega) only [sm_lt, sm_b1s, sm_b2s, ↓reduceIte, sm_in_nI, nI_clamp, nI_add, pk_mul, pk_sub, ne_addneg, nI_l, ne_ltT, ne_ltF, ne_leT, ne_leF, ne_eqT, ne_eqF, ne_sI1s, ne_sI1n, ne_sI2, ne_sI3, ne_sL1, ne_sL2s, ne_sL2n, ne_sL3, pk_us, pk_un, pk_uLs, pk_uLn, mm_Z, mm_L, mm_1, mm_2, mm_3, ne_rz0, ne_rz1, not_true_eq_false, not_false_eq_true, ne_i0, ne_i1, ne_i2, ne_i3, ne_i4, ne_i5, ne_i6, ne_i7, ne_i8, ne_i9, ne_i10, ne_i12, ne_i14, ne_i16, ne_i18, ne_i19, ne_i20, ne_i23, ne_i24, ne_i27, ne_i29, ne_i30, ne_i31, ne_i32, ne_i35, ne_i48, ne_i52, ne_i54, ne_i57, ne_i59, ne_i63, ne_i64, ne_i76, ne_i77, ne_i78, ne_i79, ne_i80, ne_i81, ne_i97, ne_i99, ne_i100, ne_i101, ne_i104, ne_i105, ne_i108, ne_i110, ne_i111, ne_i116, ne_i117, ne_i122, ne_i103, ne_i200, ne_i255, ne_i256, ne_i320, ne_i384, ne_i1000, ne_l0, ne_l1, ne_l2, ne_l3, ne_l4, ne_l5, ne_l8, ne_l12, ne_l31, ne_l48, ne_l57, ne_l97, ne_l99, ne_l122, ne_l255, ne_l673, ne_l1073741823, ne_l1073741824]
    exact ⟨s, rfl, fun j z hj hz q => h.1 j z hj hz (by omega), h.2⟩
theorem eo_all (hN : 4000 ≤ N) (h : eoI X s 0 0) : ∃ s', px_House_emptyOut_b29 N 1 N (nI 0) s = some s' ∧ eoI X s' 4 0 := by
  refine ne_loop (fun f i (s : sm_St) => px_House_emptyOut_b29 N 1 f (nI i) s) (fun i s => eoI X s i 0) 4 (fun o => ∃ s', o = some s' ∧ eoI X s' 4 0) ?_ ?_ N 0 s (by omega) (by omega) h
  · intro f i s hi h
    left
    obtain ⟨s', e, g⟩ := eo_in (N := N) (r := px_House_emptyOut_b29 N 1 f) hN h hi
    refine ⟨s', g, ?_⟩
    show px_House_emptyOut_b29 N 1 (f + 1) _ _ = _
    rw [px_House_emptyOut_b29]
    simp (disch := omega) only [sm_lt, sm_b1s, sm_b2s, ↓reduceIte, sm_in_nI, nI_clamp, nI_add, pk_mul, pk_sub, ne_addneg, nI_l, ne_ltT, ne_ltF, ne_leT, ne_leF, ne_eqT, ne_eqF, ne_sI1s, ne_sI1n, ne_sI2, ne_sI3, ne_sL1, ne_sL2s, ne_sL2n, ne_sL3, pk_us, pk_un, pk_uLs, pk_uLn, mm_Z, mm_L, mm_1, mm_2, mm_3, ne_rz0, ne_rz1, not_true_eq_false, not_false_eq_true, ne_i0, ne_i1, ne_i2, ne_i3, ne_i4, ne_i5, ne_i6, ne_i7, ne_i8, ne_i9, ne_i10, ne_i12, ne_i14, ne_i16, ne_i18, ne_i19, ne_i20, ne_i23, ne_i24, ne_i27, ne_i29, ne_i30, ne_i31, ne_i32, ne_i35, ne_i48, ne_i52, ne_i54, ne_i57, ne_i59, ne_i63, ne_i64, ne_i76, ne_i77, ne_i78, ne_i79, ne_i80, ne_i81, ne_i97, ne_i99, ne_i100, ne_i101, ne_i104, ne_i105, ne_i108, ne_i110, ne_i111, ne_i116, ne_i117, ne_i122, ne_i103, ne_i200, ne_i255, ne_i256, ne_i320, ne_i384, ne_i1000, ne_l0, ne_l1, ne_l2, ne_l3, ne_l4, ne_l5, ne_l8, ne_l12, ne_l31, ne_l48, ne_l57, ne_l97, ne_l99, ne_l122, ne_l255, ne_l673, ne_l1073741823, ne_l1073741824, e]
  · intro f s h
    show ∃ s', px_House_emptyOut_b29 N 1 (f + 1) _ _ = _ ∧ _
    rw [px_House_emptyOut_b29]
    simp (disch := omega) only [sm_lt, sm_b1s, sm_b2s, ↓reduceIte, sm_in_nI, nI_clamp, nI_add, pk_mul, pk_sub, ne_addneg, nI_l, ne_ltT, ne_ltF, ne_leT, ne_leF, ne_eqT, ne_eqF, ne_sI1s, ne_sI1n, ne_sI2, ne_sI3, ne_sL1, ne_sL2s, ne_sL2n, ne_sL3, pk_us, pk_un, pk_uLs, pk_uLn, mm_Z, mm_L, mm_1, mm_2, mm_3, ne_rz0, ne_rz1, not_true_eq_false, not_false_eq_true, ne_i0, ne_i1, ne_i2, ne_i3, ne_i4, ne_i5, ne_i6, ne_i7, ne_i8, ne_i9, ne_i10, ne_i12, ne_i14, ne_i16, ne_i18, ne_i19, ne_i20, ne_i23, ne_i24, ne_i27, ne_i29, ne_i30, ne_i31, ne_i32, ne_i35, ne_i48, ne_i52, ne_i54, ne_i57, ne_i59, ne_i63, ne_i64, ne_i76, ne_i77, ne_i78, ne_i79, ne_i80, ne_i81, ne_i97, ne_i99, ne_i100, ne_i101, ne_i104, ne_i105, ne_i108, ne_i110, ne_i111, ne_i116, ne_i117, ne_i122, ne_i103, ne_i200, ne_i255, ne_i256, ne_i320, ne_i384, ne_i1000, ne_l0, ne_l1, ne_l2, ne_l3, ne_l4, ne_l5, ne_l8, ne_l12, ne_l31, ne_l48, ne_l57, ne_l97, ne_l99, ne_l122, ne_l255, ne_l673, ne_l1073741823, ne_l1073741824]
    exact ⟨s, rfl, h⟩
theorem xr_empty (hN : 4000 ≤ N) : ∃ Y, px_House_emptyOut N X 1 = some Y ∧ (Y.1 1 9 = nI 0 ∧ Y.1 1 10 = nI 0 ∧ Y.1 1 11 = nI 0 ∧ Y.1 1 12 = nI 0 ∧ Y.1 1 13 = X.1 1 13) ∧ hrw Y 7 (fun _ => 0) ∧ Y.1 12 1 = nI 1 ∧ Y.1 13 80 = nI 1 ∧ (∀ p, ¬ (1 ≤ p ∧ p ≤ 13) → Y.1 p = X.1 p) ∧ Y.2 = X.2 := by
  generalize hZ : sm_sI (sm_sI (sm_sI (sm_sI (sm_sI (sm_sI X 1 9 (nI 0)) 1 10 (nI 0)) 1 11 (nI 0)) 1 12 (nI 0)) 13 80 (nI 1)) 12 1 (nI 1) = Z
  have z1 : Z.1 1 9 = nI 0 ∧ Z.1 1 10 = nI 0 ∧ Z.1 1 11 = nI 0 ∧ Z.1 1 12 = nI 0 ∧ Z.1 1 13 = X.1 1 13 := by
    rw [← hZ, ne_sI1n (by decide), ne_sI1n (by decide), ne_sI1s, ne_sI1s, ne_sI1s, ne_sI1s]
    exact ⟨by rw [pk_un (by decide), pk_un (by decide), pk_un (by decide), pk_us], by rw [pk_un (by decide), pk_un (by decide), pk_us], by rw [pk_un (by decide), pk_us], by rw [pk_us], by rw [pk_un (by decide), pk_un (by decide), pk_un (by decide), pk_un (by decide)]⟩
  have z2 : Z.1 12 1 = nI 1 := by rw [← hZ, ne_sI1s, pk_us]
  have z3 : Z.1 13 80 = nI 1 := by rw [← hZ, ne_sI1n (by decide), ne_sI1s, pk_us]
  have z4 : ∀ p, ¬ (1 ≤ p ∧ p ≤ 13) → Z.1 p = X.1 p := fun p hp => by rw [← hZ, ne_sI1n (by omega), ne_sI1n (by omega), ne_sI1n (by omega), ne_sI1n (by omega), ne_sI1n (by omega), ne_sI1n (by omega)]
  have z5 : Z.2 = X.2 := by rw [← hZ]; rfl
  obtain ⟨Y, e, h1, h2, h3⟩ := eo_all (N := N) (X := Z) (s := Z) hN ⟨fun j z hj hz q => by omega, fun p hp => rfl, rfl⟩
  refine ⟨Y, ?_, by rw [h2 1 (by omega)]; exact z1, fun i z hi hz => h1 i z hi hz (by omega), by rw [h2 12 (by omega)]; exact z2, by rw [h2 13 (by omega)]; exact z3, fun p hp => by rw [h2 p (by omega)]; exact z4 p hp, by rw [h3]; exact z5⟩
  unfold px_House_emptyOut px_Shades_reset
  simp (disch := omega) only [sm_lt, sm_b1s, sm_b2s, ↓reduceIte, sm_in_nI, nI_clamp, nI_add, pk_mul, pk_sub, ne_addneg, nI_l, ne_ltT, ne_ltF, ne_leT, ne_leF, ne_eqT, ne_eqF, ne_sI1s, ne_sI1n, ne_sI2, ne_sI3, ne_sL1, ne_sL2s, ne_sL2n, ne_sL3, pk_us, pk_un, pk_uLs, pk_uLn, mm_Z, mm_L, mm_1, mm_2, mm_3, ne_rz0, ne_rz1, not_true_eq_false, not_false_eq_true, ne_i0, ne_i1, ne_i2, ne_i3, ne_i4, ne_i5, ne_i6, ne_i7, ne_i8, ne_i9, ne_i10, ne_i12, ne_i14, ne_i16, ne_i18, ne_i19, ne_i20, ne_i23, ne_i24, ne_i27, ne_i29, ne_i30, ne_i31, ne_i32, ne_i35, ne_i48, ne_i52, ne_i54, ne_i57, ne_i59, ne_i63, ne_i64, ne_i76, ne_i77, ne_i78, ne_i79, ne_i80, ne_i81, ne_i97, ne_i99, ne_i100, ne_i101, ne_i104, ne_i105, ne_i108, ne_i110, ne_i111, ne_i116, ne_i117, ne_i122, ne_i103, ne_i200, ne_i255, ne_i256, ne_i320, ne_i384, ne_i1000, ne_l0, ne_l1, ne_l2, ne_l3, ne_l4, ne_l5, ne_l8, ne_l12, ne_l31, ne_l48, ne_l57, ne_l97, ne_l99, ne_l122, ne_l255, ne_l673, ne_l1073741823, ne_l1073741824, hZ, e]
theorem rd_neg {fl : Nat} (h : fl ≤ 200) : (-10 : Int32) - nI fl < 0 := by
  rw [Int32.lt_iff_toInt_lt, Int32.toInt_sub, nI_toInt (by omega), show (-10 : Int32).toInt = -10 from rfl, show (0 : Int32).toInt = 0 from rfl, Int.bmod_eq_of_le (by omega) (by omega)]
  omega
theorem xsh_new {q : Nat} {w : Nat → Nat} (h1 : X.1 q 1 = nI 1) (h2 : X.1 (q + 1) 80 = nI 1) (hw : w 4 = 1) : xsh X q 0 w := by
  refine ⟨1, h1, by decide, by decide, ?_, fun r hr => ?_⟩
  · rw [hw]
    decide
  · obtain rfl : r = 4 := by omega
    refine ⟨by rw [hw]; decide, fun k hk => ?_⟩
    obtain rfl : k = 0 := by omega
    rw [hw]
    exact h2
theorem rd_set3 {Y : sm_St} (hY : Y.1 102 1 = nI len) : rdS Y (sm_sI (sm_sI (sm_sI Y 102 2 (nI 0)) 102 6 (nI 0)) 102 7 (nI 0)) len 0 (Y.1 102 5) 0 0 := by
  refine ⟨fun p hp => by rw [ne_sI1n hp, ne_sI1n hp, ne_sI1n hp], rfl, ?_, ?_, ?_, ?_, ?_⟩
  · rw [ne_sI1s, ne_sI1s, ne_sI1s, pk_un (by decide), pk_un (by decide), pk_un (by decide)]; exact hY
  · rw [ne_sI1s, ne_sI1s, ne_sI1s, pk_un (by decide), pk_un (by decide), pk_us]
  · rw [ne_sI1s, ne_sI1s, ne_sI1s, pk_un (by decide), pk_un (by decide), pk_un (by decide)]
  · rw [ne_sI1s, ne_sI1s, pk_un (by decide), pk_us]
  · rw [ne_sI1s, pk_us]
theorem hp2_0 {Y : sm_St} {cl co : Nat → Nat} (y1 : Y.1 1 9 = nI 0 ∧ Y.1 1 10 = nI 0 ∧ Y.1 1 11 = nI 0 ∧ Y.1 1 12 = nI 0 ∧ Y.1 1 13 = X.1 1 13) (y2 : hrw Y 7 (fun _ => 0)) (y3 : Y.1 12 1 = nI 1) (y4 : Y.1 13 80 = nI 1) (y5 : ∀ p, ¬ (1 ≤ p ∧ p ≤ 13) → p ≠ 102 → Y.1 p = X.1 p) (y6 : Y.2 = X.2) : hp2 X Y 0 0 cl co (fun _ => 0) :=
  ⟨y1, fun i hi => absurd hi (Nat.not_lt_zero _), fun t ht => absurd ht (Nat.not_lt_zero _), y2, xsh_new y3 y4 (if_pos rfl), y5, y6⟩
theorem rn_N : px_Reader_readInto_N N X = px_Reader_readInto_N_b17 N N (nI 0) (sm_sI (sm_sI (sm_sI X 102 2 (nI 0)) 102 6 (nI 0)) 102 7 (nI 0)) := by
  unfold px_Reader_readInto_N
  simp (disch := omega) only [sm_lt, sm_b1s, sm_b2s, ↓reduceIte, sm_in_nI, nI_clamp, nI_add, pk_mul, pk_sub, ne_addneg, nI_l, ne_ltT, ne_ltF, ne_leT, ne_leF, ne_eqT, ne_eqF, ne_sI1s, ne_sI1n, ne_sI2, ne_sI3, ne_sL1, ne_sL2s, ne_sL2n, ne_sL3, pk_us, pk_un, pk_uLs, pk_uLn, mm_Z, mm_L, mm_1, mm_2, mm_3, ne_rz0, ne_rz1, not_true_eq_false, not_false_eq_true, ne_i0, ne_i1, ne_i2, ne_i3, ne_i4, ne_i5, ne_i6, ne_i7, ne_i8, ne_i9, ne_i10, ne_i12, ne_i14, ne_i16, ne_i18, ne_i19, ne_i20, ne_i23, ne_i24, ne_i27, ne_i29, ne_i30, ne_i31, ne_i32, ne_i35, ne_i48, ne_i52, ne_i54, ne_i57, ne_i59, ne_i63, ne_i64, ne_i76, ne_i77, ne_i78, ne_i79, ne_i80, ne_i81, ne_i97, ne_i99, ne_i100, ne_i101, ne_i104, ne_i105, ne_i108, ne_i110, ne_i111, ne_i116, ne_i117, ne_i122, ne_i103, ne_i200, ne_i255, ne_i256, ne_i320, ne_i384, ne_i1000, ne_l0, ne_l1, ne_l2, ne_l3, ne_l4, ne_l5, ne_l8, ne_l12, ne_l31, ne_l48, ne_l57, ne_l97, ne_l99, ne_l122, ne_l255, ne_l673, ne_l1073741823, ne_l1073741824]
theorem rn_1 : px_Reader_readInto N X 1 = px_Reader_readInto_b17 N 1 N (nI 0) (sm_sI (sm_sI (sm_sI X 102 2 (nI 0)) 102 6 (nI 0)) 102 7 (nI 0)) := by
  unfold px_Reader_readInto
  simp (disch := omega) only [sm_lt, sm_b1s, sm_b2s, ↓reduceIte, sm_in_nI, nI_clamp, nI_add, pk_mul, pk_sub, ne_addneg, nI_l, ne_ltT, ne_ltF, ne_leT, ne_leF, ne_eqT, ne_eqF, ne_sI1s, ne_sI1n, ne_sI2, ne_sI3, ne_sL1, ne_sL2s, ne_sL2n, ne_sL3, pk_us, pk_un, pk_uLs, pk_uLn, mm_Z, mm_L, mm_1, mm_2, mm_3, ne_rz0, ne_rz1, not_true_eq_false, not_false_eq_true, ne_i0, ne_i1, ne_i2, ne_i3, ne_i4, ne_i5, ne_i6, ne_i7, ne_i8, ne_i9, ne_i10, ne_i12, ne_i14, ne_i16, ne_i18, ne_i19, ne_i20, ne_i23, ne_i24, ne_i27, ne_i29, ne_i30, ne_i31, ne_i32, ne_i35, ne_i48, ne_i52, ne_i54, ne_i57, ne_i59, ne_i63, ne_i64, ne_i76, ne_i77, ne_i78, ne_i79, ne_i80, ne_i81, ne_i97, ne_i99, ne_i100, ne_i101, ne_i104, ne_i105, ne_i108, ne_i110, ne_i111, ne_i116, ne_i117, ne_i122, ne_i103, ne_i200, ne_i255, ne_i256, ne_i320, ne_i384, ne_i1000, ne_l0, ne_l1, ne_l2, ne_l3, ne_l4, ne_l5, ne_l8, ne_l12, ne_l31, ne_l48, ne_l57, ne_l97, ne_l99, ne_l122, ne_l255, ne_l673, ne_l1073741823, ne_l1073741824]
/-- the built side reads: the fault -/
theorem xr_read0 {s' : sm_St} {v : Int32} (lt : v < 0) (e : px_Reader_readInto_N N X = some (v, s')) : px_L_read N X = some (v, s') := by
  unfold px_L_read
  rw [e, sm_b2s]
  simp only [sm_lt]
  rw [if_pos lt]
theorem xr_read1 {s' Y Z : sm_St} {n : Nat} {v : Int32} (hn : n ≤ 200) (e : px_Reader_readInto_N N X = some (nI n, s')) (e2 : px_House_emptyOut N s' 1 = some Y) (e3 : px_Reader_readInto N Y 1 = some (v, Z)) : px_L_read N X = some (nI n, Z) := by
  unfold px_L_read
  rw [e, sm_b2s]
  simp only [sm_lt]
  rw [if_neg (show ¬ nI n < (0 : Int32) from nI_nlt (a := n) (b := 0) (by omega) (by omega)), e2, sm_b1s, e3, sm_b2s]
/-- the built side reads -/
theorem xr_read (hN : 4000 ≤ N) (hT : rdT X tx len) (h1 : X.1 102 1 = nI len) {z : Nat ⊕ (Nat × Nat × Nat × (Nat → Nat) × (Nat → Nat) × (Nat → Nat))} (hz : pz tx len (len + 1) 0 0 0 0 (fun _ => 0) (fun _ => 0) (fun _ => 0) = z) : (∀ fl, z = .inl fl → ∃ X', px_L_read N X = some ((-10 : Int32) - nI fl, X') ∧ (∀ p, p ≠ 102 → X'.1 p = X.1 p) ∧ X'.2 = X.2 ∧ X'.1 102 1 = nI len) ∧ ∀ r, z = .inr r → ∃ X', px_L_read N X = some (nI r.1, X') ∧ hp2 X X' r.2.1 r.2.2.1 r.2.2.2.1 r.2.2.2.2.1 r.2.2.2.2.2 ∧ X'.1 102 1 = nI len := by
  have hl := hT.1
  obtain ⟨j1, j2⟩ := pz_J (tx := tx) (len := len) (len + 1) 0 0 0 0 (fun _ => 0) (fun _ => 0) (fun _ => 0) (Nat.le_refl 0) (Nat.zero_le _) (pzJ_0 _ _)
  obtain ⟨s', h, pl, va, nc, nt, hs⟩ := xr_p1 (N := N) hN hT (len + 1) 0 0 0 0 (fun _ => 0) (fun _ => 0) (fun _ => 0) N _ _ (by omega) (Nat.le_refl 0) (Nat.zero_le _) (Nat.zero_le _) (Nat.zero_le _) (by omega) (rd_set3 h1)
  rw [hz] at h j1 j2
  rw [← rn_N] at h
  refine ⟨fun f e => ?_, fun r e => ?_⟩
  · rw [e] at h j1
    have b := j1 f rfl
    exact ⟨s', xr_read0 (rd_neg (by omega)) h, hs.1, hs.2.1, hs.2.2.1⟩
  · rw [e] at h j2 hz
    obtain ⟨b, _⟩ := j2 r rfl
    obtain ⟨Y, eY, y1, y2, y3, y4, y5, y6⟩ := xr_empty (N := N) (X := s') hN
    have Y102 : Y.1 102 1 = nI len := by rw [y5 102 (by omega)]; exact hs.2.2.1
    have g := rd_set3 Y102
    have hp := hp2_102 (hp2_0 (X := X) (cl := fun _ => 0) (co := fun _ => 0) ⟨y1.1, y1.2.1, y1.2.2.1, y1.2.2.2.1, by rw [y1.2.2.2.2, hs.1 1 (by decide)]⟩ y2 y3 y4 (fun p p1 p2 => by rw [y5 p p1]; exact hs.1 p p2) (by rw [y6]; exact hs.2.1)) g.1 g.2.1
    have e3 := rn_1 (N := N) (X := Y)
    generalize sm_sI (sm_sI (sm_sI Y 102 2 (nI 0)) 102 6 (nI 0)) 102 7 (nI 0) = G at g hp e3
    obtain ⟨X', e2, p2, x1⟩ := xr_p2 (N := N) (X0 := X) hN hT (len + 1) 0 0 0 0 (fun _ => 0) (fun _ => 0) (fun _ => 0) N G _ r (by omega) (Nat.le_refl 0) (Nat.zero_le _) (Nat.zero_le _) (Nat.zero_le _) (by omega) (rdS_self g rfl) hp hz
    rw [e2] at e3
    exact ⟨X', xr_read1 (by omega) h eY e3, p2, x1⟩
end
