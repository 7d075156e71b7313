/-! the fraction: digits trimmed, remainders, dividing by small numbers -/
theorem ne_shl30 (x : Nat) : lN x <<< (lN 30 &&& 63) = lN (x * 1073741824) := by
  have e : lN 30 &&& 63 = lN 30 := by decide
  rw [e]
  apply Int64.toBitVec_inj.mp
  show (lN x).toBitVec <<< ((lN 30).toBitVec.smod 64) = _
  have e2 : (lN 30).toBitVec.smod 64 = 30#64 := by decide
  rw [e2]
  show BitVec.ofNat 64 x <<< 30#64 = BitVec.ofNat 64 (x * 1073741824)
  apply BitVec.eq_of_toNat_eq
  rw [BitVec.shiftLeft_eq', BitVec.toNat_shiftLeft, BitVec.toNat_ofNat, BitVec.toNat_ofNat, BitVec.toNat_ofNat, Nat.shiftLeft_eq]
  have : 30 % 2 ^ 64 = 30 := rfl
  rw [this]
  omega
/-- an index that goes down: one less than k -/
def ix (k : Nat) : Int32 := nI k + -nI 1
theorem ix_0 : ix 0 = -nI 1 := by decide
theorem ix_s (k : Nat) : ix (k + 1) = nI k := by unfold ix; rw [ne_addneg (by omega)]; rfl
theorem ix_n (k : Nat) : nI k + -nI 1 = ix k := rfl
theorem ix_sub (k : Nat) : nI k - nI 1 = ix k := by unfold ix; rw [Int32.sub_eq_add_neg]
theorem ne_m10 : (-nI 1 < nI 0) = True := eq_true (by decide)
/-- n digits of v at place q -/
def xdg (X : sm_St) (q n v : Nat) : Prop := v < nm_B ^ n ∧ ∀ k, k < n → X.1 q k = nI (nm_dg v k)
theorem xdg_nd {X : sm_St} {q n v : Nat} (h : xdg X q n v) : xdg X q (nm_nd v) v := ⟨nm_lt_nd v, fun k hk => h.2 k (Nat.lt_of_lt_of_le hk (nm_nd_le.mpr h.1))⟩
section
variable {N : Nat} {X : sm_St} {q : Nat}
theorem xq_trimL {v : Nat} (hq : (zx_sh q).2 = 20) : ∀ n f, n < f → n ≤ 20 → xdg X q n v → px_Fraction_trimmed_b2 N q f (nI n) X = some (nI (nm_nd v), X)
  | 0, f, hf, _, h => by
    obtain ⟨f, rfl⟩ : ∃ g, f = g + 1 := ⟨f - 1, by omega⟩
    have : v = 0 := by have := h.1; simp at this; omega
    subst this
    rw [px_Fraction_trimmed_b2]
    simp (disch := omega) only [sm_lt, sm_b1s, sm_b2s, ↓reduceIte, sm_in_nI, nI_clamp, nI_add, pk_mul, pk_sub, ne_addneg, nI_l, ne_ltT, ne_ltF, ne_leT, ne_leF, ne_eqT, ne_eqF, ne_sI1s, ne_sI1n, ne_sI2, ne_sI3, ne_sL1, ne_sL2s, ne_sL2n, ne_sL3, pk_us, pk_un, pk_uLs, pk_uLn, mm_Z, mm_L, mm_1, mm_2, mm_3, ne_rz0, ne_rz1, not_true_eq_false, not_false_eq_true, ne_i0, ne_i1, ne_i2, ne_i3, ne_i4, ne_i5, ne_i6, ne_i7, ne_i8, ne_i9, ne_i10, ne_i12, ne_i14, ne_i16, ne_i18, ne_i19, ne_i20, ne_i23, ne_i24, ne_i27, ne_i29, ne_i30, ne_i31, ne_i32, ne_i35, ne_i48, ne_i52, ne_i54, ne_i57, ne_i59, ne_i63, ne_i64, ne_i76, ne_i77, ne_i78, ne_i79, ne_i80, ne_i81, ne_i97, ne_i99, ne_i100, ne_i101, ne_i104, ne_i105, ne_i108, ne_i110, ne_i111, ne_i116, ne_i117, ne_i122, ne_i103, ne_i200, ne_i255, ne_i256, ne_i320, ne_i384, ne_i1000, ne_l0, ne_l1, ne_l2, ne_l3, ne_l4, ne_l5, ne_l8, ne_l12, ne_l31, ne_l48, ne_l57, ne_l97, ne_l99, ne_l122, ne_l255, ne_l673, ne_l1073741823, ne_l1073741824]
    rfl
  | n + 1, f, hf, hn, h => by
    obtain ⟨f, rfl⟩ : ∃ g, f = g + 1 := ⟨f - 1, by omega⟩
    have d := nm_dg_lt v n
    have e := h.2 n (by omega)
    rw [px_Fraction_trimmed_b2]
    by_cases h0 : nm_dg v n = 0
    · have ih := xq_trimL hq n f (by omega) (by omega) ⟨nm_top0 h.1 h0, fun k hk => h.2 k (by omega)⟩
      simp (disch := omega) only [sm_lt, sm_b1s, sm_b2s, ↓reduceIte, sm_in_nI, nI_clamp, nI_add, pk_mul, pk_sub, ne_addneg, nI_l, ne_ltT, ne_ltF, ne_leT, ne_leF, ne_eqT, ne_eqF, ne_sI1s, ne_sI1n, ne_sI2, ne_sI3, ne_sL1, ne_sL2s, ne_sL2n, ne_sL3, pk_us, pk_un, pk_uLs, pk_uLn, mm_Z, mm_L, mm_1, mm_2, mm_3, ne_rz0, ne_rz1, not_true_eq_false, not_false_eq_true, ne_i0, ne_i1, ne_i2, ne_i3, ne_i4, ne_i5, ne_i6, ne_i7, ne_i8, ne_i9, ne_i10, ne_i12, ne_i14, ne_i16, ne_i18, ne_i19, ne_i20, ne_i23, ne_i24, ne_i27, ne_i29, ne_i30, ne_i31, ne_i32, ne_i35, ne_i48, ne_i52, ne_i54, ne_i57, ne_i59, ne_i63, ne_i64, ne_i76, ne_i77, ne_i78, ne_i79, ne_i80, ne_i81, ne_i97, ne_i99, ne_i100, ne_i101, ne_i104, ne_i105, ne_i108, ne_i110, ne_i111, ne_i116, ne_i117, ne_i122, ne_i103, ne_i200, ne_i255, ne_i256, ne_i320, ne_i384, ne_i1000, ne_l0, ne_l1, ne_l2, ne_l3, ne_l4, ne_l5, ne_l8, ne_l12, ne_l31, ne_l48, ne_l57, ne_l97, ne_l99, ne_l122, ne_l255, ne_l673, ne_l1073741823, ne_l1073741824, hq, Nat.add_sub_cancel, e, ih]
    · have := nm_topn h.1 h0
      simp (disch := omega) only [sm_lt, sm_b1s, sm_b2s, ↓reduceIte, sm_in_nI, nI_clamp, nI_add, pk_mul, pk_sub, ne_addneg, nI_l, ne_ltT, ne_ltF, ne_leT, ne_leF, ne_eqT, ne_eqF, ne_sI1s, ne_sI1n, ne_sI2, ne_sI3, ne_sL1, ne_sL2s, ne_sL2n, ne_sL3, pk_us, pk_un, pk_uLs, pk_uLn, mm_Z, mm_L, mm_1, mm_2, mm_3, ne_rz0, ne_rz1, not_true_eq_false, not_false_eq_true, ne_i0, ne_i1, ne_i2, ne_i3, ne_i4, ne_i5, ne_i6, ne_i7, ne_i8, ne_i9, ne_i10, ne_i12, ne_i14, ne_i16, ne_i18, ne_i19, ne_i20, ne_i23, ne_i24, ne_i27, ne_i29, ne_i30, ne_i31, ne_i32, ne_i35, ne_i48, ne_i52, ne_i54, ne_i57, ne_i59, ne_i63, ne_i64, ne_i76, ne_i77, ne_i78, ne_i79, ne_i80, ne_i81, ne_i97, ne_i99, ne_i100, ne_i101, ne_i104, ne_i105, ne_i108, ne_i110, ne_i111, ne_i116, ne_i117, ne_i122, ne_i103, ne_i200, ne_i255, ne_i256, ne_i320, ne_i384, ne_i1000, ne_l0, ne_l1, ne_l2, ne_l3, ne_l4, ne_l5, ne_l8, ne_l12, ne_l31, ne_l48, ne_l57, ne_l97, ne_l99, ne_l122, ne_l255, ne_l673, ne_l1073741823, ne_l1073741824, hq, Nat.add_sub_cancel, e]
      rw [this]
theorem xq_trimmed {v n : Nat} (hN : 4000 ≤ N) (hq : (zx_sh q).2 = 20) (hn : n ≤ 20) (h : xdg X q n v) : px_Fraction_trimmed N X q (nI n) = some (nI (nm_nd v), X) := by
  unfold px_Fraction_trimmed
  simp only [sm_lt]
  exact xq_trimL hq n N (by omega) hn h
theorem xq_remL {v n b : Nat} (hq : (zx_sh q).2 = 20) (hb : 0 < b) (hb2 : b < 2 ^ 31) (hn : n ≤ 20) (h : xdg X q n v) : ∀ k f, k ≤ n → k < f → px_Fraction_remainder_b7 N q f (nI b) (lN (v / nm_B ^ k % b)) (ix k) X = some (nI (v % b), X)
  | 0, f, _, hf => by
    obtain ⟨f, rfl⟩ : ∃ g, f = g + 1 := ⟨f - 1, by omega⟩
    rw [px_Fraction_remainder_b7, ix_0]
    unfold px_Fraction_remainder_b36
    simp (disch := omega) only [sm_lt, sm_b1s, sm_b2s, ↓reduceIte, sm_in_nI, nI_clamp, nI_add, pk_mul, pk_sub, ne_addneg, nI_l, ne_ltT, ne_ltF, ne_leT, ne_leF, ne_eqT, ne_eqF, ne_sI1s, ne_sI1n, ne_sI2, ne_sI3, ne_sL1, ne_sL2s, ne_sL2n, ne_sL3, pk_us, pk_un, pk_uLs, pk_uLn, mm_Z, mm_L, mm_1, mm_2, mm_3, ne_rz0, ne_rz1, not_true_eq_false, not_false_eq_true, ne_i0, ne_i1, ne_i2, ne_i3, ne_i4, ne_i5, ne_i6, ne_i7, ne_i8, ne_i9, ne_i10, ne_i12, ne_i14, ne_i16, ne_i18, ne_i19, ne_i20, ne_i23, ne_i24, ne_i27, ne_i29, ne_i30, ne_i31, ne_i32, ne_i35, ne_i48, ne_i52, ne_i54, ne_i57, ne_i59, ne_i63, ne_i64, ne_i76, ne_i77, ne_i78, ne_i79, ne_i80, ne_i81, ne_i97, ne_i99, ne_i100, ne_i101, ne_i104, ne_i105, ne_i108, ne_i110, ne_i111, ne_i116, ne_i117, ne_i122, ne_i103, ne_i200, ne_i255, ne_i256, ne_i320, ne_i384, ne_i1000, ne_l0, ne_l1, ne_l2, ne_l3, ne_l4, ne_l5, ne_l8, ne_l12, ne_l31, ne_l48, ne_l57, ne_l97, ne_l99, ne_l122, ne_l255, ne_l673, ne_l1073741823, ne_l1073741824, ne_m10, lN_i, Nat.pow_zero, Nat.div_one]
  | k + 1, f, hk, hf => by
    obtain ⟨f, rfl⟩ : ∃ g, f = g + 1 := ⟨f - 1, by omega⟩
    have d := nm_dg_lt v k
    have e := h.2 k (by omega)
    have r := Nat.mod_lt (v / nm_B ^ (k + 1)) hb
    have ih := xq_remL hq hb hb2 hn h k f (by omega) (by omega)
    have dv : (v / nm_B ^ (k + 1) % b * 1073741824 + nm_dg v k) % b = v / nm_B ^ k % b := (nm_dv v b k hb).2.symm
    have bd : v / nm_B ^ (k + 1) % b * 1073741824 + nm_dg v k < 2 ^ 63 := by omega
    rw [px_Fraction_remainder_b7, ix_s]
    simp (disch := omega) only [sm_lt, sm_b1s, sm_b2s, ↓reduceIte, sm_in_nI, nI_clamp, nI_add, pk_mul, pk_sub, ne_addneg, nI_l, ne_ltT, ne_ltF, ne_leT, ne_leF, ne_eqT, ne_eqF, ne_sI1s, ne_sI1n, ne_sI2, ne_sI3, ne_sL1, ne_sL2s, ne_sL2n, ne_sL3, pk_us, pk_un, pk_uLs, pk_uLn, mm_Z, mm_L, mm_1, mm_2, mm_3, ne_rz0, ne_rz1, not_true_eq_false, not_false_eq_true, ne_i0, ne_i1, ne_i2, ne_i3, ne_i4, ne_i5, ne_i6, ne_i7, ne_i8, ne_i9, ne_i10, ne_i12, ne_i14, ne_i16, ne_i18, ne_i19, ne_i20, ne_i23, ne_i24, ne_i27, ne_i29, ne_i30, ne_i31, ne_i32, ne_i35, ne_i48, ne_i52, ne_i54, ne_i57, ne_i59, ne_i63, ne_i64, ne_i76, ne_i77, ne_i78, ne_i79, ne_i80, ne_i81, ne_i97, ne_i99, ne_i100, ne_i101, ne_i104, ne_i105, ne_i108, ne_i110, ne_i111, ne_i116, ne_i117, ne_i122, ne_i103, ne_i200, ne_i255, ne_i256, ne_i320, ne_i384, ne_i1000, ne_l0, ne_l1, ne_l2, ne_l3, ne_l4, ne_l5, ne_l8, ne_l12, ne_l31, ne_l48, ne_l57, ne_l97, ne_l99, ne_l122, ne_l255, ne_l673, ne_l1073741823, ne_l1073741824, hq, e, ne_shl30, lN_add, ne_LeqF, pk_lDiv, lN_mul, nm_rm, dv, ix_n]
    exact ih
theorem xq_remainder {v n b : Nat} (hN : 4000 ≤ N) (hq : (zx_sh q).2 = 20) (hb : 0 < b) (hb2 : b < 2 ^ 31) (hn : n ≤ 20) (h : xdg X q n v) : px_Fraction_remainder N X q (nI n) (nI b) = some (nI (v % b), X) := by
  unfold px_Fraction_remainder
  simp (disch := omega) only [sm_lt, sm_b1s, sm_b2s, ↓reduceIte, sm_in_nI, nI_clamp, nI_add, pk_mul, pk_sub, ne_addneg, nI_l, ne_ltT, ne_ltF, ne_leT, ne_leF, ne_eqT, ne_eqF, ne_sI1s, ne_sI1n, ne_sI2, ne_sI3, ne_sL1, ne_sL2s, ne_sL2n, ne_sL3, pk_us, pk_un, pk_uLs, pk_uLn, mm_Z, mm_L, mm_1, mm_2, mm_3, ne_rz0, ne_rz1, not_true_eq_false, not_false_eq_true, ne_i0, ne_i1, ne_i2, ne_i3, ne_i4, ne_i5, ne_i6, ne_i7, ne_i8, ne_i9, ne_i10, ne_i12, ne_i14, ne_i16, ne_i18, ne_i19, ne_i20, ne_i23, ne_i24, ne_i27, ne_i29, ne_i30, ne_i31, ne_i32, ne_i35, ne_i48, ne_i52, ne_i54, ne_i57, ne_i59, ne_i63, ne_i64, ne_i76, ne_i77, ne_i78, ne_i79, ne_i80, ne_i81, ne_i97, ne_i99, ne_i100, ne_i101, ne_i104, ne_i105, ne_i108, ne_i110, ne_i111, ne_i116, ne_i117, ne_i122, ne_i103, ne_i200, ne_i255, ne_i256, ne_i320, ne_i384, ne_i1000, ne_l0, ne_l1, ne_l2, ne_l3, ne_l4, ne_l5, ne_l8, ne_l12, ne_l31, ne_l48, ne_l57, ne_l97, ne_l99, ne_l122, ne_l255, ne_l673, ne_l1073741823, ne_l1073741824, ix_sub]
  have := xq_remL (N := N) hq hb hb2 hn h n N (Nat.le_refl _) (by omega)
  rw [nm_div_full h.1, Nat.zero_mod] at this
  exact this
theorem xq_divL {v n b : Nat} (hq : (zx_sh q).2 = 20) (hb : 1 < b) (hb2 : b < 2 ^ 31) (hn : n ≤ 20) (hv : v < nm_B ^ n) : ∀ k f g, k ≤ n → k < f → (∀ j, j < k → g j = nI (nm_dg v j)) → (∀ j, k ≤ j → j < n → g j = nI (nm_dg (v / b) j)) → ∃ g', px_Fraction_divide_b7 N q f (nI b) (lN (v / nm_B ^ k % b)) (ix k) (sm_sF X q g) = some (sm_sF X q g') ∧ ∀ j, j < n → g' j = nI (nm_dg (v / b) j)
  | 0, f, g, _, hf, _, h2 => by
    obtain ⟨f, rfl⟩ : ∃ g, f = g + 1 := ⟨f - 1, by omega⟩
    refine ⟨g, ?_, fun j hj => h2 j (by omega) hj⟩
    rw [px_Fraction_divide_b7, ix_0]
    simp (disch := omega) only [sm_lt, sm_b1s, sm_b2s, ↓reduceIte, sm_in_nI, nI_clamp, nI_add, pk_mul, pk_sub, ne_addneg, nI_l, ne_ltT, ne_ltF, ne_leT, ne_leF, ne_eqT, ne_eqF, ne_sI1s, ne_sI1n, ne_sI2, ne_sI3, ne_sL1, ne_sL2s, ne_sL2n, ne_sL3, pk_us, pk_un, pk_uLs, pk_uLn, mm_Z, mm_L, mm_1, mm_2, mm_3, ne_rz0, ne_rz1, not_true_eq_false, not_false_eq_true, ne_i0, ne_i1, ne_i2, ne_i3, ne_i4, ne_i5, ne_i6, ne_i7, ne_i8, ne_i9, ne_i10, ne_i12, ne_i14, ne_i16, ne_i18, ne_i19, ne_i20, ne_i23, ne_i24, ne_i27, ne_i29, ne_i30, ne_i31, ne_i32, ne_i35, ne_i48, ne_i52, ne_i54, ne_i57, ne_i59, ne_i63, ne_i64, ne_i76, ne_i77, ne_i78, ne_i79, ne_i80, ne_i81, ne_i97, ne_i99, ne_i100, ne_i101, ne_i104, ne_i105, ne_i108, ne_i110, ne_i111, ne_i116, ne_i117, ne_i122, ne_i103, ne_i200, ne_i255, ne_i256, ne_i320, ne_i384, ne_i1000, ne_l0, ne_l1, ne_l2, ne_l3, ne_l4, ne_l5, ne_l8, ne_l12, ne_l31, ne_l48, ne_l57, ne_l97, ne_l99, ne_l122, ne_l255, ne_l673, ne_l1073741823, ne_l1073741824, ne_m10]
  | k + 1, f, g, hk, hf, h1, h2 => by
    obtain ⟨f, rfl⟩ : ∃ g, f = g + 1 := ⟨f - 1, by omega⟩
    have d := nm_dg_lt v k
    have d2 := nm_dg_lt (v / b) k
    have e := h1 k (by omega)
    have r := Nat.mod_lt (v / nm_B ^ (k + 1)) (show 0 < b by omega)
    obtain ⟨g', ih, i2⟩ := xq_divL hq hb hb2 hn hv k f (upd g k (nI (nm_dg (v / b) k))) (by omega) (by omega) (fun j hj => by rw [pk_un (by omega)]; exact h1 j (by omega)) (fun j hj hj2 => by
      by_cases ej : j = k
      · subst ej
        exact pk_us
      · rw [pk_un ej]
        exact h2 j (by omega) hj2)
    have dv := nm_dv v b k (by omega)
    have dv1 : (v / nm_B ^ (k + 1) % b * 1073741824 + nm_dg v k) / b = nm_dg (v / b) k := dv.1.symm
    have dv2 : (v / nm_B ^ (k + 1) % b * 1073741824 + nm_dg v k) % b = v / nm_B ^ k % b := dv.2.symm
    have bd : v / nm_B ^ (k + 1) % b * 1073741824 + nm_dg v k < 2 ^ 63 := by omega
    refine ⟨g', ?_, i2⟩
    rw [px_Fraction_divide_b7, ix_s]
    simp (disch := omega) only [sm_lt, sm_b1s, sm_b2s, ↓reduceIte, sm_in_nI, nI_clamp, nI_add, pk_mul, pk_sub, ne_addneg, nI_l, ne_ltT, ne_ltF, ne_leT, ne_leF, ne_eqT, ne_eqF, ne_sI1s, ne_sI1n, ne_sI2, ne_sI3, ne_sL1, ne_sL2s, ne_sL2n, ne_sL3, pk_us, pk_un, pk_uLs, pk_uLn, mm_Z, mm_L, mm_1, mm_2, mm_3, ne_rz0, ne_rz1, not_true_eq_false, not_false_eq_true, ne_i0, ne_i1, ne_i2, ne_i3, ne_i4, ne_i5, ne_i6, ne_i7, ne_i8, ne_i9, ne_i10, ne_i12, ne_i14, ne_i16, ne_i18, ne_i19, ne_i20, ne_i23, ne_i24, ne_i27, ne_i29, ne_i30, ne_i31, ne_i32, ne_i35, ne_i48, ne_i52, ne_i54, ne_i57, ne_i59, ne_i63, ne_i64, ne_i76, ne_i77, ne_i78, ne_i79, ne_i80, ne_i81, ne_i97, ne_i99, ne_i100, ne_i101, ne_i104, ne_i105, ne_i108, ne_i110, ne_i111, ne_i116, ne_i117, ne_i122, ne_i103, ne_i200, ne_i255, ne_i256, ne_i320, ne_i384, ne_i1000, ne_l0, ne_l1, ne_l2, ne_l3, ne_l4, ne_l5, ne_l8, ne_l12, ne_l31, ne_l48, ne_l57, ne_l97, ne_l99, ne_l122, ne_l255, ne_l673, ne_l1073741823, ne_l1073741824, hq, e, sF_s, ne_shl30, lN_add, ne_LeqF, pk_lDiv, lN_mul, nm_rm, dv1, dv2, ix_n, lN_i, sF_sI]
    have q1 : lN (v / nm_B ^ (k + 1) % b * 1073741824 + nm_dg v k) - lN (nm_dg (v / b) k * b) = lN (v / nm_B ^ k % b) := by
      rw [← dv1, nm_rm, dv2]
    rw [q1]
    exact ih
theorem xq_divide {v n b : Nat} (hN : 4000 ≤ N) (hq : (zx_sh q).2 = 20) (hb : 0 < b) (hb2 : b < 2 ^ 31) (hn : n ≤ 20) (h : xdg X q n v) : ∃ g, px_Fraction_divide N X q (nI n) (nI b) = some (sm_sF X q g) ∧ xdg (sm_sF X q g) q n (v / b) := by
  have hlt : v / b < nm_B ^ n := Nat.lt_of_le_of_lt (Nat.div_le_self _ _) h.1
  unfold px_Fraction_divide
  simp (disch := omega) only [sm_lt, sm_b1s, sm_b2s, ↓reduceIte, sm_in_nI, nI_clamp, nI_add, pk_mul, pk_sub, ne_addneg, nI_l, ne_ltT, ne_ltF, ne_leT, ne_leF, ne_eqT, ne_eqF, ne_sI1s, ne_sI1n, ne_sI2, ne_sI3, ne_sL1, ne_sL2s, ne_sL2n, ne_sL3, pk_us, pk_un, pk_uLs, pk_uLn, mm_Z, mm_L, mm_1, mm_2, mm_3, ne_rz0, ne_rz1, not_true_eq_false, not_false_eq_true, ne_i0, ne_i1, ne_i2, ne_i3, ne_i4, ne_i5, ne_i6, ne_i7, ne_i8, ne_i9, ne_i10, ne_i12, ne_i14, ne_i16, ne_i18, ne_i19, ne_i20, ne_i23, ne_i24, ne_i27, ne_i29, ne_i30, ne_i31, ne_i32, ne_i35, ne_i48, ne_i52, ne_i54, ne_i57, ne_i59, ne_i63, ne_i64, ne_i76, ne_i77, ne_i78, ne_i79, ne_i80, ne_i81, ne_i97, ne_i99, ne_i100, ne_i101, ne_i104, ne_i105, ne_i108, ne_i110, ne_i111, ne_i116, ne_i117, ne_i122, ne_i103, ne_i200, ne_i255, ne_i256, ne_i320, ne_i384, ne_i1000, ne_l0, ne_l1, ne_l2, ne_l3, ne_l4, ne_l5, ne_l8, ne_l12, ne_l31, ne_l48, ne_l57, ne_l97, ne_l99, ne_l122, ne_l255, ne_l673, ne_l1073741823, ne_l1073741824, ix_sub]
  by_cases h1 : b = 1
  · subst h1
    refine ⟨X.1 q, ?_, hlt, fun k hk => by rw [sF_s, Nat.div_one]; exact h.2 k hk⟩
    obtain ⟨N', rfl⟩ : ∃ m, N = m + 1 := ⟨N - 1, by omega⟩
    rw [sF_self, px_Fraction_divide_b7]
    rcases Nat.eq_zero_or_pos n with e | e
    · subst e
      rw [ix_0]
      simp (disch := omega) only [sm_lt, sm_b1s, sm_b2s, ↓reduceIte, sm_in_nI, nI_clamp, nI_add, pk_mul, pk_sub, ne_addneg, nI_l, ne_ltT, ne_ltF, ne_leT, ne_leF, ne_eqT, ne_eqF, ne_sI1s, ne_sI1n, ne_sI2, ne_sI3, ne_sL1, ne_sL2s, ne_sL2n, ne_sL3, pk_us, pk_un, pk_uLs, pk_uLn, mm_Z, mm_L, mm_1, mm_2, mm_3, ne_rz0, ne_rz1, not_true_eq_false, not_false_eq_true, ne_i0, ne_i1, ne_i2, ne_i3, ne_i4, ne_i5, ne_i6, ne_i7, ne_i8, ne_i9, ne_i10, ne_i12, ne_i14, ne_i16, ne_i18, ne_i19, ne_i20, ne_i23, ne_i24, ne_i27, ne_i29, ne_i30, ne_i31, ne_i32, ne_i35, ne_i48, ne_i52, ne_i54, ne_i57, ne_i59, ne_i63, ne_i64, ne_i76, ne_i77, ne_i78, ne_i79, ne_i80, ne_i81, ne_i97, ne_i99, ne_i100, ne_i101, ne_i104, ne_i105, ne_i108, ne_i110, ne_i111, ne_i116, ne_i117, ne_i122, ne_i103, ne_i200, ne_i255, ne_i256, ne_i320, ne_i384, ne_i1000, ne_l0, ne_l1, ne_l2, ne_l3, ne_l4, ne_l5, ne_l8, ne_l12, ne_l31, ne_l48, ne_l57, ne_l97, ne_l99, ne_l122, ne_l255, ne_l673, ne_l1073741823, ne_l1073741824, ne_m10]
    · obtain ⟨m, rfl⟩ : ∃ m, n = m + 1 := ⟨n - 1, by omega⟩
      rw [ix_s]
      simp (disch := omega) only [sm_lt, sm_b1s, sm_b2s, ↓reduceIte, sm_in_nI, nI_clamp, nI_add, pk_mul, pk_sub, ne_addneg, nI_l, ne_ltT, ne_ltF, ne_leT, ne_leF, ne_eqT, ne_eqF, ne_sI1s, ne_sI1n, ne_sI2, ne_sI3, ne_sL1, ne_sL2s, ne_sL2n, ne_sL3, pk_us, pk_un, pk_uLs, pk_uLn, mm_Z, mm_L, mm_1, mm_2, mm_3, ne_rz0, ne_rz1, not_true_eq_false, not_false_eq_true, ne_i0, ne_i1, ne_i2, ne_i3, ne_i4, ne_i5, ne_i6, ne_i7, ne_i8, ne_i9, ne_i10, ne_i12, ne_i14, ne_i16, ne_i18, ne_i19, ne_i20, ne_i23, ne_i24, ne_i27, ne_i29, ne_i30, ne_i31, ne_i32, ne_i35, ne_i48, ne_i52, ne_i54, ne_i57, ne_i59, ne_i63, ne_i64, ne_i76, ne_i77, ne_i78, ne_i79, ne_i80, ne_i81, ne_i97, ne_i99, ne_i100, ne_i101, ne_i104, ne_i105, ne_i108, ne_i110, ne_i111, ne_i116, ne_i117, ne_i122, ne_i103, ne_i200, ne_i255, ne_i256, ne_i320, ne_i384, ne_i1000, ne_l0, ne_l1, ne_l2, ne_l3, ne_l4, ne_l5, ne_l8, ne_l12, ne_l31, ne_l48, ne_l57, ne_l97, ne_l99, ne_l122, ne_l255, ne_l673, ne_l1073741823, ne_l1073741824]
  · obtain ⟨g', e1, e2⟩ := xq_divL (N := N) (X := X) hq (show 1 < b by omega) hb2 hn h.1 n N (X.1 q) (Nat.le_refl _) (by omega) h.2 (fun j hj hj2 => by omega)
    rw [nm_div_full h.1, Nat.zero_mod, sF_self] at e1
    exact ⟨g', e1, hlt, fun k hk => by rw [sF_s]; exact e2 k hk⟩
/-- the divisor of numbers that may be large: the first falls to half in two steps -/
theorem xq_gcdB : ∀ (j x y c f : Nat), y ≤ x → x < 2 ^ j → j ≤ 31 → c + 2 * j ≤ 63 → 2 * j < f → px_L_greatestDivisor_b7 N f (nI x) (nI y) (nI c) X = some (nI (Nat.gcd x y), X)
  | 0, x, y, c, f, hxy, hx, _, hc, hf => by
    obtain ⟨f, rfl⟩ : ∃ g, f = g + 1 := ⟨f - 1, by omega⟩
    have : x = 0 := by simpa using hx
    obtain rfl : x = 0 := this
    obtain rfl : y = 0 := by omega
    rw [px_L_greatestDivisor_b7, show (64 : Int32) = nI 64 from rfl, if_neg (nI_ge (by omega) (by omega)), if_pos (show nI 0 = 0 from rfl), Nat.gcd_zero_right]
  | j + 1, x, y, c, f, hxy, hx, hj, hc, hf => by
    obtain ⟨f, rfl⟩ : ∃ g, f = g + 2 := ⟨f - 2, by omega⟩
    have h31 : 2 ^ (j + 1) ≤ 2 ^ 31 := Nat.pow_le_pow_right (by decide) hj
    rw [px_L_greatestDivisor_b7, show (64 : Int32) = nI 64 from rfl, if_neg (nI_ge (by omega) (by omega))]
    rcases Nat.eq_zero_or_pos y with e | e
    · subst e
      rw [if_pos (show nI 0 = 0 from rfl), Nat.gcd_zero_right]
    · have m1 := Nat.mod_lt x e
      have half : x % y < 2 ^ j := by
        have h2 : 2 * (x % y) < x ∨ x % y < x - x % y := by
          have := Nat.div_add_mod x y
          have q1 : 1 ≤ x / y := (Nat.le_div_iff_mul_le e).mpr (by omega)
          have q2 : y * 1 ≤ y * (x / y) := Nat.mul_le_mul_left _ q1
          omega
        rw [Nat.pow_succ] at hx
        omega
      rw [if_neg (nI_ne0 e (by omega)), if_neg (nI_ne0 e (by omega)), pk_rem (by omega) e (by omega)]
      simp only [sm_lt]
      rw [nI_1, px_L_greatestDivisor_b7, show (64 : Int32) = nI 64 from rfl, if_neg (nI_ge (by omega) (by omega))]
      have eg : Nat.gcd x y = Nat.gcd y (x % y) := by rw [Nat.gcd_comm y, ← Nat.gcd_rec, Nat.gcd_comm]
      rcases Nat.eq_zero_or_pos (x % y) with e2 | e2
      · rw [e2, if_pos (show nI 0 = 0 from rfl), eg, e2, Nat.gcd_zero_right]
      · have m2 := Nat.mod_lt y e2
        rw [if_neg (nI_ne0 e2 (by omega)), if_neg (nI_ne0 e2 (by omega)), pk_rem (by omega) e2 (by omega)]
        simp only [sm_lt]
        rw [nI_1, xq_gcdB j (x % y) (y % (x % y)) (c + 1 + 1) f (by omega) half (by omega) (by omega) (by omega), eg]
        congr 2
        rw [Nat.gcd_comm (x % y), ← Nat.gcd_rec, Nat.gcd_comm]
theorem xq_gcd2 {x y : Nat} (hN : 4000 ≤ N) (hy : y ≤ x) (hx : x < 2 ^ 30) : px_L_greatestDivisor N X (nI x) (nI y) = some (nI (Nat.gcd x y), X) := by
  unfold px_L_greatestDivisor
  simp only [sm_lt]
  exact xq_gcdB 30 x y 0 N hy hx (by omega) (by omega) (by omega)
end
