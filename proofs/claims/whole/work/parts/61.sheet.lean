/-! sheets of hours -/
def sp_p1 (t : Nat → Nat) (x y n : Nat) : Nat → Nat := if x < 4 then va_up t (8 * x + y) n else t
def sp_ph (t : Nat → Nat) (x y n : Nat) : Nat → Nat := sp_p1 (sp_p1 t x y n) y x n
theorem sp_p1_le {t : Nat → Nat} {x y n : Nat} (h : ∀ z, t z ≤ 3) (hn : n ≤ 3) (z : Nat) : sp_p1 t x y n z ≤ 3 := by
  unfold sp_p1
  by_cases hx : x < 4
  · rw [if_pos hx]
    by_cases e : z = 8 * x + y
    · subst e
      rw [ne_up_s]; exact hn
    · rw [ne_up_n e]; exact h z
  · rw [if_neg hx]; exact h z
theorem sp_ph_le {t : Nat → Nat} {x y n : Nat} (h : ∀ z, t z ≤ 3) (hn : n ≤ 3) (z : Nat) : sp_ph t x y n z ≤ 3 := sp_p1_le (sp_p1_le h hn) hn z
/-- the rows of the sheet q -/
def hrw (X : sm_St) (q : Nat) (t : Nat → Nat) : Prop := ∀ i z, i < 4 → z < 8 → X.1 (q + 1 + i) z = nI (t (8 * i + z))
def xhq (q : Nat) : Prop := q = 7 ∨ q = 133 ∨ q = 139
theorem xhq_2 {q : Nat} (h : xhq q) : (zx_sh q).2 = 4 ∧ zx_rl q = 8 := by rcases h with rfl | rfl | rfl <;> exact ⟨rfl, rfl⟩
section
variable {N : Nat} {X S : sm_St} {a b v ik tx : Nat → Nat} {len : Nat}
theorem hrw_sI {q x y n : Nat} {t : Nat → Nat} (h : hrw X q t) (hx : x < 4) (hy : y < 8) : hrw (sm_sI X (q + 1 + x) y (nI n)) q (va_up t (8 * x + y) n) := by
  intro i z hi hz
  by_cases e : i = x
  · subst e
    rw [ne_sI1s]
    by_cases ez : z = y
    · subst ez
      rw [pk_us, ne_up_s]
    · rw [pk_un ez, ne_up_n (by omega)]
      exact h i z hi hz
  · rw [ne_sI1n (by omega), ne_up_n (by omega)]
    exact h i z hi hz
theorem xq_ph1 {q x y n : Nat} {t : Nat → Nat} (hq : xhq q) (h : hrw X q t) (hx : x < 8) (hy : y < 8) : ∃ X', px_L_putHours_b11 N q (nI y) (nI x) (nI n) X = some X' ∧ hrw X' q (sp_p1 t x y n) ∧ (∀ p, p < q + 1 ∨ q + 5 ≤ p → X'.1 p = X.1 p) ∧ X'.2 = X.2 := by
  obtain ⟨z1, z2⟩ := xhq_2 hq
  unfold px_L_putHours_b11 sp_p1
  by_cases hx4 : x < 4
  · rw [if_pos hx4]
    simp (disch := omega) only [sm_lt, sm_b1s, sm_b2s, ↓reduceIte, sm_in_nI, nI_clamp, nI_add, pk_mul, pk_sub, ne_addneg, nI_l, ne_ltT, ne_ltF, ne_leT, ne_leF, ne_eqT, ne_eqF, ne_sI1s, ne_sI1n, ne_sI2, ne_sI3, ne_sL1, ne_sL2s, ne_sL2n, ne_sL3, pk_us, pk_un, pk_uLs, pk_uLn, mm_Z, mm_L, mm_1, mm_2, mm_3, ne_rz0, ne_rz1, not_true_eq_false, not_false_eq_true, ne_i0, ne_i1, ne_i2, ne_i3, ne_i4, ne_i5, ne_i6, ne_i7, ne_i8, ne_i9, ne_i10, ne_i12, ne_i14, ne_i16, ne_i18, ne_i19, ne_i20, ne_i23, ne_i24, ne_i27, ne_i29, ne_i30, ne_i31, ne_i32, ne_i35, ne_i48, ne_i52, ne_i54, ne_i57, ne_i59, ne_i63, ne_i64, ne_i76, ne_i77, ne_i78, ne_i79, ne_i80, ne_i81, ne_i97, ne_i99, ne_i100, ne_i101, ne_i104, ne_i105, ne_i108, ne_i110, ne_i111, ne_i116, ne_i117, ne_i122, ne_i103, ne_i200, ne_i255, ne_i256, ne_i320, ne_i384, ne_i1000, ne_l0, ne_l1, ne_l2, ne_l3, ne_l4, ne_l5, ne_l8, ne_l12, ne_l31, ne_l48, ne_l57, ne_l97, ne_l99, ne_l122, ne_l255, ne_l673, ne_l1073741823, ne_l1073741824, z1, z2]
    exact ⟨_, rfl, hrw_sI h hx4 hy, fun p hp => by rw [ne_sI1n (by omega)], rfl⟩
  · rw [if_neg hx4]
    simp (disch := omega) only [sm_lt, sm_b1s, sm_b2s, ↓reduceIte, sm_in_nI, nI_clamp, nI_add, pk_mul, pk_sub, ne_addneg, nI_l, ne_ltT, ne_ltF, ne_leT, ne_leF, ne_eqT, ne_eqF, ne_sI1s, ne_sI1n, ne_sI2, ne_sI3, ne_sL1, ne_sL2s, ne_sL2n, ne_sL3, pk_us, pk_un, pk_uLs, pk_uLn, mm_Z, mm_L, mm_1, mm_2, mm_3, ne_rz0, ne_rz1, not_true_eq_false, not_false_eq_true, ne_i0, ne_i1, ne_i2, ne_i3, ne_i4, ne_i5, ne_i6, ne_i7, ne_i8, ne_i9, ne_i10, ne_i12, ne_i14, ne_i16, ne_i18, ne_i19, ne_i20, ne_i23, ne_i24, ne_i27, ne_i29, ne_i30, ne_i31, ne_i32, ne_i35, ne_i48, ne_i52, ne_i54, ne_i57, ne_i59, ne_i63, ne_i64, ne_i76, ne_i77, ne_i78, ne_i79, ne_i80, ne_i81, ne_i97, ne_i99, ne_i100, ne_i101, ne_i104, ne_i105, ne_i108, ne_i110, ne_i111, ne_i116, ne_i117, ne_i122, ne_i103, ne_i200, ne_i255, ne_i256, ne_i320, ne_i384, ne_i1000, ne_l0, ne_l1, ne_l2, ne_l3, ne_l4, ne_l5, ne_l8, ne_l12, ne_l31, ne_l48, ne_l57, ne_l97, ne_l99, ne_l122, ne_l255, ne_l673, ne_l1073741823, ne_l1073741824]
    exact ⟨_, rfl, h, fun p hp => rfl, rfl⟩
theorem xq_ph {q x y n : Nat} {t : Nat → Nat} (hq : xhq q) (h : hrw X q t) (hx : x < 8) (hy : y < 8) : ∃ X', px_L_putHours N X q (nI x) (nI y) (nI n) = some X' ∧ hrw X' q (sp_ph t x y n) ∧ (∀ p, p < q + 1 ∨ q + 5 ≤ p → X'.1 p = X.1 p) ∧ X'.2 = X.2 := by
  obtain ⟨z1, z2⟩ := xhq_2 hq
  by_cases hx4 : x < 4
  · have h1 : hrw (sm_sI X (q + 1 + x) y (nI n)) q (sp_p1 t x y n) := by
      have e : sp_p1 t x y n = va_up t (8 * x + y) n := if_pos hx4
      rw [e]
      exact hrw_sI h hx4 hy
    obtain ⟨X', e, g1, g2, g3⟩ := xq_ph1 (N := N) (n := n) hq h1 hy hx
    refine ⟨X', ?_, g1, fun p hp => by rw [g2 p hp, ne_sI1n (by omega)], by rw [g3]; rfl⟩
    unfold px_L_putHours
    simp (disch := omega) only [sm_lt, sm_b1s, sm_b2s, ↓reduceIte, sm_in_nI, nI_clamp, nI_add, pk_mul, pk_sub, ne_addneg, nI_l, ne_ltT, ne_ltF, ne_leT, ne_leF, ne_eqT, ne_eqF, ne_sI1s, ne_sI1n, ne_sI2, ne_sI3, ne_sL1, ne_sL2s, ne_sL2n, ne_sL3, pk_us, pk_un, pk_uLs, pk_uLn, mm_Z, mm_L, mm_1, mm_2, mm_3, ne_rz0, ne_rz1, not_true_eq_false, not_false_eq_true, ne_i0, ne_i1, ne_i2, ne_i3, ne_i4, ne_i5, ne_i6, ne_i7, ne_i8, ne_i9, ne_i10, ne_i12, ne_i14, ne_i16, ne_i18, ne_i19, ne_i20, ne_i23, ne_i24, ne_i27, ne_i29, ne_i30, ne_i31, ne_i32, ne_i35, ne_i48, ne_i52, ne_i54, ne_i57, ne_i59, ne_i63, ne_i64, ne_i76, ne_i77, ne_i78, ne_i79, ne_i80, ne_i81, ne_i97, ne_i99, ne_i100, ne_i101, ne_i104, ne_i105, ne_i108, ne_i110, ne_i111, ne_i116, ne_i117, ne_i122, ne_i103, ne_i200, ne_i255, ne_i256, ne_i320, ne_i384, ne_i1000, ne_l0, ne_l1, ne_l2, ne_l3, ne_l4, ne_l5, ne_l8, ne_l12, ne_l31, ne_l48, ne_l57, ne_l97, ne_l99, ne_l122, ne_l255, ne_l673, ne_l1073741823, ne_l1073741824, z1, z2, e]
  · have h1 : hrw X q (sp_p1 t x y n) := by
      have e : sp_p1 t x y n = t := if_neg hx4
      rw [e]
      exact h
    obtain ⟨X', e, g1, g2, g3⟩ := xq_ph1 (N := N) (n := n) hq h1 hy hx
    refine ⟨X', ?_, g1, g2, g3⟩
    unfold px_L_putHours
    simp (disch := omega) only [sm_lt, sm_b1s, sm_b2s, ↓reduceIte, sm_in_nI, nI_clamp, nI_add, pk_mul, pk_sub, ne_addneg, nI_l, ne_ltT, ne_ltF, ne_leT, ne_leF, ne_eqT, ne_eqF, ne_sI1s, ne_sI1n, ne_sI2, ne_sI3, ne_sL1, ne_sL2s, ne_sL2n, ne_sL3, pk_us, pk_un, pk_uLs, pk_uLn, mm_Z, mm_L, mm_1, mm_2, mm_3, ne_rz0, ne_rz1, not_true_eq_false, not_false_eq_true, ne_i0, ne_i1, ne_i2, ne_i3, ne_i4, ne_i5, ne_i6, ne_i7, ne_i8, ne_i9, ne_i10, ne_i12, ne_i14, ne_i16, ne_i18, ne_i19, ne_i20, ne_i23, ne_i24, ne_i27, ne_i29, ne_i30, ne_i31, ne_i32, ne_i35, ne_i48, ne_i52, ne_i54, ne_i57, ne_i59, ne_i63, ne_i64, ne_i76, ne_i77, ne_i78, ne_i79, ne_i80, ne_i81, ne_i97, ne_i99, ne_i100, ne_i101, ne_i104, ne_i105, ne_i108, ne_i110, ne_i111, ne_i116, ne_i117, ne_i122, ne_i103, ne_i200, ne_i255, ne_i256, ne_i320, ne_i384, ne_i1000, ne_l0, ne_l1, ne_l2, ne_l3, ne_l4, ne_l5, ne_l8, ne_l12, ne_l31, ne_l48, ne_l57, ne_l97, ne_l99, ne_l122, ne_l255, ne_l673, ne_l1073741823, ne_l1073741824, e]
/-- the same on the reference's table -/
def tbl (M : sm_St) (t : Nat → Nat) : Prop := ∀ k, k < 32 → M.1 7 k = nI (t k)
theorem tbl_sI {k n : Nat} {t : Nat → Nat} (h : tbl S t) : tbl (sm_sI S 7 k (nI n)) (va_up t k n) := by
  intro j hj
  rw [ne_sI1s]
  by_cases e : j = k
  · subst e
    rw [pk_us, ne_up_s]
  · rw [pk_un e, ne_up_n e]
    exact h j hj
theorem zm7 : (zm_sy.1 7).2 = 32 := rfl
/-- the base is M0's but for the places that P names -/
theorem np_ph1 {M : sm_St} {w t : Nat → Nat} {x y n : Nat} (hW : nW M v w S) (ht : tbl M t) (hx : x < 8) (hy : y < 8) : ∃ M' S', pm_putHours_b17 N 7 (nI 0) (nI y) (nI x) (nI n) S = some S' ∧ nW M' v w S' ∧ tbl M' (sp_p1 t x y n) ∧ (∀ p, p ≠ 7 → M'.1 p = M.1 p) := by
  unfold pm_putHours_b17 sp_p1
  by_cases hx4 : x < 4
  · rw [if_pos hx4]
    have z := zm7
    simp (disch := omega) only [sm_lt, sm_b1s, sm_b2s, ↓reduceIte, sm_in_nI, nI_clamp, nI_add, pk_mul, pk_sub, ne_addneg, nI_l, ne_ltT, ne_ltF, ne_leT, ne_leF, ne_eqT, ne_eqF, ne_sI1s, ne_sI1n, ne_sI2, ne_sI3, ne_sL1, ne_sL2s, ne_sL2n, ne_sL3, pk_us, pk_un, pk_uLs, pk_uLn, mm_Z, mm_L, mm_1, mm_2, mm_3, ne_rz0, ne_rz1, not_true_eq_false, not_false_eq_true, ne_i0, ne_i1, ne_i2, ne_i3, ne_i4, ne_i5, ne_i6, ne_i7, ne_i8, ne_i9, ne_i10, ne_i12, ne_i14, ne_i16, ne_i18, ne_i19, ne_i20, ne_i23, ne_i24, ne_i27, ne_i29, ne_i30, ne_i31, ne_i32, ne_i35, ne_i48, ne_i52, ne_i54, ne_i57, ne_i59, ne_i63, ne_i64, ne_i76, ne_i77, ne_i78, ne_i79, ne_i80, ne_i81, ne_i97, ne_i99, ne_i100, ne_i101, ne_i104, ne_i105, ne_i108, ne_i110, ne_i111, ne_i116, ne_i117, ne_i122, ne_i103, ne_i200, ne_i255, ne_i256, ne_i320, ne_i384, ne_i1000, ne_l0, ne_l1, ne_l2, ne_l3, ne_l4, ne_l5, ne_l8, ne_l12, ne_l31, ne_l48, ne_l57, ne_l97, ne_l99, ne_l122, ne_l255, ne_l673, ne_l1073741823, ne_l1073741824, z, zm_sh, Nat.zero_add]
    exact ⟨_, _, rfl, nW_sI hW (by decide), tbl_sI ht, fun p hp => by rw [ne_sI1n hp]⟩
  · rw [if_neg hx4]
    simp (disch := omega) only [sm_lt, sm_b1s, sm_b2s, ↓reduceIte, sm_in_nI, nI_clamp, nI_add, pk_mul, pk_sub, ne_addneg, nI_l, ne_ltT, ne_ltF, ne_leT, ne_leF, ne_eqT, ne_eqF, ne_sI1s, ne_sI1n, ne_sI2, ne_sI3, ne_sL1, ne_sL2s, ne_sL2n, ne_sL3, pk_us, pk_un, pk_uLs, pk_uLn, mm_Z, mm_L, mm_1, mm_2, mm_3, ne_rz0, ne_rz1, not_true_eq_false, not_false_eq_true, ne_i0, ne_i1, ne_i2, ne_i3, ne_i4, ne_i5, ne_i6, ne_i7, ne_i8, ne_i9, ne_i10, ne_i12, ne_i14, ne_i16, ne_i18, ne_i19, ne_i20, ne_i23, ne_i24, ne_i27, ne_i29, ne_i30, ne_i31, ne_i32, ne_i35, ne_i48, ne_i52, ne_i54, ne_i57, ne_i59, ne_i63, ne_i64, ne_i76, ne_i77, ne_i78, ne_i79, ne_i80, ne_i81, ne_i97, ne_i99, ne_i100, ne_i101, ne_i104, ne_i105, ne_i108, ne_i110, ne_i111, ne_i116, ne_i117, ne_i122, ne_i103, ne_i200, ne_i255, ne_i256, ne_i320, ne_i384, ne_i1000, ne_l0, ne_l1, ne_l2, ne_l3, ne_l4, ne_l5, ne_l8, ne_l12, ne_l31, ne_l48, ne_l57, ne_l97, ne_l99, ne_l122, ne_l255, ne_l673, ne_l1073741823, ne_l1073741824]
    exact ⟨_, _, rfl, hW, ht, fun p hp => rfl⟩
theorem np_ph {M : sm_St} {w t : Nat → Nat} {x y n : Nat} (hW : nW M v w S) (ht : tbl M t) (hx : x < 8) (hy : y < 8) : ∃ M' S', pm_putHours N S 7 (nI 0) (nI x) (nI y) (nI n) = some S' ∧ nW M' v w S' ∧ tbl M' (sp_ph t x y n) ∧ (∀ p, p ≠ 7 → M'.1 p = M.1 p) := by
  by_cases hx4 : x < 4
  · have h1 : tbl (sm_sI M 7 (8 * x + y) (nI n)) (sp_p1 t x y n) := by
      have e : sp_p1 t x y n = va_up t (8 * x + y) n := if_pos hx4
      rw [e]
      exact tbl_sI ht
    obtain ⟨M', S', e, g1, g2, g3⟩ := np_ph1 (N := N) (n := n) (nW_sI (k := 8 * x + y) (x := nI n) hW (p := 7) (by decide)) h1 hy hx
    refine ⟨M', S', ?_, g1, g2, fun p hp => by rw [g3 p hp, ne_sI1n hp]⟩
    unfold pm_putHours
    have z := zm7
    simp (disch := omega) only [sm_lt, sm_b1s, sm_b2s, ↓reduceIte, sm_in_nI, nI_clamp, nI_add, pk_mul, pk_sub, ne_addneg, nI_l, ne_ltT, ne_ltF, ne_leT, ne_leF, ne_eqT, ne_eqF, ne_sI1s, ne_sI1n, ne_sI2, ne_sI3, ne_sL1, ne_sL2s, ne_sL2n, ne_sL3, pk_us, pk_un, pk_uLs, pk_uLn, mm_Z, mm_L, mm_1, mm_2, mm_3, ne_rz0, ne_rz1, not_true_eq_false, not_false_eq_true, ne_i0, ne_i1, ne_i2, ne_i3, ne_i4, ne_i5, ne_i6, ne_i7, ne_i8, ne_i9, ne_i10, ne_i12, ne_i14, ne_i16, ne_i18, ne_i19, ne_i20, ne_i23, ne_i24, ne_i27, ne_i29, ne_i30, ne_i31, ne_i32, ne_i35, ne_i48, ne_i52, ne_i54, ne_i57, ne_i59, ne_i63, ne_i64, ne_i76, ne_i77, ne_i78, ne_i79, ne_i80, ne_i81, ne_i97, ne_i99, ne_i100, ne_i101, ne_i104, ne_i105, ne_i108, ne_i110, ne_i111, ne_i116, ne_i117, ne_i122, ne_i103, ne_i200, ne_i255, ne_i256, ne_i320, ne_i384, ne_i1000, ne_l0, ne_l1, ne_l2, ne_l3, ne_l4, ne_l5, ne_l8, ne_l12, ne_l31, ne_l48, ne_l57, ne_l97, ne_l99, ne_l122, ne_l255, ne_l673, ne_l1073741823, ne_l1073741824, z, zm_sh, Nat.zero_add, e]
  · have h1 : tbl M (sp_p1 t x y n) := by
      have e : sp_p1 t x y n = t := if_neg hx4
      rw [e]
      exact ht
    obtain ⟨M', S', e, g1, g2, g3⟩ := np_ph1 (N := N) (n := n) hW h1 hy hx
    refine ⟨M', S', ?_, g1, g2, g3⟩
    unfold pm_putHours
    simp (disch := omega) only [sm_lt, sm_b1s, sm_b2s, ↓reduceIte, sm_in_nI, nI_clamp, nI_add, pk_mul, pk_sub, ne_addneg, nI_l, ne_ltT, ne_ltF, ne_leT, ne_leF, ne_eqT, ne_eqF, ne_sI1s, ne_sI1n, ne_sI2, ne_sI3, ne_sL1, ne_sL2s, ne_sL2n, ne_sL3, pk_us, pk_un, pk_uLs, pk_uLn, mm_Z, mm_L, mm_1, mm_2, mm_3, ne_rz0, ne_rz1, not_true_eq_false, not_false_eq_true, ne_i0, ne_i1, ne_i2, ne_i3, ne_i4, ne_i5, ne_i6, ne_i7, ne_i8, ne_i9, ne_i10, ne_i12, ne_i14, ne_i16, ne_i18, ne_i19, ne_i20, ne_i23, ne_i24, ne_i27, ne_i29, ne_i30, ne_i31, ne_i32, ne_i35, ne_i48, ne_i52, ne_i54, ne_i57, ne_i59, ne_i63, ne_i64, ne_i76, ne_i77, ne_i78, ne_i79, ne_i80, ne_i81, ne_i97, ne_i99, ne_i100, ne_i101, ne_i104, ne_i105, ne_i108, ne_i110, ne_i111, ne_i116, ne_i117, ne_i122, ne_i103, ne_i200, ne_i255, ne_i256, ne_i320, ne_i384, ne_i1000, ne_l0, ne_l1, ne_l2, ne_l3, ne_l4, ne_l5, ne_l8, ne_l12, ne_l31, ne_l48, ne_l57, ne_l97, ne_l99, ne_l122, ne_l255, ne_l673, ne_l1073741823, ne_l1073741824, e]
end
/-! orders -/
def od (n m i : Nat) : Nat := m / n ^ (n - 1 - i) % n
/-- bits of the places behind -/
def sp_ob (n m : Nat) : Nat → Nat
  | 0 => 0
  | i + 1 => sp_ob n m i ||| 2 ^ od n m (n - 1 - i)
def sp_od (n m k : Nat) : Nat → Bool
  | 0 => true
  | t + 1 => sp_od n m k t && !decide (od n m (k + 1 + t) = od n m k)
def sp_oo (n m : Nat) : Nat → Bool
  | 0 => true
  | i + 1 => sp_oo n m i && sp_od n m (n - 1 - i) i
theorem od_1 : ∀ m, m < 1 → sp_oo 1 m 1 = decide (sp_ob 1 m 1 = 2 ^ 1 - 1) := by decide +kernel
theorem od_2 : ∀ m, m < 4 → sp_oo 2 m 2 = decide (sp_ob 2 m 2 = 2 ^ 2 - 1) := by decide +kernel
theorem od_3 : ∀ m, m < 27 → sp_oo 3 m 3 = decide (sp_ob 3 m 3 = 2 ^ 3 - 1) := by decide +kernel
theorem od_4 : ∀ m, m < 256 → sp_oo 4 m 4 = decide (sp_ob 4 m 4 = 2 ^ 4 - 1) := by decide +kernel
theorem od_lt {n m i : Nat} (hn : 0 < n) : od n m i < n := Nat.mod_lt _ hn
theorem od_dv : ∀ n, n < 5 → 0 < n → ∀ m, m < 256 → nI m / nI n = nI (m / n) ∧ nI m - nI m / nI n * nI n = nI (m % n) ∧ m / n < 256 := by decide +kernel
theorem od_pw : ∀ n, n < 5 → n ^ n ≤ 256 := by decide
