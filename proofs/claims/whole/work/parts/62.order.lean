section
variable {N : Nat} {X S : sm_St} {a b v ik tx : Nat → Nat} {len : Nat}
theorem od_st {n m i : Nat} : m / n ^ i / n = m / n ^ (i + 1) := by rw [Nat.div_div_eq_div_mul, ← Nat.pow_succ]
theorem od_at {n m i : Nat} (hi : i < n) : m / n ^ i % n = od n m (n - 1 - i) := by
  unfold od
  rw [show n - 1 - (n - 1 - i) = i by omega]
theorem sp_ob_lt {n m : Nat} (h4 : n ≤ 4) : ∀ i, i ≤ n → sp_ob n m i < 16
  | 0, _ => (by decide : 0 < 16)
  | i + 1, hi => by
    rw [sp_ob]
    have hn : 0 < n := by omega
    have h1 := sp_ob_lt (m := m) h4 i (by omega)
    have h2 : 2 ^ od n m (n - 1 - i) < 2 ^ 4 := Nat.pow_lt_pow_right (by decide) (by have := od_lt (m := m) (i := n - 1 - i) hn; omega)
    exact Nat.or_lt_two_pow (n := 4) h1 h2
theorem od_sh : ∀ k, k < 4 → (nI 1 <<< (nI k &&& nI 31)) = nI (2 ^ k) := by decide
/-- the order with the number m is laid, the built side -/
theorem xq_lay {n m : Nat} (hN : 4000 ≤ N) (h4 : n ≤ 4) (hm : m < n ^ n) : ∃ X', px_Chest_lay N X (nI m) (nI n) = some (nI (if sp_oo n m n = true then 1 else 0), X') ∧ (∀ i, i < n → X'.1 144 i = nI (od n m i)) ∧ (∀ p, p ≠ 144 → X'.1 p = X.1 p) ∧ X'.2 = X.2 := by
  have hpw := od_pw n (by omega)
  have hoo : sp_oo n m n = decide (sp_ob n m n = 2 ^ n - 1) := by
    have : n = 0 ∨ n = 1 ∨ n = 2 ∨ n = 3 ∨ n = 4 := by omega
    rcases this with rfl | rfl | rfl | rfl | rfl
    · rfl
    · exact od_1 m hm
    · exact od_2 m hm
    · exact od_3 m hm
    · exact od_4 m hm
  have z144 : (zx_sh 144).2 = 4 := rfl
  unfold px_Chest_lay
  simp only [sm_lt]
  have st : px_Chest_lay_b10 N N (nI n) (nI m) (0 : Int32) (nI n - (1 : Int32)) X = px_Chest_lay_b10 N N (nI n) (nI (m / n ^ 0)) (nI (sp_ob n m 0)) (nI (n - 0) - nI 1) X := by
    rw [Nat.pow_zero, Nat.div_one, Nat.sub_zero]
    rfl
  rw [st]
  refine ne_loop (fun f i (s : sm_St) => px_Chest_lay_b10 N f (nI n) (nI (m / n ^ i)) (nI (sp_ob n m i)) (nI (n - i) - nI 1) s) (fun i s => (∀ j, n - i ≤ j → j < n → s.1 144 j = nI (od n m j)) ∧ (∀ p, p ≠ 144 → s.1 p = X.1 p) ∧ s.2 = X.2) n (fun o => ∃ X', o = some (nI (if sp_oo n m n = true then 1 else 0), X') ∧ (∀ i, i < n → X'.1 144 i = nI (od n m i)) ∧ (∀ p, p ≠ 144 → X'.1 p = X.1 p) ∧ X'.2 = X.2) ?_ ?_ N 0 X (by omega) (by omega) ⟨fun j h1 h2 => by omega, fun p _ => rfl, rfl⟩
  · rintro f i s hi ⟨i1, i2, i3⟩
    left
    have hn : 0 < n := by omega
    have hmi : m / n ^ i < 256 := Nat.lt_of_le_of_lt (Nat.div_le_self _ _) (by omega)
    obtain ⟨d1, d2, d3⟩ := od_dv n (by omega) hn _ hmi
    rw [od_at hi] at d2
    rw [od_st] at d1
    rw [d1, pk_mul] at d2
    have ol := od_lt (m := m) (i := n - 1 - i) hn
    have esh := od_sh (od n m (n - 1 - i)) (by omega)
    have b1 := sp_ob_lt (m := m) h4 i (by omega)
    have b2 : 2 ^ od n m (n - 1 - i) < 2 ^ 4 := Nat.pow_lt_pow_right (by decide) (by omega)
    have eor := ne_orN (a := sp_ob n m i) (b := 2 ^ od n m (n - 1 - i)) (by omega) (by omega)
    refine ⟨sm_sI s 144 (n - 1 - i) (nI (od n m (n - 1 - i))), ⟨fun j h1 h2 => ?_, fun p hp => by rw [ne_sI1n hp]; exact i2 p hp, i3⟩, ?_⟩
    · rw [ne_sI1s]
      by_cases e : j = n - 1 - i
      · subst e
        exact pk_us
      · rw [pk_un e]
        exact i1 j (by omega) h2
    · show px_Chest_lay_b10 N (f + 1) _ _ _ _ _ = px_Chest_lay_b10 N f _ _ _ _ _
      have e1 : nI (n - i) - nI 1 = nI (n - 1 - i) := by
        rw [Int32.sub_eq_add_neg, ne_addneg (by omega), show n - i - 1 = n - 1 - i by omega]
      have e2 : nI (n - 1 - i) + -nI 1 = nI (n - (i + 1)) - nI 1 := by
        rw [show n - (i + 1) = n - 1 - i by omega, Int32.sub_eq_add_neg]
      rw [px_Chest_lay_b10, e1, sp_ob]
      have n0 : ¬ (nI (n - 1 - i) < 0) := by
        have : (nI (n - 1 - i) < nI 0) = False := ne_ltF (by omega) (by omega)
        exact of_eq_false this
      have n1 : ¬ (nI n = 0) := by
        have : (nI n = nI 0) = False := ne_eqF (by omega) (by omega) (by decide)
        exact of_eq_false this
      rw [if_neg n0, if_neg n1]
      simp (disch := omega) only [sm_lt, sm_b1s, sm_b2s, ↓reduceIte, sm_in_nI, nI_clamp, nI_add, pk_mul, pk_sub, ne_addneg, nI_l, ne_ltT, ne_ltF, ne_leT, ne_leF, ne_eqT, ne_eqF, ne_sI1s, ne_sI1n, ne_sI2, ne_sI3, ne_sL1, ne_sL2s, ne_sL2n, ne_sL3, pk_us, pk_un, pk_uLs, pk_uLn, mm_Z, mm_L, mm_1, mm_2, mm_3, ne_rz0, ne_rz1, not_true_eq_false, not_false_eq_true, ne_i0, ne_i1, ne_i2, ne_i3, ne_i4, ne_i5, ne_i6, ne_i7, ne_i8, ne_i9, ne_i10, ne_i12, ne_i14, ne_i16, ne_i18, ne_i19, ne_i20, ne_i23, ne_i24, ne_i27, ne_i29, ne_i30, ne_i31, ne_i32, ne_i35, ne_i48, ne_i52, ne_i54, ne_i57, ne_i59, ne_i63, ne_i64, ne_i76, ne_i77, ne_i78, ne_i79, ne_i80, ne_i81, ne_i97, ne_i99, ne_i100, ne_i101, ne_i104, ne_i105, ne_i108, ne_i110, ne_i111, ne_i116, ne_i117, ne_i122, ne_i103, ne_i200, ne_i255, ne_i256, ne_i320, ne_i384, ne_i1000, ne_l0, ne_l1, ne_l2, ne_l3, ne_l4, ne_l5, ne_l8, ne_l12, ne_l31, ne_l48, ne_l57, ne_l97, ne_l99, ne_l122, ne_l255, ne_l673, ne_l1073741823, ne_l1073741824, z144, n1, d2, d1, esh, eor, e2]
  · rintro f s ⟨i1, i2, i3⟩
    show ∃ X', px_Chest_lay_b10 N (f + 1) _ _ _ _ _ = _ ∧ _
    have e1 : nI (n - n) - nI 1 = -nI 1 := by
      rw [Nat.sub_self]
      decide
    rw [px_Chest_lay_b10, e1]
    have n0 : -nI 1 < (0 : Int32) := by decide
    have ef := ne_full n (by omega)
    have ef2 : (1 : Int32) <<< (nI n &&& 31) - 1 = nI (2 ^ n - 1) := by
      simp (disch := omega) only [sm_lt, sm_b1s, sm_b2s, ↓reduceIte, sm_in_nI, nI_clamp, nI_add, pk_mul, pk_sub, ne_addneg, nI_l, ne_ltT, ne_ltF, ne_leT, ne_leF, ne_eqT, ne_eqF, ne_sI1s, ne_sI1n, ne_sI2, ne_sI3, ne_sL1, ne_sL2s, ne_sL2n, ne_sL3, pk_us, pk_un, pk_uLs, pk_uLn, mm_Z, mm_L, mm_1, mm_2, mm_3, ne_rz0, ne_rz1, not_true_eq_false, not_false_eq_true, ne_i0, ne_i1, ne_i2, ne_i3, ne_i4, ne_i5, ne_i6, ne_i7, ne_i8, ne_i9, ne_i10, ne_i12, ne_i14, ne_i16, ne_i18, ne_i19, ne_i20, ne_i23, ne_i24, ne_i27, ne_i29, ne_i30, ne_i31, ne_i32, ne_i35, ne_i48, ne_i52, ne_i54, ne_i57, ne_i59, ne_i63, ne_i64, ne_i76, ne_i77, ne_i78, ne_i79, ne_i80, ne_i81, ne_i97, ne_i99, ne_i100, ne_i101, ne_i104, ne_i105, ne_i108, ne_i110, ne_i111, ne_i116, ne_i117, ne_i122, ne_i103, ne_i200, ne_i255, ne_i256, ne_i320, ne_i384, ne_i1000, ne_l0, ne_l1, ne_l2, ne_l3, ne_l4, ne_l5, ne_l8, ne_l12, ne_l31, ne_l48, ne_l57, ne_l97, ne_l99, ne_l122, ne_l255, ne_l673, ne_l1073741823, ne_l1073741824, ef.1, ef.2]
    have b1 := sp_ob_lt (m := m) h4 n (Nat.le_refl _)
    have e2n : 2 ^ n ≤ 2 ^ 4 := Nat.pow_le_pow_right (by decide) h4
    rw [if_pos n0, ef2]
    refine ⟨s, ?_, fun i hi => i1 i (by omega) hi, i2, i3⟩
    rw [hoo]
    by_cases q : sp_ob n m n = 2 ^ n - 1
    · rw [q, if_pos rfl, decide_eq_true rfl]
      rfl
    · have : ¬ (nI (sp_ob n m n) = nI (2 ^ n - 1)) := by
        rw [ne_eqF q (by omega) (by omega)]
        exact id
      rw [if_neg this, decide_eq_false q]
      rfl
end
