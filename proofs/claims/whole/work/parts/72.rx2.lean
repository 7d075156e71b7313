/-! the built side's rest: a sum and the determinant -/
/-- the unit's part -/
def rs_u (a t co F : Nat → Nat) : Nat → Nat
  | 0 => 0
  | k + 1 => rs_u a t co F k + (if k < a 76 ∧ 0 < sp_ts a t k 8 then F k * sp_tp a t co k (a 77) else 0)
def rs_c (a t F : Nat → Nat) (r : Nat) : Nat := if r < a 76 ∧ sp_ts a t r 8 = 0 then F r else 0
def rs_C (a t co F : Nat → Nat) (r : Nat) : Nat := if r = 4 then rs_u a t co F 4 else rs_c a t F r
/-- the sum that it tells -/
def rs_V (a t co F w : Nat → Nat) : Nat → Nat
  | 0 => 0
  | k + 1 => rs_V a t co F w k + (if k < a 76 then F k * (if 0 < sp_ts a t k 8 then w 4 * sp_tp a t co k (a 77) else w k) else 0)
section
variable {N : Nat} {X : sm_St} {a t co F w : Nat → Nat}
theorem rs_V_1 (k : Nat) : rs_c a t F k * w k + (if k < a 76 ∧ 0 < sp_ts a t k 8 then F k * sp_tp a t co k (a 77) else 0) * w 4 = (if k < a 76 then F k * (if 0 < sp_ts a t k 8 then w 4 * sp_tp a t co k (a 77) else w k) else 0) := by
  unfold rs_c
  by_cases h : k < a 76
  · by_cases h0 : 0 < sp_ts a t k 8
    · rw [if_neg (by omega), if_pos ⟨h, h0⟩, if_pos h, if_pos h0, Nat.zero_mul, Nat.zero_add, Nat.mul_assoc, Nat.mul_comm (sp_tp a t co k (a 77))]
    · rw [if_pos ⟨h, by omega⟩, if_neg (fun q => h0 q.2), if_pos h, if_neg h0, Nat.zero_mul, Nat.add_zero]
  · rw [if_neg (fun q => h q.1), if_neg (fun q => h q.1), if_neg h, Nat.zero_mul, Nat.zero_mul]
theorem rs_V_sx : sx (rs_C a t co F) w 5 = rs_V a t co F w 4 := by
  have e0 := rs_V_1 (a := a) (t := t) (co := co) (F := F) (w := w) 0
  have e1 := rs_V_1 (a := a) (t := t) (co := co) (F := F) (w := w) 1
  have e2 := rs_V_1 (a := a) (t := t) (co := co) (F := F) (w := w) 2
  have e3 := rs_V_1 (a := a) (t := t) (co := co) (F := F) (w := w) 3
  have c : ∀ r, r < 4 → rs_C a t co F r = rs_c a t F r := fun r hr => if_neg (by omega)
  have c4 : rs_C a t co F 4 = rs_u a t co F 4 := if_pos rfl
  simp only [sx, rs_V, c 0 (by decide), c 1 (by decide), c 2 (by decide), c 3 (by decide), c4, rs_u, Nat.zero_add, Nat.add_mul]
  omega
theorem rs_V_k (k4 : a 76 ≤ 4) : rs_V a t co F w 4 = rs_V a t co F w (a 76) := by
  have q : ∀ d, a 76 + d ≤ 4 → rs_V a t co F w (a 76 + d) = rs_V a t co F w (a 76) := fun d => by
    induction d with
    | zero => intro _; rfl
    | succ d ih =>
      intro hd
      rw [← Nat.add_assoc, rs_V, ih (by omega), if_neg (by omega), Nat.add_zero]
  have := q (4 - a 76) (by omega)
  rwa [show a 76 + (4 - a 76) = 4 by omega] at this
theorem rs_u_le (hs : sc a t co) (hF : ∀ r, r < 4 → F r ≤ 303918) : ∀ k, k ≤ 4 → rs_u a t co F k ≤ 87528384 * k
  | 0, _ => Nat.le_refl _
  | k + 1, hk => by
    have ih := rs_u_le hs hF k (by omega)
    rw [rs_u]
    by_cases c : k < a 76 ∧ 0 < sp_ts a t k 8
    · rw [if_pos c]
      have := Nat.mul_le_mul (hF k (by omega)) (sp_tp_le hs c.1)
      omega
    · rw [if_neg c]
      omega
theorem rs_c_le (hF : ∀ r, r < 4 → F r ≤ 303918) {r : Nat} (hr : r < 4) : rs_c a t F r ≤ 303918 := by
  have := hF r hr
  unfold rs_c
  split <;> omega
theorem rs_xcf {L : Nat → Int64} (hs : sc a t co) (hF : ∀ r, r < 4 → F r ≤ 303918) (hL : ∀ r, r < 5 → L r = lN (rs_C a t co F r)) : xcf L a w (rs_V a t co F w (a 76)) := by
  refine ⟨rs_C a t co F, hL, by rw [rs_V_sx, rs_V_k hs.1], fun r hr hc => ?_, ?_⟩
  · by_cases e : r = 4
    · exact Or.inr e
    · left
      unfold rs_C rs_c at hc
      rw [if_neg e] at hc
      by_cases q : r < a 76
      · exact q
      · rw [if_neg (fun z => q z.1)] at hc
        exact absurd rfl hc
  · have c : ∀ r, r < 4 → rs_C a t co F r = rs_c a t F r := fun r hr => if_neg (by omega)
    have c4 : rs_C a t co F 4 = rs_u a t co F 4 := if_pos rfl
    have u := rs_u_le hs hF 4 (Nat.le_refl _)
    have z0 := rs_c_le (a := a) (t := t) hF (show 0 < 4 by decide)
    have z1 := rs_c_le (a := a) (t := t) hF (show 1 < 4 by decide)
    have z2 := rs_c_le (a := a) (t := t) hF (show 2 < 4 by decide)
    have z3 := rs_c_le (a := a) (t := t) hF (show 3 < 4 by decide)
    simp only [sx, c 0 (by decide), c 1 (by decide), c 2 (by decide), c 3 (by decide), c4, Nat.zero_add, Nat.mul_one]
    omega
theorem rx_par : ∀ k, k < 4 → ∀ c, c < 4 → (nI (k + c) &&& nI 1) = nI ((k + c) % 2) := by decide
theorem rx_solve {c : Nat} (hN : 4000 ≤ N) (hs : sc a t co) (hT : rx_T X a t co) (hc : c < 4) : ∃ X', px_Resting_solve N X (nI c) 107 = some (Int32.ofInt (rs_L (rs_A a t)), X') ∧ (∀ r, r < 5 → X'.2.1 108 r = lN (rs_C a t co (fun r => (rs_cf (rs_A a t) r c).toNat) r)) ∧ (∀ p, p < 128 ∨ 132 ≤ p → X'.1 p = X.1 p) ∧ X'.2.2 = X.2.2 := by
  have k4 := hs.1
  have hM := rs_A_M (a := a) (t := t)
  have hB := rs_A_bd hs
  obtain ⟨X1, e1, g1, g2, g3⟩ := rx_fill (N := N) hN hs hT
  obtain ⟨g, e2, g0⟩ := xq_begin (X := X1) (N := N) (p := 107) hN
  have T1 : rx_T X1 a t co := rx_T_fr k4 hT (fun p hp => g2 p (Or.inl hp))
  generalize hF : (fun r => (rs_cf (rs_A a t) r c).toNat) = F
  have hFr : ∀ r, r < 4 → rs_cf (rs_A a t) r c = (F r : Int) := fun r hr => by
    rw [← hF]
    exact (Int.toNat_of_nonneg (rs_po hM hr hc)).symm
  have hFb : ∀ r, r < 4 → F r ≤ 303918 := fun r hr => by
    have := rs_cf_b hB r c
    rw [hFr r hr] at this
    omega
  have el : sm_lF X1 (107 + 1) g = sm_lF X1 108 g := rfl
  unfold px_Resting_solve
  rw [e1, sm_b1s, e2, sm_b1s, el]
  simp only [sm_lt]
  have st : px_Resting_solve_b15 N 107 N (nI c) (0 : Int32) (0 : Int32) (sm_lF X1 108 g) = px_Resting_solve_b15 N 107 N (nI c) (Int32.ofInt (rs_dt (rs_A a t) c 0)) (nI 0) (sm_lF X1 108 g) := rfl
  rw [st]
  refine ne_loop (fun f k (L : Nat → Int64) => px_Resting_solve_b15 N 107 f (nI c) (Int32.ofInt (rs_dt (rs_A a t) c k)) (nI k) (sm_lF X1 108 L)) (fun k L => (∀ r, r < 4 → L r = lN (if r < k then rs_c a t F r else 0)) ∧ L 4 = lN (rs_u a t co F k)) 4 (fun r => ∃ X', r = some (Int32.ofInt (rs_L (rs_A a t)), X') ∧ (∀ r, r < 5 → X'.2.1 108 r = lN (rs_C a t co F r)) ∧ (∀ p, p < 128 ∨ 132 ≤ p → X'.1 p = X.1 p) ∧ X'.2.2 = X.2.2) ?_ ?_ N 0 g (by omega) (by omega) ⟨fun r hr => by rw [if_neg (by omega)]; exact g0 r (by omega), g0 4 (by decide)⟩
  · rintro f k L hk ⟨i1, i2⟩
    left
    have hA : rx_A (sm_lF X1 108 L) (rs_A a t) 4 := g1
    have em := rx_mn (N := N) (c := c) hA hk hc
    have par := rx_par k hk c hc
    have hfk := hFb k hk
    have dt : Int32.ofInt (rs_dt (rs_A a t) c k) + Int32.ofInt (rs_A a t k c) * nI (F k) = Int32.ofInt (rs_dt (rs_A a t) c (k + 1)) := by
      rw [rs_dt, hFr k hk, ri_I, Int32.ofInt_add, Int32.ofInt_mul]
    have eA : (sm_lF X1 108 L).1 (128 + k) c = Int32.ofInt (rs_A a t k c) := hA k c hk hc
    have z := zs128 hk
    have c5 : (sm_lF X1 108 L).1 110 5 = nI (a 76) := T1.1
    -- behind the minor
    have core : ∃ L', ((∀ r, r < 4 → L' r = lN (if r < k + 1 then rs_c a t F r else 0)) ∧ L' 4 = lN (rs_u a t co F (k + 1))) ∧ px_Resting_solve_b48 N 107 (px_Resting_solve_b15 N 107 f) (nI c) (Int32.ofInt (rs_dt (rs_A a t) c k)) (nI k) (nI (F k)) (sm_lF X1 108 L) = px_Resting_solve_b15 N 107 f (nI c) (Int32.ofInt (rs_dt (rs_A a t) c (k + 1))) (nI (k + 1)) (sm_lF X1 108 L') := by
      unfold px_Resting_solve_b48 px_Resting_solve_b128
      by_cases l : k < a 76
      · obtain ⟨t1, t2, t3⟩ := T1.2 k l
        have t1' : (sm_lF X1 108 L).1 119 k = nI (sp_ts a t k 8) := t1
        have t3' : (sm_lF X1 108 L).1 (115 + k) 4 = nI (sp_tp a t co k (a 77)) := t3
        have tl := sp_ts_le hs l
        have tpl := sp_tp_le hs l
        by_cases h0 : sp_ts a t k 8 = 0
        · have ek := i1 k hk
          rw [if_neg (by omega)] at ek
          refine ⟨vp_updL L k (lN (F k)), ⟨fun r hr => ?_, ?_⟩, ?_⟩
          · by_cases e : r = k
            · subst e
              rw [pk_uLs, if_pos (by omega)]
              unfold rs_c
              rw [if_pos ⟨l, h0⟩]
            · rw [pk_uLn e, i1 r hr]
              by_cases q : r < k
              · rw [if_pos q, if_pos (by omega)]
              · rw [if_neg q, if_neg (by omega)]
          · rw [pk_uLn (by omega), i2, rs_u, if_neg (by omega), Nat.add_zero]
          · have eL : (sm_lF X1 108 L).2.1 108 k = lN 0 := by rw [lF_s]; exact ek
            simp (disch := omega) only [sm_lt, sm_b1s, sm_b2s, ↓reduceIte, sm_in_nI, nI_clamp, nI_add, pk_mul, pk_sub, ne_addneg, nI_l, ne_ltT, ne_ltF, ne_leT, ne_leF, ne_eqT, ne_eqF, ne_sI1s, ne_sI1n, ne_sI2, ne_sI3, ne_sL1, ne_sL2s, ne_sL2n, ne_sL3, pk_us, pk_un, pk_uLs, pk_uLn, mm_Z, mm_L, mm_1, mm_2, mm_3, ne_rz0, ne_rz1, not_true_eq_false, not_false_eq_true, ne_i0, ne_i1, ne_i2, ne_i3, ne_i4, ne_i5, ne_i6, ne_i7, ne_i8, ne_i9, ne_i10, ne_i12, ne_i14, ne_i16, ne_i18, ne_i19, ne_i20, ne_i23, ne_i24, ne_i27, ne_i29, ne_i30, ne_i31, ne_i32, ne_i35, ne_i48, ne_i52, ne_i54, ne_i57, ne_i59, ne_i63, ne_i64, ne_i76, ne_i77, ne_i78, ne_i79, ne_i80, ne_i81, ne_i97, ne_i99, ne_i100, ne_i101, ne_i104, ne_i105, ne_i108, ne_i110, ne_i111, ne_i116, ne_i117, ne_i122, ne_i103, ne_i200, ne_i255, ne_i256, ne_i320, ne_i384, ne_i1000, ne_l0, ne_l1, ne_l2, ne_l3, ne_l4, ne_l5, ne_l8, ne_l12, ne_l31, ne_l48, ne_l57, ne_l97, ne_l99, ne_l122, ne_l255, ne_l673, ne_l1073741823, ne_l1073741824, eA, dt, z, c5, t1', eL, lN_add, Nat.zero_add, lF_sL]
        · refine ⟨vp_updL L 4 (lN (rs_u a t co F (k + 1))), ⟨fun r hr => ?_, pk_uLs⟩, ?_⟩
          · rw [pk_uLn (by omega), i1 r hr]
            by_cases q : r < k
            · rw [if_pos q, if_pos (by omega)]
            · rw [if_neg q]
              by_cases q2 : r < k + 1
              · obtain rfl : r = k := by omega
                rw [if_pos q2]
                unfold rs_c
                rw [if_neg (fun y => h0 y.2)]
              · rw [if_neg q2]
          · have eL : (sm_lF X1 108 L).2.1 108 4 = lN (rs_u a t co F k) := by rw [lF_s]; exact i2
            have eu : rs_u a t co F (k + 1) = rs_u a t co F k + F k * sp_tp a t co k (a 77) := by rw [rs_u, if_pos ⟨l, by omega⟩]
            simp (disch := omega) only [sm_lt, sm_b1s, sm_b2s, ↓reduceIte, sm_in_nI, nI_clamp, nI_add, pk_mul, pk_sub, ne_addneg, nI_l, ne_ltT, ne_ltF, ne_leT, ne_leF, ne_eqT, ne_eqF, ne_sI1s, ne_sI1n, ne_sI2, ne_sI3, ne_sL1, ne_sL2s, ne_sL2n, ne_sL3, pk_us, pk_un, pk_uLs, pk_uLn, mm_Z, mm_L, mm_1, mm_2, mm_3, ne_rz0, ne_rz1, not_true_eq_false, not_false_eq_true, ne_i0, ne_i1, ne_i2, ne_i3, ne_i4, ne_i5, ne_i6, ne_i7, ne_i8, ne_i9, ne_i10, ne_i12, ne_i14, ne_i16, ne_i18, ne_i19, ne_i20, ne_i23, ne_i24, ne_i27, ne_i29, ne_i30, ne_i31, ne_i32, ne_i35, ne_i48, ne_i52, ne_i54, ne_i57, ne_i59, ne_i63, ne_i64, ne_i76, ne_i77, ne_i78, ne_i79, ne_i80, ne_i81, ne_i97, ne_i99, ne_i100, ne_i101, ne_i104, ne_i105, ne_i108, ne_i110, ne_i111, ne_i116, ne_i117, ne_i122, ne_i103, ne_i200, ne_i255, ne_i256, ne_i320, ne_i384, ne_i1000, ne_l0, ne_l1, ne_l2, ne_l3, ne_l4, ne_l5, ne_l8, ne_l12, ne_l31, ne_l48, ne_l57, ne_l97, ne_l99, ne_l122, ne_l255, ne_l673, ne_l1073741823, ne_l1073741824, eA, dt, z, c5, t1', t3', eL, lN_add, lN_mul, lF_sL, eu]
      · refine ⟨L, ⟨fun r hr => ?_, ?_⟩, ?_⟩
        · rw [i1 r hr]
          by_cases q : r < k
          · rw [if_pos q, if_pos (by omega)]
          · rw [if_neg q]
            by_cases q2 : r < k + 1
            · obtain rfl : r = k := by omega
              rw [if_pos q2]
              unfold rs_c
              rw [if_neg (fun y => l y.1)]
            · rw [if_neg q2]
        · rw [i2, rs_u, if_neg (fun y => l y.1), Nat.add_zero]
        · simp (disch := omega) only [sm_lt, sm_b1s, sm_b2s, ↓reduceIte, sm_in_nI, nI_clamp, nI_add, pk_mul, pk_sub, ne_addneg, nI_l, ne_ltT, ne_ltF, ne_leT, ne_leF, ne_eqT, ne_eqF, ne_sI1s, ne_sI1n, ne_sI2, ne_sI3, ne_sL1, ne_sL2s, ne_sL2n, ne_sL3, pk_us, pk_un, pk_uLs, pk_uLn, mm_Z, mm_L, mm_1, mm_2, mm_3, ne_rz0, ne_rz1, not_true_eq_false, not_false_eq_true, ne_i0, ne_i1, ne_i2, ne_i3, ne_i4, ne_i5, ne_i6, ne_i7, ne_i8, ne_i9, ne_i10, ne_i12, ne_i14, ne_i16, ne_i18, ne_i19, ne_i20, ne_i23, ne_i24, ne_i27, ne_i29, ne_i30, ne_i31, ne_i32, ne_i35, ne_i48, ne_i52, ne_i54, ne_i57, ne_i59, ne_i63, ne_i64, ne_i76, ne_i77, ne_i78, ne_i79, ne_i80, ne_i81, ne_i97, ne_i99, ne_i100, ne_i101, ne_i104, ne_i105, ne_i108, ne_i110, ne_i111, ne_i116, ne_i117, ne_i122, ne_i103, ne_i200, ne_i255, ne_i256, ne_i320, ne_i384, ne_i1000, ne_l0, ne_l1, ne_l2, ne_l3, ne_l4, ne_l5, ne_l8, ne_l12, ne_l31, ne_l48, ne_l57, ne_l97, ne_l99, ne_l122, ne_l255, ne_l673, ne_l1073741823, ne_l1073741824, eA, dt, z, c5]
    obtain ⟨L', j1, j2⟩ := core
    refine ⟨L', j1, ?_⟩
    show px_Resting_solve_b15 N 107 (f + 1) _ _ _ _ = px_Resting_solve_b15 N 107 f _ _ _ _
    rw [px_Resting_solve_b15]
    by_cases p : (k + c) % 2 = 0
    · have e3 : Int32.ofInt (rs_mn (rs_A a t) k c) = nI (F k) := by
        rw [ri_I, ← hFr k hk]
        unfold rs_cf
        rw [if_pos p]
      rw [e3] at em
      simp (disch := omega) only [sm_lt, sm_b1s, sm_b2s, ↓reduceIte, sm_in_nI, nI_clamp, nI_add, pk_mul, pk_sub, ne_addneg, nI_l, ne_ltT, ne_ltF, ne_leT, ne_leF, ne_eqT, ne_eqF, ne_sI1s, ne_sI1n, ne_sI2, ne_sI3, ne_sL1, ne_sL2s, ne_sL2n, ne_sL3, pk_us, pk_un, pk_uLs, pk_uLn, mm_Z, mm_L, mm_1, mm_2, mm_3, ne_rz0, ne_rz1, not_true_eq_false, not_false_eq_true, ne_i0, ne_i1, ne_i2, ne_i3, ne_i4, ne_i5, ne_i6, ne_i7, ne_i8, ne_i9, ne_i10, ne_i12, ne_i14, ne_i16, ne_i18, ne_i19, ne_i20, ne_i23, ne_i24, ne_i27, ne_i29, ne_i30, ne_i31, ne_i32, ne_i35, ne_i48, ne_i52, ne_i54, ne_i57, ne_i59, ne_i63, ne_i64, ne_i76, ne_i77, ne_i78, ne_i79, ne_i80, ne_i81, ne_i97, ne_i99, ne_i100, ne_i101, ne_i104, ne_i105, ne_i108, ne_i110, ne_i111, ne_i116, ne_i117, ne_i122, ne_i103, ne_i200, ne_i255, ne_i256, ne_i320, ne_i384, ne_i1000, ne_l0, ne_l1, ne_l2, ne_l3, ne_l4, ne_l5, ne_l8, ne_l12, ne_l31, ne_l48, ne_l57, ne_l97, ne_l99, ne_l122, ne_l255, ne_l673, ne_l1073741823, ne_l1073741824, par, em]
      exact j2
    · have e3 : -Int32.ofInt (rs_mn (rs_A a t) k c) = nI (F k) := by
        rw [ri_I, ← hFr k hk]
        unfold rs_cf
        rw [if_neg p, Int32.ofInt_neg]
      simp (disch := omega) only [sm_lt, sm_b1s, sm_b2s, ↓reduceIte, sm_in_nI, nI_clamp, nI_add, pk_mul, pk_sub, ne_addneg, nI_l, ne_ltT, ne_ltF, ne_leT, ne_leF, ne_eqT, ne_eqF, ne_sI1s, ne_sI1n, ne_sI2, ne_sI3, ne_sL1, ne_sL2s, ne_sL2n, ne_sL3, pk_us, pk_un, pk_uLs, pk_uLn, mm_Z, mm_L, mm_1, mm_2, mm_3, ne_rz0, ne_rz1, not_true_eq_false, not_false_eq_true, ne_i0, ne_i1, ne_i2, ne_i3, ne_i4, ne_i5, ne_i6, ne_i7, ne_i8, ne_i9, ne_i10, ne_i12, ne_i14, ne_i16, ne_i18, ne_i19, ne_i20, ne_i23, ne_i24, ne_i27, ne_i29, ne_i30, ne_i31, ne_i32, ne_i35, ne_i48, ne_i52, ne_i54, ne_i57, ne_i59, ne_i63, ne_i64, ne_i76, ne_i77, ne_i78, ne_i79, ne_i80, ne_i81, ne_i97, ne_i99, ne_i100, ne_i101, ne_i104, ne_i105, ne_i108, ne_i110, ne_i111, ne_i116, ne_i117, ne_i122, ne_i103, ne_i200, ne_i255, ne_i256, ne_i320, ne_i384, ne_i1000, ne_l0, ne_l1, ne_l2, ne_l3, ne_l4, ne_l5, ne_l8, ne_l12, ne_l31, ne_l48, ne_l57, ne_l97, ne_l99, ne_l122, ne_l255, ne_l673, ne_l1073741823, ne_l1073741824, par, em, e3]
      exact j2
  · rintro f L ⟨i1, i2⟩
    show ∃ X', px_Resting_solve_b15 N 107 (f + 1) _ _ _ _ = _ ∧ _
    rw [px_Resting_solve_b15, rs_dt_L hc]
    simp (disch := omega) only [sm_lt, sm_b1s, sm_b2s, ↓reduceIte, sm_in_nI, nI_clamp, nI_add, pk_mul, pk_sub, ne_addneg, nI_l, ne_ltT, ne_ltF, ne_leT, ne_leF, ne_eqT, ne_eqF, ne_sI1s, ne_sI1n, ne_sI2, ne_sI3, ne_sL1, ne_sL2s, ne_sL2n, ne_sL3, pk_us, pk_un, pk_uLs, pk_uLn, mm_Z, mm_L, mm_1, mm_2, mm_3, ne_rz0, ne_rz1, not_true_eq_false, not_false_eq_true, ne_i0, ne_i1, ne_i2, ne_i3, ne_i4, ne_i5, ne_i6, ne_i7, ne_i8, ne_i9, ne_i10, ne_i12, ne_i14, ne_i16, ne_i18, ne_i19, ne_i20, ne_i23, ne_i24, ne_i27, ne_i29, ne_i30, ne_i31, ne_i32, ne_i35, ne_i48, ne_i52, ne_i54, ne_i57, ne_i59, ne_i63, ne_i64, ne_i76, ne_i77, ne_i78, ne_i79, ne_i80, ne_i81, ne_i97, ne_i99, ne_i100, ne_i101, ne_i104, ne_i105, ne_i108, ne_i110, ne_i111, ne_i116, ne_i117, ne_i122, ne_i103, ne_i200, ne_i255, ne_i256, ne_i320, ne_i384, ne_i1000, ne_l0, ne_l1, ne_l2, ne_l3, ne_l4, ne_l5, ne_l8, ne_l12, ne_l31, ne_l48, ne_l57, ne_l97, ne_l99, ne_l122, ne_l255, ne_l673, ne_l1073741823, ne_l1073741824]
    refine ⟨_, rfl, fun r hr => ?_, g2, by rw [lF_3, g3]⟩
    rw [lF_s]
    by_cases e : r = 4
    · subst e
      rw [i2]
      rfl
    · rw [i1 r (by omega), if_pos (by omega)]
      unfold rs_C
      rw [if_neg e]
theorem xq_vain (hN : 4000 ≤ N) (k4 : a 76 ≤ 4) (h9 : X.1 1 9 = nI (a 76)) (hk : ∀ i, i < a 76 → a (4 * i) ≤ 4 ∧ X.1 2 i = nI (a (4 * i))) : ((∃ i, i < a 76 ∧ a (4 * i) = 4) ∧ px_House_hasVain N X 1 = some (nI 1, X)) ∨ ((∀ i, i < a 76 → a (4 * i) ≠ 4) ∧ px_House_hasVain N X 1 = some (nI 0, X)) := by
  unfold px_House_hasVain
  simp (disch := omega) only [sm_lt, sm_b1s, sm_b2s, ↓reduceIte, sm_in_nI, nI_clamp, nI_add, pk_mul, pk_sub, ne_addneg, nI_l, ne_ltT, ne_ltF, ne_leT, ne_leF, ne_eqT, ne_eqF, ne_sI1s, ne_sI1n, ne_sI2, ne_sI3, ne_sL1, ne_sL2s, ne_sL2n, ne_sL3, pk_us, pk_un, pk_uLs, pk_uLn, mm_Z, mm_L, mm_1, mm_2, mm_3, ne_rz0, ne_rz1, not_true_eq_false, not_false_eq_true, ne_i0, ne_i1, ne_i2, ne_i3, ne_i4, ne_i5, ne_i6, ne_i7, ne_i8, ne_i9, ne_i10, ne_i12, ne_i14, ne_i16, ne_i18, ne_i19, ne_i20, ne_i23, ne_i24, ne_i27, ne_i29, ne_i30, ne_i31, ne_i32, ne_i35, ne_i48, ne_i52, ne_i54, ne_i57, ne_i59, ne_i63, ne_i64, ne_i76, ne_i77, ne_i78, ne_i79, ne_i80, ne_i81, ne_i97, ne_i99, ne_i100, ne_i101, ne_i104, ne_i105, ne_i108, ne_i110, ne_i111, ne_i116, ne_i117, ne_i122, ne_i103, ne_i200, ne_i255, ne_i256, ne_i320, ne_i384, ne_i1000, ne_l0, ne_l1, ne_l2, ne_l3, ne_l4, ne_l5, ne_l8, ne_l12, ne_l31, ne_l48, ne_l57, ne_l97, ne_l99, ne_l122, ne_l255, ne_l673, ne_l1073741823, ne_l1073741824]
  refine ne_loop (fun f i (_ : Unit) => px_House_hasVain_b2 N 1 f (nI i) X) (fun i _ => ∀ j, j < i → a (4 * j) ≠ 4) (a 76) (fun r => ((∃ i, i < a 76 ∧ a (4 * i) = 4) ∧ r = some (nI 1, X)) ∨ ((∀ i, i < a 76 → a (4 * i) ≠ 4) ∧ r = some (nI 0, X))) ?_ ?_ N 0 () (by omega) (by omega) (fun j hj => by omega)
  · intro f i _ hi hI
    obtain ⟨k1, k2⟩ := hk i hi
    show (∃ s', _ ∧ px_House_hasVain_b2 N 1 (f + 1) _ _ = px_House_hasVain_b2 N 1 f _ _) ∨ (_ ∧ px_House_hasVain_b2 N 1 (f + 1) _ _ = _) ∨ (_ ∧ px_House_hasVain_b2 N 1 (f + 1) _ _ = _)
    rw [px_House_hasVain_b2]
    by_cases e : a (4 * i) = 4
    · right
      left
      refine ⟨⟨i, hi, e⟩, ?_⟩
      simp (disch := omega) only [sm_lt, sm_b1s, sm_b2s, ↓reduceIte, sm_in_nI, nI_clamp, nI_add, pk_mul, pk_sub, ne_addneg, nI_l, ne_ltT, ne_ltF, ne_leT, ne_leF, ne_eqT, ne_eqF, ne_sI1s, ne_sI1n, ne_sI2, ne_sI3, ne_sL1, ne_sL2s, ne_sL2n, ne_sL3, pk_us, pk_un, pk_uLs, pk_uLn, mm_Z, mm_L, mm_1, mm_2, mm_3, ne_rz0, ne_rz1, not_true_eq_false, not_false_eq_true, ne_i0, ne_i1, ne_i2, ne_i3, ne_i4, ne_i5, ne_i6, ne_i7, ne_i8, ne_i9, ne_i10, ne_i12, ne_i14, ne_i16, ne_i18, ne_i19, ne_i20, ne_i23, ne_i24, ne_i27, ne_i29, ne_i30, ne_i31, ne_i32, ne_i35, ne_i48, ne_i52, ne_i54, ne_i57, ne_i59, ne_i63, ne_i64, ne_i76, ne_i77, ne_i78, ne_i79, ne_i80, ne_i81, ne_i97, ne_i99, ne_i100, ne_i101, ne_i104, ne_i105, ne_i108, ne_i110, ne_i111, ne_i116, ne_i117, ne_i122, ne_i103, ne_i200, ne_i255, ne_i256, ne_i320, ne_i384, ne_i1000, ne_l0, ne_l1, ne_l2, ne_l3, ne_l4, ne_l5, ne_l8, ne_l12, ne_l31, ne_l48, ne_l57, ne_l97, ne_l99, ne_l122, ne_l255, ne_l673, ne_l1073741823, ne_l1073741824, h9, k2]
    · left
      refine ⟨(), fun j hj => ?_, ?_⟩
      · by_cases q : j = i
        · rw [q]; exact e
        · exact hI j (by omega)
      · simp (disch := omega) only [sm_lt, sm_b1s, sm_b2s, ↓reduceIte, sm_in_nI, nI_clamp, nI_add, pk_mul, pk_sub, ne_addneg, nI_l, ne_ltT, ne_ltF, ne_leT, ne_leF, ne_eqT, ne_eqF, ne_sI1s, ne_sI1n, ne_sI2, ne_sI3, ne_sL1, ne_sL2s, ne_sL2n, ne_sL3, pk_us, pk_un, pk_uLs, pk_uLn, mm_Z, mm_L, mm_1, mm_2, mm_3, ne_rz0, ne_rz1, not_true_eq_false, not_false_eq_true, ne_i0, ne_i1, ne_i2, ne_i3, ne_i4, ne_i5, ne_i6, ne_i7, ne_i8, ne_i9, ne_i10, ne_i12, ne_i14, ne_i16, ne_i18, ne_i19, ne_i20, ne_i23, ne_i24, ne_i27, ne_i29, ne_i30, ne_i31, ne_i32, ne_i35, ne_i48, ne_i52, ne_i54, ne_i57, ne_i59, ne_i63, ne_i64, ne_i76, ne_i77, ne_i78, ne_i79, ne_i80, ne_i81, ne_i97, ne_i99, ne_i100, ne_i101, ne_i104, ne_i105, ne_i108, ne_i110, ne_i111, ne_i116, ne_i117, ne_i122, ne_i103, ne_i200, ne_i255, ne_i256, ne_i320, ne_i384, ne_i1000, ne_l0, ne_l1, ne_l2, ne_l3, ne_l4, ne_l5, ne_l8, ne_l12, ne_l31, ne_l48, ne_l57, ne_l97, ne_l99, ne_l122, ne_l255, ne_l673, ne_l1073741823, ne_l1073741824, h9, k2]
  · intro f _ hI
    right
    refine ⟨hI, ?_⟩
    show px_House_hasVain_b2 N 1 (f + 1) _ _ = _
    rw [px_House_hasVain_b2]
    simp (disch := omega) only [sm_lt, sm_b1s, sm_b2s, ↓reduceIte, sm_in_nI, nI_clamp, nI_add, pk_mul, pk_sub, ne_addneg, nI_l, ne_ltT, ne_ltF, ne_leT, ne_leF, ne_eqT, ne_eqF, ne_sI1s, ne_sI1n, ne_sI2, ne_sI3, ne_sL1, ne_sL2s, ne_sL2n, ne_sL3, pk_us, pk_un, pk_uLs, pk_uLn, mm_Z, mm_L, mm_1, mm_2, mm_3, ne_rz0, ne_rz1, not_true_eq_false, not_false_eq_true, ne_i0, ne_i1, ne_i2, ne_i3, ne_i4, ne_i5, ne_i6, ne_i7, ne_i8, ne_i9, ne_i10, ne_i12, ne_i14, ne_i16, ne_i18, ne_i19, ne_i20, ne_i23, ne_i24, ne_i27, ne_i29, ne_i30, ne_i31, ne_i32, ne_i35, ne_i48, ne_i52, ne_i54, ne_i57, ne_i59, ne_i63, ne_i64, ne_i76, ne_i77, ne_i78, ne_i79, ne_i80, ne_i81, ne_i97, ne_i99, ne_i100, ne_i101, ne_i104, ne_i105, ne_i108, ne_i110, ne_i111, ne_i116, ne_i117, ne_i122, ne_i103, ne_i200, ne_i255, ne_i256, ne_i320, ne_i384, ne_i1000, ne_l0, ne_l1, ne_l2, ne_l3, ne_l4, ne_l5, ne_l8, ne_l12, ne_l31, ne_l48, ne_l57, ne_l97, ne_l99, ne_l122, ne_l255, ne_l673, ne_l1073741823, ne_l1073741824, h9]
end
