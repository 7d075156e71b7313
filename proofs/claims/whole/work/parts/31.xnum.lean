/-! rows of digits: parts of the unit, sums, how many digits are needed -/
def sm_lF (S : sm_St) (p : Nat) (f : Nat → Int64) : sm_St := (S.1, va_up S.2.1 p f, S.2.2)
section
variable {S : sm_St} {p q : Nat} {g : Nat → Int64}
theorem lF_1 : (sm_lF S p g).1 = S.1 := rfl
theorem lF_s : (sm_lF S p g).2.1 p = g := by simp [sm_lF, va_up]
theorem lF_n (h : q ≠ p) : (sm_lF S p g).2.1 q = S.2.1 q := by simp [sm_lF, va_up, h]
theorem lF_3 : (sm_lF S p g).2.2 = S.2.2 := rfl
theorem lF_sL {k : Nat} {x : Int64} : sm_sL (sm_lF S p g) p k x = sm_lF S p (vp_updL g k x) := by
  unfold sm_lF sm_sL
  simp [va_up, bx_uu]
theorem lF_self : sm_lF S p (S.2.1 p) = S := by
  unfold sm_lF
  have h1 : va_up S.2.1 p (S.2.1 p) = S.2.1 := by funext q; by_cases h : q = p <;> simp [va_up, h]
  rw [h1]
theorem lF_lF {g' : Nat → Int64} : sm_lF (sm_lF S p g) p g' = sm_lF S p g' := by
  unfold sm_lF
  simp [bx_uu]
theorem sF_2 {f : Nat → Int32} : (sm_sF S p f).2.1 = S.2.1 := rfl
theorem sF_3 {f : Nat → Int32} : (sm_sF S p f).2.2 = S.2.2 := rfl
theorem sF_sF {f f' : Nat → Int32} : sm_sF (sm_sF S p f) p f' = sm_sF S p f' := by
  unfold sm_sF
  simp [bx_uu]
theorem lF_sF {f : Nat → Int32} : sm_lF (sm_sF S q f) p g = sm_sF (sm_lF S p g) q f := rfl
theorem lF_sI {k : Nat} {x : Int32} : sm_lF (sm_sI S q k x) p g = sm_sI (sm_lF S p g) q k x := rfl
end
theorem ne_maskN (x : Nat) : lN x &&& lN 1073741823 = lN (x % 1073741824) := nm_maskN x
theorem ne_sh30N {x : Nat} (h : x < 4611686018427387904) : lN x >>> (lN 30 &&& 63) = lN (x / 1073741824) := by
  have e : (30 : Int32).toInt64 = lN 30 := by decide
  have := nm_sh30N h
  rwa [e] at this
theorem ne_LeqT {a b : Nat} (h : a = b) : (lN a = lN b) = True := eq_true (by rw [h])
theorem ne_LeqF {a b : Nat} (h : a ≠ b) (ha : a < 2 ^ 63) (hb : b < 2 ^ 63) : (lN a = lN b) = False := eq_false (fun q => h ((pk_lEQ ha hb).mp q))
theorem ne_LleT {a b : Nat} (h : a ≤ b) (hb : b < 2 ^ 63) : (lN a ≤ lN b) = True := eq_true ((pk_lLE (by omega) hb).mpr h)
theorem ne_LleF {a b : Nat} (h : b < a) (ha : a < 2 ^ 63) : (lN a ≤ lN b) = False := eq_false (fun q => by have := (pk_lLE ha (by omega)).mp q; omega)
theorem xq_putParts {X : sm_St} {N p row parts u w : Nat} (hN : 4000 ≤ N) (hu : X.1 p 1 = nI u) (hu2 : u ≤ 20) (hr : row < 4) (hm : parts ≤ 12) (hw : 12 * w < nm_B ^ u) (h : xr (X.1 (p + 1)) 4 u w) : ∃ g, px_Shades_putParts N X p (nI row) (nI parts) = some (sm_sF X (p + 1) g) ∧ xr g row u (w * parts) ∧ ∀ j, (j < 20 * row ∨ 20 * row + u ≤ j) → g j = X.1 (p + 1) j := by
  unfold px_Shades_putParts
  simp (disch := omega) only [sm_lt, sm_b1s, sm_b2s, ↓reduceIte, sm_in_nI, nI_clamp, nI_add, pk_mul, pk_sub, ne_addneg, nI_l, ne_ltT, ne_ltF, ne_leT, ne_leF, ne_eqT, ne_eqF, ne_sI1s, ne_sI1n, ne_sI2, ne_sI3, ne_sL1, ne_sL2s, ne_sL2n, ne_sL3, pk_us, pk_un, pk_uLs, pk_uLn, mm_Z, mm_L, mm_1, mm_2, mm_3, ne_rz0, ne_rz1, not_true_eq_false, not_false_eq_true, ne_i0, ne_i1, ne_i2, ne_i3, ne_i4, ne_i5, ne_i6, ne_i7, ne_i8, ne_i9, ne_i10, ne_i12, ne_i14, ne_i16, ne_i18, ne_i19, ne_i20, ne_i23, ne_i24, ne_i27, ne_i29, ne_i30, ne_i31, ne_i32, ne_i35, ne_i48, ne_i52, ne_i54, ne_i57, ne_i59, ne_i63, ne_i64, ne_i76, ne_i77, ne_i78, ne_i79, ne_i80, ne_i81, ne_i97, ne_i99, ne_i100, ne_i101, ne_i104, ne_i105, ne_i108, ne_i110, ne_i111, ne_i116, ne_i117, ne_i122, ne_i103, ne_i200, ne_i255, ne_i256, ne_i320, ne_i384, ne_i1000, ne_l0, ne_l1, ne_l2, ne_l3, ne_l4, ne_l5, ne_l8, ne_l12, ne_l31, ne_l48, ne_l57, ne_l97, ne_l99, ne_l122, ne_l255, ne_l673, ne_l1073741823, ne_l1073741824]
  have q := ne_loop (fun f i (s : Int64 × (Nat → Int32)) => px_Shades_putParts_b5 N p f (nI row) (nI parts) s.1 (nI i) (sm_sF X (p + 1) s.2)) (fun i s => s.1 = lN (nm_tc w parts i) ∧ (∀ j, j < i → s.2 (20 * row + j) = nI (nm_dg (w * parts) j)) ∧ ∀ j, (j < 20 * row ∨ 20 * row + i ≤ j) → s.2 j = X.1 (p + 1) j) u (fun r => ∃ g, r = some (sm_sF X (p + 1) g) ∧ xr g row u (w * parts) ∧ ∀ j, (j < 20 * row ∨ 20 * row + u ≤ j) → g j = X.1 (p + 1) j) ?_ ?_ N 0 (lN 0, X.1 (p + 1)) (by omega) (by omega) ⟨by rw [nm_tc_0], fun j hj => by omega, fun _ _ => rfl⟩
  · simp only [sF_self] at q
    exact q
  · rintro f k ⟨s1, g⟩ hk ⟨g1, g2, g3⟩
    simp only at g1 g2 g3
    subst g1
    left
    have d1 := nm_dg_lt w k
    have d2 := nm_dg_lt (w * parts) k
    have d3 := nm_tc_ltB (v := w) (k := k) (show parts ≤ nm_B from Nat.le_trans hm (by decide))
    have e4 : g (80 + k) = nI (nm_dg w k) := by rw [g3 _ (by omega)]; exact h.2 k hk
    have b1 : parts * nm_dg w k ≤ 12 * 1073741824 := Nat.mul_le_mul hm (by omega)
    refine ⟨(lN (nm_tc w parts (k + 1)), upd g (20 * row + k) (nI (nm_dg (w * parts) k))), ⟨rfl, fun j hj => ?_, fun j hj => ?_⟩, ?_⟩
    · by_cases e : j = k
      · subst e
        exact pk_us
      · show upd g _ _ _ = _
        rw [pk_un (by omega)]
        exact g2 j (by omega)
    · show upd g _ _ _ = _
      rw [pk_un (by omega)]
      exact g3 j (by omega)
    · show px_Shades_putParts_b5 N p (f + 1) _ _ _ _ _ = px_Shades_putParts_b5 N p f _ _ _ _ _
      rw [px_Shades_putParts_b5]
      have ei : row * 20 + k = 20 * row + k := by omega
      have e2 : nm_tc w parts k + parts * nm_dg w k = nm_dg w k * parts + nm_tc w parts k := by rw [Nat.mul_comm]; omega
      have e3 : (nm_dg w k * parts + nm_tc w parts k) / 1073741824 = nm_tc w parts (k + 1) := (nm_tc_succ w parts k).symm
      have e5 : (nm_dg w k * parts + nm_tc w parts k) % 1073741824 = nm_dg (w * parts) k := (nm_tc_dg w parts k).symm
      simp (disch := omega) only [sm_lt, sm_b1s, sm_b2s, ↓reduceIte, sm_in_nI, nI_clamp, nI_add, pk_mul, pk_sub, ne_addneg, nI_l, ne_ltT, ne_ltF, ne_leT, ne_leF, ne_eqT, ne_eqF, ne_sI1s, ne_sI1n, ne_sI2, ne_sI3, ne_sL1, ne_sL2s, ne_sL2n, ne_sL3, pk_us, pk_un, pk_uLs, pk_uLn, mm_Z, mm_L, mm_1, mm_2, mm_3, ne_rz0, ne_rz1, not_true_eq_false, not_false_eq_true, ne_i0, ne_i1, ne_i2, ne_i3, ne_i4, ne_i5, ne_i6, ne_i7, ne_i8, ne_i9, ne_i10, ne_i12, ne_i14, ne_i16, ne_i18, ne_i19, ne_i20, ne_i23, ne_i24, ne_i27, ne_i29, ne_i30, ne_i31, ne_i32, ne_i35, ne_i48, ne_i52, ne_i54, ne_i57, ne_i59, ne_i63, ne_i64, ne_i76, ne_i77, ne_i78, ne_i79, ne_i80, ne_i81, ne_i97, ne_i99, ne_i100, ne_i101, ne_i104, ne_i105, ne_i108, ne_i110, ne_i111, ne_i116, ne_i117, ne_i122, ne_i103, ne_i200, ne_i255, ne_i256, ne_i320, ne_i384, ne_i1000, ne_l0, ne_l1, ne_l2, ne_l3, ne_l4, ne_l5, ne_l8, ne_l12, ne_l31, ne_l48, ne_l57, ne_l97, ne_l99, ne_l122, ne_l255, ne_l673, ne_l1073741823, ne_l1073741824, sF_n, sF_s, hu, e4, lN_mul, lN_add, e2, ne_maskN, ne_sh30N, lN_i, sF_sI, ei, e3, e5]
  · rintro f ⟨s1, g⟩ ⟨g1, g2, g3⟩
    simp only at g1 g2 g3
    show ∃ g, px_Shades_putParts_b5 N p (f + 1) _ _ _ _ _ = _ ∧ _
    rw [px_Shades_putParts_b5]
    simp (disch := omega) only [sm_lt, sm_b1s, sm_b2s, ↓reduceIte, sm_in_nI, nI_clamp, nI_add, pk_mul, pk_sub, ne_addneg, nI_l, ne_ltT, ne_ltF, ne_leT, ne_leF, ne_eqT, ne_eqF, ne_sI1s, ne_sI1n, ne_sI2, ne_sI3, ne_sL1, ne_sL2s, ne_sL2n, ne_sL3, pk_us, pk_un, pk_uLs, pk_uLn, mm_Z, mm_L, mm_1, mm_2, mm_3, ne_rz0, ne_rz1, not_true_eq_false, not_false_eq_true, ne_i0, ne_i1, ne_i2, ne_i3, ne_i4, ne_i5, ne_i6, ne_i7, ne_i8, ne_i9, ne_i10, ne_i12, ne_i14, ne_i16, ne_i18, ne_i19, ne_i20, ne_i23, ne_i24, ne_i27, ne_i29, ne_i30, ne_i31, ne_i32, ne_i35, ne_i48, ne_i52, ne_i54, ne_i57, ne_i59, ne_i63, ne_i64, ne_i76, ne_i77, ne_i78, ne_i79, ne_i80, ne_i81, ne_i97, ne_i99, ne_i100, ne_i101, ne_i104, ne_i105, ne_i108, ne_i110, ne_i111, ne_i116, ne_i117, ne_i122, ne_i103, ne_i200, ne_i255, ne_i256, ne_i320, ne_i384, ne_i1000, ne_l0, ne_l1, ne_l2, ne_l3, ne_l4, ne_l5, ne_l8, ne_l12, ne_l31, ne_l48, ne_l57, ne_l97, ne_l99, ne_l122, ne_l255, ne_l673, ne_l1073741823, ne_l1073741824, sF_n, hu]
    exact ⟨g, rfl, ⟨Nat.lt_of_le_of_lt (by rw [Nat.mul_comm]; exact Nat.mul_le_mul_right _ hm) hw, g2⟩, g3⟩
/-- a sum's factors as naturals -/
def sx (c w : Nat → Nat) : Nat → Nat
  | 0 => 0
  | n + 1 => sx c w n + c n * w n
/-- carrying naturals -/
def dn (y : Nat → Nat) : Nat → Nat
  | 0 => 0
  | k + 1 => dn y k + nm_B ^ k * y k
def dk (y : Nat → Nat) (k : Nat) : Nat := dn y k / nm_B ^ k
theorem dk_0 (y : Nat → Nat) : dk y 0 = 0 := by simp [dk, dn]
theorem dk_succ (y : Nat → Nat) (k : Nat) : dk y (k + 1) = (dk y k + y k) / 1073741824 := by
  unfold dk
  rw [dn, Nat.pow_succ, ← Nat.div_div_eq_div_mul, Nat.add_mul_div_left _ _ (nm_Bp k)]
theorem dk_bd {y : Nat → Nat} {T n : Nat} (h : ∀ k, k < n → y k ≤ T * 1073741823) : ∀ k, k ≤ n → dk y k ≤ T
  | 0, _ => by rw [dk_0]; omega
  | k + 1, hk => by
    have ih := dk_bd h k (by omega)
    have := h k (by omega)
    rw [dk_succ]
    omega
theorem dn_rest (y : Nat → Nat) : ∀ n k, k < n → ∃ z, dn y n = dn y k + nm_B ^ k * (y k + nm_B * z)
  | 0, k, h => by omega
  | n + 1, k, h => by
    rcases Nat.lt_or_ge k n with q | q
    · obtain ⟨z, hz⟩ := dn_rest y n k q
      refine ⟨z + nm_B ^ (n - k - 1) * y n, ?_⟩
      have e : nm_B ^ n = nm_B ^ k * (nm_B * nm_B ^ (n - k - 1)) := by
        rw [← Nat.pow_succ', ← Nat.pow_add]
        congr 1
        omega
      rw [dn, hz, e]
      simp only [Nat.mul_add, Nat.mul_assoc, Nat.add_assoc]
    · obtain rfl : k = n := by omega
      exact ⟨0, by rw [dn, Nat.mul_zero, Nat.add_zero]⟩
theorem dn_dg {y : Nat → Nat} {n k : Nat} (h : k < n) : nm_dg (dn y n) k = (dk y k + y k) % 1073741824 := by
  obtain ⟨z, hz⟩ := dn_rest y n k h
  unfold nm_dg dk
  rw [hz, Nat.add_mul_div_left _ _ (nm_Bp k), ← Nat.add_assoc, Nat.add_mul_mod_self_left]
theorem dn_one (v k : Nat) : dn (fun k => nm_dg v k) k = v % nm_B ^ k := by
  induction k with
  | zero => rw [nm_mod_0]; rfl
  | succ k ih => rw [dn, ih, nm_mod_succ]
theorem dn_sx {c w : Nat → Nat} (n u : Nat) (h : ∀ r, r < n → c r ≠ 0 → w r < nm_B ^ u) : dn (fun k => sx c (fun r => nm_dg (w r) k) n) u = sx c w n := by
  have add : ∀ (y z : Nat → Nat) k, dn (fun k => y k + z k) k = dn y k + dn z k := by
    intro y z k
    induction k with
    | zero => rfl
    | succ k ih => rw [dn, ih, dn, dn, Nat.mul_add]; omega
  have mul : ∀ (c : Nat) (y : Nat → Nat) k, dn (fun k => c * y k) k = c * dn y k := by
    intro c y k
    induction k with
    | zero => simp [dn]
    | succ k ih => rw [dn, ih, dn, Nat.mul_add, Nat.mul_left_comm]
  induction n with
  | zero =>
    have : ∀ u, dn (fun _ => 0) u = 0 := fun u => by
      induction u with
      | zero => rfl
      | succ u ih => rw [dn, ih]; simp
    exact this u
  | succ n ih =>
    rw [sx, ← ih (fun r hr => h r (by omega))]
    have e : (fun k => sx c (fun r => nm_dg (w r) k) (n + 1)) = fun k => sx c (fun r => nm_dg (w r) k) n + c n * nm_dg (w n) k := rfl
    rw [e, add, mul, dn_one]
    by_cases h0 : c n = 0
    · rw [h0]; simp
    · rw [nm_mod_full (h n (by omega) h0)]
theorem sx_le {c w : Nat → Nat} {n b : Nat} (h : ∀ r, r < n → c r ≠ 0 → w r ≤ b) : sx c w n ≤ sx c (fun _ => 1) n * b := by
  induction n with
  | zero => simp [sx]
  | succ n ih =>
    rw [sx, sx, Nat.mul_one, Nat.add_mul]
    refine Nat.add_le_add (ih (fun r hr => h r (by omega))) ?_
    by_cases h0 : c n = 0
    · rw [h0]; simp
    · exact Nat.mul_le_mul_left _ (h n (by omega) h0)
theorem xq_begin {X : sm_St} {N p : Nat} (hN : 4000 ≤ N) : ∃ g, px_Sum_begin N X p = some (sm_lF X (p + 1) g) ∧ (∀ r, r < 5 → g r = lN 0) := by
  unfold px_Sum_begin
  simp (disch := omega) only [sm_lt, sm_b1s, sm_b2s, ↓reduceIte, sm_in_nI, nI_clamp, nI_add, pk_mul, pk_sub, ne_addneg, nI_l, ne_ltT, ne_ltF, ne_leT, ne_leF, ne_eqT, ne_eqF, ne_sI1s, ne_sI1n, ne_sI2, ne_sI3, ne_sL1, ne_sL2s, ne_sL2n, ne_sL3, pk_us, pk_un, pk_uLs, pk_uLn, mm_Z, mm_L, mm_1, mm_2, mm_3, ne_rz0, ne_rz1, not_true_eq_false, not_false_eq_true, ne_i0, ne_i1, ne_i2, ne_i3, ne_i4, ne_i5, ne_i6, ne_i7, ne_i8, ne_i9, ne_i10, ne_i12, ne_i14, ne_i16, ne_i18, ne_i19, ne_i20, ne_i23, ne_i24, ne_i27, ne_i29, ne_i30, ne_i31, ne_i32, ne_i35, ne_i48, ne_i52, ne_i54, ne_i57, ne_i59, ne_i63, ne_i64, ne_i76, ne_i77, ne_i78, ne_i79, ne_i80, ne_i81, ne_i97, ne_i99, ne_i100, ne_i101, ne_i104, ne_i105, ne_i108, ne_i110, ne_i111, ne_i116, ne_i117, ne_i122, ne_i103, ne_i200, ne_i255, ne_i256, ne_i320, ne_i384, ne_i1000, ne_l0, ne_l1, ne_l2, ne_l3, ne_l4, ne_l5, ne_l8, ne_l12, ne_l31, ne_l48, ne_l57, ne_l97, ne_l99, ne_l122, ne_l255, ne_l673, ne_l1073741823, ne_l1073741824]
  have q := ne_loop (fun f i (g : Nat → Int64) => px_Sum_begin_b2 N p f (nI i) (sm_lF X (p + 1) g)) (fun i g => ∀ r, r < i → g r = lN 0) 5 (fun r => ∃ g, r = some (sm_lF X (p + 1) g) ∧ (∀ r, r < 5 → g r = lN 0)) ?_ ?_ N 0 (X.2.1 (p + 1)) (by omega) (by omega) (fun r hr => by omega)
  · simp only [lF_self] at q
    exact q
  · intro f i g hi hI
    left
    refine ⟨vp_updL g i (lN 0), fun r hr => ?_, ?_⟩
    · by_cases e : r = i
      · subst e
        exact pk_uLs
      · rw [pk_uLn e]
        exact hI r (by omega)
    · show px_Sum_begin_b2 N p (f + 1) _ _ = _
      rw [px_Sum_begin_b2]
      simp (disch := omega) only [sm_lt, sm_b1s, sm_b2s, ↓reduceIte, sm_in_nI, nI_clamp, nI_add, pk_mul, pk_sub, ne_addneg, nI_l, ne_ltT, ne_ltF, ne_leT, ne_leF, ne_eqT, ne_eqF, ne_sI1s, ne_sI1n, ne_sI2, ne_sI3, ne_sL1, ne_sL2s, ne_sL2n, ne_sL3, pk_us, pk_un, pk_uLs, pk_uLn, mm_Z, mm_L, mm_1, mm_2, mm_3, ne_rz0, ne_rz1, not_true_eq_false, not_false_eq_true, ne_i0, ne_i1, ne_i2, ne_i3, ne_i4, ne_i5, ne_i6, ne_i7, ne_i8, ne_i9, ne_i10, ne_i12, ne_i14, ne_i16, ne_i18, ne_i19, ne_i20, ne_i23, ne_i24, ne_i27, ne_i29, ne_i30, ne_i31, ne_i32, ne_i35, ne_i48, ne_i52, ne_i54, ne_i57, ne_i59, ne_i63, ne_i64, ne_i76, ne_i77, ne_i78, ne_i79, ne_i80, ne_i81, ne_i97, ne_i99, ne_i100, ne_i101, ne_i104, ne_i105, ne_i108, ne_i110, ne_i111, ne_i116, ne_i117, ne_i122, ne_i103, ne_i200, ne_i255, ne_i256, ne_i320, ne_i384, ne_i1000, ne_l0, ne_l1, ne_l2, ne_l3, ne_l4, ne_l5, ne_l8, ne_l12, ne_l31, ne_l48, ne_l57, ne_l97, ne_l99, ne_l122, ne_l255, ne_l673, ne_l1073741823, ne_l1073741824, lF_sL]
  · intro f g hI
    show ∃ g, px_Sum_begin_b2 N p (f + 1) _ _ = _ ∧ _
    rw [px_Sum_begin_b2]
    simp (disch := omega) only [sm_lt, sm_b1s, sm_b2s, ↓reduceIte, sm_in_nI, nI_clamp, nI_add, pk_mul, pk_sub, ne_addneg, nI_l, ne_ltT, ne_ltF, ne_leT, ne_leF, ne_eqT, ne_eqF, ne_sI1s, ne_sI1n, ne_sI2, ne_sI3, ne_sL1, ne_sL2s, ne_sL2n, ne_sL3, pk_us, pk_un, pk_uLs, pk_uLn, mm_Z, mm_L, mm_1, mm_2, mm_3, ne_rz0, ne_rz1, not_true_eq_false, not_false_eq_true, ne_i0, ne_i1, ne_i2, ne_i3, ne_i4, ne_i5, ne_i6, ne_i7, ne_i8, ne_i9, ne_i10, ne_i12, ne_i14, ne_i16, ne_i18, ne_i19, ne_i20, ne_i23, ne_i24, ne_i27, ne_i29, ne_i30, ne_i31, ne_i32, ne_i35, ne_i48, ne_i52, ne_i54, ne_i57, ne_i59, ne_i63, ne_i64, ne_i76, ne_i77, ne_i78, ne_i79, ne_i80, ne_i81, ne_i97, ne_i99, ne_i100, ne_i101, ne_i104, ne_i105, ne_i108, ne_i110, ne_i111, ne_i116, ne_i117, ne_i122, ne_i103, ne_i200, ne_i255, ne_i256, ne_i320, ne_i384, ne_i1000, ne_l0, ne_l1, ne_l2, ne_l3, ne_l4, ne_l5, ne_l8, ne_l12, ne_l31, ne_l48, ne_l57, ne_l97, ne_l99, ne_l122, ne_l255, ne_l673, ne_l1073741823, ne_l1073741824]
    exact ⟨g, rfl, hI⟩
/-- the sum's digits, one limb more than are used -/
theorem xq_write {X : sm_St} {N p q1 q2 base u n : Nat} {c w : Nat → Nat} (hN : 4000 ≤ N) (hu : X.1 q1 1 = nI u) (hu1 : 0 < u) (hu2 : u ≤ 19) (hq2 : (zx_sh q2).2 = n) (hn : base + u < n) (hn2 : n ≤ 1000) (n1 : q2 ≠ q1) (n2 : q2 ≠ q1 + 1) (hc : ∀ r, r < 5 → X.2.1 (p + 1) r = lN (c r)) (hcs : sx c (fun _ => 1) 5 ≤ 1073741824) (hr : ∀ r, r < 5 → c r ≠ 0 → xr (X.1 (q1 + 1)) r u (w r)) : ∃ L g, px_Sum_write N X p q1 q2 (nI base) = some (sm_sF (sm_lF X (p + 2) L) q2 g) ∧ sx c w 5 < nm_B ^ (u + 1) ∧ (∀ j, j ≤ u → g (base + j) = nI (nm_dg (sx c w 5) j)) ∧ ∀ j, (j < base ∨ base + u < j) → g j = X.1 q2 j := by
  have hV : dn (fun k => sx c (fun r => nm_dg (w r) k) 5) u = sx c w 5 := dn_sx 5 u (fun r h1 h2 => (hr r h1 h2).1)
  have hVlt : sx c w 5 < nm_B ^ (u + 1) := by
    have hB := nm_Bp u
    have h1 : sx c w 5 ≤ sx c (fun _ => 1) 5 * (nm_B ^ u - 1) := sx_le (fun r h1 h2 => by have := (hr r h1 h2).1; omega)
    have h2 : sx c (fun _ => 1) 5 * (nm_B ^ u - 1) ≤ 1073741824 * (nm_B ^ u - 1) := Nat.mul_le_mul_right _ hcs
    rw [Nat.pow_succ, Nat.mul_comm]
    show _ < 1073741824 * nm_B ^ u
    omega
  have sxle : ∀ m, m ≤ 5 → sx c (fun _ => 1) m ≤ 1073741824 := by
    intro m hm
    have mono : ∀ d m, m + d = 5 → sx c (fun _ => 1) m ≤ sx c (fun _ => 1) 5 := by
      intro d
      induction d with
      | zero => intro m e; rw [show m = 5 by omega]; exact Nat.le_refl _
      | succ d ih => intro m e; exact Nat.le_trans (by rw [sx]; exact Nat.le_add_right _ _) (ih (m + 1) (by omega))
    exact Nat.le_trans (mono (5 - m) m (by omega)) hcs
  have yb : ∀ k m, m ≤ 5 → sx c (fun r => nm_dg (w r) k) m ≤ 1073741824 * 1073741823 := fun k m hm => Nat.le_trans (sx_le (b := 1073741823) (fun r _ _ => by have := nm_dg_lt (w r) k; omega)) (Nat.mul_le_mul_right _ (sxle m hm))
  have kb := dk_bd (y := fun k => sx c (fun r => nm_dg (w r) k) 5) (T := 1073741824) (n := u) (fun k _ => yb k 5 (Nat.le_refl _))
  have cb : ∀ r, r < 5 → c r ≤ 1073741824 := fun r h => by
    have := sxle (r + 1) (by omega)
    rw [sx, Nat.mul_one] at this
    omega
  -- carrying
  have part3 : ∀ L : Nat → Int64, (∀ k, k < u → L k = lN (sx c (fun r => nm_dg (w r) k) 5)) → ∃ L' g, px_Sum_write_b108 N p q1 q2 N (nI base) (lN 0) (nI 0) (sm_lF X (p + 2) L) = some (sm_sF (sm_lF X (p + 2) L') q2 g) ∧ sx c w 5 < nm_B ^ (u + 1) ∧ (∀ j, j ≤ u → g (base + j) = nI (nm_dg (sx c w 5) j)) ∧ ∀ j, (j < base ∨ base + u < j) → g j = X.1 q2 j := by
    intro L hL
    have q := ne_loop (fun f i (s : Int64 × (Nat → Int32)) => px_Sum_write_b108 N p q1 q2 f (nI base) s.1 (nI i) (sm_sF (sm_lF X (p + 2) L) q2 s.2)) (fun i s => s.1 = lN (dk (fun k => sx c (fun r => nm_dg (w r) k) 5) i) ∧ (∀ j, j < i → s.2 (base + j) = nI (nm_dg (sx c w 5) j)) ∧ ∀ j, (j < base ∨ base + i ≤ j) → s.2 j = X.1 q2 j) u (fun r => ∃ L g, r = some (sm_sF (sm_lF X (p + 2) L) q2 g) ∧ sx c w 5 < nm_B ^ (u + 1) ∧ (∀ j, j ≤ u → g (base + j) = nI (nm_dg (sx c w 5) j)) ∧ ∀ j, (j < base ∨ base + u < j) → g j = X.1 q2 j) ?_ ?_ N 0 (lN 0, X.1 q2) (by omega) (by omega) ⟨by rw [dk_0], fun j hj => by omega, fun _ _ => rfl⟩
    · have es : sm_sF (sm_lF X (p + 2) L) q2 (X.1 q2) = sm_lF X (p + 2) L := sF_self (S := sm_lF X (p + 2) L)
      simp only [es] at q
      exact q
    · rintro f k ⟨s1, g⟩ hk ⟨g1, g2, g3⟩
      simp only at g1 g2 g3
      subst g1
      left
      have b1 := kb k (by omega)
      have b2 := yb k 5 (Nat.le_refl _)
      have d2 := nm_dg_lt (sx c w 5) k
      refine ⟨(lN (dk (fun k => sx c (fun r => nm_dg (w r) k) 5) (k + 1)), upd g (base + k) (nI (nm_dg (sx c w 5) k))), ⟨rfl, fun j hj => ?_, fun j hj => ?_⟩, ?_⟩
      · by_cases e : j = k
        · subst e
          exact pk_us
        · show upd g _ _ _ = _
          rw [pk_un (by omega)]
          exact g2 j (by omega)
      · show upd g _ _ _ = _
        rw [pk_un (by omega)]
        exact g3 j (by omega)
      · show px_Sum_write_b108 N p q1 q2 (f + 1) _ _ _ _ = px_Sum_write_b108 N p q1 q2 f _ _ _ _
        rw [px_Sum_write_b108]
        have e3 : (dk (fun k => sx c (fun r => nm_dg (w r) k) 5) k + sx c (fun r => nm_dg (w r) k) 5) / 1073741824 = dk (fun k => sx c (fun r => nm_dg (w r) k) 5) (k + 1) := (dk_succ _ k).symm
        have e5 : (dk (fun k => sx c (fun r => nm_dg (w r) k) 5) k + sx c (fun r => nm_dg (w r) k) 5) % 1073741824 = nm_dg (sx c w 5) k := by rw [← hV]; exact (dn_dg hk).symm
        have e2 : sx c (fun r => nm_dg (w r) k) 5 + dk (fun k => sx c (fun r => nm_dg (w r) k) 5) k = dk (fun k => sx c (fun r => nm_dg (w r) k) 5) k + sx c (fun r => nm_dg (w r) k) 5 := Nat.add_comm _ _
        have n1' : q1 ≠ q2 := fun e => n1 e.symm
        simp (disch := omega) only [sm_lt, sm_b1s, sm_b2s, ↓reduceIte, sm_in_nI, nI_clamp, nI_add, pk_mul, pk_sub, ne_addneg, nI_l, ne_ltT, ne_ltF, ne_leT, ne_leF, ne_eqT, ne_eqF, ne_sI1s, ne_sI1n, ne_sI2, ne_sI3, ne_sL1, ne_sL2s, ne_sL2n, ne_sL3, pk_us, pk_un, pk_uLs, pk_uLn, mm_Z, mm_L, mm_1, mm_2, mm_3, ne_rz0, ne_rz1, not_true_eq_false, not_false_eq_true, ne_i0, ne_i1, ne_i2, ne_i3, ne_i4, ne_i5, ne_i6, ne_i7, ne_i8, ne_i9, ne_i10, ne_i12, ne_i14, ne_i16, ne_i18, ne_i19, ne_i20, ne_i23, ne_i24, ne_i27, ne_i29, ne_i30, ne_i31, ne_i32, ne_i35, ne_i48, ne_i52, ne_i54, ne_i57, ne_i59, ne_i63, ne_i64, ne_i76, ne_i77, ne_i78, ne_i79, ne_i80, ne_i81, ne_i97, ne_i99, ne_i100, ne_i101, ne_i104, ne_i105, ne_i108, ne_i110, ne_i111, ne_i116, ne_i117, ne_i122, ne_i103, ne_i200, ne_i255, ne_i256, ne_i320, ne_i384, ne_i1000, ne_l0, ne_l1, ne_l2, ne_l3, ne_l4, ne_l5, ne_l8, ne_l12, ne_l31, ne_l48, ne_l57, ne_l97, ne_l99, ne_l122, ne_l255, ne_l673, ne_l1073741823, ne_l1073741824, sF_n n1', sF_2, lF_1, lF_s, hu, hL k hk, hq2, lN_add, e2, ne_maskN, ne_sh30N, lN_i, sF_sI, e3, e5]
    · rintro f ⟨s1, g⟩ ⟨g1, g2, g3⟩
      simp only at g1 g2 g3
      subst g1
      show ∃ L g, px_Sum_write_b108 N p q1 q2 (f + 1) _ _ _ _ = _ ∧ _
      have b1 := kb u (Nat.le_refl _)
      have n1' : q1 ≠ q2 := fun e => n1 e.symm
      rw [px_Sum_write_b108]
      simp (disch := omega) only [sm_lt, sm_b1s, sm_b2s, ↓reduceIte, sm_in_nI, nI_clamp, nI_add, pk_mul, pk_sub, ne_addneg, nI_l, ne_ltT, ne_ltF, ne_leT, ne_leF, ne_eqT, ne_eqF, ne_sI1s, ne_sI1n, ne_sI2, ne_sI3, ne_sL1, ne_sL2s, ne_sL2n, ne_sL3, pk_us, pk_un, pk_uLs, pk_uLn, mm_Z, mm_L, mm_1, mm_2, mm_3, ne_rz0, ne_rz1, not_true_eq_false, not_false_eq_true, ne_i0, ne_i1, ne_i2, ne_i3, ne_i4, ne_i5, ne_i6, ne_i7, ne_i8, ne_i9, ne_i10, ne_i12, ne_i14, ne_i16, ne_i18, ne_i19, ne_i20, ne_i23, ne_i24, ne_i27, ne_i29, ne_i30, ne_i31, ne_i32, ne_i35, ne_i48, ne_i52, ne_i54, ne_i57, ne_i59, ne_i63, ne_i64, ne_i76, ne_i77, ne_i78, ne_i79, ne_i80, ne_i81, ne_i97, ne_i99, ne_i100, ne_i101, ne_i104, ne_i105, ne_i108, ne_i110, ne_i111, ne_i116, ne_i117, ne_i122, ne_i103, ne_i200, ne_i255, ne_i256, ne_i320, ne_i384, ne_i1000, ne_l0, ne_l1, ne_l2, ne_l3, ne_l4, ne_l5, ne_l8, ne_l12, ne_l31, ne_l48, ne_l57, ne_l97, ne_l99, ne_l122, ne_l255, ne_l673, ne_l1073741823, ne_l1073741824, sF_n n1', lF_1, hu, hq2, lN_i, sF_sI]
      refine ⟨L, _, rfl, hVlt, fun j hj => ?_, fun j hj => ?_⟩
      · by_cases e : j = u
        · subst e
          rw [pk_us]
          unfold dk
          rw [hV, nm_dg_top hVlt]
        · rw [pk_un (by omega)]
          exact g2 j (by omega)
      · rw [pk_un (by omega)]
        exact g3 j (by omega)
  -- summing the rows
  have part2 : ∀ L : Nat → Int64, (∀ k, k < u → L k = lN 0) → ∃ L' g, px_Sum_write_b29 N p q1 q2 N (nI base) (nI 0) (sm_lF X (p + 2) L) = some (sm_sF (sm_lF X (p + 2) L') q2 g) ∧ sx c w 5 < nm_B ^ (u + 1) ∧ (∀ j, j ≤ u → g (base + j) = nI (nm_dg (sx c w 5) j)) ∧ ∀ j, (j < base ∨ base + u < j) → g j = X.1 q2 j := by
    intro L hL
    refine ne_loop (fun f r (L : Nat → Int64) => px_Sum_write_b29 N p q1 q2 f (nI base) (nI r) (sm_lF X (p + 2) L)) (fun r L => ∀ k, k < u → L k = lN (sx c (fun r => nm_dg (w r) k) r)) 5 (fun r => ∃ L g, r = some (sm_sF (sm_lF X (p + 2) L) q2 g) ∧ sx c w 5 < nm_B ^ (u + 1) ∧ (∀ j, j ≤ u → g (base + j) = nI (nm_dg (sx c w 5) j)) ∧ ∀ j, (j < base ∨ base + u < j) → g j = X.1 q2 j) ?_ ?_ N 0 L (by omega) (by omega) hL
    · intro f r L hr5 hI
      left
      show ∃ s', _ ∧ px_Sum_write_b29 N p q1 q2 (f + 1) _ _ _ = px_Sum_write_b29 N p q1 q2 f _ _ _
      rw [px_Sum_write_b29]
      simp (disch := omega) only [sm_lt, sm_b1s, sm_b2s, ↓reduceIte, sm_in_nI, nI_clamp, nI_add, pk_mul, pk_sub, ne_addneg, nI_l, ne_ltT, ne_ltF, ne_leT, ne_leF, ne_eqT, ne_eqF, ne_sI1s, ne_sI1n, ne_sI2, ne_sI3, ne_sL1, ne_sL2s, ne_sL2n, ne_sL3, pk_us, pk_un, pk_uLs, pk_uLn, mm_Z, mm_L, mm_1, mm_2, mm_3, ne_rz0, ne_rz1, not_true_eq_false, not_false_eq_true, ne_i0, ne_i1, ne_i2, ne_i3, ne_i4, ne_i5, ne_i6, ne_i7, ne_i8, ne_i9, ne_i10, ne_i12, ne_i14, ne_i16, ne_i18, ne_i19, ne_i20, ne_i23, ne_i24, ne_i27, ne_i29, ne_i30, ne_i31, ne_i32, ne_i35, ne_i48, ne_i52, ne_i54, ne_i57, ne_i59, ne_i63, ne_i64, ne_i76, ne_i77, ne_i78, ne_i79, ne_i80, ne_i81, ne_i97, ne_i99, ne_i100, ne_i101, ne_i104, ne_i105, ne_i108, ne_i110, ne_i111, ne_i116, ne_i117, ne_i122, ne_i103, ne_i200, ne_i255, ne_i256, ne_i320, ne_i384, ne_i1000, ne_l0, ne_l1, ne_l2, ne_l3, ne_l4, ne_l5, ne_l8, ne_l12, ne_l31, ne_l48, ne_l57, ne_l97, ne_l99, ne_l122, ne_l255, ne_l673, ne_l1073741823, ne_l1073741824, lF_n, hc]
      have hcb := cb r hr5
      by_cases h0 : c r = 0
      · refine ⟨L, fun k hk => by rw [hI k hk, sx, h0]; simp, ?_⟩
        obtain ⟨N', rfl⟩ : ∃ m, N = m + 1 := ⟨N - 1, by omega⟩
        rw [px_Sum_write_b47]
        unfold px_Sum_write_b96
        simp (disch := omega) only [sm_lt, sm_b1s, sm_b2s, ↓reduceIte, sm_in_nI, nI_clamp, nI_add, pk_mul, pk_sub, ne_addneg, nI_l, ne_ltT, ne_ltF, ne_leT, ne_leF, ne_eqT, ne_eqF, ne_sI1s, ne_sI1n, ne_sI2, ne_sI3, ne_sL1, ne_sL2s, ne_sL2n, ne_sL3, pk_us, pk_un, pk_uLs, pk_uLn, mm_Z, mm_L, mm_1, mm_2, mm_3, ne_rz0, ne_rz1, not_true_eq_false, not_false_eq_true, ne_i0, ne_i1, ne_i2, ne_i3, ne_i4, ne_i5, ne_i6, ne_i7, ne_i8, ne_i9, ne_i10, ne_i12, ne_i14, ne_i16, ne_i18, ne_i19, ne_i20, ne_i23, ne_i24, ne_i27, ne_i29, ne_i30, ne_i31, ne_i32, ne_i35, ne_i48, ne_i52, ne_i54, ne_i57, ne_i59, ne_i63, ne_i64, ne_i76, ne_i77, ne_i78, ne_i79, ne_i80, ne_i81, ne_i97, ne_i99, ne_i100, ne_i101, ne_i104, ne_i105, ne_i108, ne_i110, ne_i111, ne_i116, ne_i117, ne_i122, ne_i103, ne_i200, ne_i255, ne_i256, ne_i320, ne_i384, ne_i1000, ne_l0, ne_l1, ne_l2, ne_l3, ne_l4, ne_l5, ne_l8, ne_l12, ne_l31, ne_l48, ne_l57, ne_l97, ne_l99, ne_l122, ne_l255, ne_l673, ne_l1073741823, ne_l1073741824, h0]
      · have hrow := hr r hr5 h0
        refine ne_loop (fun f' k (L : Nat → Int64) => px_Sum_write_b47 N p q1 q2 (px_Sum_write_b29 N p q1 q2 f) f' (nI base) (nI r) (lN (c r)) (nI k) (sm_lF X (p + 2) L)) (fun i L => (∀ k, k < i → L k = lN (sx c (fun r => nm_dg (w r) k) (r + 1))) ∧ ∀ k, i ≤ k → k < u → L k = lN (sx c (fun r => nm_dg (w r) k) r)) u (fun o => ∃ s', (∀ k, k < u → s' k = lN (sx c (fun r => nm_dg (w r) k) (r + 1))) ∧ o = px_Sum_write_b29 N p q1 q2 f (nI base) (nI (r + 1)) (sm_lF X (p + 2) s')) ?_ ?_ N 0 L (by omega) (by omega) ⟨fun k hk => by omega, fun k _ hk => hI k hk⟩
        · rintro f' k L hk ⟨i1, i2⟩
          left
          have d1 := nm_dg_lt (w r) k
          have ed := hrow.2 k hk
          rw [Nat.mul_comm 20] at ed
          refine ⟨vp_updL L k (lN (sx c (fun r => nm_dg (w r) k) (r + 1))), ⟨fun j hj => ?_, fun j hj hj2 => ?_⟩, ?_⟩
          · by_cases e : j = k
            · subst e
              exact pk_uLs
            · rw [pk_uLn e]
              exact i1 j (by omega)
          · rw [pk_uLn (by omega)]
            exact i2 j (by omega) hj2
          · show px_Sum_write_b47 N p q1 q2 _ (f' + 1) _ _ _ _ _ = _
            rw [px_Sum_write_b47]
            have e2 := i2 k (Nat.le_refl _) hk
            have e3 : sx c (fun r => nm_dg (w r) k) r + c r * nm_dg (w r) k = sx c (fun r => nm_dg (w r) k) (r + 1) := rfl
            simp (disch := omega) only [sm_lt, sm_b1s, sm_b2s, ↓reduceIte, sm_in_nI, nI_clamp, nI_add, pk_mul, pk_sub, ne_addneg, nI_l, ne_ltT, ne_ltF, ne_leT, ne_leF, ne_eqT, ne_eqF, ne_sI1s, ne_sI1n, ne_sI2, ne_sI3, ne_sL1, ne_sL2s, ne_sL2n, ne_sL3, pk_us, pk_un, pk_uLs, pk_uLn, mm_Z, mm_L, mm_1, mm_2, mm_3, ne_rz0, ne_rz1, not_true_eq_false, not_false_eq_true, ne_i0, ne_i1, ne_i2, ne_i3, ne_i4, ne_i5, ne_i6, ne_i7, ne_i8, ne_i9, ne_i10, ne_i12, ne_i14, ne_i16, ne_i18, ne_i19, ne_i20, ne_i23, ne_i24, ne_i27, ne_i29, ne_i30, ne_i31, ne_i32, ne_i35, ne_i48, ne_i52, ne_i54, ne_i57, ne_i59, ne_i63, ne_i64, ne_i76, ne_i77, ne_i78, ne_i79, ne_i80, ne_i81, ne_i97, ne_i99, ne_i100, ne_i101, ne_i104, ne_i105, ne_i108, ne_i110, ne_i111, ne_i116, ne_i117, ne_i122, ne_i103, ne_i200, ne_i255, ne_i256, ne_i320, ne_i384, ne_i1000, ne_l0, ne_l1, ne_l2, ne_l3, ne_l4, ne_l5, ne_l8, ne_l12, ne_l31, ne_l48, ne_l57, ne_l97, ne_l99, ne_l122, ne_l255, ne_l673, ne_l1073741823, ne_l1073741824, ne_LeqF, lF_1, hu, ed, lF_s, e2, lN_mul, lN_add, lF_sL, e3]
        · rintro f' L ⟨i1, i2⟩
          show ∃ s', _ ∧ px_Sum_write_b47 N p q1 q2 _ (f' + 1) _ _ _ _ _ = _
          refine ⟨L, i1, ?_⟩
          rw [px_Sum_write_b47]
          unfold px_Sum_write_b96
          simp (disch := omega) only [sm_lt, sm_b1s, sm_b2s, ↓reduceIte, sm_in_nI, nI_clamp, nI_add, pk_mul, pk_sub, ne_addneg, nI_l, ne_ltT, ne_ltF, ne_leT, ne_leF, ne_eqT, ne_eqF, ne_sI1s, ne_sI1n, ne_sI2, ne_sI3, ne_sL1, ne_sL2s, ne_sL2n, ne_sL3, pk_us, pk_un, pk_uLs, pk_uLn, mm_Z, mm_L, mm_1, mm_2, mm_3, ne_rz0, ne_rz1, not_true_eq_false, not_false_eq_true, ne_i0, ne_i1, ne_i2, ne_i3, ne_i4, ne_i5, ne_i6, ne_i7, ne_i8, ne_i9, ne_i10, ne_i12, ne_i14, ne_i16, ne_i18, ne_i19, ne_i20, ne_i23, ne_i24, ne_i27, ne_i29, ne_i30, ne_i31, ne_i32, ne_i35, ne_i48, ne_i52, ne_i54, ne_i57, ne_i59, ne_i63, ne_i64, ne_i76, ne_i77, ne_i78, ne_i79, ne_i80, ne_i81, ne_i97, ne_i99, ne_i100, ne_i101, ne_i104, ne_i105, ne_i108, ne_i110, ne_i111, ne_i116, ne_i117, ne_i122, ne_i103, ne_i200, ne_i255, ne_i256, ne_i320, ne_i384, ne_i1000, ne_l0, ne_l1, ne_l2, ne_l3, ne_l4, ne_l5, ne_l8, ne_l12, ne_l31, ne_l48, ne_l57, ne_l97, ne_l99, ne_l122, ne_l255, ne_l673, ne_l1073741823, ne_l1073741824, ne_LeqF, lF_1, hu]
    · intro f L hI
      show ∃ L' g, px_Sum_write_b29 N p q1 q2 (f + 1) _ _ _ = _ ∧ _
      rw [px_Sum_write_b29]
      simp (disch := omega) only [sm_lt, sm_b1s, sm_b2s, ↓reduceIte, sm_in_nI, nI_clamp, nI_add, pk_mul, pk_sub, ne_addneg, nI_l, ne_ltT, ne_ltF, ne_leT, ne_leF, ne_eqT, ne_eqF, ne_sI1s, ne_sI1n, ne_sI2, ne_sI3, ne_sL1, ne_sL2s, ne_sL2n, ne_sL3, pk_us, pk_un, pk_uLs, pk_uLn, mm_Z, mm_L, mm_1, mm_2, mm_3, ne_rz0, ne_rz1, not_true_eq_false, not_false_eq_true, ne_i0, ne_i1, ne_i2, ne_i3, ne_i4, ne_i5, ne_i6, ne_i7, ne_i8, ne_i9, ne_i10, ne_i12, ne_i14, ne_i16, ne_i18, ne_i19, ne_i20, ne_i23, ne_i24, ne_i27, ne_i29, ne_i30, ne_i31, ne_i32, ne_i35, ne_i48, ne_i52, ne_i54, ne_i57, ne_i59, ne_i63, ne_i64, ne_i76, ne_i77, ne_i78, ne_i79, ne_i80, ne_i81, ne_i97, ne_i99, ne_i100, ne_i101, ne_i104, ne_i105, ne_i108, ne_i110, ne_i111, ne_i116, ne_i117, ne_i122, ne_i103, ne_i200, ne_i255, ne_i256, ne_i320, ne_i384, ne_i1000, ne_l0, ne_l1, ne_l2, ne_l3, ne_l4, ne_l5, ne_l8, ne_l12, ne_l31, ne_l48, ne_l57, ne_l97, ne_l99, ne_l122, ne_l255, ne_l673, ne_l1073741823, ne_l1073741824]
      exact part3 L hI
  unfold px_Sum_write
  simp (disch := omega) only [sm_lt, sm_b1s, sm_b2s, ↓reduceIte, sm_in_nI, nI_clamp, nI_add, pk_mul, pk_sub, ne_addneg, nI_l, ne_ltT, ne_ltF, ne_leT, ne_leF, ne_eqT, ne_eqF, ne_sI1s, ne_sI1n, ne_sI2, ne_sI3, ne_sL1, ne_sL2s, ne_sL2n, ne_sL3, pk_us, pk_un, pk_uLs, pk_uLn, mm_Z, mm_L, mm_1, mm_2, mm_3, ne_rz0, ne_rz1, not_true_eq_false, not_false_eq_true, ne_i0, ne_i1, ne_i2, ne_i3, ne_i4, ne_i5, ne_i6, ne_i7, ne_i8, ne_i9, ne_i10, ne_i12, ne_i14, ne_i16, ne_i18, ne_i19, ne_i20, ne_i23, ne_i24, ne_i27, ne_i29, ne_i30, ne_i31, ne_i32, ne_i35, ne_i48, ne_i52, ne_i54, ne_i57, ne_i59, ne_i63, ne_i64, ne_i76, ne_i77, ne_i78, ne_i79, ne_i80, ne_i81, ne_i97, ne_i99, ne_i100, ne_i101, ne_i104, ne_i105, ne_i108, ne_i110, ne_i111, ne_i116, ne_i117, ne_i122, ne_i103, ne_i200, ne_i255, ne_i256, ne_i320, ne_i384, ne_i1000, ne_l0, ne_l1, ne_l2, ne_l3, ne_l4, ne_l5, ne_l8, ne_l12, ne_l31, ne_l48, ne_l57, ne_l97, ne_l99, ne_l122, ne_l255, ne_l673, ne_l1073741823, ne_l1073741824]
  have q := ne_loop (fun f i (L : Nat → Int64) => px_Sum_write_b3 N p q1 q2 f (nI base) (nI i) (sm_lF X (p + 2) L)) (fun i L => ∀ k, k < i → L k = lN 0) u (fun r => ∃ L g, r = some (sm_sF (sm_lF X (p + 2) L) q2 g) ∧ sx c w 5 < nm_B ^ (u + 1) ∧ (∀ j, j ≤ u → g (base + j) = nI (nm_dg (sx c w 5) j)) ∧ ∀ j, (j < base ∨ base + u < j) → g j = X.1 q2 j) ?_ ?_ N 0 (X.2.1 (p + 2)) (by omega) (by omega) (fun r hr => by omega)
  · simp only [lF_self] at q
    exact q
  · intro f i L hi hI
    left
    refine ⟨vp_updL L i (lN 0), fun r hr => ?_, ?_⟩
    · by_cases e : r = i
      · subst e
        exact pk_uLs
      · rw [pk_uLn e]
        exact hI r (by omega)
    · show px_Sum_write_b3 N p q1 q2 (f + 1) _ _ _ = _
      rw [px_Sum_write_b3]
      simp (disch := omega) only [sm_lt, sm_b1s, sm_b2s, ↓reduceIte, sm_in_nI, nI_clamp, nI_add, pk_mul, pk_sub, ne_addneg, nI_l, ne_ltT, ne_ltF, ne_leT, ne_leF, ne_eqT, ne_eqF, ne_sI1s, ne_sI1n, ne_sI2, ne_sI3, ne_sL1, ne_sL2s, ne_sL2n, ne_sL3, pk_us, pk_un, pk_uLs, pk_uLn, mm_Z, mm_L, mm_1, mm_2, mm_3, ne_rz0, ne_rz1, not_true_eq_false, not_false_eq_true, ne_i0, ne_i1, ne_i2, ne_i3, ne_i4, ne_i5, ne_i6, ne_i7, ne_i8, ne_i9, ne_i10, ne_i12, ne_i14, ne_i16, ne_i18, ne_i19, ne_i20, ne_i23, ne_i24, ne_i27, ne_i29, ne_i30, ne_i31, ne_i32, ne_i35, ne_i48, ne_i52, ne_i54, ne_i57, ne_i59, ne_i63, ne_i64, ne_i76, ne_i77, ne_i78, ne_i79, ne_i80, ne_i81, ne_i97, ne_i99, ne_i100, ne_i101, ne_i104, ne_i105, ne_i108, ne_i110, ne_i111, ne_i116, ne_i117, ne_i122, ne_i103, ne_i200, ne_i255, ne_i256, ne_i320, ne_i384, ne_i1000, ne_l0, ne_l1, ne_l2, ne_l3, ne_l4, ne_l5, ne_l8, ne_l12, ne_l31, ne_l48, ne_l57, ne_l97, ne_l99, ne_l122, ne_l255, ne_l673, ne_l1073741823, ne_l1073741824, lF_1, hu, lF_sL]
  · intro f L hI
    show ∃ L' g, px_Sum_write_b3 N p q1 q2 (f + 1) _ _ _ = _ ∧ _
    rw [px_Sum_write_b3]
    simp (disch := omega) only [sm_lt, sm_b1s, sm_b2s, ↓reduceIte, sm_in_nI, nI_clamp, nI_add, pk_mul, pk_sub, ne_addneg, nI_l, ne_ltT, ne_ltF, ne_leT, ne_leF, ne_eqT, ne_eqF, ne_sI1s, ne_sI1n, ne_sI2, ne_sI3, ne_sL1, ne_sL2s, ne_sL2n, ne_sL3, pk_us, pk_un, pk_uLs, pk_uLn, mm_Z, mm_L, mm_1, mm_2, mm_3, ne_rz0, ne_rz1, not_true_eq_false, not_false_eq_true, ne_i0, ne_i1, ne_i2, ne_i3, ne_i4, ne_i5, ne_i6, ne_i7, ne_i8, ne_i9, ne_i10, ne_i12, ne_i14, ne_i16, ne_i18, ne_i19, ne_i20, ne_i23, ne_i24, ne_i27, ne_i29, ne_i30, ne_i31, ne_i32, ne_i35, ne_i48, ne_i52, ne_i54, ne_i57, ne_i59, ne_i63, ne_i64, ne_i76, ne_i77, ne_i78, ne_i79, ne_i80, ne_i81, ne_i97, ne_i99, ne_i100, ne_i101, ne_i104, ne_i105, ne_i108, ne_i110, ne_i111, ne_i116, ne_i117, ne_i122, ne_i103, ne_i200, ne_i255, ne_i256, ne_i320, ne_i384, ne_i1000, ne_l0, ne_l1, ne_l2, ne_l3, ne_l4, ne_l5, ne_l8, ne_l12, ne_l31, ne_l48, ne_l57, ne_l97, ne_l99, ne_l122, ne_l255, ne_l673, ne_l1073741823, ne_l1073741824, lF_1, hu]
    exact part2 L hI
theorem xq_settle {X : sm_St} {N q u v : Nat} (hu1 : 0 < u) (hu2 : u ≤ 19) (hv : 12 * v < nm_B ^ (u + 1)) (hs : v < 2 ^ 540) (h : ∀ j, j ≤ u → X.1 (q + 1) (80 + j) = nI (nm_dg v j)) : ∃ u', px_Shades_settle N X q (nI u) = some (sm_sI X q 1 (nI u')) ∧ 0 < u' ∧ u' ≤ 19 ∧ u' ≤ u + 1 ∧ 12 * v < nm_B ^ u' := by
  obtain ⟨m, rfl⟩ : ∃ m, u = m + 1 := ⟨u - 1, by omega⟩
  have h0 := h m (by omega)
  have h1 := h (m + 1) (by omega)
  have d0 := nm_dg_lt v m
  have d1 := nm_dg_lt v (m + 1)
  have ei : 80 + (m + 1) - 1 = 80 + m := by omega
  have vlt : v < nm_B ^ (m + 1 + 1) := by omega
  have big : ∀ j, 18 ≤ j → nm_dg v j = 0 := fun j hj => nm_dg_hi (n := 18) (Nat.lt_of_lt_of_le hs (by rw [nm_B2]; exact Nat.le_refl _)) hj
  unfold px_Shades_settle px_Shades_settle_b39 px_Shades_settle_b44 px_Shades_settle_b66 px_Shades_settle_b67
  by_cases hz : nm_dg v (m + 1) = 0 ∧ (nm_dg v m + 1) * 12 ≤ 1073741824
  · refine ⟨m + 1, ?_, by omega, by omega, by omega, ?_⟩
    · obtain ⟨z1, z2⟩ := hz
      rw [z1] at h1
      simp (disch := omega) only [sm_lt, sm_b1s, sm_b2s, ↓reduceIte, sm_in_nI, nI_clamp, nI_add, pk_mul, pk_sub, ne_addneg, nI_l, ne_ltT, ne_ltF, ne_leT, ne_leF, ne_eqT, ne_eqF, ne_sI1s, ne_sI1n, ne_sI2, ne_sI3, ne_sL1, ne_sL2s, ne_sL2n, ne_sL3, pk_us, pk_un, pk_uLs, pk_uLn, mm_Z, mm_L, mm_1, mm_2, mm_3, ne_rz0, ne_rz1, not_true_eq_false, not_false_eq_true, ne_i0, ne_i1, ne_i2, ne_i3, ne_i4, ne_i5, ne_i6, ne_i7, ne_i8, ne_i9, ne_i10, ne_i12, ne_i14, ne_i16, ne_i18, ne_i19, ne_i20, ne_i23, ne_i24, ne_i27, ne_i29, ne_i30, ne_i31, ne_i32, ne_i35, ne_i48, ne_i52, ne_i54, ne_i57, ne_i59, ne_i63, ne_i64, ne_i76, ne_i77, ne_i78, ne_i79, ne_i80, ne_i81, ne_i97, ne_i99, ne_i100, ne_i101, ne_i104, ne_i105, ne_i108, ne_i110, ne_i111, ne_i116, ne_i117, ne_i122, ne_i103, ne_i200, ne_i255, ne_i256, ne_i320, ne_i384, ne_i1000, ne_l0, ne_l1, ne_l2, ne_l3, ne_l4, ne_l5, ne_l8, ne_l12, ne_l31, ne_l48, ne_l57, ne_l97, ne_l99, ne_l122, ne_l255, ne_l673, ne_l1073741823, ne_l1073741824, ei, h0, h1, lN_add, lN_mul, ne_LleT]
    · have h2 := nm_top0 vlt hz.1
      have h3 := nm_dg_top h2
      have h4 := Nat.div_add_mod v (nm_B ^ m)
      have h5 := Nat.mod_lt v (nm_Bp m)
      rw [← h3] at h4
      have h6 : v < nm_B ^ m * (nm_dg v m + 1) := by rw [Nat.mul_add]; omega
      calc 12 * v < 12 * (nm_B ^ m * (nm_dg v m + 1)) := by omega
        _ = nm_B ^ m * ((nm_dg v m + 1) * 12) := by rw [Nat.mul_left_comm, Nat.mul_comm 12]
        _ ≤ nm_B ^ m * 1073741824 := Nat.mul_le_mul_left _ hz.2
        _ = nm_B ^ (m + 1) := by rw [Nat.pow_succ]
  · have hm : m + 1 < 19 := by
      rcases Nat.lt_or_ge (m + 1) 19 with q | q
      · exact q
      · exfalso
        apply hz
        obtain rfl : m = 18 := by omega
        rw [big 18 (by omega), big (18 + 1) (by omega)]
        exact ⟨rfl, by decide⟩
    refine ⟨m + 1 + 1, ?_, by omega, by omega, by omega, hv⟩
    by_cases z1 : nm_dg v (m + 1) = 0
    · have z2 : 1073741824 < (nm_dg v m + 1) * 12 := by
        rcases Nat.lt_or_ge 1073741824 ((nm_dg v m + 1) * 12) with q | q
        · exact q
        · exact absurd ⟨z1, q⟩ hz
      rw [z1] at h1
      simp (disch := omega) only [sm_lt, sm_b1s, sm_b2s, ↓reduceIte, sm_in_nI, nI_clamp, nI_add, pk_mul, pk_sub, ne_addneg, nI_l, ne_ltT, ne_ltF, ne_leT, ne_leF, ne_eqT, ne_eqF, ne_sI1s, ne_sI1n, ne_sI2, ne_sI3, ne_sL1, ne_sL2s, ne_sL2n, ne_sL3, pk_us, pk_un, pk_uLs, pk_uLn, mm_Z, mm_L, mm_1, mm_2, mm_3, ne_rz0, ne_rz1, not_true_eq_false, not_false_eq_true, ne_i0, ne_i1, ne_i2, ne_i3, ne_i4, ne_i5, ne_i6, ne_i7, ne_i8, ne_i9, ne_i10, ne_i12, ne_i14, ne_i16, ne_i18, ne_i19, ne_i20, ne_i23, ne_i24, ne_i27, ne_i29, ne_i30, ne_i31, ne_i32, ne_i35, ne_i48, ne_i52, ne_i54, ne_i57, ne_i59, ne_i63, ne_i64, ne_i76, ne_i77, ne_i78, ne_i79, ne_i80, ne_i81, ne_i97, ne_i99, ne_i100, ne_i101, ne_i104, ne_i105, ne_i108, ne_i110, ne_i111, ne_i116, ne_i117, ne_i122, ne_i103, ne_i200, ne_i255, ne_i256, ne_i320, ne_i384, ne_i1000, ne_l0, ne_l1, ne_l2, ne_l3, ne_l4, ne_l5, ne_l8, ne_l12, ne_l31, ne_l48, ne_l57, ne_l97, ne_l99, ne_l122, ne_l255, ne_l673, ne_l1073741823, ne_l1073741824, ei, h0, h1, lN_add, lN_mul, ne_LleF]
    · simp (disch := omega) only [sm_lt, sm_b1s, sm_b2s, ↓reduceIte, sm_in_nI, nI_clamp, nI_add, pk_mul, pk_sub, ne_addneg, nI_l, ne_ltT, ne_ltF, ne_leT, ne_leF, ne_eqT, ne_eqF, ne_sI1s, ne_sI1n, ne_sI2, ne_sI3, ne_sL1, ne_sL2s, ne_sL2n, ne_sL3, pk_us, pk_un, pk_uLs, pk_uLn, mm_Z, mm_L, mm_1, mm_2, mm_3, ne_rz0, ne_rz1, not_true_eq_false, not_false_eq_true, ne_i0, ne_i1, ne_i2, ne_i3, ne_i4, ne_i5, ne_i6, ne_i7, ne_i8, ne_i9, ne_i10, ne_i12, ne_i14, ne_i16, ne_i18, ne_i19, ne_i20, ne_i23, ne_i24, ne_i27, ne_i29, ne_i30, ne_i31, ne_i32, ne_i35, ne_i48, ne_i52, ne_i54, ne_i57, ne_i59, ne_i63, ne_i64, ne_i76, ne_i77, ne_i78, ne_i79, ne_i80, ne_i81, ne_i97, ne_i99, ne_i100, ne_i101, ne_i104, ne_i105, ne_i108, ne_i110, ne_i111, ne_i116, ne_i117, ne_i122, ne_i103, ne_i200, ne_i255, ne_i256, ne_i320, ne_i384, ne_i1000, ne_l0, ne_l1, ne_l2, ne_l3, ne_l4, ne_l5, ne_l8, ne_l12, ne_l31, ne_l48, ne_l57, ne_l97, ne_l99, ne_l122, ne_l255, ne_l673, ne_l1073741823, ne_l1073741824, ei, h0, h1, lN_add, lN_mul]
/-- Shades at q hold w for k cloths -/
def xsh (X : sm_St) (q k : Nat) (w : Nat → Nat) : Prop := ∃ u, X.1 q 1 = nI u ∧ 0 < u ∧ u ≤ 19 ∧ 12 * w 4 < nm_B ^ u ∧ ∀ r, (r < k ∨ r = 4) → xr (X.1 (q + 1)) r u (w r)
theorem xsh_fr {X X' : sm_St} {q k : Nat} {w : Nat → Nat} (h1 : X'.1 q = X.1 q) (h2 : X'.1 (q + 1) = X.1 (q + 1)) (h : xsh X q k w) : xsh X' q k w := by
  unfold xsh
  rw [h1, h2]
  exact h
theorem xsh_compare {X : sm_St} {N q row other t k : Nat} {w : Nat → Nat} (hN : 4000 ≤ N) (h : xsh X q k w) (hk : k ≤ 4) (hr : row < k ∨ row = 4) (ho : other < k ∨ other = 4) (ht : t ≤ 12) : px_Shades_compare N X q (nI row) (nI other) (nI t) = some (nm_cmp (w row) (w other * t), X) := by
  obtain ⟨u, h1, h2, h3, h4, h5⟩ := h
  exact xq_compare hN h1 (by omega) (by omega) (by omega) ht (h5 row hr) (h5 other ho)
theorem xsh_least {X : sm_St} {N q row t k : Nat} {w : Nat → Nat} (hN : 4000 ≤ N) (h : xsh X q k w) (hk : k ≤ 4) (hr : row < k) (ht : t ≤ 12) : px_Shades_hasAtLeast N X q (nI row) (nI t) = some (if w 4 * t ≤ w row then nI 1 else nI 0, X) := by
  have e := xsh_compare hN h hk (Or.inl hr) (Or.inr rfl) ht
  unfold px_Shades_hasAtLeast
  by_cases q : w 4 * t ≤ w row
  · have q' : ¬ w row < w 4 * t := by omega
    simp (disch := omega) only [sm_lt, sm_b1s, sm_b2s, ↓reduceIte, sm_in_nI, nI_clamp, nI_add, pk_mul, pk_sub, ne_addneg, nI_l, ne_ltT, ne_ltF, ne_leT, ne_leF, ne_eqT, ne_eqF, ne_sI1s, ne_sI1n, ne_sI2, ne_sI3, ne_sL1, ne_sL2s, ne_sL2n, ne_sL3, pk_us, pk_un, pk_uLs, pk_uLn, mm_Z, mm_L, mm_1, mm_2, mm_3, ne_rz0, ne_rz1, not_true_eq_false, not_false_eq_true, ne_i0, ne_i1, ne_i2, ne_i3, ne_i4, ne_i5, ne_i6, ne_i7, ne_i8, ne_i9, ne_i10, ne_i12, ne_i14, ne_i16, ne_i18, ne_i19, ne_i20, ne_i23, ne_i24, ne_i27, ne_i29, ne_i30, ne_i31, ne_i32, ne_i35, ne_i48, ne_i52, ne_i54, ne_i57, ne_i59, ne_i63, ne_i64, ne_i76, ne_i77, ne_i78, ne_i79, ne_i80, ne_i81, ne_i97, ne_i99, ne_i100, ne_i101, ne_i104, ne_i105, ne_i108, ne_i110, ne_i111, ne_i116, ne_i117, ne_i122, ne_i103, ne_i200, ne_i255, ne_i256, ne_i320, ne_i384, ne_i1000, ne_l0, ne_l1, ne_l2, ne_l3, ne_l4, ne_l5, ne_l8, ne_l12, ne_l31, ne_l48, ne_l57, ne_l97, ne_l99, ne_l122, ne_l255, ne_l673, ne_l1073741823, ne_l1073741824, e, ne_cmp_lt, q, q']
  · have q' : w row < w 4 * t := by omega
    simp (disch := omega) only [sm_lt, sm_b1s, sm_b2s, ↓reduceIte, sm_in_nI, nI_clamp, nI_add, pk_mul, pk_sub, ne_addneg, nI_l, ne_ltT, ne_ltF, ne_leT, ne_leF, ne_eqT, ne_eqF, ne_sI1s, ne_sI1n, ne_sI2, ne_sI3, ne_sL1, ne_sL2s, ne_sL2n, ne_sL3, pk_us, pk_un, pk_uLs, pk_uLn, mm_Z, mm_L, mm_1, mm_2, mm_3, ne_rz0, ne_rz1, not_true_eq_false, not_false_eq_true, ne_i0, ne_i1, ne_i2, ne_i3, ne_i4, ne_i5, ne_i6, ne_i7, ne_i8, ne_i9, ne_i10, ne_i12, ne_i14, ne_i16, ne_i18, ne_i19, ne_i20, ne_i23, ne_i24, ne_i27, ne_i29, ne_i30, ne_i31, ne_i32, ne_i35, ne_i48, ne_i52, ne_i54, ne_i57, ne_i59, ne_i63, ne_i64, ne_i76, ne_i77, ne_i78, ne_i79, ne_i80, ne_i81, ne_i97, ne_i99, ne_i100, ne_i101, ne_i104, ne_i105, ne_i108, ne_i110, ne_i111, ne_i116, ne_i117, ne_i122, ne_i103, ne_i200, ne_i255, ne_i256, ne_i320, ne_i384, ne_i1000, ne_l0, ne_l1, ne_l2, ne_l3, ne_l4, ne_l5, ne_l8, ne_l12, ne_l31, ne_l48, ne_l57, ne_l97, ne_l99, ne_l122, ne_l255, ne_l673, ne_l1073741823, ne_l1073741824, e, ne_cmp_lt, q, q']
theorem xsh_most {X : sm_St} {N q row t k : Nat} {w : Nat → Nat} (hN : 4000 ≤ N) (h : xsh X q k w) (hk : k ≤ 4) (hr : row < k) (ht : t ≤ 12) : px_Shades_hasAtMost N X q (nI row) (nI t) = some (if w row ≤ w 4 * t then nI 1 else nI 0, X) := by
  have e := xsh_compare hN h hk (Or.inl hr) (Or.inr rfl) ht
  unfold px_Shades_hasAtMost
  by_cases q : w row ≤ w 4 * t
  · have q' : ¬ w 4 * t < w row := by omega
    simp (disch := omega) only [sm_lt, sm_b1s, sm_b2s, ↓reduceIte, sm_in_nI, nI_clamp, nI_add, pk_mul, pk_sub, ne_addneg, nI_l, ne_ltT, ne_ltF, ne_leT, ne_leF, ne_eqT, ne_eqF, ne_sI1s, ne_sI1n, ne_sI2, ne_sI3, ne_sL1, ne_sL2s, ne_sL2n, ne_sL3, pk_us, pk_un, pk_uLs, pk_uLn, mm_Z, mm_L, mm_1, mm_2, mm_3, ne_rz0, ne_rz1, not_true_eq_false, not_false_eq_true, ne_i0, ne_i1, ne_i2, ne_i3, ne_i4, ne_i5, ne_i6, ne_i7, ne_i8, ne_i9, ne_i10, ne_i12, ne_i14, ne_i16, ne_i18, ne_i19, ne_i20, ne_i23, ne_i24, ne_i27, ne_i29, ne_i30, ne_i31, ne_i32, ne_i35, ne_i48, ne_i52, ne_i54, ne_i57, ne_i59, ne_i63, ne_i64, ne_i76, ne_i77, ne_i78, ne_i79, ne_i80, ne_i81, ne_i97, ne_i99, ne_i100, ne_i101, ne_i104, ne_i105, ne_i108, ne_i110, ne_i111, ne_i116, ne_i117, ne_i122, ne_i103, ne_i200, ne_i255, ne_i256, ne_i320, ne_i384, ne_i1000, ne_l0, ne_l1, ne_l2, ne_l3, ne_l4, ne_l5, ne_l8, ne_l12, ne_l31, ne_l48, ne_l57, ne_l97, ne_l99, ne_l122, ne_l255, ne_l673, ne_l1073741823, ne_l1073741824, e, ne_cmp_gt, q, q']
  · have q' : w 4 * t < w row := by omega
    simp (disch := omega) only [sm_lt, sm_b1s, sm_b2s, ↓reduceIte, sm_in_nI, nI_clamp, nI_add, pk_mul, pk_sub, ne_addneg, nI_l, ne_ltT, ne_ltF, ne_leT, ne_leF, ne_eqT, ne_eqF, ne_sI1s, ne_sI1n, ne_sI2, ne_sI3, ne_sL1, ne_sL2s, ne_sL2n, ne_sL3, pk_us, pk_un, pk_uLs, pk_uLn, mm_Z, mm_L, mm_1, mm_2, mm_3, ne_rz0, ne_rz1, not_true_eq_false, not_false_eq_true, ne_i0, ne_i1, ne_i2, ne_i3, ne_i4, ne_i5, ne_i6, ne_i7, ne_i8, ne_i9, ne_i10, ne_i12, ne_i14, ne_i16, ne_i18, ne_i19, ne_i20, ne_i23, ne_i24, ne_i27, ne_i29, ne_i30, ne_i31, ne_i32, ne_i35, ne_i48, ne_i52, ne_i54, ne_i57, ne_i59, ne_i63, ne_i64, ne_i76, ne_i77, ne_i78, ne_i79, ne_i80, ne_i81, ne_i97, ne_i99, ne_i100, ne_i101, ne_i104, ne_i105, ne_i108, ne_i110, ne_i111, ne_i116, ne_i117, ne_i122, ne_i103, ne_i200, ne_i255, ne_i256, ne_i320, ne_i384, ne_i1000, ne_l0, ne_l1, ne_l2, ne_l3, ne_l4, ne_l5, ne_l8, ne_l12, ne_l31, ne_l48, ne_l57, ne_l97, ne_l99, ne_l122, ne_l255, ne_l673, ne_l1073741823, ne_l1073741824, e, ne_cmp_gt, q, q']
/-- copies: what may stand elsewhere is free -/
theorem xsh_copyFrom {X : sm_St} {N p q k : Nat} {w : Nat → Nat} (h : xsh X q k w) (hk : k ≤ 4) (hp : p ≠ q) (hp1 : p + 1 ≠ q) : ∃ X', px_Shades_copyFrom N X p q = some X' ∧ xsh X' p k w ∧ (∀ r, r ≠ p → r ≠ p + 1 → X'.1 r = X.1 r) ∧ X'.2 = X.2 := by
  obtain ⟨u, h1, h2, h3, h4, h5⟩ := h
  have hp' : q ≠ p + 1 := fun e => hp1 e.symm
  unfold px_Shades_copyFrom
  rw [if_pos (by decide)]
  simp (disch := omega) only [sm_lt, sm_b1s, sm_b2s, ↓reduceIte, sm_in_nI, nI_clamp, nI_add, pk_mul, pk_sub, ne_addneg, nI_l, ne_ltT, ne_ltF, ne_leT, ne_leF, ne_eqT, ne_eqF, ne_sI1s, ne_sI1n, ne_sI2, ne_sI3, ne_sL1, ne_sL2s, ne_sL2n, ne_sL3, pk_us, pk_un, pk_uLs, pk_uLn, mm_Z, mm_L, mm_1, mm_2, mm_3, ne_rz0, ne_rz1, not_true_eq_false, not_false_eq_true, ne_i0, ne_i1, ne_i2, ne_i3, ne_i4, ne_i5, ne_i6, ne_i7, ne_i8, ne_i9, ne_i10, ne_i12, ne_i14, ne_i16, ne_i18, ne_i19, ne_i20, ne_i23, ne_i24, ne_i27, ne_i29, ne_i30, ne_i31, ne_i32, ne_i35, ne_i48, ne_i52, ne_i54, ne_i57, ne_i59, ne_i63, ne_i64, ne_i76, ne_i77, ne_i78, ne_i79, ne_i80, ne_i81, ne_i97, ne_i99, ne_i100, ne_i101, ne_i104, ne_i105, ne_i108, ne_i110, ne_i111, ne_i116, ne_i117, ne_i122, ne_i103, ne_i200, ne_i255, ne_i256, ne_i320, ne_i384, ne_i1000, ne_l0, ne_l1, ne_l2, ne_l3, ne_l4, ne_l5, ne_l8, ne_l12, ne_l31, ne_l48, ne_l57, ne_l97, ne_l99, ne_l122, ne_l255, ne_l673, ne_l1073741823, ne_l1073741824, sF_n hp', h1]
  refine ⟨_, rfl, ⟨u, by rw [ne_sI1s, pk_us], h2, h3, h4, fun r hr => ⟨(h5 r hr).1, fun j hj => ?_⟩⟩, fun r hr hr1 => ?_, rfl⟩
  · rw [ne_sI1n (show p + 1 ≠ p by omega), sF_s, pk_cpy_in (by omega) (by omega)]
    simp only [Nat.zero_add, Nat.sub_zero]
    exact (h5 r hr).2 j hj
  · rw [ne_sI1n hr, sF_n hr1]
