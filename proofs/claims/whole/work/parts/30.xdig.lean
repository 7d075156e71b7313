/-! rows of digits, all of one length -/
theorem nm_mask (z : Int) : Int64.ofInt z &&& 1073741823 = Int64.ofInt (z % 1073741824) := by
  apply Int64.toBitVec_inj.mp
  apply BitVec.eq_of_toNat_eq
  show (BitVec.ofInt 64 z &&& 1073741823#64).toNat = (BitVec.ofInt 64 (z % 1073741824)).toNat
  rw [BitVec.toNat_and, BitVec.toNat_ofInt, BitVec.toNat_ofInt, show (1073741823#64).toNat = 2 ^ 30 - 1 from rfl, Nat.and_two_pow_sub_one_eq_mod]
  omega
theorem nm_s30 : (30 : Int32).toInt64 &&& 63 = lN 30 := by decide
theorem nm_sh30 {z : Int} (h1 : -4611686018427387904 ≤ z) (h2 : z < 4611686018427387904) : Int64.ofInt z >>> ((30 : Int32).toInt64 &&& 63) = Int64.ofInt (z / 1073741824) := by
  rw [nm_s30]
  apply Int64.toInt_inj.mp
  have e : (Int64.ofInt z >>> lN 30).toInt = (Int64.ofInt z).toInt >>> 30 := by
    show ((Int64.ofInt z).toBitVec.sshiftRight ((lN 30).toBitVec.smod 64).toNat).toInt = _
    rw [nm_sm 30 (by decide), BitVec.toInt_sshiftRight]
    rfl
  rw [e, Int64.toInt_ofInt_of_le (by omega) (by omega), Int64.toInt_ofInt_of_le (by omega) (by omega), Int.shiftRight_eq_div_pow]
  rfl
theorem nm_maskN (x : Nat) : lN x &&& 1073741823 = lN (x % 1073741824) := by
  rw [nm_lI, nm_mask, nm_lI]
  congr 1
theorem nm_sh30N {x : Nat} (h : x < 4611686018427387904) : lN x >>> ((30 : Int32).toInt64 &&& 63) = lN (x / 1073741824) := by
  rw [nm_lI, nm_sh30 (by omega) (by omega), nm_lI]
  congr 1
def xr (g : Nat → Int32) (r u v : Nat) : Prop := v < nm_B ^ u ∧ ∀ k, k < u → g (20 * r + k) = nI (nm_dg v k)
/-- a digit of a row as a long -/
theorem xr_l {g : Nat → Int32} {r u v k : Nat} (h : xr g r u v) (hk : k < u) : (g (20 * r + k)).toInt64 = lN (nm_dg v k) := by
  rw [h.2 k hk]
  have := nm_dg_lt v k
  exact nI_l (by omega)
/-- sums of digits that may be too large or below 0, from the lowest: di so far, dc what is carried -/
def di (y : Nat → Int) : Nat → Int
  | 0 => 0
  | k + 1 => di y k + ((nm_B ^ k : Nat) : Int) * y k
def dc (y : Nat → Int) (k : Nat) : Int := di y k / ((nm_B ^ k : Nat) : Int)
theorem dc_0 (y : Nat → Int) : dc y 0 = 0 := by
  unfold dc di
  simp
theorem di_P (k : Nat) : (0 : Int) < ((nm_B ^ k : Nat) : Int) := by have := nm_Bp k; omega
theorem dc_succ (y : Nat → Int) (k : Nat) : dc y (k + 1) = (dc y k + y k) / 1073741824 := by
  have hp := di_P k
  unfold dc
  rw [di, Nat.pow_succ, Int.natCast_mul, ← Int.ediv_ediv_of_nonneg (by omega), Int.add_mul_ediv_left _ _ (by omega)]
  rfl
theorem dz_succ (y : Nat → Int) (k : Nat) : di y (k + 1) % ((nm_B ^ (k + 1) : Nat) : Int) = 0 ↔ di y k % ((nm_B ^ k : Nat) : Int) = 0 ∧ (dc y k + y k) % 1073741824 = 0 := by
  have hp := di_P k
  have e1 := Int.emod_add_mul_ediv (di y k) ((nm_B ^ k : Nat) : Int)
  have b1 := Int.emod_nonneg (di y k) (show ((nm_B ^ k : Nat) : Int) ≠ 0 by omega)
  have b2 := Int.emod_lt_of_pos (di y k) hp
  have eP : ((nm_B ^ (k + 1) : Nat) : Int) = ((nm_B ^ k : Nat) : Int) * 1073741824 := by rw [Nat.pow_succ, Int.natCast_mul]; rfl
  unfold dc
  rw [di]
  generalize ((nm_B ^ k : Nat) : Int) = P at *
  generalize di y k / P = c at *
  generalize di y k % P = r at *
  rw [← e1, Int.add_assoc, ← Int.mul_add, eP]
  have e3 := Int.emod_add_mul_ediv (c + y k) 1073741824
  have b3 := Int.emod_nonneg (c + y k) (show (1073741824 : Int) ≠ 0 by decide)
  have b4 := Int.emod_lt_of_pos (c + y k) (show (0 : Int) < 1073741824 by decide)
  generalize (c + y k) % 1073741824 = m at *
  generalize (c + y k) / 1073741824 = n at *
  have e4 : r + P * (c + y k) = r + P * m + P * 1073741824 * n := by rw [← e3, Int.mul_add, Int.mul_assoc]; omega
  rw [e4, Int.add_mul_emod_self_left]
  have hm : P * m ≤ P * 1073741823 := Int.mul_le_mul_of_nonneg_left (by omega) (by omega)
  have hm0 : 0 ≤ P * m := Int.mul_nonneg (by omega) b3
  rw [Int.emod_eq_of_lt (by omega) (by omega)]
  constructor
  · intro h
    have hr : r = 0 := by omega
    have : P * m = 0 := by omega
    exact ⟨hr, by rcases Int.mul_eq_zero.mp this with q | q <;> omega⟩
  · rintro ⟨h1, h2⟩
    rw [h1, h2]; simp
theorem dc_bd {y : Nat → Int} {T U : Int} {n : Nat} (hT : 0 ≤ T) (hU : 0 ≤ U) (h : ∀ k, k < n → -T * 1073741823 ≤ y k ∧ y k ≤ U * 1073741823) : ∀ k, k ≤ n → -T ≤ dc y k ∧ dc y k ≤ U
  | 0, _ => by rw [dc_0]; omega
  | k + 1, hk => by
    have ih := dc_bd hT hU h k (by omega)
    have := h k (by omega)
    rw [dc_succ]
    omega
theorem di_cast (v k : Nat) : di (fun k => (nm_dg v k : Int)) k = ((v % nm_B ^ k : Nat) : Int) := by
  induction k with
  | zero => rw [nm_mod_0]; rfl
  | succ k ih => rw [di, ih, nm_mod_succ, Int.natCast_add, Int.natCast_mul]
theorem di_add (y z : Nat → Int) (k : Nat) : di (fun k => y k + z k) k = di y k + di z k := by
  induction k with
  | zero => rfl
  | succ k ih => rw [di, ih, di, di, Int.mul_add]; omega
theorem di_mul (c : Int) (y : Nat → Int) (k : Nat) : di (fun k => c * y k) k = c * di y k := by
  induction k with
  | zero => simp [di]
  | succ k ih => rw [di, ih, di, Int.mul_add, Int.mul_left_comm]
/-- the sign of it all -/
theorem di_sign (y : Nat → Int) (n : Nat) : (dc y n < 0 → di y n < 0) ∧ (0 < dc y n → 0 < di y n) ∧ (dc y n = 0 → 0 ≤ di y n ∧ (di y n = 0 ↔ di y n % ((nm_B ^ n : Nat) : Int) = 0)) := by
  have hp := di_P n
  have e1 := Int.emod_add_mul_ediv (di y n) ((nm_B ^ n : Nat) : Int)
  have b1 := Int.emod_nonneg (di y n) (show ((nm_B ^ n : Nat) : Int) ≠ 0 by omega)
  have b2 := Int.emod_lt_of_pos (di y n) hp
  unfold dc
  generalize ((nm_B ^ n : Nat) : Int) = P at *
  generalize di y n / P = c at *
  generalize di y n % P = r at *
  generalize di y n = D at *
  refine ⟨fun h => ?_, fun h => ?_, fun h => ?_⟩
  · have : P * c ≤ P * (-1) := Int.mul_le_mul_of_nonneg_left (by omega) (by omega)
    omega
  · have : P * 1 ≤ P * c := Int.mul_le_mul_of_nonneg_left (by omega) (by omega)
    omega
  · subst h
    omega
theorem ne_mask0 {z : Int} : (Int64.ofInt z &&& 1073741823 = lN 0) = (z % 1073741824 = 0) := by
  rw [nm_mask, nm_lI]
  have b3 := Int.emod_nonneg z (show (1073741824 : Int) ≠ 0 by decide)
  have b4 := Int.emod_lt_of_pos z (show (0 : Int) < 1073741824 by decide)
  apply propext
  constructor
  · intro h
    have := congrArg Int64.toInt h
    rwa [Int64.toInt_ofInt_of_le (by omega) (by omega), Int64.toInt_ofInt_of_le (by omega) (by omega)] at this
  · intro h
    rw [h]
    rfl
theorem ne_or (p q : Prop) [Decidable p] [Decidable q] : (if p then nI 0 else nI 1) ||| (if q then nI 0 else nI 1) = if p ∧ q then nI 0 else nI 1 := by
  by_cases hp : p <;> by_cases hq : q <;> simp [hp, hq] <;> rfl
theorem xq_compare {X : sm_St} {N q row other t u v w : Nat} (hN : 4000 ≤ N) (hu : X.1 q 1 = nI u) (hu2 : u ≤ 20) (hr : row ≤ 4) (ho : other ≤ 4) (ht : t ≤ 12) (h1 : xr (X.1 (q + 1)) row u v) (h2 : xr (X.1 (q + 1)) other u w) : px_Shades_compare N X q (nI row) (nI other) (nI t) = some (nm_cmp v (w * t), X) := by
  have key : di (fun k => (nm_dg v k : Int) + (-(t : Int)) * (nm_dg w k : Int)) u = (v : Int) - ((w * t : Nat) : Int) := by
    rw [di_add, di_mul, di_cast, di_cast, nm_mod_full h1.1, nm_mod_full h2.1, Int.natCast_mul, Int.neg_mul, Int.mul_comm (w : Int)]
    omega
  have yb : ∀ k, k < u → -(t : Int) * 1073741823 ≤ (nm_dg v k : Int) + (-(t : Int)) * (nm_dg w k : Int) ∧ (nm_dg v k : Int) + (-(t : Int)) * (nm_dg w k : Int) ≤ 1 * 1073741823 := by
    intro k _
    have d1 := nm_dg_lt v k
    have d2 := nm_dg_lt w k
    have h3 : (t : Int) * (nm_dg w k : Int) ≤ (t : Int) * 1073741823 := Int.mul_le_mul_of_nonneg_left (by omega) (by omega)
    have h4 : 0 ≤ (t : Int) * (nm_dg w k : Int) := Int.mul_nonneg (by omega) (by omega)
    rw [Int.neg_mul, Int.neg_mul]
    omega
  have cb := dc_bd (T := t) (U := 1) (by omega) (by omega) yb
  generalize hy : (fun k => (nm_dg v k : Int) + (-(t : Int)) * (nm_dg w k : Int)) = y at *
  have hyk : ∀ k, y k = (nm_dg v k : Int) + (-(t : Int)) * (nm_dg w k : Int) := fun k => by rw [← hy]
  unfold px_Shades_compare
  simp (disch := omega) only [sm_lt, sm_b1s, sm_b2s, ↓reduceIte, sm_in_nI, nI_clamp, nI_add, pk_mul, pk_sub, ne_addneg, nI_l, ne_ltT, ne_ltF, ne_leT, ne_leF, ne_eqT, ne_eqF, ne_sI1s, ne_sI1n, ne_sI2, ne_sI3, ne_sL1, ne_sL2s, ne_sL2n, ne_sL3, pk_us, pk_un, pk_uLs, pk_uLn, mm_Z, mm_L, mm_1, mm_2, mm_3, ne_rz0, ne_rz1, not_true_eq_false, not_false_eq_true, ne_i0, ne_i1, ne_i2, ne_i3, ne_i4, ne_i5, ne_i6, ne_i7, ne_i8, ne_i9, ne_i10, ne_i12, ne_i14, ne_i16, ne_i18, ne_i19, ne_i20, ne_i23, ne_i24, ne_i27, ne_i29, ne_i30, ne_i31, ne_i32, ne_i35, ne_i48, ne_i52, ne_i54, ne_i57, ne_i59, ne_i63, ne_i64, ne_i76, ne_i77, ne_i78, ne_i79, ne_i80, ne_i81, ne_i97, ne_i99, ne_i100, ne_i101, ne_i104, ne_i105, ne_i108, ne_i110, ne_i111, ne_i116, ne_i117, ne_i122, ne_i103, ne_i200, ne_i255, ne_i256, ne_i320, ne_i384, ne_i1000, ne_l0, ne_l1, ne_l2, ne_l3, ne_l4, ne_l5, ne_l8, ne_l12, ne_l31, ne_l48, ne_l57, ne_l97, ne_l99, ne_l122, ne_l255, ne_l673, ne_l1073741823, ne_l1073741824]
  refine ne_loop (fun f i (s : Int64 × Int32) => px_Shades_compare_b21 N q f (nI t) (nI (row * 20)) (nI (other * 20)) s.1 s.2 (nI i) X) (fun i s => s.1 = Int64.ofInt (dc y i) ∧ s.2 = if di y i % ((nm_B ^ i : Nat) : Int) = 0 then nI 0 else nI 1) u (fun r => r = some (nm_cmp v (w * t), X)) ?_ ?_ N 0 (lN 0, nI 0) (by omega) (by omega) ⟨by rw [dc_0]; rfl, by simp [di]⟩
  · rintro f k ⟨s1, s2⟩ hk ⟨g1, g2⟩
    simp only at g1 g2
    subst g1 g2
    left
    have d1 := nm_dg_lt v k
    have d2 := nm_dg_lt w k
    have e1 : X.1 (q + 1) (row * 20 + k) = nI (nm_dg v k) := by rw [Nat.mul_comm]; exact h1.2 k hk
    have e2 : X.1 (q + 1) (other * 20 + k) = nI (nm_dg w k) := by rw [Nat.mul_comm]; exact h2.2 k hk
    have b1 := cb k (by omega)
    have b2 := yb k hk
    have ez : Int64.ofInt (dc y k) + lN (nm_dg v k) - lN t * lN (nm_dg w k) = Int64.ofInt (dc y k + y k) := by
      rw [nm_lI, nm_lI, nm_lI, ← Int64.ofInt_add, ← Int64.ofInt_mul, ← Int64.ofInt_sub, hyk]
      congr 1
      rw [Int.neg_mul]
      omega
    have hb : -4611686018427387904 ≤ dc y k + y k ∧ dc y k + y k < 4611686018427387904 := by
      rw [hyk]
      omega
    refine ⟨(Int64.ofInt (dc y (k + 1)), if di y (k + 1) % ((nm_B ^ (k + 1) : Nat) : Int) = 0 then nI 0 else nI 1), ⟨rfl, rfl⟩, ?_⟩
    show px_Shades_compare_b21 N q (f + 1) _ _ _ _ _ _ _ = px_Shades_compare_b21 N q f _ _ _ _ _ _ _
    rw [px_Shades_compare_b21]
    simp only [dz_succ y k, ← ne_or]
    have fin : ∀ s1, s1 = (if (dc y k + y k) % 1073741824 = 0 then nI 0 else nI 1) → px_Shades_compare_b79 N q (px_Shades_compare_b21 N q f) (nI t) (nI (row * 20)) (nI (other * 20)) (nI k) (Int64.ofInt (dc y k + y k)) (if di y k % ((nm_B ^ k : Nat) : Int) = 0 then nI 0 else nI 1) s1 X = px_Shades_compare_b21 N q f (nI t) (nI (row * 20)) (nI (other * 20)) (Int64.ofInt (dc y (k + 1))) ((if di y k % ((nm_B ^ k : Nat) : Int) = 0 then nI 0 else nI 1) ||| (if (dc y k + y k) % 1073741824 = 0 then nI 0 else nI 1)) (nI (k + 1)) X := by
      intro s1 es
      subst es
      unfold px_Shades_compare_b79
      simp only [sm_lt]
      rw [nm_sh30 hb.1 hb.2, ← dc_succ, nI_1]
    have em : ∀ z : Int, (Int64.ofInt z &&& lN 1073741823 = lN 0) = (z % 1073741824 = 0) := fun z => ne_mask0
    by_cases hz : (dc y k + y k) % 1073741824 = 0
    · simp (disch := omega) only [sm_lt, sm_b1s, sm_b2s, ↓reduceIte, sm_in_nI, nI_clamp, nI_add, pk_mul, pk_sub, ne_addneg, nI_l, ne_ltT, ne_ltF, ne_leT, ne_leF, ne_eqT, ne_eqF, ne_sI1s, ne_sI1n, ne_sI2, ne_sI3, ne_sL1, ne_sL2s, ne_sL2n, ne_sL3, pk_us, pk_un, pk_uLs, pk_uLn, mm_Z, mm_L, mm_1, mm_2, mm_3, ne_rz0, ne_rz1, not_true_eq_false, not_false_eq_true, ne_i0, ne_i1, ne_i2, ne_i3, ne_i4, ne_i5, ne_i6, ne_i7, ne_i8, ne_i9, ne_i10, ne_i12, ne_i14, ne_i16, ne_i18, ne_i19, ne_i20, ne_i23, ne_i24, ne_i27, ne_i29, ne_i30, ne_i31, ne_i32, ne_i35, ne_i48, ne_i52, ne_i54, ne_i57, ne_i59, ne_i63, ne_i64, ne_i76, ne_i77, ne_i78, ne_i79, ne_i80, ne_i81, ne_i97, ne_i99, ne_i100, ne_i101, ne_i104, ne_i105, ne_i108, ne_i110, ne_i111, ne_i116, ne_i117, ne_i122, ne_i103, ne_i200, ne_i255, ne_i256, ne_i320, ne_i384, ne_i1000, ne_l0, ne_l1, ne_l2, ne_l3, ne_l4, ne_l5, ne_l8, ne_l12, ne_l31, ne_l48, ne_l57, ne_l97, ne_l99, ne_l122, ne_l255, ne_l673, ne_l1073741823, ne_l1073741824, hu, e1, e2, ez, em, hz]
      have := fin (nI 0) (by rw [if_pos hz])
      rw [if_pos hz] at this
      exact this
    · simp (disch := omega) only [sm_lt, sm_b1s, sm_b2s, ↓reduceIte, sm_in_nI, nI_clamp, nI_add, pk_mul, pk_sub, ne_addneg, nI_l, ne_ltT, ne_ltF, ne_leT, ne_leF, ne_eqT, ne_eqF, ne_sI1s, ne_sI1n, ne_sI2, ne_sI3, ne_sL1, ne_sL2s, ne_sL2n, ne_sL3, pk_us, pk_un, pk_uLs, pk_uLn, mm_Z, mm_L, mm_1, mm_2, mm_3, ne_rz0, ne_rz1, not_true_eq_false, not_false_eq_true, ne_i0, ne_i1, ne_i2, ne_i3, ne_i4, ne_i5, ne_i6, ne_i7, ne_i8, ne_i9, ne_i10, ne_i12, ne_i14, ne_i16, ne_i18, ne_i19, ne_i20, ne_i23, ne_i24, ne_i27, ne_i29, ne_i30, ne_i31, ne_i32, ne_i35, ne_i48, ne_i52, ne_i54, ne_i57, ne_i59, ne_i63, ne_i64, ne_i76, ne_i77, ne_i78, ne_i79, ne_i80, ne_i81, ne_i97, ne_i99, ne_i100, ne_i101, ne_i104, ne_i105, ne_i108, ne_i110, ne_i111, ne_i116, ne_i117, ne_i122, ne_i103, ne_i200, ne_i255, ne_i256, ne_i320, ne_i384, ne_i1000, ne_l0, ne_l1, ne_l2, ne_l3, ne_l4, ne_l5, ne_l8, ne_l12, ne_l31, ne_l48, ne_l57, ne_l97, ne_l99, ne_l122, ne_l255, ne_l673, ne_l1073741823, ne_l1073741824, hu, e1, e2, ez, em, hz]
      have := fin (nI 1) (by rw [if_neg hz])
      rw [if_neg hz] at this
      exact this
  · rintro f ⟨s1, s2⟩ ⟨g1, g2⟩
    simp only at g1 g2
    subst g1 g2
    show px_Shades_compare_b21 N q (f + 1) _ _ _ _ _ _ _ = _
    obtain ⟨z1, z2, z3⟩ := di_sign y u
    have b1 := cb u (by omega)
    have e0 : (Int64.ofInt (dc y u) = lN 0) = (dc y u = 0) := by
      apply propext
      constructor
      · intro h
        have := congrArg Int64.toInt h
        rwa [nm_lI, Int64.toInt_ofInt_of_le (by omega) (by omega), Int64.toInt_ofInt_of_le (by omega) (by omega)] at this
      · intro h
        rw [h]
        rfl
    have e1 : (lN 0 ≤ Int64.ofInt (dc y u)) = (0 ≤ dc y u) := by
      rw [Int64.le_iff_toInt_le, nm_lI, Int64.toInt_ofInt_of_le (by omega) (by omega), Int64.toInt_ofInt_of_le (by omega) (by omega)]
      rfl
    rw [px_Shades_compare_b21]
    by_cases hc : dc y u = 0
    · have z4 := z3 hc
      have e00 := e0.trans (eq_true hc)
      by_cases hs : di y u % ((nm_B ^ u : Nat) : Int) = 0
      · have ec : nm_cmp v (w * t) = 0 := by unfold nm_cmp; rw [if_neg (by omega), if_pos (by omega)]
        rw [ec]
        simp (disch := omega) only [sm_lt, sm_b1s, sm_b2s, ↓reduceIte, sm_in_nI, nI_clamp, nI_add, pk_mul, pk_sub, ne_addneg, nI_l, ne_ltT, ne_ltF, ne_leT, ne_leF, ne_eqT, ne_eqF, ne_sI1s, ne_sI1n, ne_sI2, ne_sI3, ne_sL1, ne_sL2s, ne_sL2n, ne_sL3, pk_us, pk_un, pk_uLs, pk_uLn, mm_Z, mm_L, mm_1, mm_2, mm_3, ne_rz0, ne_rz1, not_true_eq_false, not_false_eq_true, ne_i0, ne_i1, ne_i2, ne_i3, ne_i4, ne_i5, ne_i6, ne_i7, ne_i8, ne_i9, ne_i10, ne_i12, ne_i14, ne_i16, ne_i18, ne_i19, ne_i20, ne_i23, ne_i24, ne_i27, ne_i29, ne_i30, ne_i31, ne_i32, ne_i35, ne_i48, ne_i52, ne_i54, ne_i57, ne_i59, ne_i63, ne_i64, ne_i76, ne_i77, ne_i78, ne_i79, ne_i80, ne_i81, ne_i97, ne_i99, ne_i100, ne_i101, ne_i104, ne_i105, ne_i108, ne_i110, ne_i111, ne_i116, ne_i117, ne_i122, ne_i103, ne_i200, ne_i255, ne_i256, ne_i320, ne_i384, ne_i1000, ne_l0, ne_l1, ne_l2, ne_l3, ne_l4, ne_l5, ne_l8, ne_l12, ne_l31, ne_l48, ne_l57, ne_l97, ne_l99, ne_l122, ne_l255, ne_l673, ne_l1073741823, ne_l1073741824, hu, e00, hs]
      · have ec : nm_cmp v (w * t) = 1 := by unfold nm_cmp; rw [if_neg (by omega), if_neg (by omega)]
        rw [ec]
        simp (disch := omega) only [sm_lt, sm_b1s, sm_b2s, ↓reduceIte, sm_in_nI, nI_clamp, nI_add, pk_mul, pk_sub, ne_addneg, nI_l, ne_ltT, ne_ltF, ne_leT, ne_leF, ne_eqT, ne_eqF, ne_sI1s, ne_sI1n, ne_sI2, ne_sI3, ne_sL1, ne_sL2s, ne_sL2n, ne_sL3, pk_us, pk_un, pk_uLs, pk_uLn, mm_Z, mm_L, mm_1, mm_2, mm_3, ne_rz0, ne_rz1, not_true_eq_false, not_false_eq_true, ne_i0, ne_i1, ne_i2, ne_i3, ne_i4, ne_i5, ne_i6, ne_i7, ne_i8, ne_i9, ne_i10, ne_i12, ne_i14, ne_i16, ne_i18, ne_i19, ne_i20, ne_i23, ne_i24, ne_i27, ne_i29, ne_i30, ne_i31, ne_i32, ne_i35, ne_i48, ne_i52, ne_i54, ne_i57, ne_i59, ne_i63, ne_i64, ne_i76, ne_i77, ne_i78, ne_i79, ne_i80, ne_i81, ne_i97, ne_i99, ne_i100, ne_i101, ne_i104, ne_i105, ne_i108, ne_i110, ne_i111, ne_i116, ne_i117, ne_i122, ne_i103, ne_i200, ne_i255, ne_i256, ne_i320, ne_i384, ne_i1000, ne_l0, ne_l1, ne_l2, ne_l3, ne_l4, ne_l5, ne_l8, ne_l12, ne_l31, ne_l48, ne_l57, ne_l97, ne_l99, ne_l122, ne_l255, ne_l673, ne_l1073741823, ne_l1073741824, hu, e00, hs]
    · by_cases hn : 0 ≤ dc y u
      · have z5 := z2 (by omega)
        have ec : nm_cmp v (w * t) = 1 := by unfold nm_cmp; rw [if_neg (by omega), if_neg (by omega)]
        rw [ec]
        simp (disch := omega) only [sm_lt, sm_b1s, sm_b2s, ↓reduceIte, sm_in_nI, nI_clamp, nI_add, pk_mul, pk_sub, ne_addneg, nI_l, ne_ltT, ne_ltF, ne_leT, ne_leF, ne_eqT, ne_eqF, ne_sI1s, ne_sI1n, ne_sI2, ne_sI3, ne_sL1, ne_sL2s, ne_sL2n, ne_sL3, pk_us, pk_un, pk_uLs, pk_uLn, mm_Z, mm_L, mm_1, mm_2, mm_3, ne_rz0, ne_rz1, not_true_eq_false, not_false_eq_true, ne_i0, ne_i1, ne_i2, ne_i3, ne_i4, ne_i5, ne_i6, ne_i7, ne_i8, ne_i9, ne_i10, ne_i12, ne_i14, ne_i16, ne_i18, ne_i19, ne_i20, ne_i23, ne_i24, ne_i27, ne_i29, ne_i30, ne_i31, ne_i32, ne_i35, ne_i48, ne_i52, ne_i54, ne_i57, ne_i59, ne_i63, ne_i64, ne_i76, ne_i77, ne_i78, ne_i79, ne_i80, ne_i81, ne_i97, ne_i99, ne_i100, ne_i101, ne_i104, ne_i105, ne_i108, ne_i110, ne_i111, ne_i116, ne_i117, ne_i122, ne_i103, ne_i200, ne_i255, ne_i256, ne_i320, ne_i384, ne_i1000, ne_l0, ne_l1, ne_l2, ne_l3, ne_l4, ne_l5, ne_l8, ne_l12, ne_l31, ne_l48, ne_l57, ne_l97, ne_l99, ne_l122, ne_l255, ne_l673, ne_l1073741823, ne_l1073741824, hu, e0, hc, e1, hn]
      · have z5 := z1 (by omega)
        have ec : nm_cmp v (w * t) = -1 := by unfold nm_cmp; rw [if_pos (by omega)]
        rw [ec]
        simp (disch := omega) only [sm_lt, sm_b1s, sm_b2s, ↓reduceIte, sm_in_nI, nI_clamp, nI_add, pk_mul, pk_sub, ne_addneg, nI_l, ne_ltT, ne_ltF, ne_leT, ne_leF, ne_eqT, ne_eqF, ne_sI1s, ne_sI1n, ne_sI2, ne_sI3, ne_sL1, ne_sL2s, ne_sL2n, ne_sL3, pk_us, pk_un, pk_uLs, pk_uLn, mm_Z, mm_L, mm_1, mm_2, mm_3, ne_rz0, ne_rz1, not_true_eq_false, not_false_eq_true, ne_i0, ne_i1, ne_i2, ne_i3, ne_i4, ne_i5, ne_i6, ne_i7, ne_i8, ne_i9, ne_i10, ne_i12, ne_i14, ne_i16, ne_i18, ne_i19, ne_i20, ne_i23, ne_i24, ne_i27, ne_i29, ne_i30, ne_i31, ne_i32, ne_i35, ne_i48, ne_i52, ne_i54, ne_i57, ne_i59, ne_i63, ne_i64, ne_i76, ne_i77, ne_i78, ne_i79, ne_i80, ne_i81, ne_i97, ne_i99, ne_i100, ne_i101, ne_i104, ne_i105, ne_i108, ne_i110, ne_i111, ne_i116, ne_i117, ne_i122, ne_i103, ne_i200, ne_i255, ne_i256, ne_i320, ne_i384, ne_i1000, ne_l0, ne_l1, ne_l2, ne_l3, ne_l4, ne_l5, ne_l8, ne_l12, ne_l31, ne_l48, ne_l57, ne_l97, ne_l99, ne_l122, ne_l255, ne_l673, ne_l1073741823, ne_l1073741824, hu, e0, hc, e1, hn]
