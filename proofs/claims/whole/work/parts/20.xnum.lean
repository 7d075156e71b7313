/-! the class's numbers: rows of digits, all of one length -/
theorem nm_mask (z : Int) : Int64.ofInt z &&& 1073741823 = Int64.ofInt (z % 1073741824) := by
  apply Int64.toBitVec_inj.mp
  apply BitVec.eq_of_toNat_eq
  show (BitVec.ofInt 64 z &&& 1073741823#64).toNat = (BitVec.ofInt 64 (z % 1073741824)).toNat
  rw [BitVec.toNat_and, BitVec.toNat_ofInt, BitVec.toNat_ofInt, show (1073741823#64).toNat = 2 ^ 30 - 1 from rfl, Nat.and_two_pow_sub_one_eq_mod]
  omega
theorem nm_s30 : (30 : Int32).toInt64 &&& 63 = lN 30 := by decide
theorem nm_sh30 {z : Int} (h1 : -4611686018427387904 ≤ z) (h2 : z < 4611686018427387904) : Int64.ofInt z >>> ((30 : Int32).toInt64 &&& 63) = Int64.ofInt (z / 1073741824) := by
  rw [nm_s30]
  apply Int64.toInt_inj.mp
  have e : (Int64.ofInt z >>> lN 30).toInt = (Int64.ofInt z).toInt >>> 30 := by
    show ((Int64.ofInt z).toBitVec.sshiftRight ((lN 30).toBitVec.smod 64).toNat).toInt = _
    rw [nm_sm 30 (by decide), BitVec.toInt_sshiftRight]
    rfl
  rw [e, Int64.toInt_ofInt_of_le (by omega) (by omega), Int64.toInt_ofInt_of_le (by omega) (by omega), Int.shiftRight_eq_div_pow]
  rfl
theorem nm_maskN (x : Nat) : lN x &&& 1073741823 = lN (x % 1073741824) := by
  rw [nm_lI, nm_mask, nm_lI]
  congr 1
theorem nm_sh30N {x : Nat} (h : x < 4611686018427387904) : lN x >>> ((30 : Int32).toInt64 &&& 63) = lN (x / 1073741824) := by
  rw [nm_lI, nm_sh30 (by omega) (by omega), nm_lI]
  congr 1
def xr (g : Nat → Int32) (r u v : Nat) : Prop := v < nm_B ^ u ∧ ∀ k, k < u → g (20 * r + k) = nI (nm_dg v k)
/-- a digit of a row as a long -/
theorem xr_l {g : Nat → Int32} {r u v k : Nat} (h : xr g r u v) (hk : k < u) : (g (20 * r + k)).toInt64 = lN (nm_dg v k) := by
  rw [h.2 k hk]
  have := nm_dg_lt v k
  exact nI_l (by omega)
def xc_D (v w t k : Nat) : Int := ((v % nm_B ^ k : Nat) : Int) - t * ((w % nm_B ^ k : Nat) : Int)
theorem xc_D0 (v w t : Nat) : xc_D v w t 0 = 0 := by
  unfold xc_D
  rw [nm_mod_0, nm_mod_0]
  simp
theorem xc_Ds (v w t k : Nat) : xc_D v w t (k + 1) = xc_D v w t k + ((nm_B ^ k : Nat) : Int) * ((nm_dg v k : Int) - t * (nm_dg w k : Int)) := by
  unfold xc_D
  rw [nm_mod_succ, nm_mod_succ]
  push_cast
  rw [Int.mul_add, Int.mul_sub, ← Int.mul_assoc, Int.mul_comm ((nm_B : Int) ^ k) (t : Int), Int.mul_assoc]
  omega
theorem xc_bd (v w t k : Nat) : -(t : Int) * ((nm_B ^ k : Nat) : Int) ≤ xc_D v w t k ∧ xc_D v w t k < ((nm_B ^ k : Nat) : Int) := by
  unfold xc_D
  have h1 := Nat.mod_lt v (nm_Bp k)
  have h2 := Nat.mod_lt w (nm_Bp k)
  generalize v % nm_B ^ k = a at *
  generalize w % nm_B ^ k = b at *
  generalize nm_B ^ k = P at *
  have h3 : (t : Int) * (b : Int) ≤ (t : Int) * (P : Int) := Int.mul_le_mul_of_nonneg_left (by omega) (by omega)
  have h4 : 0 ≤ (t : Int) * (b : Int) := Int.mul_nonneg (by omega) (by omega)
  rw [Int.neg_mul]
  omega
theorem xc_c {v w t k : Nat} : -(t : Int) ≤ xc_D v w t k / ((nm_B ^ k : Nat) : Int) ∧ xc_D v w t k / ((nm_B ^ k : Nat) : Int) ≤ 0 := by
  have h := xc_bd v w t k
  have hp : (0 : Int) < ((nm_B ^ k : Nat) : Int) := by have := nm_Bp k; omega
  refine ⟨(Int.le_ediv_iff_mul_le hp).mpr h.1, ?_⟩
  have := Int.ediv_lt_of_lt_mul hp (show xc_D v w t k < 1 * ((nm_B ^ k : Nat) : Int) by omega)
  omega
theorem xc_step (v w t k : Nat) : xc_D v w t (k + 1) / ((nm_B ^ (k + 1) : Nat) : Int) = (xc_D v w t k / ((nm_B ^ k : Nat) : Int) + ((nm_dg v k : Int) - t * (nm_dg w k : Int))) / 1073741824 := by
  have hp : ((nm_B ^ k : Nat) : Int) ≠ 0 := by have := nm_Bp k; omega
  rw [xc_Ds, Nat.pow_succ]
  push_cast
  rw [← Int.ediv_ediv_of_nonneg (by have := nm_Bp k; push_cast at *; omega), Int.add_mul_ediv_left _ _ (by push_cast at hp; exact hp)]
theorem xc_zero (v w t k : Nat) : xc_D v w t (k + 1) % ((nm_B ^ (k + 1) : Nat) : Int) = 0 ↔ xc_D v w t k % ((nm_B ^ k : Nat) : Int) = 0 ∧ (xc_D v w t k / ((nm_B ^ k : Nat) : Int) + ((nm_dg v k : Int) - t * (nm_dg w k : Int))) % 1073741824 = 0 := by
  have hp : (0 : Int) < ((nm_B ^ k : Nat) : Int) := by have := nm_Bp k; omega
  have hs := xc_Ds v w t k
  have e1 := Int.emod_add_mul_ediv (xc_D v w t k) ((nm_B ^ k : Nat) : Int)
  have b1 := Int.emod_nonneg (xc_D v w t k) (show ((nm_B ^ k : Nat) : Int) ≠ 0 by omega)
  have b2 := Int.emod_lt_of_pos (xc_D v w t k) hp
  have eP : ((nm_B ^ (k + 1) : Nat) : Int) = ((nm_B ^ k : Nat) : Int) * 1073741824 := by rw [Nat.pow_succ]; push_cast; rfl
  generalize ((nm_B ^ k : Nat) : Int) = P at *
  generalize xc_D v w t k / P = c at *
  generalize xc_D v w t k % P = r at *
  generalize (nm_dg v k : Int) - t * (nm_dg w k : Int) = y at *
  have e2 : xc_D v w t (k + 1) = r + P * (c + y) := by rw [hs, ← e1, Int.mul_add]; omega
  rw [e2, eP]
  have e3 := Int.emod_add_mul_ediv (c + y) 1073741824
  have b3 := Int.emod_nonneg (c + y) (show (1073741824 : Int) ≠ 0 by decide)
  have b4 := Int.emod_lt_of_pos (c + y) (show (0 : Int) < 1073741824 by decide)
  generalize (c + y) % 1073741824 = m at *
  generalize (c + y) / 1073741824 = n at *
  have e4 : r + P * (c + y) = r + P * m + P * 1073741824 * n := by rw [← e3, Int.mul_add, Int.mul_assoc]; omega
  rw [e4, Int.add_mul_emod_self_left]
  have hm : P * m ≤ P * 1073741823 := Int.mul_le_mul_of_nonneg_left (by omega) (by omega)
  have hm0 : 0 ≤ P * m := Int.mul_nonneg (by omega) b3
  rw [Int.emod_eq_of_lt (by omega) (by omega)]
  constructor
  · intro h
    have hr : r = 0 := by omega
    have : P * m = 0 := by omega
    exact ⟨hr, by rcases Int.mul_eq_zero.mp this with q | q <;> omega⟩
  · rintro ⟨h1, h2⟩
    rw [h1, h2]; simp
