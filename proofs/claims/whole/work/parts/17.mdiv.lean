theorem nm_sc : ∀ i, i < 64 → (nI i).toInt64 &&& 63 = lN i := by decide +kernel
theorem nm_sm : ∀ i, i < 64 → ((lN i).toBitVec.smod 64).toNat = i := by decide +kernel
theorem nm_shr {d i : Nat} (hd : d < 2 ^ 62) (hi : i < 64) : lN d >>> ((nI i).toInt64 &&& 63) = lN (d / 2 ^ i) := by
  rw [nm_sc i hi]
  apply Int64.toInt_inj.mp
  have h2 : d / 2 ^ i ≤ d := Nat.div_le_self _ _
  have e : (lN d >>> lN i).toInt = (lN d).toInt >>> i := by
    show ((lN d).toBitVec.sshiftRight ((lN i).toBitVec.smod 64).toNat).toInt = _
    rw [nm_sm i hi, BitVec.toInt_sshiftRight]
    rfl
  rw [e, pk_lT (by omega), pk_lT (by omega), Int.shiftRight_eq_div_pow]
  rfl
theorem nm_and1 (x : Nat) : lN x &&& 1 = lN (x % 2) := by
  apply Int64.toBitVec_inj.mp
  apply BitVec.eq_of_toNat_eq
  show ((BitVec.ofNat 64 x) &&& 1#64).toNat = (BitVec.ofNat 64 (x % 2)).toNat
  rw [BitVec.toNat_and, BitVec.toNat_ofNat, BitVec.toNat_ofNat, BitVec.toNat_ofNat]
  rw [show (1 % 2 ^ 64 : Nat) = 1 from rfl, Nat.and_one_is_mod]
  omega
/-- one bit of a division -/
theorem nm_dstep {u g b : Nat} (hg : 0 < g) (hb : b ≤ 1) : (2 * (u % g) + b < g → (2 * u + b) % g = 2 * (u % g) + b ∧ (2 * u + b) / g = 2 * (u / g)) ∧ (g ≤ 2 * (u % g) + b → (2 * u + b) % g = 2 * (u % g) + b - g ∧ (2 * u + b) / g = 2 * (u / g) + 1) := by
  have h1 := Nat.div_add_mod u g
  have h2 := Nat.mod_lt u hg
  generalize u % g = h at *
  generalize u / g = q at *
  have e : 2 * u + b = g * (2 * q) + (2 * h + b) := by
    rw [← h1, Nat.mul_add, Nat.mul_left_comm]
    omega
  refine ⟨fun l => ?_, fun l => ?_⟩
  · rw [e, Nat.mul_add_mod, Nat.mod_eq_of_lt l, Nat.mul_add_div hg, Nat.div_eq_of_lt l]
    exact ⟨rfl, rfl⟩
  · have e2 : 2 * h + b = g * 1 + (2 * h + b - g) := by omega
    have l2 : 2 * h + b - g < g := by omega
    rw [e, e2, ← Nat.add_assoc, ← Nat.mul_add, Nat.mul_add_mod, Nat.mod_eq_of_lt l2, Nat.mul_add_div hg, Nat.div_eq_of_lt l2]
    exact ⟨by omega, by omega⟩
theorem nm_m2 (x m : Nat) : 2 * x % 2 ^ (m + 1) = 2 * (x % 2 ^ m) := by
  rw [Nat.pow_succ, Nat.mul_comm (2 ^ m), Nat.mul_mod_mul_left]
theorem nm_m21 (x m : Nat) : (2 * x + 1) % 2 ^ (m + 1) = 2 * (x % 2 ^ m) + 1 := by
  have h1 := Nat.div_add_mod x (2 ^ m)
  have h2 := Nat.mod_lt x (show 0 < 2 ^ m from Nat.pow_pos (by decide))
  have e : 2 * x + 1 = 2 ^ (m + 1) * (x / 2 ^ m) + (2 * (x % 2 ^ m) + 1) := by
    rw [Nat.pow_succ, Nat.mul_comm (2 ^ m), Nat.mul_assoc]
    omega
  rw [e, Nat.mul_add_mod, Nat.mod_eq_of_lt (by rw [Nat.pow_succ]; omega)]
theorem nm_bit (v k i : Nat) (hi : i < 30) : nm_dg v k / 2 ^ i % 2 = v / 2 ^ (30 * k + i) % 2 ∧ v / 2 ^ (30 * k + i) = 2 * (v / 2 ^ (30 * k + (i + 1))) + v / 2 ^ (30 * k + i) % 2 := by
  have e1 : v / 2 ^ (30 * k + i) = v / nm_B ^ k / 2 ^ i := by rw [nm_B2, Nat.div_div_eq_div_mul, ← Nat.pow_add]
  have e2 : v / 2 ^ (30 * k + (i + 1)) = v / 2 ^ (30 * k + i) / 2 := by rw [← Nat.add_assoc, Nat.pow_succ, Nat.div_div_eq_div_mul]
  refine ⟨?_, ?_⟩
  · unfold nm_dg
    rw [e1]
    have : nm_B = 2 ^ i * (2 * 2 ^ (29 - i)) := by
      rw [← Nat.pow_succ', ← Nat.pow_add, show i + (29 - i + 1) = 30 by omega]
    rw [this, Nat.mod_mul_right_div_self, Nat.mod_mul_right_mod]
  · rw [e2]
    have := Nat.div_add_mod (v / 2 ^ (30 * k + i)) 2
    omega
theorem nm_addOne {M : sm_St} {L : Nat → Int64} {Z : Nat → Int32} {N h : Nat} (hN : 64 ≤ N) (he : h % 2 = 0) (hH : nm_N L Z 5 h) : ∃ L' Z', pm_addOne N (mm M L Z) = some (mm M L' Z') ∧ nm_N L' Z' 5 (h + 1) ∧ ∀ t, t ≠ 5 → nm_same L Z L' Z' t := by
  have n1 := hH.1
  unfold pm_addOne
  rw [nm_sz5 hH, sm_ite_t (by decide)]
  rcases Nat.eq_zero_or_pos h with e | e
  · subst e
    obtain ⟨L1, Z1, a1, a2, a3⟩ := nm_use (nm_set (M := M) (L := L) (Z := Z) (N := N) (a := 5) (x := 1) hN (by decide) (by decide)) (by decide)
    refine ⟨L1, Z1, ?_, a2, a3⟩
    rw [nm_nd_0, if_pos (by decide), nm_c5, nm_l1, a1]
    rfl
  · have hp := nm_nd_pos e
    have h0 := hH.2.2 0 hp
    have d0 := nm_dg_lt h 0
    have dg0 : nm_dg h 0 = h % 1073741824 := by
      unfold nm_dg
      rw [Nat.pow_zero, Nat.div_one]
    have dg1 : nm_dg (h + 1) 0 = nm_dg h 0 + 1 := by
      rw [dg0]
      unfold nm_dg
      rw [Nat.pow_zero, Nat.div_one]
      show (h + 1) % 1073741824 = _
      omega
    have dgk : ∀ k, nm_dg (h + 1) (k + 1) = nm_dg h (k + 1) := by
      intro k
      unfold nm_dg
      rw [Nat.pow_succ, Nat.mul_comm, ← Nat.div_div_eq_div_mul, ← Nat.div_div_eq_div_mul, show (h + 1) / nm_B = h / nm_B by show (h + 1) / 1073741824 = h / 1073741824; omega]
    have hnd : nm_nd (h + 1) = nm_nd h := by
      have h1 : h + 1 < nm_B ^ nm_nd h := by
        have h2 := nm_lt_nd h
        rcases Nat.lt_or_ge (h + 1) (nm_B ^ nm_nd h) with q | q
        · exact q
        · have h3 : h + 1 = nm_B ^ nm_nd h := by omega
          obtain ⟨m, hm⟩ : ∃ m, nm_nd h = m + 1 := ⟨nm_nd h - 1, by omega⟩
          rw [hm, Nat.pow_succ] at h3
          have : (nm_B ^ m * nm_B) % 2 = 0 := by
            rw [Nat.mul_mod, show nm_B % 2 = 0 from rfl, Nat.mul_zero]
          omega
      exact Nat.le_antisymm (nm_nd_le.mpr h1) (nm_nd_mono (by omega))
    refine ⟨vp_updL L (64 * 5 + 0) (lN (nm_dg h 0 + 1)), Z, ?_, ⟨by omega, by rw [hnd]; exact hH.2.1, fun k hk => ?_⟩, fun t ht => ⟨rfl, fun k hk => ?_⟩⟩
    · rw [if_neg (nI_ne0 hp (by omega)), sm_ite_t (by decide), sm_ite_t (by decide)]
      rw [show (320 : Int32).toNatClampNeg = 64 * 5 + 0 by decide, mm_L, h0, mm_sL, nm_l1, lN_add]
      rfl
    · unfold vp_updL
      cases k with
      | zero => rw [if_pos rfl, dg1]
      | succ k =>
        rw [if_neg (by omega), dgk]
        exact hH.2.2 (k + 1) (by omega)
    · unfold vp_updL
      rw [if_neg (by omega)]
