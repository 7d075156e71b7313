/-! sets as bits, and a signed sum of rows that is 0 or not -/
theorem ne_sh32 : ∀ x, x < 32 → ((nI x).toBitVec.smod 32).toNat = x := by decide
theorem ne_a31 : ∀ x, x < 32 → nI x &&& nI 31 = nI x := by decide
theorem ne_bit {s x : Nat} (hs : s < 2 ^ 31) (hx : x < 32) : (nI s >>> (nI x &&& nI 31)) &&& nI 1 = nI (if s.testBit x = true then 1 else 0) := by
  have e : s / 2 ^ x % 2 = if s.testBit x = true then 1 else 0 := by
    rw [Nat.testBit_eq_decide_div_mod_eq]
    by_cases h : s / 2 ^ x % 2 = 1
    · simp [h]
    · have : s / 2 ^ x % 2 = 0 := by omega
      simp [this]
  have hd : s / 2 ^ x < 2 ^ 31 := Nat.lt_of_le_of_lt (Nat.div_le_self _ _) hs
  rw [ne_a31 x hx, pk_shrN hs (nI x) x (ne_sh32 x hx), pk_andN (by omega) 1 (by decide), ← e]
theorem ne_orN {a b : Nat} (ha : a < 2 ^ 32) (hb : b < 2 ^ 32) : nI a ||| nI b = nI (a ||| b) := by
  apply Int32.toBitVec_inj.mp
  show BitVec.ofNat 32 a ||| BitVec.ofNat 32 b = BitVec.ofNat 32 (a ||| b)
  apply BitVec.eq_of_toNat_eq
  rw [BitVec.toNat_or, BitVec.toNat_ofNat, BitVec.toNat_ofNat, BitVec.toNat_ofNat, Nat.mod_eq_of_lt ha, Nat.mod_eq_of_lt hb, Nat.mod_eq_of_lt (Nat.or_lt_two_pow ha hb)]
theorem ne_m1 : (-nI 1).toBitVec = BitVec.allOnes 32 := by decide
theorem ne_andn {s l : Nat} (hs : s < 256) (hl : l < 256) : (nI s &&& (nI l ^^^ -nI 1) = nI 0) = (∀ x, x < 8 → s.testBit x = true → l.testBit x = true) := by
  have bv : (nI s &&& (nI l ^^^ -nI 1)).toBitVec = BitVec.ofNat 32 s &&& (BitVec.ofNat 32 l ^^^ BitVec.allOnes 32) := by
    rw [← ne_m1]
    rfl
  have hi : ∀ i, 8 ≤ i → s.testBit i = false := fun i hi => Nat.testBit_lt_two_pow (Nat.lt_of_lt_of_le hs (Nat.pow_le_pow_right (show 0 < 2 by decide) hi))
  apply propext
  constructor
  · intro h x hx hb
    have h1 := congrArg (fun z => z.toBitVec.getLsbD x) h
    simp only [bv] at h1
    rw [BitVec.getLsbD_and, BitVec.getLsbD_xor, BitVec.getLsbD_ofNat, BitVec.getLsbD_ofNat, BitVec.getLsbD_allOnes] at h1
    have z : (nI 0).toBitVec.getLsbD x = false := by
      show (BitVec.ofNat 32 0).getLsbD x = false
      simp
    rw [z, hb, decide_eq_true (show x < 32 by omega)] at h1
    simp at h1
    exact h1
  · intro h
    apply Int32.toBitVec_inj.mp
    rw [bv]
    apply BitVec.eq_of_getLsbD_eq
    intro i hi'
    rw [BitVec.getLsbD_and, BitVec.getLsbD_xor, BitVec.getLsbD_ofNat, BitVec.getLsbD_ofNat, BitVec.getLsbD_allOnes]
    have z : (nI 0).toBitVec.getLsbD i = false := by
      show (BitVec.ofNat 32 0).getLsbD i = false
      simp
    rw [z, decide_eq_true hi']
    by_cases h8 : i < 8
    · cases hb : s.testBit i with
      | false => simp
      | true => rw [h i h8 hb]; simp
    · rw [hi i (by omega)]; simp
theorem ne_and {s t : Nat} (hs : s < 2 ^ 32) (ht : t < 2 ^ 32) : nI s &&& nI t = nI (s &&& t) := by
  apply Int32.toBitVec_inj.mp
  show BitVec.ofNat 32 s &&& BitVec.ofNat 32 t = BitVec.ofNat 32 (s &&& t)
  apply BitVec.eq_of_toNat_eq
  rw [BitVec.toNat_and, BitVec.toNat_ofNat, BitVec.toNat_ofNat, BitVec.toNat_ofNat, Nat.mod_eq_of_lt hs, Nat.mod_eq_of_lt ht, Nat.mod_eq_of_lt (Nat.lt_of_le_of_lt Nat.and_le_left hs)]
/-- how many bits -/
def sp_pc (s : Nat) : Nat → Nat
  | 0 => 0
  | x + 1 => sp_pc s x + if s.testBit x = true then 1 else 0
theorem sp_pc_le (s : Nat) : ∀ n, sp_pc s n ≤ n
  | 0 => Nat.le_refl _
  | n + 1 => by
    have := sp_pc_le s n
    rw [sp_pc]
    split <;> omega
def bcx (v0 : Int32) : Int32 := sm_lt (v0 - ((v0.toUInt32 >>> ((1 : Int32).toUInt32 &&& Int32.toUInt32 31)).toInt32 &&& (1431655765 : Int32))) (fun (v0_1 : Int32) => sm_lt ((v0_1 &&& (858993459 : Int32)) + ((v0_1.toUInt32 >>> ((2 : Int32).toUInt32 &&& Int32.toUInt32 31)).toInt32 &&& (858993459 : Int32))) (fun (v0_2 : Int32) => sm_lt ((v0_2 + (v0_2.toUInt32 >>> ((4 : Int32).toUInt32 &&& Int32.toUInt32 31)).toInt32) &&& (252645135 : Int32)) (fun (v0_3 : Int32) => sm_lt (v0_3 + (v0_3.toUInt32 >>> ((8 : Int32).toUInt32 &&& Int32.toUInt32 31)).toInt32) (fun (v0_4 : Int32) => sm_lt (v0_4 + (v0_4.toUInt32 >>> ((16 : Int32).toUInt32 &&& Int32.toUInt32 31)).toInt32) (fun (v0_5 : Int32) => (v0_5 &&& (63 : Int32)))))))
theorem bcx_ok : ∀ s, s < 256 → bcx (nI s) = nI (sp_pc s 8) := by decide +kernel
theorem xq_bitCount {N : Nat} {X : sm_St} {s : Nat} (hs : s < 256) : px_JInteger_bitCount N X (nI s) = some (nI (sp_pc s 8), X) := by
  rw [← bcx_ok s hs]
  rfl
/-- a sum of rows by factors that may be below 0 -/
def sxi (c : Nat → Int) (w : Nat → Nat) : Nat → Int
  | 0 => 0
  | n + 1 => sxi c w n + c n * (w n : Int)
theorem di_rest (y : Nat → Int) (k : Nat) : ∀ d, ∃ z : Int, di y (k + d) = di y k + ((nm_B ^ k : Nat) : Int) * z
  | 0 => ⟨0, by simp⟩
  | d + 1 => by
    obtain ⟨z, hz⟩ := di_rest y k d
    refine ⟨z + ((nm_B ^ d : Nat) : Int) * y (k + d), ?_⟩
    rw [← Nat.add_assoc, di, hz, Int.mul_add, ← Int.mul_assoc, ← Int.natCast_mul, ← Nat.pow_add, Int.add_assoc]
theorem di_zero (k : Nat) : di (fun _ => 0) k = 0 := by
  induction k with
  | zero => rfl
  | succ k ih => rw [di, ih]; simp
theorem di_sxi {c : Nat → Int} {w : Nat → Nat} (u : Nat) : ∀ n, (∀ r, r < n → c r ≠ 0 → w r < nm_B ^ u) → di (fun k => sxi c (fun r => nm_dg (w r) k) n) u = sxi c w n
  | 0, _ => di_zero u
  | n + 1, h => by
    have ih := di_sxi (c := c) u n (fun r hr => h r (by omega))
    have e : (fun k => sxi c (fun r => nm_dg (w r) k) (n + 1)) = fun k => sxi c (fun r => nm_dg (w r) k) n + c n * (nm_dg (w n) k : Int) := rfl
    rw [e, di_add, di_mul, ih, di_cast, sxi]
    by_cases h0 : c n = 0
    · rw [h0]; simp
    · rw [nm_mod_full (h n (by omega) h0)]
theorem sxi_bd {c : Nat → Int} {w : Nat → Nat} {C W : Int} (hC : 0 ≤ C) (hW : 0 ≤ W) : ∀ n, (∀ r, r < n → -C ≤ c r ∧ c r ≤ C) → (∀ r, r < n → (w r : Int) ≤ W) → -(n * (C * W)) ≤ sxi c w n ∧ sxi c w n ≤ n * (C * W)
  | 0, _, _ => by simp [sxi]
  | n + 1, h1, h2 => by
    obtain ⟨i1, i2⟩ := sxi_bd hC hW n (fun r hr => h1 r (by omega)) (fun r hr => h2 r (by omega))
    obtain ⟨c1, c2⟩ := h1 n (by omega)
    have w1 := h2 n (by omega)
    have a1 : c n * (w n : Int) ≤ C * (w n : Int) := Int.mul_le_mul_of_nonneg_right c2 (by omega)
    have a2 : C * (w n : Int) ≤ C * W := Int.mul_le_mul_of_nonneg_left w1 hC
    have a3 : -C * (w n : Int) ≤ c n * (w n : Int) := Int.mul_le_mul_of_nonneg_right c1 (by omega)
    rw [Int.neg_mul] at a3
    rw [sxi]
    have e : ((n + 1 : Nat) : Int) * (C * W) = n * (C * W) + C * W := by
      rw [Int.natCast_add, Int.add_mul]
      simp
    rw [e]
    omega
section
variable {N : Nat} {X : sm_St}
theorem ne_i64z {z : Int} (h1 : -4611686018427387904 ≤ z) (h2 : z < 4611686018427387904) : (Int64.ofInt z = lN 0) = (z = 0) := by
  apply propext
  constructor
  · intro h
    have := congrArg Int64.toInt h
    rwa [nm_lI, Int64.toInt_ofInt_of_le (by omega) (by omega), Int64.toInt_ofInt_of_le (by omega) (by omega)] at this
  · intro h
    rw [h]
    rfl
theorem xq_isZero {q u p : Nat} {c : Nat → Int} {w : Nat → Nat} (hN : 4000 ≤ N) (hu : X.1 q 1 = nI u) (hu2 : u ≤ 20) (hc : ∀ r, r < 5 → X.2.1 (p + 1) r = Int64.ofInt (c r)) (hcb : ∀ r, r < 5 → -100000 ≤ c r ∧ c r ≤ 100000) (hr : ∀ r, r < 5 → c r ≠ 0 → xr (X.1 (q + 1)) r u (w r)) : px_Sum_isZeroIn N X p q = some (nI (if sxi c w 5 = 0 then 1 else 0), X) := by
  have key : di (fun k => sxi c (fun r => nm_dg (w r) k) 5) u = sxi c w 5 := di_sxi u 5 (fun r h5 h0 => (hr r h5 h0).1)
  have part : ∀ k n, n ≤ 5 → -(n * (100000 * 1073741823)) ≤ sxi c (fun r => nm_dg (w r) k) n ∧ sxi c (fun r => nm_dg (w r) k) n ≤ n * (100000 * 1073741823) := fun k n hn => sxi_bd (by decide) (by decide) n (fun r h => hcb r (by omega)) (fun r _ => by have := nm_dg_lt (w r) k; omega)
  have yb : ∀ k, k < u → -(500000 : Int) * 1073741823 ≤ sxi c (fun r => nm_dg (w r) k) 5 ∧ sxi c (fun r => nm_dg (w r) k) 5 ≤ 500000 * 1073741823 := fun k _ => by
    have := part k 5 (Nat.le_refl _)
    omega
  have cb := dc_bd (T := 500000) (U := 500000) (by decide) (by decide) yb
  generalize hy : (fun k => sxi c (fun r => nm_dg (w r) k) 5) = y at key cb
  have hyk : ∀ k, y k = sxi c (fun r => nm_dg (w r) k) 5 := fun k => by rw [← hy]
  unfold px_Sum_isZeroIn
  simp (disch := omega) only [sm_lt, sm_b1s, sm_b2s, ↓reduceIte, sm_in_nI, nI_clamp, nI_add, pk_mul, pk_sub, ne_addneg, nI_l, ne_ltT, ne_ltF, ne_leT, ne_leF, ne_eqT, ne_eqF, ne_sI1s, ne_sI1n, ne_sI2, ne_sI3, ne_sL1, ne_sL2s, ne_sL2n, ne_sL3, pk_us, pk_un, pk_uLs, pk_uLn, mm_Z, mm_L, mm_1, mm_2, mm_3, ne_rz0, ne_rz1, not_true_eq_false, not_false_eq_true, ne_i0, ne_i1, ne_i2, ne_i3, ne_i4, ne_i5, ne_i6, ne_i7, ne_i8, ne_i9, ne_i10, ne_i12, ne_i14, ne_i16, ne_i18, ne_i19, ne_i20, ne_i23, ne_i24, ne_i27, ne_i29, ne_i30, ne_i31, ne_i32, ne_i35, ne_i48, ne_i52, ne_i54, ne_i57, ne_i59, ne_i63, ne_i64, ne_i76, ne_i77, ne_i78, ne_i79, ne_i80, ne_i81, ne_i97, ne_i99, ne_i100, ne_i101, ne_i104, ne_i105, ne_i108, ne_i110, ne_i111, ne_i116, ne_i117, ne_i122, ne_i103, ne_i200, ne_i255, ne_i256, ne_i320, ne_i384, ne_i1000, ne_l0, ne_l1, ne_l2, ne_l3, ne_l4, ne_l5, ne_l8, ne_l12, ne_l31, ne_l48, ne_l57, ne_l97, ne_l99, ne_l122, ne_l255, ne_l673, ne_l1073741823, ne_l1073741824]
  refine ne_loop (fun f k (s : Int64) => px_Sum_isZeroIn_b5 N p q f s (nI k) X) (fun k s => s = Int64.ofInt (dc y k) ∧ di y k % ((nm_B ^ k : Nat) : Int) = 0) u (fun r => r = some (nI (if sxi c w 5 = 0 then 1 else 0), X)) ?_ ?_ N 0 (lN 0) (by omega) (by omega) ⟨by rw [dc_0]; rfl, by simp [di]⟩
  · rintro f k s hk ⟨rfl, i2⟩
    have b1 := cb k (by omega)
    have b2 := yb k hk
    -- the rows of one digit
    have inner : px_Sum_isZeroIn_b20 N p q (px_Sum_isZeroIn_b5 N p q f) N (nI k) (Int64.ofInt (dc y k)) (nI 0) X = if (dc y k + y k) % 1073741824 = 0 then px_Sum_isZeroIn_b5 N p q f (Int64.ofInt (dc y (k + 1))) (nI (k + 1)) X else some (nI 0, X) := by
      refine ne_loop (fun f' r (s : Int64) => px_Sum_isZeroIn_b20 N p q (px_Sum_isZeroIn_b5 N p q f) f' (nI k) s (nI r) X) (fun r s => s = Int64.ofInt (dc y k + sxi c (fun r => nm_dg (w r) k) r)) 5 (fun o => o = if (dc y k + y k) % 1073741824 = 0 then px_Sum_isZeroIn_b5 N p q f (Int64.ofInt (dc y (k + 1))) (nI (k + 1)) X else some (nI 0, X)) ?_ ?_ N 0 _ (by omega) (by omega) (by simp [sxi])
      · intro f' r s hr5 hI
        subst hI
        left
        refine ⟨_, rfl, ?_⟩
        have ec := hc r hr5
        show px_Sum_isZeroIn_b20 N p q _ (f' + 1) _ _ _ _ = _
        have es : Int64.ofInt (dc y k + sxi c (fun r => nm_dg (w r) k) r) + X.2.1 (p + 1) r * (X.1 (q + 1) (r * 20 + k)).toInt64 = Int64.ofInt (dc y k + sxi c (fun r => nm_dg (w r) k) (r + 1)) := by
          rw [ec]
          by_cases h0 : c r = 0
          · have z : Int64.ofInt (c r) * (X.1 (q + 1) (r * 20 + k)).toInt64 = 0 := by
              rw [h0]
              exact Int64.zero_mul
            rw [z, Int64.add_zero, sxi, h0, Int.zero_mul, Int.add_zero]
          · have ed := xr_l (hr r hr5 h0) hk
            rw [Nat.mul_comm 20] at ed
            rw [ed, nm_lI, ← Int64.ofInt_mul, ← Int64.ofInt_add, sxi, Int.add_assoc]
        rw [px_Sum_isZeroIn_b20]
        simp (disch := omega) only [sm_lt, sm_b1s, sm_b2s, ↓reduceIte, sm_in_nI, nI_clamp, nI_add, pk_mul, pk_sub, ne_addneg, nI_l, ne_ltT, ne_ltF, ne_leT, ne_leF, ne_eqT, ne_eqF, ne_sI1s, ne_sI1n, ne_sI2, ne_sI3, ne_sL1, ne_sL2s, ne_sL2n, ne_sL3, pk_us, pk_un, pk_uLs, pk_uLn, mm_Z, mm_L, mm_1, mm_2, mm_3, ne_rz0, ne_rz1, not_true_eq_false, not_false_eq_true, ne_i0, ne_i1, ne_i2, ne_i3, ne_i4, ne_i5, ne_i6, ne_i7, ne_i8, ne_i9, ne_i10, ne_i12, ne_i14, ne_i16, ne_i18, ne_i19, ne_i20, ne_i23, ne_i24, ne_i27, ne_i29, ne_i30, ne_i31, ne_i32, ne_i35, ne_i48, ne_i52, ne_i54, ne_i57, ne_i59, ne_i63, ne_i64, ne_i76, ne_i77, ne_i78, ne_i79, ne_i80, ne_i81, ne_i97, ne_i99, ne_i100, ne_i101, ne_i104, ne_i105, ne_i108, ne_i110, ne_i111, ne_i116, ne_i117, ne_i122, ne_i103, ne_i200, ne_i255, ne_i256, ne_i320, ne_i384, ne_i1000, ne_l0, ne_l1, ne_l2, ne_l3, ne_l4, ne_l5, ne_l8, ne_l12, ne_l31, ne_l48, ne_l57, ne_l97, ne_l99, ne_l122, ne_l255, ne_l673, ne_l1073741823, ne_l1073741824, es]
      · intro f' s hI
        subst hI
        rw [← hyk k]
        show px_Sum_isZeroIn_b20 N p q _ (f' + 1) _ _ _ _ = _
        have hb : -4611686018427387904 ≤ dc y k + y k ∧ dc y k + y k < 4611686018427387904 := by
          rw [hyk]
          omega
        have em : (Int64.ofInt (dc y k + y k) &&& lN 1073741823 = lN 0) = ((dc y k + y k) % 1073741824 = 0) := ne_mask0
        have esh : Int64.ofInt (dc y k + y k) >>> (lN 30 &&& 63) = Int64.ofInt (dc y (k + 1)) := by
          have := nm_sh30 hb.1 hb.2
          rw [dc_succ, ← this]
          rfl
        rw [px_Sum_isZeroIn_b20]
        by_cases hz : (dc y k + y k) % 1073741824 = 0
        · rw [if_pos hz]
          simp (disch := omega) only [sm_lt, sm_b1s, sm_b2s, ↓reduceIte, sm_in_nI, nI_clamp, nI_add, pk_mul, pk_sub, ne_addneg, nI_l, ne_ltT, ne_ltF, ne_leT, ne_leF, ne_eqT, ne_eqF, ne_sI1s, ne_sI1n, ne_sI2, ne_sI3, ne_sL1, ne_sL2s, ne_sL2n, ne_sL3, pk_us, pk_un, pk_uLs, pk_uLn, mm_Z, mm_L, mm_1, mm_2, mm_3, ne_rz0, ne_rz1, not_true_eq_false, not_false_eq_true, ne_i0, ne_i1, ne_i2, ne_i3, ne_i4, ne_i5, ne_i6, ne_i7, ne_i8, ne_i9, ne_i10, ne_i12, ne_i14, ne_i16, ne_i18, ne_i19, ne_i20, ne_i23, ne_i24, ne_i27, ne_i29, ne_i30, ne_i31, ne_i32, ne_i35, ne_i48, ne_i52, ne_i54, ne_i57, ne_i59, ne_i63, ne_i64, ne_i76, ne_i77, ne_i78, ne_i79, ne_i80, ne_i81, ne_i97, ne_i99, ne_i100, ne_i101, ne_i104, ne_i105, ne_i108, ne_i110, ne_i111, ne_i116, ne_i117, ne_i122, ne_i103, ne_i200, ne_i255, ne_i256, ne_i320, ne_i384, ne_i1000, ne_l0, ne_l1, ne_l2, ne_l3, ne_l4, ne_l5, ne_l8, ne_l12, ne_l31, ne_l48, ne_l57, ne_l97, ne_l99, ne_l122, ne_l255, ne_l673, ne_l1073741823, ne_l1073741824, em, hz, esh]
        · rw [if_neg hz]
          simp (disch := omega) only [sm_lt, sm_b1s, sm_b2s, ↓reduceIte, sm_in_nI, nI_clamp, nI_add, pk_mul, pk_sub, ne_addneg, nI_l, ne_ltT, ne_ltF, ne_leT, ne_leF, ne_eqT, ne_eqF, ne_sI1s, ne_sI1n, ne_sI2, ne_sI3, ne_sL1, ne_sL2s, ne_sL2n, ne_sL3, pk_us, pk_un, pk_uLs, pk_uLn, mm_Z, mm_L, mm_1, mm_2, mm_3, ne_rz0, ne_rz1, not_true_eq_false, not_false_eq_true, ne_i0, ne_i1, ne_i2, ne_i3, ne_i4, ne_i5, ne_i6, ne_i7, ne_i8, ne_i9, ne_i10, ne_i12, ne_i14, ne_i16, ne_i18, ne_i19, ne_i20, ne_i23, ne_i24, ne_i27, ne_i29, ne_i30, ne_i31, ne_i32, ne_i35, ne_i48, ne_i52, ne_i54, ne_i57, ne_i59, ne_i63, ne_i64, ne_i76, ne_i77, ne_i78, ne_i79, ne_i80, ne_i81, ne_i97, ne_i99, ne_i100, ne_i101, ne_i104, ne_i105, ne_i108, ne_i110, ne_i111, ne_i116, ne_i117, ne_i122, ne_i103, ne_i200, ne_i255, ne_i256, ne_i320, ne_i384, ne_i1000, ne_l0, ne_l1, ne_l2, ne_l3, ne_l4, ne_l5, ne_l8, ne_l12, ne_l31, ne_l48, ne_l57, ne_l97, ne_l99, ne_l122, ne_l255, ne_l673, ne_l1073741823, ne_l1073741824, em, hz]
    show (∃ s', _ ∧ px_Sum_isZeroIn_b5 N p q (f + 1) _ _ _ = _) ∨ px_Sum_isZeroIn_b5 N p q (f + 1) _ _ _ = _
    rw [px_Sum_isZeroIn_b5]
    have dz := dz_succ y k
    by_cases hz : (dc y k + y k) % 1073741824 = 0
    · left
      rw [if_pos hz] at inner
      refine ⟨_, ⟨rfl, dz.mpr ⟨i2, hz⟩⟩, ?_⟩
      simp (disch := omega) only [sm_lt, sm_b1s, sm_b2s, ↓reduceIte, sm_in_nI, nI_clamp, nI_add, pk_mul, pk_sub, ne_addneg, nI_l, ne_ltT, ne_ltF, ne_leT, ne_leF, ne_eqT, ne_eqF, ne_sI1s, ne_sI1n, ne_sI2, ne_sI3, ne_sL1, ne_sL2s, ne_sL2n, ne_sL3, pk_us, pk_un, pk_uLs, pk_uLn, mm_Z, mm_L, mm_1, mm_2, mm_3, ne_rz0, ne_rz1, not_true_eq_false, not_false_eq_true, ne_i0, ne_i1, ne_i2, ne_i3, ne_i4, ne_i5, ne_i6, ne_i7, ne_i8, ne_i9, ne_i10, ne_i12, ne_i14, ne_i16, ne_i18, ne_i19, ne_i20, ne_i23, ne_i24, ne_i27, ne_i29, ne_i30, ne_i31, ne_i32, ne_i35, ne_i48, ne_i52, ne_i54, ne_i57, ne_i59, ne_i63, ne_i64, ne_i76, ne_i77, ne_i78, ne_i79, ne_i80, ne_i81, ne_i97, ne_i99, ne_i100, ne_i101, ne_i104, ne_i105, ne_i108, ne_i110, ne_i111, ne_i116, ne_i117, ne_i122, ne_i103, ne_i200, ne_i255, ne_i256, ne_i320, ne_i384, ne_i1000, ne_l0, ne_l1, ne_l2, ne_l3, ne_l4, ne_l5, ne_l8, ne_l12, ne_l31, ne_l48, ne_l57, ne_l97, ne_l99, ne_l122, ne_l255, ne_l673, ne_l1073741823, ne_l1073741824, hu]
      exact inner
    · right
      rw [if_neg hz] at inner
      have hD : ¬ sxi c w 5 = 0 := by
        intro e
        obtain ⟨z, hz'⟩ := di_rest y (k + 1) (u - (k + 1))
        rw [show k + 1 + (u - (k + 1)) = u by omega, key, e] at hz'
        have : di y (k + 1) % ((nm_B ^ (k + 1) : Nat) : Int) = 0 := by
          have e2 : di y (k + 1) = 0 + ((nm_B ^ (k + 1) : Nat) : Int) * (-z) := by rw [Int.mul_neg]; omega
          rw [e2, Int.add_mul_emod_self_left]
          simp
        exact hz (dz.mp this).2
      rw [if_neg hD]
      simp (disch := omega) only [sm_lt, sm_b1s, sm_b2s, ↓reduceIte, sm_in_nI, nI_clamp, nI_add, pk_mul, pk_sub, ne_addneg, nI_l, ne_ltT, ne_ltF, ne_leT, ne_leF, ne_eqT, ne_eqF, ne_sI1s, ne_sI1n, ne_sI2, ne_sI3, ne_sL1, ne_sL2s, ne_sL2n, ne_sL3, pk_us, pk_un, pk_uLs, pk_uLn, mm_Z, mm_L, mm_1, mm_2, mm_3, ne_rz0, ne_rz1, not_true_eq_false, not_false_eq_true, ne_i0, ne_i1, ne_i2, ne_i3, ne_i4, ne_i5, ne_i6, ne_i7, ne_i8, ne_i9, ne_i10, ne_i12, ne_i14, ne_i16, ne_i18, ne_i19, ne_i20, ne_i23, ne_i24, ne_i27, ne_i29, ne_i30, ne_i31, ne_i32, ne_i35, ne_i48, ne_i52, ne_i54, ne_i57, ne_i59, ne_i63, ne_i64, ne_i76, ne_i77, ne_i78, ne_i79, ne_i80, ne_i81, ne_i97, ne_i99, ne_i100, ne_i101, ne_i104, ne_i105, ne_i108, ne_i110, ne_i111, ne_i116, ne_i117, ne_i122, ne_i103, ne_i200, ne_i255, ne_i256, ne_i320, ne_i384, ne_i1000, ne_l0, ne_l1, ne_l2, ne_l3, ne_l4, ne_l5, ne_l8, ne_l12, ne_l31, ne_l48, ne_l57, ne_l97, ne_l99, ne_l122, ne_l255, ne_l673, ne_l1073741823, ne_l1073741824, hu]
      exact inner
  · rintro f s ⟨rfl, i2⟩
    have b1 := cb u (by omega)
    obtain ⟨z1, z2, z3⟩ := di_sign y u
    rw [key] at z1 z2
    have e0 : (Int64.ofInt (dc y u) = lN 0) = (dc y u = 0) := ne_i64z (by omega) (by omega)
    show px_Sum_isZeroIn_b5 N p q (f + 1) _ _ _ = _
    rw [px_Sum_isZeroIn_b5]
    by_cases h0 : dc y u = 0
    · have e00 := e0.trans (eq_true h0)
      have hD : sxi c w 5 = 0 := by rw [← key]; exact (z3 h0).2.mpr i2
      rw [if_pos hD]
      simp (disch := omega) only [sm_lt, sm_b1s, sm_b2s, ↓reduceIte, sm_in_nI, nI_clamp, nI_add, pk_mul, pk_sub, ne_addneg, nI_l, ne_ltT, ne_ltF, ne_leT, ne_leF, ne_eqT, ne_eqF, ne_sI1s, ne_sI1n, ne_sI2, ne_sI3, ne_sL1, ne_sL2s, ne_sL2n, ne_sL3, pk_us, pk_un, pk_uLs, pk_uLn, mm_Z, mm_L, mm_1, mm_2, mm_3, ne_rz0, ne_rz1, not_true_eq_false, not_false_eq_true, ne_i0, ne_i1, ne_i2, ne_i3, ne_i4, ne_i5, ne_i6, ne_i7, ne_i8, ne_i9, ne_i10, ne_i12, ne_i14, ne_i16, ne_i18, ne_i19, ne_i20, ne_i23, ne_i24, ne_i27, ne_i29, ne_i30, ne_i31, ne_i32, ne_i35, ne_i48, ne_i52, ne_i54, ne_i57, ne_i59, ne_i63, ne_i64, ne_i76, ne_i77, ne_i78, ne_i79, ne_i80, ne_i81, ne_i97, ne_i99, ne_i100, ne_i101, ne_i104, ne_i105, ne_i108, ne_i110, ne_i111, ne_i116, ne_i117, ne_i122, ne_i103, ne_i200, ne_i255, ne_i256, ne_i320, ne_i384, ne_i1000, ne_l0, ne_l1, ne_l2, ne_l3, ne_l4, ne_l5, ne_l8, ne_l12, ne_l31, ne_l48, ne_l57, ne_l97, ne_l99, ne_l122, ne_l255, ne_l673, ne_l1073741823, ne_l1073741824, hu, e00]
    · have e00 := e0.trans (eq_false h0)
      have hD : ¬ sxi c w 5 = 0 := by
        rcases Int.lt_or_gt_of_ne h0 with l | l
        · have := z1 l; omega
        · have := z2 l; omega
      rw [if_neg hD]
      simp (disch := omega) only [sm_lt, sm_b1s, sm_b2s, ↓reduceIte, sm_in_nI, nI_clamp, nI_add, pk_mul, pk_sub, ne_addneg, nI_l, ne_ltT, ne_ltF, ne_leT, ne_leF, ne_eqT, ne_eqF, ne_sI1s, ne_sI1n, ne_sI2, ne_sI3, ne_sL1, ne_sL2s, ne_sL2n, ne_sL3, pk_us, pk_un, pk_uLs, pk_uLn, mm_Z, mm_L, mm_1, mm_2, mm_3, ne_rz0, ne_rz1, not_true_eq_false, not_false_eq_true, ne_i0, ne_i1, ne_i2, ne_i3, ne_i4, ne_i5, ne_i6, ne_i7, ne_i8, ne_i9, ne_i10, ne_i12, ne_i14, ne_i16, ne_i18, ne_i19, ne_i20, ne_i23, ne_i24, ne_i27, ne_i29, ne_i30, ne_i31, ne_i32, ne_i35, ne_i48, ne_i52, ne_i54, ne_i57, ne_i59, ne_i63, ne_i64, ne_i76, ne_i77, ne_i78, ne_i79, ne_i80, ne_i81, ne_i97, ne_i99, ne_i100, ne_i101, ne_i104, ne_i105, ne_i108, ne_i110, ne_i111, ne_i116, ne_i117, ne_i122, ne_i103, ne_i200, ne_i255, ne_i256, ne_i320, ne_i384, ne_i1000, ne_l0, ne_l1, ne_l2, ne_l3, ne_l4, ne_l5, ne_l8, ne_l12, ne_l31, ne_l48, ne_l57, ne_l97, ne_l99, ne_l122, ne_l255, ne_l673, ne_l1073741823, ne_l1073741824, hu, e00]
end
