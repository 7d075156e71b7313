/-! the text -/
def bt_ (v : Int64) (k : Nat) : Nat := v.toBitVec.toNat / 2 ^ (8 * k) % 256
theorem bt_lt (v : Int64) (k : Nat) : bt_ v k ≤ 255 := by
  have := Nat.mod_lt (v.toBitVec.toNat / 2 ^ (8 * k)) (show 0 < 256 by decide)
  unfold bt_
  omega
theorem ne_k8 : ∀ k, k < 8 → (lN (8 * k) &&& 63) = lN (8 * k) ∧ ((lN (8 * k)).toUInt64 &&& Int64.toUInt64 63) = UInt64.ofNat (8 * k) := by decide
theorem ne_and255 (x : BitVec 64) : x &&& 255#64 = BitVec.ofNat 64 (x.toNat % 256) := by
  apply BitVec.eq_of_toNat_eq
  rw [BitVec.toNat_and, BitVec.toNat_ofNat, BitVec.toNat_ofNat, show 255 % 2 ^ 64 = 2 ^ 8 - 1 from rfl, Nat.and_two_pow_sub_one_eq_mod]
  omega
theorem ne_byteU (v : Int64) {k : Nat} (hk : k < 8) : (v.toUInt64 >>> ((lN (8 * k)).toUInt64 &&& Int64.toUInt64 63)).toInt64 &&& lN 255 = lN (bt_ v k) := by
  rw [(ne_k8 k hk).2]
  apply Int64.toBitVec_inj.mp
  rw [Int64.toBitVec_and]
  have e : (v.toUInt64 >>> UInt64.ofNat (8 * k)).toInt64.toBitVec = v.toBitVec >>> (8 * k) := by
    apply BitVec.eq_of_toNat_eq
    show (v.toUInt64 >>> UInt64.ofNat (8 * k)).toNat = _
    have h1 : (UInt64.ofNat (8 * k)).toNat = 8 * k := by
      rw [UInt64.toNat_ofNat']
      omega
    rw [UInt64.toNat_shiftRight, h1, Nat.mod_eq_of_lt (by omega), BitVec.toNat_ushiftRight]
    rfl
  rw [e]
  show v.toBitVec >>> (8 * k) &&& 255#64 = BitVec.ofNat 64 (bt_ v k)
  rw [ne_and255, BitVec.toNat_ushiftRight, Nat.shiftRight_eq_div_pow]
  rfl
theorem ne_byteS (v : Int64) {k : Nat} (hk : k < 8) : (v >>> (lN (8 * k) &&& 63)) &&& lN 255 = lN (bt_ v k) := by
  rw [(ne_k8 k hk).1]
  apply Int64.toBitVec_inj.mp
  rw [Int64.toBitVec_and]
  have e : (v >>> lN (8 * k)).toBitVec = v.toBitVec.sshiftRight (8 * k) := by
    show v.toBitVec.sshiftRight ((lN (8 * k)).toBitVec.smod 64).toNat = _
    rw [nm_sm (8 * k) (by omega)]
  rw [e]
  show v.toBitVec.sshiftRight (8 * k) &&& 255#64 = BitVec.ofNat 64 (bt_ v k)
  have e2 : v.toBitVec.sshiftRight (8 * k) &&& 255#64 = v.toBitVec >>> (8 * k) &&& 255#64 := by
    apply BitVec.eq_of_getLsbD_eq
    intro i hi
    rw [BitVec.getLsbD_and, BitVec.getLsbD_and, BitVec.getLsbD_sshiftRight, BitVec.getLsbD_ushiftRight]
    by_cases h8 : i < 8
    · rw [if_pos (by omega), decide_eq_false (show ¬ 64 ≤ i by omega)]
      simp only [Bool.not_false, Bool.true_and]
    · have : (255#64).getLsbD i = false := by
        rw [BitVec.getLsbD_ofNat]
        have : Nat.testBit 255 i = false := by
          rw [show 255 = 2 ^ 8 - 1 from rfl, Nat.testBit_two_pow_sub_one]
          simp
          omega
        rw [this, Bool.and_false]
      rw [this, Bool.and_false, Bool.and_false]
  rw [e2, ne_and255, BitVec.toNat_ushiftRight, Nat.shiftRight_eq_div_pow]
  rfl
section
variable {N : Nat} {X S : sm_St} {a b v ik tx : Nat → Nat} {len : Nat}
theorem RR_t {X' S' : sm_St} {tx' : Nat → Nat} {len' : Nat} (h : RR X S a b v ik tx len) (hv : nP S' v S') (hS : ∀ p, (p = 1 ∨ p = 2 ∨ p = 3 ∨ p = 4) → S'.1 p = S.1 p) (h06 : S'.1 0 6 = S.1 0 6) (hX : ∀ p, p ≠ 102 → p ≠ 103 → p < 107 → X'.1 p = X.1 p) (hXr : X'.2.2 = X.2.2) (hT : gT X' S' tx' len') : RR X' S' a b v ik tx' len' := by
  obtain ⟨r1, r2, r3, r4, r5, r6, r7, r8⟩ := h
  refine ⟨fun k hk => by rw [hS 1 (by omega)]; exact r1 k hk, hv, gH_fr r8.1 (fun q a b => hX q (by omega) (by omega) (by omega)) (by rw [hXr]) r3, ⟨fun k hk => by rw [hS 2 (by omega)]; exact r4.1 k hk, fun i hi => ?_⟩, hT, gF_fr r6 (hX 104 (by omega) (by omega) (by omega)) (hX 105 (by omega) (by omega) (by omega)) (hX 106 (by omega) (by omega) (by omega)) h06, ?_, gP_fr hXr r8⟩
  · obtain ⟨i1, i2, i3, i4⟩ := r4.2 i hi
    refine ⟨i1, by rw [hS 3 (by omega)]; exact i2, by rw [hX 101 (by omega) (by omega) (by omega)]; exact i3, fun e => gH_fr ?_ (fun q a b => hX q (by omega) (by omega) (by omega)) (by rw [hXr]) (i4 e)⟩
    have hi' : i = 0 ∨ i = 1 := by omega
    rcases hi' with rfl | rfl
    · exact r8.2.1
    · exact r8.2.2
  · unfold gC
    rw [hX 0 (by omega) (by omega) (by omega), hS 4 (by omega)]
    exact r7
theorem c_clear (hN : 4000 ≤ N) (h : R X S) : OKr (px_L_clear N X) (pm_clear N S) := by
  obtain ⟨a, b, v, ik, tx, len, h⟩ := h
  obtain ⟨t1, t2, t3, t4⟩ := h.2.2.2.2.1
  unfold px_L_clear pm_clear
  simp (disch := omega) only [sm_lt, sm_b1s, sm_b2s, ↓reduceIte, sm_in_nI, nI_clamp, nI_add, pk_mul, pk_sub, ne_addneg, nI_l, ne_ltT, ne_ltF, ne_leT, ne_leF, ne_eqT, ne_eqF, ne_sI1s, ne_sI1n, ne_sI2, ne_sI3, ne_sL1, ne_sL2s, ne_sL2n, ne_sL3, pk_us, pk_un, pk_uLs, pk_uLn, mm_Z, mm_L, mm_1, mm_2, mm_3, ne_rz0, ne_rz1, not_true_eq_false, not_false_eq_true, ne_i0, ne_i1, ne_i2, ne_i3, ne_i4, ne_i5, ne_i6, ne_i7, ne_i8, ne_i9, ne_i10, ne_i12, ne_i14, ne_i16, ne_i18, ne_i19, ne_i20, ne_i23, ne_i24, ne_i27, ne_i29, ne_i30, ne_i31, ne_i32, ne_i35, ne_i48, ne_i52, ne_i54, ne_i57, ne_i59, ne_i63, ne_i64, ne_i76, ne_i77, ne_i78, ne_i79, ne_i80, ne_i81, ne_i97, ne_i99, ne_i100, ne_i101, ne_i104, ne_i105, ne_i108, ne_i110, ne_i111, ne_i116, ne_i117, ne_i122, ne_i103, ne_i200, ne_i255, ne_i256, ne_i320, ne_i384, ne_i1000, ne_l0, ne_l1, ne_l2, ne_l3, ne_l4, ne_l5, ne_l8, ne_l12, ne_l31, ne_l48, ne_l57, ne_l97, ne_l99, ne_l122, ne_l255, ne_l673, ne_l1073741823, ne_l1073741824, t2, t3]
  refine ⟨_, _, _, rfl, rfl, RR_R (RR_t (tx' := tx) (len' := 0) h (nP_sIo h.2.1 (by decide)) (fun p hp => ne_sI1n (by omega)) (by rw [ne_sI1s, pk_un (by decide)]) (fun p h1 _ _ => ne_sI1n h1) rfl ⟨by decide, by rw [ne_sI1s, pk_us], by rw [ne_sI1s, pk_us], fun k hk => by omega⟩)⟩
/-- the text behind n bytes more -/
def tx_ (tx : Nat → Nat) (len : Nat) (v1 : Int64) (n k : Nat) : Nat := if k < len then tx k else bt_ v1 (n - 1 - (k - len))
theorem xq_append {v1 : Int64} {n : Nat} (hN : 4000 ≤ N) (hn : n ≤ 8) (hl : len + n ≤ 200) (h : X.1 102 1 = nI len) (ht : ∀ k, k < len → X.1 103 k = nI (tx k)) : ∃ g, px_Reader_append N X v1 (nI n) = some (sm_sI (sm_sF X 103 g) 102 1 (nI (len + n))) ∧ ∀ k, k < len + n → g k = nI (tx_ tx len v1 n k) := by
  unfold px_Reader_append
  simp (disch := omega) only [sm_lt, sm_b1s, sm_b2s, ↓reduceIte, sm_in_nI, nI_clamp, nI_add, pk_mul, pk_sub, ne_addneg, nI_l, ne_ltT, ne_ltF, ne_leT, ne_leF, ne_eqT, ne_eqF, ne_sI1s, ne_sI1n, ne_sI2, ne_sI3, ne_sL1, ne_sL2s, ne_sL2n, ne_sL3, pk_us, pk_un, pk_uLs, pk_uLn, mm_Z, mm_L, mm_1, mm_2, mm_3, ne_rz0, ne_rz1, not_true_eq_false, not_false_eq_true, ne_i0, ne_i1, ne_i2, ne_i3, ne_i4, ne_i5, ne_i6, ne_i7, ne_i8, ne_i9, ne_i10, ne_i12, ne_i14, ne_i16, ne_i18, ne_i19, ne_i20, ne_i23, ne_i24, ne_i27, ne_i29, ne_i30, ne_i31, ne_i32, ne_i35, ne_i48, ne_i52, ne_i54, ne_i57, ne_i59, ne_i63, ne_i64, ne_i76, ne_i77, ne_i78, ne_i79, ne_i80, ne_i81, ne_i97, ne_i99, ne_i100, ne_i101, ne_i104, ne_i105, ne_i108, ne_i110, ne_i111, ne_i116, ne_i117, ne_i122, ne_i103, ne_i200, ne_i255, ne_i256, ne_i320, ne_i384, ne_i1000, ne_l0, ne_l1, ne_l2, ne_l3, ne_l4, ne_l5, ne_l8, ne_l12, ne_l31, ne_l48, ne_l57, ne_l97, ne_l99, ne_l122, ne_l255, ne_l673, ne_l1073741823, ne_l1073741824, ix_sub]
  have q := ne_loop (fun f i (g : Nat → Int32) => px_Reader_append_b5 N f v1 (ix (n - i)) (sm_sI (sm_sF X 103 g) 102 1 (nI (len + i)))) (fun i g => ∀ k, k < len + i → g k = nI (tx_ tx len v1 n k)) n (fun r => ∃ g, r = some (sm_sI (sm_sF X 103 g) 102 1 (nI (len + n))) ∧ ∀ k, k < len + n → g k = nI (tx_ tx len v1 n k)) ?_ ?_ N 0 (X.1 103) (by omega) (by omega) (fun k hk => by
    unfold tx_
    rw [if_pos (by omega)]
    exact ht k (by omega))
  · have e : sm_sI (sm_sF X 103 (X.1 103)) 102 1 (nI (len + 0)) = X := by
      rw [sF_self, Nat.add_zero, ← h]
      unfold sm_sI
      have : upd (X.1 102) 1 (X.1 102 1) = X.1 102 := nm_us _ _
      rw [this]
      have h1 : va_up X.1 102 (X.1 102) = X.1 := by funext q; by_cases h : q = 102 <;> simp [va_up, h]
      rw [h1]
    simp only [e, Nat.sub_zero] at q
    exact q
  · intro f i g hi hI
    left
    obtain ⟨m, hm⟩ : ∃ m, n - i = m + 1 := ⟨n - i - 1, by omega⟩
    refine ⟨upd g (len + i) (nI (bt_ v1 m)), fun k hk => ?_, ?_⟩
    · by_cases e : k = len + i
      · subst e
        rw [pk_us]
        unfold tx_
        rw [if_neg (by omega), show n - 1 - (len + i - len) = m by omega]
      · rw [pk_un e]
        exact hI k (by omega)
    · show px_Reader_append_b5 N (f + 1) _ _ _ = px_Reader_append_b5 N f v1 (ix (n - (i + 1))) _
      have sw : ∀ (g : Nat → Int32) (x y : Int32) (k : Nat), sm_sI (sm_sI (sm_sI (sm_sF X 103 g) 102 1 x) 103 k y) 102 1 (x + nI 1) = sm_sI (sm_sF X 103 (upd g k y)) 102 1 (x + nI 1) := by
        intro g x y k
        unfold sm_sI sm_sF
        refine Prod.ext ?_ rfl
        funext p
        by_cases p1 : p = 102
        · subst p1
          simp [va_up, nm_uu]
        · by_cases p2 : p = 103
          · subst p2
            simp [va_up]
          · simp [va_up, p1, p2]
      have bl := bt_lt v1 m
      rw [hm, px_Reader_append_b5, ix_s, show n - (i + 1) = m by omega]
      have sw' := sw g (nI (len + i)) (nI (bt_ v1 m)) (len + i)
      rw [nI_add, Nat.add_assoc] at sw'
      simp (disch := omega) only [sm_lt, sm_b1s, sm_b2s, ↓reduceIte, sm_in_nI, nI_clamp, nI_add, pk_mul, pk_sub, ne_addneg, nI_l, ne_ltT, ne_ltF, ne_leT, ne_leF, ne_eqT, ne_eqF, ne_sI1s, ne_sI1n, ne_sI2, ne_sI3, ne_sL1, ne_sL2s, ne_sL2n, ne_sL3, pk_us, pk_un, pk_uLs, pk_uLn, mm_Z, mm_L, mm_1, mm_2, mm_3, ne_rz0, ne_rz1, not_true_eq_false, not_false_eq_true, ne_i0, ne_i1, ne_i2, ne_i3, ne_i4, ne_i5, ne_i6, ne_i7, ne_i8, ne_i9, ne_i10, ne_i12, ne_i14, ne_i16, ne_i18, ne_i19, ne_i20, ne_i23, ne_i24, ne_i27, ne_i29, ne_i30, ne_i31, ne_i32, ne_i35, ne_i48, ne_i52, ne_i54, ne_i57, ne_i59, ne_i63, ne_i64, ne_i76, ne_i77, ne_i78, ne_i79, ne_i80, ne_i81, ne_i97, ne_i99, ne_i100, ne_i101, ne_i104, ne_i105, ne_i108, ne_i110, ne_i111, ne_i116, ne_i117, ne_i122, ne_i103, ne_i200, ne_i255, ne_i256, ne_i320, ne_i384, ne_i1000, ne_l0, ne_l1, ne_l2, ne_l3, ne_l4, ne_l5, ne_l8, ne_l12, ne_l31, ne_l48, ne_l57, ne_l97, ne_l99, ne_l122, ne_l255, ne_l673, ne_l1073741823, ne_l1073741824, ne_byteS v1 (show m < 8 by omega), lN_i, ix_n, Nat.add_assoc, sw']
  · intro f g hI
    show ∃ g', px_Reader_append_b5 N (f + 1) _ _ _ = _ ∧ _
    rw [Nat.sub_self, ix_0, px_Reader_append_b5]
    simp (disch := omega) only [sm_lt, sm_b1s, sm_b2s, ↓reduceIte, sm_in_nI, nI_clamp, nI_add, pk_mul, pk_sub, ne_addneg, nI_l, ne_ltT, ne_ltF, ne_leT, ne_leF, ne_eqT, ne_eqF, ne_sI1s, ne_sI1n, ne_sI2, ne_sI3, ne_sL1, ne_sL2s, ne_sL2n, ne_sL3, pk_us, pk_un, pk_uLs, pk_uLn, mm_Z, mm_L, mm_1, mm_2, mm_3, ne_rz0, ne_rz1, not_true_eq_false, not_false_eq_true, ne_i0, ne_i1, ne_i2, ne_i3, ne_i4, ne_i5, ne_i6, ne_i7, ne_i8, ne_i9, ne_i10, ne_i12, ne_i14, ne_i16, ne_i18, ne_i19, ne_i20, ne_i23, ne_i24, ne_i27, ne_i29, ne_i30, ne_i31, ne_i32, ne_i35, ne_i48, ne_i52, ne_i54, ne_i57, ne_i59, ne_i63, ne_i64, ne_i76, ne_i77, ne_i78, ne_i79, ne_i80, ne_i81, ne_i97, ne_i99, ne_i100, ne_i101, ne_i104, ne_i105, ne_i108, ne_i110, ne_i111, ne_i116, ne_i117, ne_i122, ne_i103, ne_i200, ne_i255, ne_i256, ne_i320, ne_i384, ne_i1000, ne_l0, ne_l1, ne_l2, ne_l3, ne_l4, ne_l5, ne_l8, ne_l12, ne_l31, ne_l48, ne_l57, ne_l97, ne_l99, ne_l122, ne_l255, ne_l673, ne_l1073741823, ne_l1073741824, ne_m10]
    exact ⟨g, rfl, hI⟩
theorem np_append {v1 : Int64} {n : Nat} (hN : 4000 ≤ N) (hn : n ≤ 8) (hl : len + n ≤ 200) (h : S.1 0 21 = nI len) (ht : ∀ k, k < len → S.1 17 k = nI (tx k)) : ∃ g, pm_type_b41 N N v1 (ix n) S = some (nI (len + n), sm_sI (sm_sF S 17 g) 0 21 (nI (len + n))) ∧ ∀ k, k < len + n → g k = nI (tx_ tx len v1 n k) := by
  have q := ne_loop (fun f i (g : Nat → Int32) => pm_type_b41 N f v1 (ix (n - i)) (sm_sI (sm_sF S 17 g) 0 21 (nI (len + i)))) (fun i g => ∀ k, k < len + i → g k = nI (tx_ tx len v1 n k)) n (fun r => ∃ g, r = some (nI (len + n), sm_sI (sm_sF S 17 g) 0 21 (nI (len + n))) ∧ ∀ k, k < len + n → g k = nI (tx_ tx len v1 n k)) ?_ ?_ N 0 (S.1 17) (by omega) (by omega) (fun k hk => by
    unfold tx_
    rw [if_pos (by omega)]
    exact ht k (by omega))
  · have e : sm_sI (sm_sF S 17 (S.1 17)) 0 21 (nI (len + 0)) = S := by
      rw [sF_self, Nat.add_zero, ← h]
      unfold sm_sI
      have : upd (S.1 0) 21 (S.1 0 21) = S.1 0 := nm_us _ _
      rw [this]
      have h1 : va_up S.1 0 (S.1 0) = S.1 := by funext q; by_cases h : q = 0 <;> simp [va_up, h]
      rw [h1]
    simp only [e, Nat.sub_zero] at q
    exact q
  · intro f i g hi hI
    left
    obtain ⟨m, hm⟩ : ∃ m, n - i = m + 1 := ⟨n - i - 1, by omega⟩
    refine ⟨upd g (len + i) (nI (bt_ v1 m)), fun k hk => ?_, ?_⟩
    · by_cases e : k = len + i
      · subst e
        rw [pk_us]
        unfold tx_
        rw [if_neg (by omega), show n - 1 - (len + i - len) = m by omega]
      · rw [pk_un e]
        exact hI k (by omega)
    · show pm_type_b41 N (f + 1) _ _ _ = pm_type_b41 N f v1 (ix (n - (i + 1))) _
      have sw : ∀ (g : Nat → Int32) (x y : Int32) (k : Nat), sm_sI (sm_sI (sm_sI (sm_sF S 17 g) 0 21 x) 17 k y) 0 21 (x + nI 1) = sm_sI (sm_sF S 17 (upd g k y)) 0 21 (x + nI 1) := by
        intro g x y k
        unfold sm_sI sm_sF
        refine Prod.ext ?_ rfl
        funext p
        by_cases p1 : p = 0
        · subst p1
          simp [va_up, nm_uu]
        · by_cases p2 : p = 17
          · subst p2
            simp [va_up]
          · simp [va_up, p1, p2]
      have bl := bt_lt v1 m
      rw [hm, pm_type_b41, ix_s, show n - (i + 1) = m by omega]
      have sw' := sw g (nI (len + i)) (nI (bt_ v1 m)) (len + i)
      rw [nI_add, Nat.add_assoc] at sw'
      simp (disch := omega) only [sm_lt, sm_b1s, sm_b2s, ↓reduceIte, sm_in_nI, nI_clamp, nI_add, pk_mul, pk_sub, ne_addneg, nI_l, ne_ltT, ne_ltF, ne_leT, ne_leF, ne_eqT, ne_eqF, ne_sI1s, ne_sI1n, ne_sI2, ne_sI3, ne_sL1, ne_sL2s, ne_sL2n, ne_sL3, pk_us, pk_un, pk_uLs, pk_uLn, mm_Z, mm_L, mm_1, mm_2, mm_3, ne_rz0, ne_rz1, not_true_eq_false, not_false_eq_true, ne_i0, ne_i1, ne_i2, ne_i3, ne_i4, ne_i5, ne_i6, ne_i7, ne_i8, ne_i9, ne_i10, ne_i12, ne_i14, ne_i16, ne_i18, ne_i19, ne_i20, ne_i23, ne_i24, ne_i27, ne_i29, ne_i30, ne_i31, ne_i32, ne_i35, ne_i48, ne_i52, ne_i54, ne_i57, ne_i59, ne_i63, ne_i64, ne_i76, ne_i77, ne_i78, ne_i79, ne_i80, ne_i81, ne_i97, ne_i99, ne_i100, ne_i101, ne_i104, ne_i105, ne_i108, ne_i110, ne_i111, ne_i116, ne_i117, ne_i122, ne_i103, ne_i200, ne_i255, ne_i256, ne_i320, ne_i384, ne_i1000, ne_l0, ne_l1, ne_l2, ne_l3, ne_l4, ne_l5, ne_l8, ne_l12, ne_l31, ne_l48, ne_l57, ne_l97, ne_l99, ne_l122, ne_l255, ne_l673, ne_l1073741823, ne_l1073741824, ne_byteU v1 (show m < 8 by omega), lN_i, ix_n, Nat.add_assoc, sw']
  · intro f g hI
    show ∃ g', pm_type_b41 N (f + 1) _ _ _ = _ ∧ _
    rw [Nat.sub_self, ix_0, pm_type_b41]
    simp (disch := omega) only [sm_lt, sm_b1s, sm_b2s, ↓reduceIte, sm_in_nI, nI_clamp, nI_add, pk_mul, pk_sub, ne_addneg, nI_l, ne_ltT, ne_ltF, ne_leT, ne_leF, ne_eqT, ne_eqF, ne_sI1s, ne_sI1n, ne_sI2, ne_sI3, ne_sL1, ne_sL2s, ne_sL2n, ne_sL3, pk_us, pk_un, pk_uLs, pk_uLn, mm_Z, mm_L, mm_1, mm_2, mm_3, ne_rz0, ne_rz1, not_true_eq_false, not_false_eq_true, ne_i0, ne_i1, ne_i2, ne_i3, ne_i4, ne_i5, ne_i6, ne_i7, ne_i8, ne_i9, ne_i10, ne_i12, ne_i14, ne_i16, ne_i18, ne_i19, ne_i20, ne_i23, ne_i24, ne_i27, ne_i29, ne_i30, ne_i31, ne_i32, ne_i35, ne_i48, ne_i52, ne_i54, ne_i57, ne_i59, ne_i63, ne_i64, ne_i76, ne_i77, ne_i78, ne_i79, ne_i80, ne_i81, ne_i97, ne_i99, ne_i100, ne_i101, ne_i104, ne_i105, ne_i108, ne_i110, ne_i111, ne_i116, ne_i117, ne_i122, ne_i103, ne_i200, ne_i255, ne_i256, ne_i320, ne_i384, ne_i1000, ne_l0, ne_l1, ne_l2, ne_l3, ne_l4, ne_l5, ne_l8, ne_l12, ne_l31, ne_l48, ne_l57, ne_l97, ne_l99, ne_l122, ne_l255, ne_l673, ne_l1073741823, ne_l1073741824, ne_m10]
    exact ⟨g, rfl, hI⟩
theorem c_type {v1 : Int64} {v3 : Int32} (hN : 4000 ≤ N) (h : R X S) : OKr (px_L_type N X v1 v3) (pm_type N S v1 v3) := by
  obtain ⟨a, b, v, ik, tx, len, h⟩ := h
  have hR := RR_R h
  obtain ⟨t1, t2, t3, t4⟩ := h.2.2.2.2.1
  unfold px_L_type pm_type px_L_type_b11
  by_cases hb : v3.toInt < 1 ∨ 8 < v3.toInt
  · refine ⟨-nI 2, _, _, ?_, ?_, R_bad hR⟩
    · rcases hb with hb | hb
      · rw [if_pos (show v3 < (1 : Int32) by rw [Int32.lt_iff_toInt_lt]; exact hb)]
        simp (disch := omega) only [sm_lt, sm_b1s, sm_b2s, ↓reduceIte, sm_in_nI, nI_clamp, nI_add, pk_mul, pk_sub, ne_addneg, nI_l, ne_ltT, ne_ltF, ne_leT, ne_leF, ne_eqT, ne_eqF, ne_sI1s, ne_sI1n, ne_sI2, ne_sI3, ne_sL1, ne_sL2s, ne_sL2n, ne_sL3, pk_us, pk_un, pk_uLs, pk_uLn, mm_Z, mm_L, mm_1, mm_2, mm_3, ne_rz0, ne_rz1, not_true_eq_false, not_false_eq_true, ne_i0, ne_i1, ne_i2, ne_i3, ne_i4, ne_i5, ne_i6, ne_i7, ne_i8, ne_i9, ne_i10, ne_i12, ne_i14, ne_i16, ne_i18, ne_i19, ne_i20, ne_i23, ne_i24, ne_i27, ne_i29, ne_i30, ne_i31, ne_i32, ne_i35, ne_i48, ne_i52, ne_i54, ne_i57, ne_i59, ne_i63, ne_i64, ne_i76, ne_i77, ne_i78, ne_i79, ne_i80, ne_i81, ne_i97, ne_i99, ne_i100, ne_i101, ne_i104, ne_i105, ne_i108, ne_i110, ne_i111, ne_i116, ne_i117, ne_i122, ne_i103, ne_i200, ne_i255, ne_i256, ne_i320, ne_i384, ne_i1000, ne_l0, ne_l1, ne_l2, ne_l3, ne_l4, ne_l5, ne_l8, ne_l12, ne_l31, ne_l48, ne_l57, ne_l97, ne_l99, ne_l122, ne_l255, ne_l673, ne_l1073741823, ne_l1073741824, xq_bad]
      · rw [if_neg (show ¬ v3 < (1 : Int32) by rw [Int32.lt_iff_toInt_lt]; show ¬ v3.toInt < 1; omega), if_neg (show ¬ v3 ≤ (8 : Int32) by rw [Int32.le_iff_toInt_le]; show ¬ v3.toInt ≤ 8; omega)]
        simp (disch := omega) only [sm_lt, sm_b1s, sm_b2s, ↓reduceIte, sm_in_nI, nI_clamp, nI_add, pk_mul, pk_sub, ne_addneg, nI_l, ne_ltT, ne_ltF, ne_leT, ne_leF, ne_eqT, ne_eqF, ne_sI1s, ne_sI1n, ne_sI2, ne_sI3, ne_sL1, ne_sL2s, ne_sL2n, ne_sL3, pk_us, pk_un, pk_uLs, pk_uLn, mm_Z, mm_L, mm_1, mm_2, mm_3, ne_rz0, ne_rz1, not_true_eq_false, not_false_eq_true, ne_i0, ne_i1, ne_i2, ne_i3, ne_i4, ne_i5, ne_i6, ne_i7, ne_i8, ne_i9, ne_i10, ne_i12, ne_i14, ne_i16, ne_i18, ne_i19, ne_i20, ne_i23, ne_i24, ne_i27, ne_i29, ne_i30, ne_i31, ne_i32, ne_i35, ne_i48, ne_i52, ne_i54, ne_i57, ne_i59, ne_i63, ne_i64, ne_i76, ne_i77, ne_i78, ne_i79, ne_i80, ne_i81, ne_i97, ne_i99, ne_i100, ne_i101, ne_i104, ne_i105, ne_i108, ne_i110, ne_i111, ne_i116, ne_i117, ne_i122, ne_i103, ne_i200, ne_i255, ne_i256, ne_i320, ne_i384, ne_i1000, ne_l0, ne_l1, ne_l2, ne_l3, ne_l4, ne_l5, ne_l8, ne_l12, ne_l31, ne_l48, ne_l57, ne_l97, ne_l99, ne_l122, ne_l255, ne_l673, ne_l1073741823, ne_l1073741824, xq_bad]
    · have e : pm_in N S v3.toInt64 (1 : Int64) (8 : Int64) = some (nI 0, S) := ne_inBa (a := 1) (b := 8) hb (by decide) (by decide)
      rw [e, sm_b2s, if_pos (show nI 0 = 0 from rfl)]
      simp (disch := omega) only [sm_lt, sm_b1s, sm_b2s, ↓reduceIte, sm_in_nI, nI_clamp, nI_add, pk_mul, pk_sub, ne_addneg, nI_l, ne_ltT, ne_ltF, ne_leT, ne_leF, ne_eqT, ne_eqF, ne_sI1s, ne_sI1n, ne_sI2, ne_sI3, ne_sL1, ne_sL2s, ne_sL2n, ne_sL3, pk_us, pk_un, pk_uLs, pk_uLn, mm_Z, mm_L, mm_1, mm_2, mm_3, ne_rz0, ne_rz1, not_true_eq_false, not_false_eq_true, ne_i0, ne_i1, ne_i2, ne_i3, ne_i4, ne_i5, ne_i6, ne_i7, ne_i8, ne_i9, ne_i10, ne_i12, ne_i14, ne_i16, ne_i18, ne_i19, ne_i20, ne_i23, ne_i24, ne_i27, ne_i29, ne_i30, ne_i31, ne_i32, ne_i35, ne_i48, ne_i52, ne_i54, ne_i57, ne_i59, ne_i63, ne_i64, ne_i76, ne_i77, ne_i78, ne_i79, ne_i80, ne_i81, ne_i97, ne_i99, ne_i100, ne_i101, ne_i104, ne_i105, ne_i108, ne_i110, ne_i111, ne_i116, ne_i117, ne_i122, ne_i103, ne_i200, ne_i255, ne_i256, ne_i320, ne_i384, ne_i1000, ne_l0, ne_l1, ne_l2, ne_l3, ne_l4, ne_l5, ne_l8, ne_l12, ne_l31, ne_l48, ne_l57, ne_l97, ne_l99, ne_l122, ne_l255, ne_l673, ne_l1073741823, ne_l1073741824, np_bad]
  · obtain ⟨n, hn, rfl⟩ : ∃ n, n ≤ 8 ∧ v3 = nI n := by
      rcases ne_arg v3 8 (by decide) with ⟨j, hj, rfl⟩ | hb2
      · exact ⟨j, hj, rfl⟩
      · exact absurd hb2 (by omega)
    rw [nI_toInt (by omega)] at hb
    by_cases hl : len + n ≤ 200
    · obtain ⟨g, e1, g1⟩ := xq_append (N := N) (v1 := v1) hN hn hl t2 (fun k hk => (t4 k hk).2.1)
      obtain ⟨g', e2, g2⟩ := np_append (N := N) (v1 := v1) hN hn hl t3 (fun k hk => (t4 k hk).2.2)
      refine ⟨nI (len + n), sm_sI (sm_sF X 103 g) 102 1 (nI (len + n)), sm_sI (sm_sF S 17 g') 0 21 (nI (len + n)), ?_, ?_, RR_R (RR_t (tx' := tx_ tx len v1 n) (len' := len + n) h ?_ (fun p hp => ?_) ?_ (fun p h1 h2 _ => ?_) rfl ⟨hl, ?_, ?_, fun k hk => ⟨?_, ?_, ?_⟩⟩)⟩
      · simp (disch := omega) only [sm_lt, sm_b1s, sm_b2s, ↓reduceIte, sm_in_nI, nI_clamp, nI_add, pk_mul, pk_sub, ne_addneg, nI_l, ne_ltT, ne_ltF, ne_leT, ne_leF, ne_eqT, ne_eqF, ne_sI1s, ne_sI1n, ne_sI2, ne_sI3, ne_sL1, ne_sL2s, ne_sL2n, ne_sL3, pk_us, pk_un, pk_uLs, pk_uLn, mm_Z, mm_L, mm_1, mm_2, mm_3, ne_rz0, ne_rz1, not_true_eq_false, not_false_eq_true, ne_i0, ne_i1, ne_i2, ne_i3, ne_i4, ne_i5, ne_i6, ne_i7, ne_i8, ne_i9, ne_i10, ne_i12, ne_i14, ne_i16, ne_i18, ne_i19, ne_i20, ne_i23, ne_i24, ne_i27, ne_i29, ne_i30, ne_i31, ne_i32, ne_i35, ne_i48, ne_i52, ne_i54, ne_i57, ne_i59, ne_i63, ne_i64, ne_i76, ne_i77, ne_i78, ne_i79, ne_i80, ne_i81, ne_i97, ne_i99, ne_i100, ne_i101, ne_i104, ne_i105, ne_i108, ne_i110, ne_i111, ne_i116, ne_i117, ne_i122, ne_i103, ne_i200, ne_i255, ne_i256, ne_i320, ne_i384, ne_i1000, ne_l0, ne_l1, ne_l2, ne_l3, ne_l4, ne_l5, ne_l8, ne_l12, ne_l31, ne_l48, ne_l57, ne_l97, ne_l99, ne_l122, ne_l255, ne_l673, ne_l1073741823, ne_l1073741824, t2, e1]
      · have ei : ix n = nI (n - 1) := by
          obtain ⟨m, rfl⟩ : ∃ m, n = m + 1 := ⟨n - 1, by omega⟩
          exact ix_s m
        rw [ei] at e2
        simp (disch := omega) only [sm_lt, sm_b1s, sm_b2s, ↓reduceIte, sm_in_nI, nI_clamp, nI_add, pk_mul, pk_sub, ne_addneg, nI_l, ne_ltT, ne_ltF, ne_leT, ne_leF, ne_eqT, ne_eqF, ne_sI1s, ne_sI1n, ne_sI2, ne_sI3, ne_sL1, ne_sL2s, ne_sL2n, ne_sL3, pk_us, pk_un, pk_uLs, pk_uLn, mm_Z, mm_L, mm_1, mm_2, mm_3, ne_rz0, ne_rz1, not_true_eq_false, not_false_eq_true, ne_i0, ne_i1, ne_i2, ne_i3, ne_i4, ne_i5, ne_i6, ne_i7, ne_i8, ne_i9, ne_i10, ne_i12, ne_i14, ne_i16, ne_i18, ne_i19, ne_i20, ne_i23, ne_i24, ne_i27, ne_i29, ne_i30, ne_i31, ne_i32, ne_i35, ne_i48, ne_i52, ne_i54, ne_i57, ne_i59, ne_i63, ne_i64, ne_i76, ne_i77, ne_i78, ne_i79, ne_i80, ne_i81, ne_i97, ne_i99, ne_i100, ne_i101, ne_i104, ne_i105, ne_i108, ne_i110, ne_i111, ne_i116, ne_i117, ne_i122, ne_i103, ne_i200, ne_i255, ne_i256, ne_i320, ne_i384, ne_i1000, ne_l0, ne_l1, ne_l2, ne_l3, ne_l4, ne_l5, ne_l8, ne_l12, ne_l31, ne_l48, ne_l57, ne_l97, ne_l99, ne_l122, ne_l255, ne_l673, ne_l1073741823, ne_l1073741824, ne_inT, t3, e2]
      · exact nP_sIo (nP_own (nP_sF h.2.1 (by decide))) (by decide)
      · rw [ne_sI1n (by omega), sF_n (by omega)]
      · rw [ne_sI1s, pk_un (by decide), sF_n (by decide)]
      · rw [ne_sI1n h1, sF_n h2]
      · rw [ne_sI1s, pk_us]
      · rw [ne_sI1s, pk_us]
      · unfold tx_
        split
        · rename_i q
          exact (t4 k q).1
        · exact bt_lt _ _
      · rw [ne_sI1n (by decide), sF_s]
        exact g1 k hk
      · rw [ne_sI1n (by decide), sF_s]
        exact g2 k hk
    · simp (disch := omega) only [sm_lt, sm_b1s, sm_b2s, ↓reduceIte, sm_in_nI, nI_clamp, nI_add, pk_mul, pk_sub, ne_addneg, nI_l, ne_ltT, ne_ltF, ne_leT, ne_leF, ne_eqT, ne_eqF, ne_sI1s, ne_sI1n, ne_sI2, ne_sI3, ne_sL1, ne_sL2s, ne_sL2n, ne_sL3, pk_us, pk_un, pk_uLs, pk_uLn, mm_Z, mm_L, mm_1, mm_2, mm_3, ne_rz0, ne_rz1, not_true_eq_false, not_false_eq_true, ne_i0, ne_i1, ne_i2, ne_i3, ne_i4, ne_i5, ne_i6, ne_i7, ne_i8, ne_i9, ne_i10, ne_i12, ne_i14, ne_i16, ne_i18, ne_i19, ne_i20, ne_i23, ne_i24, ne_i27, ne_i29, ne_i30, ne_i31, ne_i32, ne_i35, ne_i48, ne_i52, ne_i54, ne_i57, ne_i59, ne_i63, ne_i64, ne_i76, ne_i77, ne_i78, ne_i79, ne_i80, ne_i81, ne_i97, ne_i99, ne_i100, ne_i101, ne_i104, ne_i105, ne_i108, ne_i110, ne_i111, ne_i116, ne_i117, ne_i122, ne_i103, ne_i200, ne_i255, ne_i256, ne_i320, ne_i384, ne_i1000, ne_l0, ne_l1, ne_l2, ne_l3, ne_l4, ne_l5, ne_l8, ne_l12, ne_l31, ne_l48, ne_l57, ne_l97, ne_l99, ne_l122, ne_l255, ne_l673, ne_l1073741823, ne_l1073741824, ne_inT, t2, t3, xq_full, np_full]
      exact ⟨_, _, _, rfl, rfl, R_full hR⟩
end
