/-! who can have what when -/
theorem ne_clr {c k : Nat} (hc : c < 64) (hk : k < 6) : ∃ c', nI c &&& ((nI 1 <<< (nI k &&& nI 31)) ^^^ -nI 1) = nI c' ∧ c' < 64 ∧ ∀ j, j < 6 → c'.testBit j = (c.testBit j && !decide (k = j)) := by
  refine ⟨c &&& (63 ^^^ 2 ^ k), ?_, Nat.lt_of_le_of_lt Nat.and_le_left hc, fun j hj => ?_⟩
  · have e1 : nI 1 <<< (nI k &&& nI 31) = nI (2 ^ k) := by
      have : ∀ k, k < 6 → nI 1 <<< (nI k &&& nI 31) = nI (2 ^ k) := by decide
      exact this k hk
    rw [e1]
    apply Int32.toBitVec_inj.mp
    have bv : (nI c &&& (nI (2 ^ k) ^^^ -nI 1)).toBitVec = BitVec.ofNat 32 c &&& (BitVec.ofNat 32 (2 ^ k) ^^^ BitVec.allOnes 32) := by
      rw [← ne_m1]
      rfl
    rw [bv]
    show _ = BitVec.ofNat 32 (c &&& (63 ^^^ 2 ^ k))
    apply BitVec.eq_of_getLsbD_eq
    intro i hi
    rw [BitVec.getLsbD_and, BitVec.getLsbD_xor, BitVec.getLsbD_ofNat, BitVec.getLsbD_ofNat, BitVec.getLsbD_ofNat, BitVec.getLsbD_allOnes, decide_eq_true hi, Nat.testBit_and, Nat.testBit_xor]
    by_cases h6 : i < 6
    · have : Nat.testBit 63 i = true := by
        rw [show 63 = 2 ^ 6 - 1 from rfl, Nat.testBit_two_pow_sub_one]
        exact decide_eq_true h6
      rw [this]
      cases Nat.testBit c i <;> cases Nat.testBit (2 ^ k) i <;> rfl
    · have : Nat.testBit c i = false := Nat.testBit_lt_two_pow (Nat.lt_of_lt_of_le hc (Nat.pow_le_pow_right (show 0 < 2 by decide) (show 6 ≤ i by omega)))
      rw [this]
      simp
  · rw [Nat.testBit_and, Nat.testBit_xor, Nat.testBit_two_pow]
    have : Nat.testBit 63 j = true := by
      rw [show 63 = 2 ^ 6 - 1 from rfl, Nat.testBit_two_pow_sub_one]
      exact decide_eq_true hj
    rw [this]
    cases Nat.testBit c j <;> cases decide (k = j) <;> rfl
/-- bits by what they say -/
def bts (nb : Nat) (f : Nat → Bool) (c : Nat) : Prop := c < 64 ∧ ∀ j, j < 6 → c.testBit j = (decide (j < nb) && f j)
theorem bts_eq {nb : Nat} {f g : Nat → Bool} {c d : Nat} (h : bts nb f c) (h' : bts nb g d) (e : ∀ j, j < nb → f j = g j) : c = d := by
  apply Nat.eq_of_testBit_eq
  intro j
  by_cases h6 : j < 6
  · rw [h.2 j h6, h'.2 j h6]
    by_cases hj : j < nb
    · rw [e j hj]
    · rw [decide_eq_false hj]; rfl
  · have z : ∀ c, c < 64 → Nat.testBit c j = false := fun c hc => Nat.testBit_lt_two_pow (Nat.lt_of_lt_of_le hc (Nat.pow_le_pow_right (show 0 < 2 by decide) (show 6 ≤ j by omega)))
    rw [z c h.1, z d h'.1]
theorem bts_ex {nb : Nat} {f g : Nat → Bool} {c : Nat} (h : bts nb f c) (e : ∀ j, j < nb → f j = g j) : bts nb g c := ⟨h.1, fun j hj => by
  rw [h.2 j hj]
  by_cases q : j < nb
  · rw [e j q]
  · rw [decide_eq_false q]; rfl⟩
theorem bts_clr {nb k : Nat} {f : Nat → Bool} {c : Nat} (h : bts nb f c) (hk : k < 6) : ∃ c', nI c &&& ((nI 1 <<< (nI k &&& nI 31)) ^^^ -nI 1) = nI c' ∧ bts nb (fun j => f j && !decide (k = j)) c' := by
  obtain ⟨c', e, h1, h2⟩ := ne_clr h.1 hk
  refine ⟨c', e, h1, fun j hj => ?_⟩
  rw [h2 j hj, h.2 j hj, Bool.and_assoc]
/-- wanted in that night -/
def sp_wt (a : Nat → Nat) (n k : Nat) : Bool := decide (a (52 + 4 * k + 1) ≤ n ∧ n ≤ a (52 + 4 * k + 2))
def sp_is (a : Nat → Nat) (k : Nat) : Bool := decide (a (52 + 4 * k) < a 76)
/-- shades w serve the borrower k -/
def sp_sv (a w : Nat → Nat) (k : Nat) : Bool := decide (w 4 * a (52 + 4 * k + 3) ≤ w (a (52 + 4 * k)))
def sp_W (a v : Nat → Nat) (n : Nat) : Nat → Nat := sp_ns a (at_ a) (ac_ a) (wn v) n
/-- content behind n nights, on the built side -/
def sp_cb (a v : Nat → Nat) : Nat → Nat → Bool
  | 0, _ => true
  | n + 1, k => sp_cb a v n k && !(sp_wt a n k && !(sp_is a k && sp_sv a (sp_W a v n) k))
/-- and on the reference's -/
def sp_mb (a v : Nat → Nat) : Nat → Nat → Bool
  | 0, k => sp_is a k
  | n + 1, k => sp_mb a v n k && !(sp_wt a n k && !sp_sv a (sp_W a v n) k)
theorem sp_mb_cb {a v : Nat → Nat} {k : Nat} (hi : sp_is a k = true) : ∀ n, sp_mb a v n k = sp_cb a v n k
  | 0 => hi
  | n + 1 => by rw [sp_mb, sp_cb, sp_mb_cb hi n, hi, Bool.true_and]
theorem sp_mb_no {a v : Nat → Nat} {k : Nat} (hi : sp_is a k = false) : ∀ n, sp_mb a v n k = false
  | 0 => hi
  | n + 1 => by rw [sp_mb, sp_mb_no hi n, Bool.false_and]
theorem sp_cb_no {a v : Nat → Nat} {k m : Nat} (hi : sp_is a k = false) (hm : sp_wt a m k = true) : ∀ n, m < n → sp_cb a v n k = false
  | 0, h => by omega
  | n + 1, h => by
    rw [sp_cb]
    by_cases q : n = m
    · subst q
      rw [hm, hi]
      simp
    · rw [sp_cb_no hi hm n (by omega), Bool.false_and]
theorem sp_13 {a v : Nat → Nat} {k : Nat} (h1 : a (52 + 4 * k + 1) ≤ a (52 + 4 * k + 2)) (h2 : a (52 + 4 * k + 2) ≤ 12) : sp_cb a v 13 k = sp_mb a v 13 k := by
  cases hi : sp_is a k with
  | true => exact (sp_mb_cb hi 13).symm
  | false =>
    rw [sp_mb_no hi 13]
    exact sp_cb_no hi (m := a (52 + 4 * k + 1)) (decide_eq_true ⟨Nat.le_refl _, h1⟩) 13 (by omega)
/-- the borrowers ahead of k have been looked at in this night -/
def sp_mid (f g : Nat → Bool) (k j : Nat) : Bool := if j < k then g j else f j
theorem sp_mid_0 {f g : Nat → Bool} {j : Nat} : sp_mid f g 0 j = f j := if_neg (by omega)
theorem sp_mid_n {f g : Nat → Bool} {n j : Nat} (h : j < n) : sp_mid f g n j = g j := if_pos h
theorem bts_mid {nb k c : Nat} {f g : Nat → Bool} (h : bts nb (sp_mid f g k) c) (e : f k = g k) : bts nb (sp_mid f g (k + 1)) c := bts_ex h (fun j _ => by
  unfold sp_mid
  by_cases q : j < k
  · rw [if_pos q, if_pos (by omega)]
  · rw [if_neg q]
    by_cases q2 : j = k
    · subst q2
      rw [if_pos (by omega)]; exact e
    · rw [if_neg (by omega)])
theorem bts_midc {nb k c : Nat} {f g : Nat → Bool} (h : bts nb (fun j => sp_mid f g k j && !decide (k = j)) c) (e : g k = false) : bts nb (sp_mid f g (k + 1)) c := bts_ex h (fun j _ => by
  unfold sp_mid
  by_cases q : j < k
  · rw [if_pos q, if_pos (by omega), decide_eq_false (by omega)]; simp
  · rw [if_neg q]
    by_cases q2 : j = k
    · subst q2
      rw [if_pos (by omega), e]; simp
    · rw [if_neg (by omega), decide_eq_false (by omega)]; simp)
section
variable {N : Nat} {X S : sm_St} {a b v ik tx : Nat → Nat} {len : Nat}
theorem ne_full : ∀ n, n < 7 → (nI 1 <<< (nI n &&& nI 31)) = nI (2 ^ n) ∧ nI (2 ^ n) - nI 1 = nI (2 ^ n - 1) := by decide
theorem bts_full : ∀ n, n < 7 → 2 ^ n - 1 < 64 ∧ ∀ j, j < 6 → (2 ^ n - 1).testBit j = decide (j < n) := by decide
theorem zs28 {k : Nat} (hk : k < 6) : (zx_sh (28 + k)).2 = 4 := by
  have : k = 0 ∨ k = 1 ∨ k = 2 ∨ k = 3 ∨ k = 4 ∨ k = 5 := by omega
  rcases this with rfl | rfl | rfl | rfl | rfl | rfl <;> rfl
/-- one borrower on the built side -/
theorem xq_serves {q k : Nat} {w : Nat → Nat} (hN : 4000 ≤ N) (hk4 : a 76 ≤ 4) (h9 : X.1 1 9 = nI (a 76)) (hk : k < 6) (h0 : X.1 (28 + k) 0 = nI (a (52 + 4 * k))) (h3 : X.1 (28 + k) 3 = nI (a (52 + 4 * k + 3))) (b0 : a (52 + 4 * k) ≤ 3) (b3 : a (52 + 4 * k + 3) ≤ 12) (hx : xsh X q (a 76) w) : px_L_serves N X q (28 + k) = some (nI (if (sp_is a k && sp_sv a w k) = true then 1 else 0), X) := by
  have hz := zs28 hk
  unfold px_L_serves
  by_cases hi : a (52 + 4 * k) < a 76
  · have e1 : sp_is a k = true := decide_eq_true hi
    have ec := xq_clT (N := N) h9 hi hk4
    have el := xsh_least (N := N) (t := a (52 + 4 * k + 3)) hN hx hk4 hi b3
    by_cases hs : w 4 * a (52 + 4 * k + 3) ≤ w (a (52 + 4 * k))
    · have e2 : sp_sv a w k = true := decide_eq_true hs
      rw [if_pos hs] at el
      rw [e1, e2]
      simp (disch := omega) only [sm_lt, sm_b1s, sm_b2s, ↓reduceIte, sm_in_nI, nI_clamp, nI_add, pk_mul, pk_sub, ne_addneg, nI_l, ne_ltT, ne_ltF, ne_leT, ne_leF, ne_eqT, ne_eqF, ne_sI1s, ne_sI1n, ne_sI2, ne_sI3, ne_sL1, ne_sL2s, ne_sL2n, ne_sL3, pk_us, pk_un, pk_uLs, pk_uLn, mm_Z, mm_L, mm_1, mm_2, mm_3, ne_rz0, ne_rz1, not_true_eq_false, not_false_eq_true, ne_i0, ne_i1, ne_i2, ne_i3, ne_i4, ne_i5, ne_i6, ne_i7, ne_i8, ne_i9, ne_i10, ne_i12, ne_i14, ne_i16, ne_i18, ne_i19, ne_i20, ne_i23, ne_i24, ne_i27, ne_i29, ne_i30, ne_i31, ne_i32, ne_i35, ne_i48, ne_i52, ne_i54, ne_i57, ne_i59, ne_i63, ne_i64, ne_i76, ne_i77, ne_i78, ne_i79, ne_i80, ne_i81, ne_i97, ne_i99, ne_i100, ne_i101, ne_i104, ne_i105, ne_i108, ne_i110, ne_i111, ne_i116, ne_i117, ne_i122, ne_i103, ne_i200, ne_i255, ne_i256, ne_i320, ne_i384, ne_i1000, ne_l0, ne_l1, ne_l2, ne_l3, ne_l4, ne_l5, ne_l8, ne_l12, ne_l31, ne_l48, ne_l57, ne_l97, ne_l99, ne_l122, ne_l255, ne_l673, ne_l1073741823, ne_l1073741824, hz, h0, ec, h3, el, Bool.and_self]
    · have e2 : sp_sv a w k = false := decide_eq_false hs
      rw [if_neg hs] at el
      rw [e1, e2]
      simp (disch := omega) only [sm_lt, sm_b1s, sm_b2s, ↓reduceIte, sm_in_nI, nI_clamp, nI_add, pk_mul, pk_sub, ne_addneg, nI_l, ne_ltT, ne_ltF, ne_leT, ne_leF, ne_eqT, ne_eqF, ne_sI1s, ne_sI1n, ne_sI2, ne_sI3, ne_sL1, ne_sL2s, ne_sL2n, ne_sL3, pk_us, pk_un, pk_uLs, pk_uLn, mm_Z, mm_L, mm_1, mm_2, mm_3, ne_rz0, ne_rz1, not_true_eq_false, not_false_eq_true, ne_i0, ne_i1, ne_i2, ne_i3, ne_i4, ne_i5, ne_i6, ne_i7, ne_i8, ne_i9, ne_i10, ne_i12, ne_i14, ne_i16, ne_i18, ne_i19, ne_i20, ne_i23, ne_i24, ne_i27, ne_i29, ne_i30, ne_i31, ne_i32, ne_i35, ne_i48, ne_i52, ne_i54, ne_i57, ne_i59, ne_i63, ne_i64, ne_i76, ne_i77, ne_i78, ne_i79, ne_i80, ne_i81, ne_i97, ne_i99, ne_i100, ne_i101, ne_i104, ne_i105, ne_i108, ne_i110, ne_i111, ne_i116, ne_i117, ne_i122, ne_i103, ne_i200, ne_i255, ne_i256, ne_i320, ne_i384, ne_i1000, ne_l0, ne_l1, ne_l2, ne_l3, ne_l4, ne_l5, ne_l8, ne_l12, ne_l31, ne_l48, ne_l57, ne_l97, ne_l99, ne_l122, ne_l255, ne_l673, ne_l1073741823, ne_l1073741824, hz, h0, ec, h3, el, Bool.and_false, Bool.false_eq_true]
  · have e1 : sp_is a k = false := decide_eq_false hi
    have ec := xq_clF (N := N) (v := nI (a (52 + 4 * k))) h9 (by rw [nI_toInt (by omega)]; omega) hk4
    rw [e1]
    simp (disch := omega) only [sm_lt, sm_b1s, sm_b2s, ↓reduceIte, sm_in_nI, nI_clamp, nI_add, pk_mul, pk_sub, ne_addneg, nI_l, ne_ltT, ne_ltF, ne_leT, ne_leF, ne_eqT, ne_eqF, ne_sI1s, ne_sI1n, ne_sI2, ne_sI3, ne_sL1, ne_sL2s, ne_sL2n, ne_sL3, pk_us, pk_un, pk_uLs, pk_uLn, mm_Z, mm_L, mm_1, mm_2, mm_3, ne_rz0, ne_rz1, not_true_eq_false, not_false_eq_true, ne_i0, ne_i1, ne_i2, ne_i3, ne_i4, ne_i5, ne_i6, ne_i7, ne_i8, ne_i9, ne_i10, ne_i12, ne_i14, ne_i16, ne_i18, ne_i19, ne_i20, ne_i23, ne_i24, ne_i27, ne_i29, ne_i30, ne_i31, ne_i32, ne_i35, ne_i48, ne_i52, ne_i54, ne_i57, ne_i59, ne_i63, ne_i64, ne_i76, ne_i77, ne_i78, ne_i79, ne_i80, ne_i81, ne_i97, ne_i99, ne_i100, ne_i101, ne_i104, ne_i105, ne_i108, ne_i110, ne_i111, ne_i116, ne_i117, ne_i122, ne_i103, ne_i200, ne_i255, ne_i256, ne_i320, ne_i384, ne_i1000, ne_l0, ne_l1, ne_l2, ne_l3, ne_l4, ne_l5, ne_l8, ne_l12, ne_l31, ne_l48, ne_l57, ne_l97, ne_l99, ne_l122, ne_l255, ne_l673, ne_l1073741823, ne_l1073741824, hz, h0, ec, Bool.false_and, Bool.false_eq_true]
/-- all borrowers in one night, on the built side -/
theorem xq_night_b {q n c : Nat} {r : Int32 → Nat → Int32 → sm_St → Option (Int32 × sm_St)} (hN : 4000 ≤ N) (ho : sp_ok a) (h9 : X.1 1 9 = nI (a 76)) (h13 : X.1 1 13 = nI (a 80)) (hw : ∀ k f, k < a 80 → f < 4 → X.1 (28 + k) f = nI (a (52 + 4 * k + f))) (hn : n ≤ 12) (hx : xsh X q (a 76) (sp_W a v n)) (hc : bts (a 80) (sp_cb a v n) c) : ∃ c', px_L_contentBorrowers_b67 N r (nI c) q (nI n) X = r (nI c') q (nI (n + 1)) X ∧ bts (a 80) (sp_cb a v (n + 1)) c' := by
  obtain ⟨o1, o2, o3, o4, o5, o6, o7, o8, o9, o10⟩ := ho
  unfold px_L_contentBorrowers_b67
  simp (disch := omega) only [sm_lt, sm_b1s, sm_b2s, ↓reduceIte, sm_in_nI, nI_clamp, nI_add, pk_mul, pk_sub, ne_addneg, nI_l, ne_ltT, ne_ltF, ne_leT, ne_leF, ne_eqT, ne_eqF, ne_sI1s, ne_sI1n, ne_sI2, ne_sI3, ne_sL1, ne_sL2s, ne_sL2n, ne_sL3, pk_us, pk_un, pk_uLs, pk_uLn, mm_Z, mm_L, mm_1, mm_2, mm_3, ne_rz0, ne_rz1, not_true_eq_false, not_false_eq_true, ne_i0, ne_i1, ne_i2, ne_i3, ne_i4, ne_i5, ne_i6, ne_i7, ne_i8, ne_i9, ne_i10, ne_i12, ne_i14, ne_i16, ne_i18, ne_i19, ne_i20, ne_i23, ne_i24, ne_i27, ne_i29, ne_i30, ne_i31, ne_i32, ne_i35, ne_i48, ne_i52, ne_i54, ne_i57, ne_i59, ne_i63, ne_i64, ne_i76, ne_i77, ne_i78, ne_i79, ne_i80, ne_i81, ne_i97, ne_i99, ne_i100, ne_i101, ne_i104, ne_i105, ne_i108, ne_i110, ne_i111, ne_i116, ne_i117, ne_i122, ne_i103, ne_i200, ne_i255, ne_i256, ne_i320, ne_i384, ne_i1000, ne_l0, ne_l1, ne_l2, ne_l3, ne_l4, ne_l5, ne_l8, ne_l12, ne_l31, ne_l48, ne_l57, ne_l97, ne_l99, ne_l122, ne_l255, ne_l673, ne_l1073741823, ne_l1073741824]
  refine ne_loop (fun f k (c : Nat) => px_L_contentBorrowers_b70 N r f (nI c) q (nI n) (nI k) X) (fun k c => bts (a 80) (sp_mid (sp_cb a v n) (sp_cb a v (n + 1)) k) c) (a 80) (fun o => ∃ c', o = r (nI c') q (nI (n + 1)) X ∧ bts (a 80) (sp_cb a v (n + 1)) c') ?_ ?_ N 0 c (by omega) (by omega) (bts_ex hc (fun j _ => sp_mid_0.symm))
  · intro f k c hk hI
    left
    obtain ⟨b0, b1, b2, b3, b4⟩ := o10 k hk
    have w0 := hw k 0 hk (by decide)
    have w1 := hw k 1 hk (by decide)
    have w2 := hw k 2 hk (by decide)
    have w3 := hw k 3 hk (by decide)
    have es := xq_serves (N := N) (k := k) hN o1 h9 (by omega) w0 w3 b0 b3 hx
    show ∃ c', _ ∧ px_L_contentBorrowers_b70 N r (f + 1) _ _ _ _ _ = px_L_contentBorrowers_b70 N r f _ _ _ _ _
    rw [px_L_contentBorrowers_b70]
    unfold px_L_contentBorrowers_b114 px_L_contentBorrowers_b115 px_L_contentBorrowers_b141
    by_cases hwt : a (52 + 4 * k + 1) ≤ n ∧ n ≤ a (52 + 4 * k + 2)
    · have e1 : sp_wt a n k = true := decide_eq_true hwt
      by_cases hsv : (sp_is a k && sp_sv a (sp_W a v n) k) = true
      · rw [if_pos hsv] at es
        refine ⟨c, bts_mid hI (by rw [sp_cb, e1, hsv]; simp), ?_⟩
        simp (disch := omega) only [sm_lt, sm_b1s, sm_b2s, ↓reduceIte, sm_in_nI, nI_clamp, nI_add, pk_mul, pk_sub, ne_addneg, nI_l, ne_ltT, ne_ltF, ne_leT, ne_leF, ne_eqT, ne_eqF, ne_sI1s, ne_sI1n, ne_sI2, ne_sI3, ne_sL1, ne_sL2s, ne_sL2n, ne_sL3, pk_us, pk_un, pk_uLs, pk_uLn, mm_Z, mm_L, mm_1, mm_2, mm_3, ne_rz0, ne_rz1, not_true_eq_false, not_false_eq_true, ne_i0, ne_i1, ne_i2, ne_i3, ne_i4, ne_i5, ne_i6, ne_i7, ne_i8, ne_i9, ne_i10, ne_i12, ne_i14, ne_i16, ne_i18, ne_i19, ne_i20, ne_i23, ne_i24, ne_i27, ne_i29, ne_i30, ne_i31, ne_i32, ne_i35, ne_i48, ne_i52, ne_i54, ne_i57, ne_i59, ne_i63, ne_i64, ne_i76, ne_i77, ne_i78, ne_i79, ne_i80, ne_i81, ne_i97, ne_i99, ne_i100, ne_i101, ne_i104, ne_i105, ne_i108, ne_i110, ne_i111, ne_i116, ne_i117, ne_i122, ne_i103, ne_i200, ne_i255, ne_i256, ne_i320, ne_i384, ne_i1000, ne_l0, ne_l1, ne_l2, ne_l3, ne_l4, ne_l5, ne_l8, ne_l12, ne_l31, ne_l48, ne_l57, ne_l97, ne_l99, ne_l122, ne_l255, ne_l673, ne_l1073741823, ne_l1073741824, h13, w1, w2, es]
      · have hsv' : (sp_is a k && sp_sv a (sp_W a v n) k) = false := Bool.eq_false_iff.mpr hsv
        rw [if_neg hsv] at es
        obtain ⟨c', ec, hc'⟩ := bts_clr hI (show k < 6 by omega)
        refine ⟨c', bts_midc hc' (by rw [sp_cb, e1, hsv']; simp), ?_⟩
        simp (disch := omega) only [sm_lt, sm_b1s, sm_b2s, ↓reduceIte, sm_in_nI, nI_clamp, nI_add, pk_mul, pk_sub, ne_addneg, nI_l, ne_ltT, ne_ltF, ne_leT, ne_leF, ne_eqT, ne_eqF, ne_sI1s, ne_sI1n, ne_sI2, ne_sI3, ne_sL1, ne_sL2s, ne_sL2n, ne_sL3, pk_us, pk_un, pk_uLs, pk_uLn, mm_Z, mm_L, mm_1, mm_2, mm_3, ne_rz0, ne_rz1, not_true_eq_false, not_false_eq_true, ne_i0, ne_i1, ne_i2, ne_i3, ne_i4, ne_i5, ne_i6, ne_i7, ne_i8, ne_i9, ne_i10, ne_i12, ne_i14, ne_i16, ne_i18, ne_i19, ne_i20, ne_i23, ne_i24, ne_i27, ne_i29, ne_i30, ne_i31, ne_i32, ne_i35, ne_i48, ne_i52, ne_i54, ne_i57, ne_i59, ne_i63, ne_i64, ne_i76, ne_i77, ne_i78, ne_i79, ne_i80, ne_i81, ne_i97, ne_i99, ne_i100, ne_i101, ne_i104, ne_i105, ne_i108, ne_i110, ne_i111, ne_i116, ne_i117, ne_i122, ne_i103, ne_i200, ne_i255, ne_i256, ne_i320, ne_i384, ne_i1000, ne_l0, ne_l1, ne_l2, ne_l3, ne_l4, ne_l5, ne_l8, ne_l12, ne_l31, ne_l48, ne_l57, ne_l97, ne_l99, ne_l122, ne_l255, ne_l673, ne_l1073741823, ne_l1073741824, h13, w1, w2, es, ec]
    · have e1 : sp_wt a n k = false := decide_eq_false hwt
      refine ⟨c, bts_mid hI (by rw [sp_cb, e1]; simp), ?_⟩
      by_cases h1 : n < a (52 + 4 * k + 1)
      · simp (disch := omega) only [sm_lt, sm_b1s, sm_b2s, ↓reduceIte, sm_in_nI, nI_clamp, nI_add, pk_mul, pk_sub, ne_addneg, nI_l, ne_ltT, ne_ltF, ne_leT, ne_leF, ne_eqT, ne_eqF, ne_sI1s, ne_sI1n, ne_sI2, ne_sI3, ne_sL1, ne_sL2s, ne_sL2n, ne_sL3, pk_us, pk_un, pk_uLs, pk_uLn, mm_Z, mm_L, mm_1, mm_2, mm_3, ne_rz0, ne_rz1, not_true_eq_false, not_false_eq_true, ne_i0, ne_i1, ne_i2, ne_i3, ne_i4, ne_i5, ne_i6, ne_i7, ne_i8, ne_i9, ne_i10, ne_i12, ne_i14, ne_i16, ne_i18, ne_i19, ne_i20, ne_i23, ne_i24, ne_i27, ne_i29, ne_i30, ne_i31, ne_i32, ne_i35, ne_i48, ne_i52, ne_i54, ne_i57, ne_i59, ne_i63, ne_i64, ne_i76, ne_i77, ne_i78, ne_i79, ne_i80, ne_i81, ne_i97, ne_i99, ne_i100, ne_i101, ne_i104, ne_i105, ne_i108, ne_i110, ne_i111, ne_i116, ne_i117, ne_i122, ne_i103, ne_i200, ne_i255, ne_i256, ne_i320, ne_i384, ne_i1000, ne_l0, ne_l1, ne_l2, ne_l3, ne_l4, ne_l5, ne_l8, ne_l12, ne_l31, ne_l48, ne_l57, ne_l97, ne_l99, ne_l122, ne_l255, ne_l673, ne_l1073741823, ne_l1073741824, h13, w1, w2]
      · simp (disch := omega) only [sm_lt, sm_b1s, sm_b2s, ↓reduceIte, sm_in_nI, nI_clamp, nI_add, pk_mul, pk_sub, ne_addneg, nI_l, ne_ltT, ne_ltF, ne_leT, ne_leF, ne_eqT, ne_eqF, ne_sI1s, ne_sI1n, ne_sI2, ne_sI3, ne_sL1, ne_sL2s, ne_sL2n, ne_sL3, pk_us, pk_un, pk_uLs, pk_uLn, mm_Z, mm_L, mm_1, mm_2, mm_3, ne_rz0, ne_rz1, not_true_eq_false, not_false_eq_true, ne_i0, ne_i1, ne_i2, ne_i3, ne_i4, ne_i5, ne_i6, ne_i7, ne_i8, ne_i9, ne_i10, ne_i12, ne_i14, ne_i16, ne_i18, ne_i19, ne_i20, ne_i23, ne_i24, ne_i27, ne_i29, ne_i30, ne_i31, ne_i32, ne_i35, ne_i48, ne_i52, ne_i54, ne_i57, ne_i59, ne_i63, ne_i64, ne_i76, ne_i77, ne_i78, ne_i79, ne_i80, ne_i81, ne_i97, ne_i99, ne_i100, ne_i101, ne_i104, ne_i105, ne_i108, ne_i110, ne_i111, ne_i116, ne_i117, ne_i122, ne_i103, ne_i200, ne_i255, ne_i256, ne_i320, ne_i384, ne_i1000, ne_l0, ne_l1, ne_l2, ne_l3, ne_l4, ne_l5, ne_l8, ne_l12, ne_l31, ne_l48, ne_l57, ne_l97, ne_l99, ne_l122, ne_l255, ne_l673, ne_l1073741823, ne_l1073741824, h13, w1, w2]
  · intro f c hI
    show ∃ c', px_L_contentBorrowers_b70 N r (f + 1) _ _ _ _ _ = _ ∧ _
    rw [px_L_contentBorrowers_b70]
    simp (disch := omega) only [sm_lt, sm_b1s, sm_b2s, ↓reduceIte, sm_in_nI, nI_clamp, nI_add, pk_mul, pk_sub, ne_addneg, nI_l, ne_ltT, ne_ltF, ne_leT, ne_leF, ne_eqT, ne_eqF, ne_sI1s, ne_sI1n, ne_sI2, ne_sI3, ne_sL1, ne_sL2s, ne_sL2n, ne_sL3, pk_us, pk_un, pk_uLs, pk_uLn, mm_Z, mm_L, mm_1, mm_2, mm_3, ne_rz0, ne_rz1, not_true_eq_false, not_false_eq_true, ne_i0, ne_i1, ne_i2, ne_i3, ne_i4, ne_i5, ne_i6, ne_i7, ne_i8, ne_i9, ne_i10, ne_i12, ne_i14, ne_i16, ne_i18, ne_i19, ne_i20, ne_i23, ne_i24, ne_i27, ne_i29, ne_i30, ne_i31, ne_i32, ne_i35, ne_i48, ne_i52, ne_i54, ne_i57, ne_i59, ne_i63, ne_i64, ne_i76, ne_i77, ne_i78, ne_i79, ne_i80, ne_i81, ne_i97, ne_i99, ne_i100, ne_i101, ne_i104, ne_i105, ne_i108, ne_i110, ne_i111, ne_i116, ne_i117, ne_i122, ne_i103, ne_i200, ne_i255, ne_i256, ne_i320, ne_i384, ne_i1000, ne_l0, ne_l1, ne_l2, ne_l3, ne_l4, ne_l5, ne_l8, ne_l12, ne_l31, ne_l48, ne_l57, ne_l97, ne_l99, ne_l122, ne_l255, ne_l673, ne_l1073741823, ne_l1073741824, h13]
    exact ⟨c, rfl, bts_ex hI (fun j hj => sp_mid_n hj)⟩
theorem RR_wi (h : RR X S a b v ik tx len) : X.1 1 13 = nI (a 80) ∧ ∀ k f, k < a 80 → f < 4 → X.1 (28 + k) f = nI (a (52 + 4 * k + f)) := ⟨(RR_hs h).1.2.2.2.2, fun k f hk hf => by
  have := (RR_hs h).2.2.2.2.2.1 k f hk hf
  rwa [show 1 + 27 + k = 28 + k by omega] at this⟩
/-- who is content, on the built side -/
theorem xq_content (hN : 4000 ≤ N) (h : RR X S a b v ik tx len) : ∃ c X', px_L_contentBorrowers N X = some (nI c, X') ∧ bts (a 80) (sp_cb a v 13) c ∧ (∀ p, p < 110 ∨ 126 ≤ p → X'.1 p = X.1 p) ∧ X'.2.2 = X.2.2 := by
  have hok := RR_ok h
  obtain ⟨o1, o2, o3, o4, o5, o6, o7, o8, o9, o10⟩ := hok
  have hs := RR_sc h
  have hwv := RR_wv h
  obtain ⟨q1, q2⟩ := RR_cl h
  obtain ⟨u13, uw⟩ := RR_wi h
  obtain ⟨⟨X1, e1, x1, x2, x3, x4⟩, _⟩ := RR_begin (N := N) hN h
  have f1 := (ne_full (a 80) (by omega))
  have f2 := bts_full (a 80) (by omega)
  have x13 : X1.1 1 13 = nI (a 80) := by rw [x3 1 (by decide)]; exact u13
  unfold px_L_contentBorrowers
  simp (disch := omega) only [sm_lt, sm_b1s, sm_b2s, ↓reduceIte, sm_in_nI, nI_clamp, nI_add, pk_mul, pk_sub, ne_addneg, nI_l, ne_ltT, ne_ltF, ne_leT, ne_leF, ne_eqT, ne_eqF, ne_sI1s, ne_sI1n, ne_sI2, ne_sI3, ne_sL1, ne_sL2s, ne_sL2n, ne_sL3, pk_us, pk_un, pk_uLs, pk_uLn, mm_Z, mm_L, mm_1, mm_2, mm_3, ne_rz0, ne_rz1, not_true_eq_false, not_false_eq_true, ne_i0, ne_i1, ne_i2, ne_i3, ne_i4, ne_i5, ne_i6, ne_i7, ne_i8, ne_i9, ne_i10, ne_i12, ne_i14, ne_i16, ne_i18, ne_i19, ne_i20, ne_i23, ne_i24, ne_i27, ne_i29, ne_i30, ne_i31, ne_i32, ne_i35, ne_i48, ne_i52, ne_i54, ne_i57, ne_i59, ne_i63, ne_i64, ne_i76, ne_i77, ne_i78, ne_i79, ne_i80, ne_i81, ne_i97, ne_i99, ne_i100, ne_i101, ne_i104, ne_i105, ne_i108, ne_i110, ne_i111, ne_i116, ne_i117, ne_i122, ne_i103, ne_i200, ne_i255, ne_i256, ne_i320, ne_i384, ne_i1000, ne_l0, ne_l1, ne_l2, ne_l3, ne_l4, ne_l5, ne_l8, ne_l12, ne_l31, ne_l48, ne_l57, ne_l97, ne_l99, ne_l122, ne_l255, ne_l673, ne_l1073741823, ne_l1073741824, e1, x13, f1.1, f1.2]
  refine ne_loop (fun f n (s : Nat × Nat × sm_St) => px_L_contentBorrowers_b47 N f (nI s.1) s.2.1 (nI n) s.2.2) (fun n s => bts (a 80) (sp_cb a v n) s.1 ∧ xsh s.2.2 s.2.1 (a 76) (sp_W a v (n - 1)) ∧ xq s.2.1 ∧ (∀ p, p < 122 ∨ 126 ≤ p → s.2.2.1 p = X1.1 p) ∧ s.2.2.2.2 = X.2.2) 13 (fun r => ∃ c X', r = some (nI c, X') ∧ bts (a 80) (sp_cb a v 13) c ∧ (∀ p, p < 110 ∨ 126 ≤ p → X'.1 p = X.1 p) ∧ X'.2.2 = X.2.2) ?_ ?_ N 0 (2 ^ a 80 - 1, 12, X1) (by omega) (by omega) ⟨⟨f2.1, fun j hj => by rw [f2.2 j hj]; simp [sp_cb]⟩, x2, Or.inl rfl, fun _ _ => rfl, by rw [x4]⟩
  · rintro f n ⟨c, q, s⟩ hn ⟨i0, i1, i2, i3, i4⟩
    simp only at i0 i1 i2 i3 i4
    left
    have ts : xt s a (at_ a) (ac_ a) := xt_fr hs x1 (fun p h1 h2 => i3 p (by omega))
    show ∃ s', _ ∧ px_L_contentBorrowers_b47 N (f + 1) _ _ _ _ = px_L_contentBorrowers_b47 N f _ _ _ _
    have step : ∃ q' s2, px_L_contentBorrowers_b47 N (f + 1) (nI c) q (nI n) s = px_L_contentBorrowers_b67 N (px_L_contentBorrowers_b47 N f) (nI c) q' (nI n) s2 ∧ xsh s2 q' (a 76) (sp_W a v n) ∧ xq q' ∧ (∀ p, p < 122 ∨ 126 ≤ p → s2.1 p = X1.1 p) ∧ s2.2.2 = X.2.2 := by
      by_cases h0 : n = 0
      · subst h0
        refine ⟨q, s, ?_, i1, i2, i3, i4⟩
        rw [px_L_contentBorrowers_b47]
        simp (disch := omega) only [sm_lt, sm_b1s, sm_b2s, ↓reduceIte, sm_in_nI, nI_clamp, nI_add, pk_mul, pk_sub, ne_addneg, nI_l, ne_ltT, ne_ltF, ne_leT, ne_leF, ne_eqT, ne_eqF, ne_sI1s, ne_sI1n, ne_sI2, ne_sI3, ne_sL1, ne_sL2s, ne_sL2n, ne_sL3, pk_us, pk_un, pk_uLs, pk_uLn, mm_Z, mm_L, mm_1, mm_2, mm_3, ne_rz0, ne_rz1, not_true_eq_false, not_false_eq_true, ne_i0, ne_i1, ne_i2, ne_i3, ne_i4, ne_i5, ne_i6, ne_i7, ne_i8, ne_i9, ne_i10, ne_i12, ne_i14, ne_i16, ne_i18, ne_i19, ne_i20, ne_i23, ne_i24, ne_i27, ne_i29, ne_i30, ne_i31, ne_i32, ne_i35, ne_i48, ne_i52, ne_i54, ne_i57, ne_i59, ne_i63, ne_i64, ne_i76, ne_i77, ne_i78, ne_i79, ne_i80, ne_i81, ne_i97, ne_i99, ne_i100, ne_i101, ne_i104, ne_i105, ne_i108, ne_i110, ne_i111, ne_i116, ne_i117, ne_i122, ne_i103, ne_i200, ne_i255, ne_i256, ne_i320, ne_i384, ne_i1000, ne_l0, ne_l1, ne_l2, ne_l3, ne_l4, ne_l5, ne_l8, ne_l12, ne_l31, ne_l48, ne_l57, ne_l97, ne_l99, ne_l122, ne_l255, ne_l673, ne_l1073741823, ne_l1073741824]
      · obtain ⟨q', s2, e3, y1, y2, y3, y4⟩ := xq_behind (N := N) (n := 1) (m := 12 + (n - 1)) hN hs ts i1 (sp_ns_w hs hwv.1 _) (Nat.le_trans (sp_ns_4 hs hwv.2.2.2 (n - 1)) (Nat.pow_le_pow_right (by decide) (by omega))) (by omega) i2
        unfold sp_W at y1
        rw [sp_ns_1, show n - 1 + 1 = n by omega] at y1
        refine ⟨q', s2, ?_, y1, y2, fun p hp => by rw [y3 p hp]; exact i3 p hp, by rw [y4]; exact i4⟩
        rw [px_L_contentBorrowers_b47]
        simp (disch := omega) only [sm_lt, sm_b1s, sm_b2s, ↓reduceIte, sm_in_nI, nI_clamp, nI_add, pk_mul, pk_sub, ne_addneg, nI_l, ne_ltT, ne_ltF, ne_leT, ne_leF, ne_eqT, ne_eqF, ne_sI1s, ne_sI1n, ne_sI2, ne_sI3, ne_sL1, ne_sL2s, ne_sL2n, ne_sL3, pk_us, pk_un, pk_uLs, pk_uLn, mm_Z, mm_L, mm_1, mm_2, mm_3, ne_rz0, ne_rz1, not_true_eq_false, not_false_eq_true, ne_i0, ne_i1, ne_i2, ne_i3, ne_i4, ne_i5, ne_i6, ne_i7, ne_i8, ne_i9, ne_i10, ne_i12, ne_i14, ne_i16, ne_i18, ne_i19, ne_i20, ne_i23, ne_i24, ne_i27, ne_i29, ne_i30, ne_i31, ne_i32, ne_i35, ne_i48, ne_i52, ne_i54, ne_i57, ne_i59, ne_i63, ne_i64, ne_i76, ne_i77, ne_i78, ne_i79, ne_i80, ne_i81, ne_i97, ne_i99, ne_i100, ne_i101, ne_i104, ne_i105, ne_i108, ne_i110, ne_i111, ne_i116, ne_i117, ne_i122, ne_i103, ne_i200, ne_i255, ne_i256, ne_i320, ne_i384, ne_i1000, ne_l0, ne_l1, ne_l2, ne_l3, ne_l4, ne_l5, ne_l8, ne_l12, ne_l31, ne_l48, ne_l57, ne_l97, ne_l99, ne_l122, ne_l255, ne_l673, ne_l1073741823, ne_l1073741824, e3, xq_16 y2]
    obtain ⟨q', s2, e3, y1, y2, y3, y4⟩ := step
    have fr : ∀ p, p < 110 → s2.1 p = X.1 p := fun p hp => by rw [y3 p (by omega), x3 p (by omega)]
    obtain ⟨c', e4, hc'⟩ := xq_night_b (X := s2) (N := N) (r := px_L_contentBorrowers_b47 N f) hN (RR_ok h) (by rw [fr 1 (by decide)]; exact q1) (by rw [fr 1 (by decide)]; exact u13) (fun k f hk hf => by rw [fr _ (by omega)]; exact uw k f hk hf) (show n ≤ 12 by omega) y1 i0
    exact ⟨(c', q', s2), ⟨hc', by rw [show n + 1 - 1 = n by omega]; exact y1, y2, y3, y4⟩, by rw [e3, e4]⟩
  · rintro f ⟨c, q, s⟩ ⟨i0, i1, i2, i3, i4⟩
    simp only at i0 i1 i2 i3 i4
    show ∃ c' X', px_L_contentBorrowers_b47 N (f + 1) _ _ _ _ = _ ∧ _
    rw [px_L_contentBorrowers_b47]
    simp (disch := omega) only [sm_lt, sm_b1s, sm_b2s, ↓reduceIte, sm_in_nI, nI_clamp, nI_add, pk_mul, pk_sub, ne_addneg, nI_l, ne_ltT, ne_ltF, ne_leT, ne_leF, ne_eqT, ne_eqF, ne_sI1s, ne_sI1n, ne_sI2, ne_sI3, ne_sL1, ne_sL2s, ne_sL2n, ne_sL3, pk_us, pk_un, pk_uLs, pk_uLn, mm_Z, mm_L, mm_1, mm_2, mm_3, ne_rz0, ne_rz1, not_true_eq_false, not_false_eq_true, ne_i0, ne_i1, ne_i2, ne_i3, ne_i4, ne_i5, ne_i6, ne_i7, ne_i8, ne_i9, ne_i10, ne_i12, ne_i14, ne_i16, ne_i18, ne_i19, ne_i20, ne_i23, ne_i24, ne_i27, ne_i29, ne_i30, ne_i31, ne_i32, ne_i35, ne_i48, ne_i52, ne_i54, ne_i57, ne_i59, ne_i63, ne_i64, ne_i76, ne_i77, ne_i78, ne_i79, ne_i80, ne_i81, ne_i97, ne_i99, ne_i100, ne_i101, ne_i104, ne_i105, ne_i108, ne_i110, ne_i111, ne_i116, ne_i117, ne_i122, ne_i103, ne_i200, ne_i255, ne_i256, ne_i320, ne_i384, ne_i1000, ne_l0, ne_l1, ne_l2, ne_l3, ne_l4, ne_l5, ne_l8, ne_l12, ne_l31, ne_l48, ne_l57, ne_l97, ne_l99, ne_l122, ne_l255, ne_l673, ne_l1073741823, ne_l1073741824]
    exact ⟨c, s, rfl, i0, fun p hp => by rw [i3 p (by omega), x3 p (by omega)], i4⟩
theorem np_borrows {k f : Nat} (hw : nw a S) (hk : k < 6) (hf : f < 4) : pm_borrows N S (nI k) (nI f) = some (nI (a (52 + 4 * k + f)), S) := by
  unfold pm_borrows
  simp (disch := omega) only [sm_lt, sm_b1s, sm_b2s, ↓reduceIte, sm_in_nI, nI_clamp, nI_add, pk_mul, pk_sub, ne_addneg, nI_l, ne_ltT, ne_ltF, ne_leT, ne_leF, ne_eqT, ne_eqF, ne_sI1s, ne_sI1n, ne_sI2, ne_sI3, ne_sL1, ne_sL2s, ne_sL2n, ne_sL3, pk_us, pk_un, pk_uLs, pk_uLn, mm_Z, mm_L, mm_1, mm_2, mm_3, ne_rz0, ne_rz1, not_true_eq_false, not_false_eq_true, ne_i0, ne_i1, ne_i2, ne_i3, ne_i4, ne_i5, ne_i6, ne_i7, ne_i8, ne_i9, ne_i10, ne_i12, ne_i14, ne_i16, ne_i18, ne_i19, ne_i20, ne_i23, ne_i24, ne_i27, ne_i29, ne_i30, ne_i31, ne_i32, ne_i35, ne_i48, ne_i52, ne_i54, ne_i57, ne_i59, ne_i63, ne_i64, ne_i76, ne_i77, ne_i78, ne_i79, ne_i80, ne_i81, ne_i97, ne_i99, ne_i100, ne_i101, ne_i104, ne_i105, ne_i108, ne_i110, ne_i111, ne_i116, ne_i117, ne_i122, ne_i103, ne_i200, ne_i255, ne_i256, ne_i320, ne_i384, ne_i1000, ne_l0, ne_l1, ne_l2, ne_l3, ne_l4, ne_l5, ne_l8, ne_l12, ne_l31, ne_l48, ne_l57, ne_l97, ne_l99, ne_l122, ne_l255, ne_l673, ne_l1073741823, ne_l1073741824, hw]
/-- all borrowers in one night, on the reference's side -/
theorem np_night_b {n c : Nat} {w : Nat → Nat} {M : sm_St} {r : Int32 → Int32 → sm_St → Option (Int32 × sm_St)} (hN : 4000 ≤ N) (ho : sp_ok a) (hw : nw a M) (hW : nW M v w S) (hb : w 4 < 2 ^ 1000) (hn : n ≤ 12) (e : w = sp_W a v n) (hc : bts (a 80) (sp_mb a v n) c) : ∃ c' S', pm_findServed_b58 N r N (nI c) (nI n) (nI 0) S = sm_b1 (pm_night N S') (fun S_12 => r (nI c') (nI (n + 1)) S_12) ∧ bts (a 80) (sp_mb a v (n + 1)) c' ∧ nW M v w S' := by
  obtain ⟨o1, o2, o3, o4, o5, o6, o7, o8, o9, o10⟩ := ho
  refine ne_loop (fun f k (s : Nat × sm_St) => pm_findServed_b58 N r f (nI s.1) (nI n) (nI k) s.2) (fun k s => bts (a 80) (sp_mid (sp_mb a v n) (sp_mb a v (n + 1)) k) s.1 ∧ nW M v w s.2) (a 80) (fun o => ∃ c' S', o = sm_b1 (pm_night N S') (fun S_12 => r (nI c') (nI (n + 1)) S_12) ∧ bts (a 80) (sp_mb a v (n + 1)) c' ∧ nW M v w S') ?_ ?_ N 0 (c, S) (by omega) (by omega) ⟨bts_ex hc (fun j _ => sp_mid_0.symm), hW⟩
  · rintro f k ⟨c, s⟩ hk ⟨hI, hW⟩
    simp only at hI hW
    left
    obtain ⟨b0, b1, b2, b3, b4⟩ := o10 k hk
    have nws := nW_nw hW hw
    have w80 : s.1 1 80 = nI (a 80) := nws 80 (by decide)
    have ebit := ne_bit (s := c) (x := k) (by have := hI.1; omega) (by omega)
    have cb : c.testBit k = sp_mb a v n k := by
      rw [hI.2 k (by omega), decide_eq_true hk, Bool.true_and]
      exact if_neg (by omega)
    rw [cb] at ebit
    have w1 := np_borrows (N := N) (f := 1) nws (show k < 6 by omega) (by decide)
    have w2 := np_borrows (N := N) (f := 2) nws (show k < 6 by omega) (by decide)
    have w0 := np_borrows (N := N) (f := 0) nws (show k < 6 by omega) (by decide)
    have w3 := np_borrows (N := N) (f := 3) nws (show k < 6 by omega) (by decide)
    rw [Nat.add_zero] at w0
    show ∃ s', _ ∧ pm_findServed_b58 N r (f + 1) _ _ _ _ = pm_findServed_b58 N r f _ _ _ _
    rw [pm_findServed_b58]
    unfold pm_findServed_b104 pm_findServed_b105 pm_findServed_b139
    by_cases hmb : sp_mb a v n k = true
    · rw [if_pos hmb] at ebit
      by_cases hwt : a (52 + 4 * k + 1) ≤ n ∧ n ≤ a (52 + 4 * k + 2)
      · have e1 : sp_wt a n k = true := decide_eq_true hwt
        obtain ⟨S', el, hS'⟩ := nW_least (N := N) (c := a (52 + 4 * k)) (p := a (52 + 4 * k + 3)) hN hW (by omega) b3 hb
        by_cases hsv : w 4 * a (52 + 4 * k + 3) ≤ w (a (52 + 4 * k))
        · have e2 : sp_sv a (sp_W a v n) k = true := by rw [← e]; exact decide_eq_true hsv
          rw [if_pos hsv] at el
          refine ⟨(c, S'), ⟨bts_mid hI (by rw [sp_mb, e1, e2]; simp), hS'⟩, ?_⟩
          simp (disch := omega) only [sm_lt, sm_b1s, sm_b2s, ↓reduceIte, sm_in_nI, nI_clamp, nI_add, pk_mul, pk_sub, ne_addneg, nI_l, ne_ltT, ne_ltF, ne_leT, ne_leF, ne_eqT, ne_eqF, ne_sI1s, ne_sI1n, ne_sI2, ne_sI3, ne_sL1, ne_sL2s, ne_sL2n, ne_sL3, pk_us, pk_un, pk_uLs, pk_uLn, mm_Z, mm_L, mm_1, mm_2, mm_3, ne_rz0, ne_rz1, not_true_eq_false, not_false_eq_true, ne_i0, ne_i1, ne_i2, ne_i3, ne_i4, ne_i5, ne_i6, ne_i7, ne_i8, ne_i9, ne_i10, ne_i12, ne_i14, ne_i16, ne_i18, ne_i19, ne_i20, ne_i23, ne_i24, ne_i27, ne_i29, ne_i30, ne_i31, ne_i32, ne_i35, ne_i48, ne_i52, ne_i54, ne_i57, ne_i59, ne_i63, ne_i64, ne_i76, ne_i77, ne_i78, ne_i79, ne_i80, ne_i81, ne_i97, ne_i99, ne_i100, ne_i101, ne_i104, ne_i105, ne_i108, ne_i110, ne_i111, ne_i116, ne_i117, ne_i122, ne_i103, ne_i200, ne_i255, ne_i256, ne_i320, ne_i384, ne_i1000, ne_l0, ne_l1, ne_l2, ne_l3, ne_l4, ne_l5, ne_l8, ne_l12, ne_l31, ne_l48, ne_l57, ne_l97, ne_l99, ne_l122, ne_l255, ne_l673, ne_l1073741823, ne_l1073741824, w80, ebit, w1, w2, ne_inT, w0, w3, el]
        · have e2 : sp_sv a (sp_W a v n) k = false := by rw [← e]; exact decide_eq_false hsv
          rw [if_neg hsv] at el
          obtain ⟨c', ec, hc'⟩ := bts_clr hI (show k < 6 by omega)
          refine ⟨(c', S'), ⟨bts_midc hc' (by rw [sp_mb, e1, e2]; simp), hS'⟩, ?_⟩
          simp (disch := omega) only [sm_lt, sm_b1s, sm_b2s, ↓reduceIte, sm_in_nI, nI_clamp, nI_add, pk_mul, pk_sub, ne_addneg, nI_l, ne_ltT, ne_ltF, ne_leT, ne_leF, ne_eqT, ne_eqF, ne_sI1s, ne_sI1n, ne_sI2, ne_sI3, ne_sL1, ne_sL2s, ne_sL2n, ne_sL3, pk_us, pk_un, pk_uLs, pk_uLn, mm_Z, mm_L, mm_1, mm_2, mm_3, ne_rz0, ne_rz1, not_true_eq_false, not_false_eq_true, ne_i0, ne_i1, ne_i2, ne_i3, ne_i4, ne_i5, ne_i6, ne_i7, ne_i8, ne_i9, ne_i10, ne_i12, ne_i14, ne_i16, ne_i18, ne_i19, ne_i20, ne_i23, ne_i24, ne_i27, ne_i29, ne_i30, ne_i31, ne_i32, ne_i35, ne_i48, ne_i52, ne_i54, ne_i57, ne_i59, ne_i63, ne_i64, ne_i76, ne_i77, ne_i78, ne_i79, ne_i80, ne_i81, ne_i97, ne_i99, ne_i100, ne_i101, ne_i104, ne_i105, ne_i108, ne_i110, ne_i111, ne_i116, ne_i117, ne_i122, ne_i103, ne_i200, ne_i255, ne_i256, ne_i320, ne_i384, ne_i1000, ne_l0, ne_l1, ne_l2, ne_l3, ne_l4, ne_l5, ne_l8, ne_l12, ne_l31, ne_l48, ne_l57, ne_l97, ne_l99, ne_l122, ne_l255, ne_l673, ne_l1073741823, ne_l1073741824, w80, ebit, w1, w2, ne_inT, w0, w3, el, ec]
      · have e1 : sp_wt a n k = false := decide_eq_false hwt
        refine ⟨(c, s), ⟨bts_mid hI (by rw [sp_mb, e1]; simp), hW⟩, ?_⟩
        simp (disch := omega) only [sm_lt, sm_b1s, sm_b2s, ↓reduceIte, sm_in_nI, nI_clamp, nI_add, pk_mul, pk_sub, ne_addneg, nI_l, ne_ltT, ne_ltF, ne_leT, ne_leF, ne_eqT, ne_eqF, ne_sI1s, ne_sI1n, ne_sI2, ne_sI3, ne_sL1, ne_sL2s, ne_sL2n, ne_sL3, pk_us, pk_un, pk_uLs, pk_uLn, mm_Z, mm_L, mm_1, mm_2, mm_3, ne_rz0, ne_rz1, not_true_eq_false, not_false_eq_true, ne_i0, ne_i1, ne_i2, ne_i3, ne_i4, ne_i5, ne_i6, ne_i7, ne_i8, ne_i9, ne_i10, ne_i12, ne_i14, ne_i16, ne_i18, ne_i19, ne_i20, ne_i23, ne_i24, ne_i27, ne_i29, ne_i30, ne_i31, ne_i32, ne_i35, ne_i48, ne_i52, ne_i54, ne_i57, ne_i59, ne_i63, ne_i64, ne_i76, ne_i77, ne_i78, ne_i79, ne_i80, ne_i81, ne_i97, ne_i99, ne_i100, ne_i101, ne_i104, ne_i105, ne_i108, ne_i110, ne_i111, ne_i116, ne_i117, ne_i122, ne_i103, ne_i200, ne_i255, ne_i256, ne_i320, ne_i384, ne_i1000, ne_l0, ne_l1, ne_l2, ne_l3, ne_l4, ne_l5, ne_l8, ne_l12, ne_l31, ne_l48, ne_l57, ne_l97, ne_l99, ne_l122, ne_l255, ne_l673, ne_l1073741823, ne_l1073741824, w80, ebit, w1, w2, ne_inF]
    · have hmb' : sp_mb a v n k = false := Bool.eq_false_iff.mpr hmb
      rw [if_neg hmb] at ebit
      refine ⟨(c, s), ⟨bts_mid hI (by rw [sp_mb, hmb']; rfl), hW⟩, ?_⟩
      simp (disch := omega) only [sm_lt, sm_b1s, sm_b2s, ↓reduceIte, sm_in_nI, nI_clamp, nI_add, pk_mul, pk_sub, ne_addneg, nI_l, ne_ltT, ne_ltF, ne_leT, ne_leF, ne_eqT, ne_eqF, ne_sI1s, ne_sI1n, ne_sI2, ne_sI3, ne_sL1, ne_sL2s, ne_sL2n, ne_sL3, pk_us, pk_un, pk_uLs, pk_uLn, mm_Z, mm_L, mm_1, mm_2, mm_3, ne_rz0, ne_rz1, not_true_eq_false, not_false_eq_true, ne_i0, ne_i1, ne_i2, ne_i3, ne_i4, ne_i5, ne_i6, ne_i7, ne_i8, ne_i9, ne_i10, ne_i12, ne_i14, ne_i16, ne_i18, ne_i19, ne_i20, ne_i23, ne_i24, ne_i27, ne_i29, ne_i30, ne_i31, ne_i32, ne_i35, ne_i48, ne_i52, ne_i54, ne_i57, ne_i59, ne_i63, ne_i64, ne_i76, ne_i77, ne_i78, ne_i79, ne_i80, ne_i81, ne_i97, ne_i99, ne_i100, ne_i101, ne_i104, ne_i105, ne_i108, ne_i110, ne_i111, ne_i116, ne_i117, ne_i122, ne_i103, ne_i200, ne_i255, ne_i256, ne_i320, ne_i384, ne_i1000, ne_l0, ne_l1, ne_l2, ne_l3, ne_l4, ne_l5, ne_l8, ne_l12, ne_l31, ne_l48, ne_l57, ne_l97, ne_l99, ne_l122, ne_l255, ne_l673, ne_l1073741823, ne_l1073741824, w80, ebit]
  · rintro f ⟨c, s⟩ ⟨hI, hW⟩
    simp only at hI hW
    have w80 : s.1 1 80 = nI (a 80) := nW_nw hW hw 80 (by decide)
    show ∃ c' S', pm_findServed_b58 N r (f + 1) _ _ _ _ = _ ∧ _
    rw [pm_findServed_b58]
    refine ⟨c, s, ?_, bts_ex hI (fun j hj => sp_mid_n hj), hW⟩
    simp (disch := omega) only [sm_lt, sm_b1s, sm_b2s, ↓reduceIte, sm_in_nI, nI_clamp, nI_add, pk_mul, pk_sub, ne_addneg, nI_l, ne_ltT, ne_ltF, ne_leT, ne_leF, ne_eqT, ne_eqF, ne_sI1s, ne_sI1n, ne_sI2, ne_sI3, ne_sL1, ne_sL2s, ne_sL2n, ne_sL3, pk_us, pk_un, pk_uLs, pk_uLn, mm_Z, mm_L, mm_1, mm_2, mm_3, ne_rz0, ne_rz1, not_true_eq_false, not_false_eq_true, ne_i0, ne_i1, ne_i2, ne_i3, ne_i4, ne_i5, ne_i6, ne_i7, ne_i8, ne_i9, ne_i10, ne_i12, ne_i14, ne_i16, ne_i18, ne_i19, ne_i20, ne_i23, ne_i24, ne_i27, ne_i29, ne_i30, ne_i31, ne_i32, ne_i35, ne_i48, ne_i52, ne_i54, ne_i57, ne_i59, ne_i63, ne_i64, ne_i76, ne_i77, ne_i78, ne_i79, ne_i80, ne_i81, ne_i97, ne_i99, ne_i100, ne_i101, ne_i104, ne_i105, ne_i108, ne_i110, ne_i111, ne_i116, ne_i117, ne_i122, ne_i103, ne_i200, ne_i255, ne_i256, ne_i320, ne_i384, ne_i1000, ne_l0, ne_l1, ne_l2, ne_l3, ne_l4, ne_l5, ne_l8, ne_l12, ne_l31, ne_l48, ne_l57, ne_l97, ne_l99, ne_l122, ne_l255, ne_l673, ne_l1073741823, ne_l1073741824, w80]
end
