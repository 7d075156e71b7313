/-! what lay by what -/
def sp_ld (a : Nat → Nat) (x : Nat) : Bool := decide ((x < a 76 ∧ a (4 * x) ≠ 2 ∧ a (4 * x) ≠ 4) ∨ 4 ≤ x ∧ x < 4 + a 77)
def sp_mt (a : Nat → Nat) (s : Nat) : Nat → Bool
  | 0 => true
  | x + 1 => sp_mt a s x && !(s.testBit x && !sp_ld a x)
theorem sp_mt_iff {a : Nat → Nat} {s : Nat} : ∀ n, sp_mt a s n = true ↔ ∀ x, x < n → s.testBit x = true → sp_ld a x = true
  | 0 => by simp [sp_mt]
  | n + 1 => by
    rw [sp_mt, Bool.and_eq_true, sp_mt_iff n]
    constructor
    · rintro ⟨h1, h2⟩ x hx hb
      by_cases q : x = n
      · subst q
        rw [hb] at h2
        cases hl : sp_ld a x with
        | true => rfl
        | false => rw [hl] at h2; cases h2
      · exact h1 x (by omega) hb
    · intro h
      refine ⟨fun x hx => h x (by omega), ?_⟩
      cases hb : s.testBit n with
      | false => rfl
      | true => rw [h n (by omega) hb]; rfl
/-- the sum of what lies there -/
def sp_bs (w co : Nat → Nat) (s : Nat) : Nat → Nat
  | 0 => 0
  | x + 1 => sp_bs w co s x + if s.testBit x = true then sp_val w co x else 0
def sp_ok2 (a w co : Nat → Nat) (s aa b : Nat) : Prop := sp_bs w co s 8 * b = w 4 * (12 * sp_pc s 8 * aa)
section
variable {N : Nat} {X S : sm_St} {a b v ik tx : Nat → Nat} {len : Nat}
theorem np_mayTouch {s : Nat} (hN : 4000 ≤ N) (hw : nw a S) (hk : a 76 ≤ 4) (ht : a 77 ≤ 4) (hkd : ∀ c, c < a 76 → a (4 * c) ≤ 4) (h0 : 0 < s) (hs : s < 256) : pm_mayTouch N S (nI s) = some (nI (if sp_mt a s 8 = true then 1 else 0), S) := by
  unfold pm_mayTouch pm_mayTouch_b9
  simp (disch := omega) only [sm_lt, sm_b1s, sm_b2s, ↓reduceIte, sm_in_nI, nI_clamp, nI_add, pk_mul, pk_sub, ne_addneg, nI_l, ne_ltT, ne_ltF, ne_leT, ne_leF, ne_eqT, ne_eqF, ne_sI1s, ne_sI1n, ne_sI2, ne_sI3, ne_sL1, ne_sL2s, ne_sL2n, ne_sL3, pk_us, pk_un, pk_uLs, pk_uLn, mm_Z, mm_L, mm_1, mm_2, mm_3, ne_rz0, ne_rz1, not_true_eq_false, not_false_eq_true, ne_i0, ne_i1, ne_i2, ne_i3, ne_i4, ne_i5, ne_i6, ne_i7, ne_i8, ne_i9, ne_i10, ne_i12, ne_i14, ne_i16, ne_i18, ne_i19, ne_i20, ne_i23, ne_i24, ne_i27, ne_i29, ne_i30, ne_i31, ne_i32, ne_i35, ne_i48, ne_i52, ne_i54, ne_i57, ne_i59, ne_i63, ne_i64, ne_i76, ne_i77, ne_i78, ne_i79, ne_i80, ne_i81, ne_i97, ne_i99, ne_i100, ne_i101, ne_i104, ne_i105, ne_i108, ne_i110, ne_i111, ne_i116, ne_i117, ne_i122, ne_i103, ne_i200, ne_i255, ne_i256, ne_i320, ne_i384, ne_i1000, ne_l0, ne_l1, ne_l2, ne_l3, ne_l4, ne_l5, ne_l8, ne_l12, ne_l31, ne_l48, ne_l57, ne_l97, ne_l99, ne_l122, ne_l255, ne_l673, ne_l1073741823, ne_l1073741824]
  refine ne_loop (fun f x (_ : Unit) => pm_mayTouch_b12 N f (nI s) (nI (if sp_mt a s x = true then 1 else 0)) (nI x) S) (fun _ _ => True) 8 (fun r => r = some (nI (if sp_mt a s 8 = true then 1 else 0), S)) ?_ ?_ N 0 () (by omega) (by omega) trivial
  · intro f x _ hx _
    left
    refine ⟨(), trivial, ?_⟩
    show pm_mayTouch_b12 N (f + 1) _ _ _ _ = _
    have eb := ne_bit (s := s) (x := x) (by omega) (by omega)
    rw [pm_mayTouch_b12]
    unfold pm_mayTouch_b55 pm_mayTouch_b51 pm_mayTouch_b56
    by_cases hm : sp_mt a s x = true
    · by_cases hb : s.testBit x = true
      · rw [if_pos hb] at eb
        have hm2 : sp_mt a s (x + 1) = sp_ld a x := by rw [sp_mt, hm, hb]; cases sp_ld a x <;> rfl
        rw [hm2]
        by_cases hn : x < a 76 ∨ 4 ≤ x ∧ x < 4 + a 77
        · have en := np_numT (N := N) hw hk ht hn
          by_cases hx4 : x < 4
          · have hxk : x < a 76 := by omega
            by_cases hg : a (4 * x) ≠ 2 ∧ a (4 * x) ≠ 4
            · have hl : sp_ld a x = true := decide_eq_true (Or.inl ⟨hxk, hg⟩)
              simp (disch := omega) only [sm_lt, sm_b1s, sm_b2s, ↓reduceIte, sm_in_nI, nI_clamp, nI_add, pk_mul, pk_sub, ne_addneg, nI_l, ne_ltT, ne_ltF, ne_leT, ne_leF, ne_eqT, ne_eqF, ne_sI1s, ne_sI1n, ne_sI2, ne_sI3, ne_sL1, ne_sL2s, ne_sL2n, ne_sL3, pk_us, pk_un, pk_uLs, pk_uLn, mm_Z, mm_L, mm_1, mm_2, mm_3, ne_rz0, ne_rz1, not_true_eq_false, not_false_eq_true, ne_i0, ne_i1, ne_i2, ne_i3, ne_i4, ne_i5, ne_i6, ne_i7, ne_i8, ne_i9, ne_i10, ne_i12, ne_i14, ne_i16, ne_i18, ne_i19, ne_i20, ne_i23, ne_i24, ne_i27, ne_i29, ne_i30, ne_i31, ne_i32, ne_i35, ne_i48, ne_i52, ne_i54, ne_i57, ne_i59, ne_i63, ne_i64, ne_i76, ne_i77, ne_i78, ne_i79, ne_i80, ne_i81, ne_i97, ne_i99, ne_i100, ne_i101, ne_i104, ne_i105, ne_i108, ne_i110, ne_i111, ne_i116, ne_i117, ne_i122, ne_i103, ne_i200, ne_i255, ne_i256, ne_i320, ne_i384, ne_i1000, ne_l0, ne_l1, ne_l2, ne_l3, ne_l4, ne_l5, ne_l8, ne_l12, ne_l31, ne_l48, ne_l57, ne_l97, ne_l99, ne_l122, ne_l255, ne_l673, ne_l1073741823, ne_l1073741824, hm, hl, eb, en, np_gT hw hx4 (hkd x hxk) hg]
            · have hl : sp_ld a x = false := decide_eq_false (by omega)
              simp (disch := omega) only [sm_lt, sm_b1s, sm_b2s, ↓reduceIte, sm_in_nI, nI_clamp, nI_add, pk_mul, pk_sub, ne_addneg, nI_l, ne_ltT, ne_ltF, ne_leT, ne_leF, ne_eqT, ne_eqF, ne_sI1s, ne_sI1n, ne_sI2, ne_sI3, ne_sL1, ne_sL2s, ne_sL2n, ne_sL3, pk_us, pk_un, pk_uLs, pk_uLn, mm_Z, mm_L, mm_1, mm_2, mm_3, ne_rz0, ne_rz1, not_true_eq_false, not_false_eq_true, ne_i0, ne_i1, ne_i2, ne_i3, ne_i4, ne_i5, ne_i6, ne_i7, ne_i8, ne_i9, ne_i10, ne_i12, ne_i14, ne_i16, ne_i18, ne_i19, ne_i20, ne_i23, ne_i24, ne_i27, ne_i29, ne_i30, ne_i31, ne_i32, ne_i35, ne_i48, ne_i52, ne_i54, ne_i57, ne_i59, ne_i63, ne_i64, ne_i76, ne_i77, ne_i78, ne_i79, ne_i80, ne_i81, ne_i97, ne_i99, ne_i100, ne_i101, ne_i104, ne_i105, ne_i108, ne_i110, ne_i111, ne_i116, ne_i117, ne_i122, ne_i103, ne_i200, ne_i255, ne_i256, ne_i320, ne_i384, ne_i1000, ne_l0, ne_l1, ne_l2, ne_l3, ne_l4, ne_l5, ne_l8, ne_l12, ne_l31, ne_l48, ne_l57, ne_l97, ne_l99, ne_l122, ne_l255, ne_l673, ne_l1073741823, ne_l1073741824, hm, hl, eb, en, np_gF hw hx4 (hkd x hxk) hg, Bool.false_eq_true]
          · have hl : sp_ld a x = true := decide_eq_true (by omega)
            simp (disch := omega) only [sm_lt, sm_b1s, sm_b2s, ↓reduceIte, sm_in_nI, nI_clamp, nI_add, pk_mul, pk_sub, ne_addneg, nI_l, ne_ltT, ne_ltF, ne_leT, ne_leF, ne_eqT, ne_eqF, ne_sI1s, ne_sI1n, ne_sI2, ne_sI3, ne_sL1, ne_sL2s, ne_sL2n, ne_sL3, pk_us, pk_un, pk_uLs, pk_uLn, mm_Z, mm_L, mm_1, mm_2, mm_3, ne_rz0, ne_rz1, not_true_eq_false, not_false_eq_true, ne_i0, ne_i1, ne_i2, ne_i3, ne_i4, ne_i5, ne_i6, ne_i7, ne_i8, ne_i9, ne_i10, ne_i12, ne_i14, ne_i16, ne_i18, ne_i19, ne_i20, ne_i23, ne_i24, ne_i27, ne_i29, ne_i30, ne_i31, ne_i32, ne_i35, ne_i48, ne_i52, ne_i54, ne_i57, ne_i59, ne_i63, ne_i64, ne_i76, ne_i77, ne_i78, ne_i79, ne_i80, ne_i81, ne_i97, ne_i99, ne_i100, ne_i101, ne_i104, ne_i105, ne_i108, ne_i110, ne_i111, ne_i116, ne_i117, ne_i122, ne_i103, ne_i200, ne_i255, ne_i256, ne_i320, ne_i384, ne_i1000, ne_l0, ne_l1, ne_l2, ne_l3, ne_l4, ne_l5, ne_l8, ne_l12, ne_l31, ne_l48, ne_l57, ne_l97, ne_l99, ne_l122, ne_l255, ne_l673, ne_l1073741823, ne_l1073741824, hm, hl, eb, en]
        · have en := np_numF (N := N) hw hk ht hn (by omega)
          have hl : sp_ld a x = false := decide_eq_false (by omega)
          simp (disch := omega) only [sm_lt, sm_b1s, sm_b2s, ↓reduceIte, sm_in_nI, nI_clamp, nI_add, pk_mul, pk_sub, ne_addneg, nI_l, ne_ltT, ne_ltF, ne_leT, ne_leF, ne_eqT, ne_eqF, ne_sI1s, ne_sI1n, ne_sI2, ne_sI3, ne_sL1, ne_sL2s, ne_sL2n, ne_sL3, pk_us, pk_un, pk_uLs, pk_uLn, mm_Z, mm_L, mm_1, mm_2, mm_3, ne_rz0, ne_rz1, not_true_eq_false, not_false_eq_true, ne_i0, ne_i1, ne_i2, ne_i3, ne_i4, ne_i5, ne_i6, ne_i7, ne_i8, ne_i9, ne_i10, ne_i12, ne_i14, ne_i16, ne_i18, ne_i19, ne_i20, ne_i23, ne_i24, ne_i27, ne_i29, ne_i30, ne_i31, ne_i32, ne_i35, ne_i48, ne_i52, ne_i54, ne_i57, ne_i59, ne_i63, ne_i64, ne_i76, ne_i77, ne_i78, ne_i79, ne_i80, ne_i81, ne_i97, ne_i99, ne_i100, ne_i101, ne_i104, ne_i105, ne_i108, ne_i110, ne_i111, ne_i116, ne_i117, ne_i122, ne_i103, ne_i200, ne_i255, ne_i256, ne_i320, ne_i384, ne_i1000, ne_l0, ne_l1, ne_l2, ne_l3, ne_l4, ne_l5, ne_l8, ne_l12, ne_l31, ne_l48, ne_l57, ne_l97, ne_l99, ne_l122, ne_l255, ne_l673, ne_l1073741823, ne_l1073741824, hm, hl, eb, en, Bool.false_eq_true]
      · have hb' : s.testBit x = false := Bool.eq_false_iff.mpr hb
        rw [if_neg hb] at eb
        have hm2 : sp_mt a s (x + 1) = true := by rw [sp_mt, hm, hb']; rfl
        simp (disch := omega) only [sm_lt, sm_b1s, sm_b2s, ↓reduceIte, sm_in_nI, nI_clamp, nI_add, pk_mul, pk_sub, ne_addneg, nI_l, ne_ltT, ne_ltF, ne_leT, ne_leF, ne_eqT, ne_eqF, ne_sI1s, ne_sI1n, ne_sI2, ne_sI3, ne_sL1, ne_sL2s, ne_sL2n, ne_sL3, pk_us, pk_un, pk_uLs, pk_uLn, mm_Z, mm_L, mm_1, mm_2, mm_3, ne_rz0, ne_rz1, not_true_eq_false, not_false_eq_true, ne_i0, ne_i1, ne_i2, ne_i3, ne_i4, ne_i5, ne_i6, ne_i7, ne_i8, ne_i9, ne_i10, ne_i12, ne_i14, ne_i16, ne_i18, ne_i19, ne_i20, ne_i23, ne_i24, ne_i27, ne_i29, ne_i30, ne_i31, ne_i32, ne_i35, ne_i48, ne_i52, ne_i54, ne_i57, ne_i59, ne_i63, ne_i64, ne_i76, ne_i77, ne_i78, ne_i79, ne_i80, ne_i81, ne_i97, ne_i99, ne_i100, ne_i101, ne_i104, ne_i105, ne_i108, ne_i110, ne_i111, ne_i116, ne_i117, ne_i122, ne_i103, ne_i200, ne_i255, ne_i256, ne_i320, ne_i384, ne_i1000, ne_l0, ne_l1, ne_l2, ne_l3, ne_l4, ne_l5, ne_l8, ne_l12, ne_l31, ne_l48, ne_l57, ne_l97, ne_l99, ne_l122, ne_l255, ne_l673, ne_l1073741823, ne_l1073741824, hm, hm2, eb]
    · have hm' : sp_mt a s x = false := Bool.eq_false_iff.mpr hm
      have hm2 : sp_mt a s (x + 1) = false := by rw [sp_mt, hm']; rfl
      simp (disch := omega) only [sm_lt, sm_b1s, sm_b2s, ↓reduceIte, sm_in_nI, nI_clamp, nI_add, pk_mul, pk_sub, ne_addneg, nI_l, ne_ltT, ne_ltF, ne_leT, ne_leF, ne_eqT, ne_eqF, ne_sI1s, ne_sI1n, ne_sI2, ne_sI3, ne_sL1, ne_sL2s, ne_sL2n, ne_sL3, pk_us, pk_un, pk_uLs, pk_uLn, mm_Z, mm_L, mm_1, mm_2, mm_3, ne_rz0, ne_rz1, not_true_eq_false, not_false_eq_true, ne_i0, ne_i1, ne_i2, ne_i3, ne_i4, ne_i5, ne_i6, ne_i7, ne_i8, ne_i9, ne_i10, ne_i12, ne_i14, ne_i16, ne_i18, ne_i19, ne_i20, ne_i23, ne_i24, ne_i27, ne_i29, ne_i30, ne_i31, ne_i32, ne_i35, ne_i48, ne_i52, ne_i54, ne_i57, ne_i59, ne_i63, ne_i64, ne_i76, ne_i77, ne_i78, ne_i79, ne_i80, ne_i81, ne_i97, ne_i99, ne_i100, ne_i101, ne_i104, ne_i105, ne_i108, ne_i110, ne_i111, ne_i116, ne_i117, ne_i122, ne_i103, ne_i200, ne_i255, ne_i256, ne_i320, ne_i384, ne_i1000, ne_l0, ne_l1, ne_l2, ne_l3, ne_l4, ne_l5, ne_l8, ne_l12, ne_l31, ne_l48, ne_l57, ne_l97, ne_l99, ne_l122, ne_l255, ne_l673, ne_l1073741823, ne_l1073741824, hm', hm2, Bool.false_eq_true]
  · intro f _ _
    show pm_mayTouch_b12 N (f + 1) _ _ _ _ = _
    rw [pm_mayTouch_b12]
    by_cases hm : sp_mt a s 8 = true
    · simp (disch := omega) only [sm_lt, sm_b1s, sm_b2s, ↓reduceIte, sm_in_nI, nI_clamp, nI_add, pk_mul, pk_sub, ne_addneg, nI_l, ne_ltT, ne_ltF, ne_leT, ne_leF, ne_eqT, ne_eqF, ne_sI1s, ne_sI1n, ne_sI2, ne_sI3, ne_sL1, ne_sL2s, ne_sL2n, ne_sL3, pk_us, pk_un, pk_uLs, pk_uLn, mm_Z, mm_L, mm_1, mm_2, mm_3, ne_rz0, ne_rz1, not_true_eq_false, not_false_eq_true, ne_i0, ne_i1, ne_i2, ne_i3, ne_i4, ne_i5, ne_i6, ne_i7, ne_i8, ne_i9, ne_i10, ne_i12, ne_i14, ne_i16, ne_i18, ne_i19, ne_i20, ne_i23, ne_i24, ne_i27, ne_i29, ne_i30, ne_i31, ne_i32, ne_i35, ne_i48, ne_i52, ne_i54, ne_i57, ne_i59, ne_i63, ne_i64, ne_i76, ne_i77, ne_i78, ne_i79, ne_i80, ne_i81, ne_i97, ne_i99, ne_i100, ne_i101, ne_i104, ne_i105, ne_i108, ne_i110, ne_i111, ne_i116, ne_i117, ne_i122, ne_i103, ne_i200, ne_i255, ne_i256, ne_i320, ne_i384, ne_i1000, ne_l0, ne_l1, ne_l2, ne_l3, ne_l4, ne_l5, ne_l8, ne_l12, ne_l31, ne_l48, ne_l57, ne_l97, ne_l99, ne_l122, ne_l255, ne_l673, ne_l1073741823, ne_l1073741824, hm]
    · simp (disch := omega) only [sm_lt, sm_b1s, sm_b2s, ↓reduceIte, sm_in_nI, nI_clamp, nI_add, pk_mul, pk_sub, ne_addneg, nI_l, ne_ltT, ne_ltF, ne_leT, ne_leF, ne_eqT, ne_eqF, ne_sI1s, ne_sI1n, ne_sI2, ne_sI3, ne_sL1, ne_sL2s, ne_sL2n, ne_sL3, pk_us, pk_un, pk_uLs, pk_uLn, mm_Z, mm_L, mm_1, mm_2, mm_3, ne_rz0, ne_rz1, not_true_eq_false, not_false_eq_true, ne_i0, ne_i1, ne_i2, ne_i3, ne_i4, ne_i5, ne_i6, ne_i7, ne_i8, ne_i9, ne_i10, ne_i12, ne_i14, ne_i16, ne_i18, ne_i19, ne_i20, ne_i23, ne_i24, ne_i27, ne_i29, ne_i30, ne_i31, ne_i32, ne_i35, ne_i48, ne_i52, ne_i54, ne_i57, ne_i59, ne_i63, ne_i64, ne_i76, ne_i77, ne_i78, ne_i79, ne_i80, ne_i81, ne_i97, ne_i99, ne_i100, ne_i101, ne_i104, ne_i105, ne_i108, ne_i110, ne_i111, ne_i116, ne_i117, ne_i122, ne_i103, ne_i200, ne_i255, ne_i256, ne_i320, ne_i384, ne_i1000, ne_l0, ne_l1, ne_l2, ne_l3, ne_l4, ne_l5, ne_l8, ne_l12, ne_l31, ne_l48, ne_l57, ne_l97, ne_l99, ne_l122, ne_l255, ne_l673, ne_l1073741823, ne_l1073741824, hm, Bool.false_eq_true]
theorem sp_bs_le {w co : Nat → Nat} {t : Nat → Nat} {s : Nat} (hs : sc a t co) (hw : sp_w a w) (hm : sp_mt a s 8 = true) : ∀ n, n ≤ 8 → sp_bs w co s n ≤ n * (12 * w 4)
  | 0, _ => by simp [sp_bs]
  | n + 1, h => by
    have ih := sp_bs_le hs hw hm n (by omega)
    have hv : (if s.testBit n = true then sp_val w co n else 0) ≤ 12 * w 4 := by
      by_cases hb : s.testBit n = true
      · rw [if_pos hb]
        have hl := (sp_mt_iff 8).mp hm n (by omega) hb
        unfold sp_ld at hl
        have hl := of_decide_eq_true hl
        exact sp_val_le hs hw (by omega)
      · rw [if_neg hb]; omega
    rw [sp_bs, Nat.add_mul]
    omega
theorem np_isMeanOf {M : sm_St} {w : Nat → Nat} {s aa bb : Nat} (hN : 4000 ≤ N) (h : nW M v w S) (ht : nt (at_ a) (ac_ a) M) (hs : sc a (at_ a) (ac_ a)) (hw : sp_w a w) (hb : w 4 < 2 ^ 1000) (hm : sp_mt a s 8 = true) (hs8 : s < 256) (ha : aa ≤ 99) (hbb : bb ≤ 99) : ∃ S', (sp_ok2 a w (ac_ a) s aa bb → pm_isMeanOf N S (nI s) (nI aa) (nI bb) = some (nI 1, S')) ∧ (¬ sp_ok2 a w (ac_ a) s aa bb → pm_isMeanOf N S (nI s) (nI aa) (nI bb) = some (nI 0, S')) ∧ nW M v w S' := by
  have k4 := hs.1
  have t4 := hs.2.1
  obtain ⟨v0, h0, rfl, h3⟩ := h
  obtain ⟨S0, e0, g0⟩ := nP_set (N := N) (a := 7) (x := 0) hN h0 (by decide) (by decide)
  have bsl := sp_bs_le (s := s) hs hw hm
  have pcl := sp_pc_le s
  -- behind the loop
  have fin : ∀ (S1 : sm_St) (v1 : Nat → Nat), nP M v1 S1 → v1 7 = sp_bs (fun i => v0 (14 + i)) (ac_ a) s 8 → (∀ s, s ≠ 7 → s ≠ 8 → v1 s = v0 s) → ∀ f, ∃ S', (sp_ok2 a (fun i => v0 (14 + i)) (ac_ a) s aa bb → pm_isMeanOf_b13 N (f + 1) (nI s) (nI aa) (nI bb) (nI (sp_pc s 8)) (nI 8) S1 = some (nI 1, S')) ∧ (¬ sp_ok2 a (fun i => v0 (14 + i)) (ac_ a) s aa bb → pm_isMeanOf_b13 N (f + 1) (nI s) (nI aa) (nI bb) (nI (sp_pc s 8)) (nI 8) S1 = some (nI 0, S')) ∧ nW M v (fun i => v0 (14 + i)) S' := by
    intro S1 v1 g1 g7 gf f
    have b8 := bsl 8 (Nat.le_refl _)
    have p8 := pcl 8
    obtain ⟨S2, e2, g2⟩ := nP_times (N := N) (a := 7) (m := bb) hN g1 (by omega) (by omega) (by omega) (by
      rw [g7]
      calc sp_bs (fun i => v0 (14 + i)) (ac_ a) s 8 * bb ≤ (8 * (12 * v0 18)) * 99 := Nat.mul_le_mul b8 hbb
        _ = v0 18 * 9504 := by omega
        _ < nm_B ^ 60 := sp_big hb (by decide))
    obtain ⟨S3, e3, g3⟩ := nP_copy (N := N) (a := 8) (b := 18) hN g2 (by omega) (by omega) (by omega) (by omega)
    have e18 : va_up v1 7 (v1 7 * bb) 18 = v0 18 := by rw [ne_up_n (by decide)]; exact gf 18 (by decide) (by decide)
    have hm2 : 12 * sp_pc s 8 * aa ≤ 12 * 8 * 99 := Nat.mul_le_mul (Nat.mul_le_mul_left _ p8) ha
    obtain ⟨S4, e4, g4⟩ := nP_times (N := N) (a := 8) (m := 12 * sp_pc s 8 * aa) hN g3 (by omega) (by omega) (by omega) (by
      rw [ne_up_s, e18]
      exact sp_big hb (by omega))
    rw [ne_up_s, bx_uu, e18] at g4
    have ec := nP_compare (N := N) (a := 7) (b := 8) hN g4 (by omega) (by omega) (by omega) (by omega)
    rw [ne_up_s, ne_up_n (by decide), ne_up_s, g7] at ec
    have hW : nW M v (fun i => v0 (14 + i)) S4 := by
      refine ⟨_, g4, ?_, fun s hs => ?_⟩
      · funext i
        rw [ne_up_n (by omega), ne_up_n (by omega)]
        exact gf _ (by omega) (by omega)
      · rw [ne_up_n (by omega), ne_up_n (by omega), gf s (by omega) (by omega)]
        exact h3 s hs
    refine ⟨S4, fun hok => ?_, fun hok => ?_, hW⟩
    · have he : sp_bs (fun i => v0 (14 + i)) (ac_ a) s 8 * bb = v0 18 * (12 * sp_pc s 8 * aa) := hok
      rw [pm_isMeanOf_b13]
      simp (disch := omega) only [sm_lt, sm_b1s, sm_b2s, ↓reduceIte, sm_in_nI, nI_clamp, nI_add, pk_mul, pk_sub, ne_addneg, nI_l, ne_ltT, ne_ltF, ne_leT, ne_leF, ne_eqT, ne_eqF, ne_sI1s, ne_sI1n, ne_sI2, ne_sI3, ne_sL1, ne_sL2s, ne_sL2n, ne_sL3, pk_us, pk_un, pk_uLs, pk_uLn, mm_Z, mm_L, mm_1, mm_2, mm_3, ne_rz0, ne_rz1, not_true_eq_false, not_false_eq_true, ne_i0, ne_i1, ne_i2, ne_i3, ne_i4, ne_i5, ne_i6, ne_i7, ne_i8, ne_i9, ne_i10, ne_i12, ne_i14, ne_i16, ne_i18, ne_i19, ne_i20, ne_i23, ne_i24, ne_i27, ne_i29, ne_i30, ne_i31, ne_i32, ne_i35, ne_i48, ne_i52, ne_i54, ne_i57, ne_i59, ne_i63, ne_i64, ne_i76, ne_i77, ne_i78, ne_i79, ne_i80, ne_i81, ne_i97, ne_i99, ne_i100, ne_i101, ne_i104, ne_i105, ne_i108, ne_i110, ne_i111, ne_i116, ne_i117, ne_i122, ne_i103, ne_i200, ne_i255, ne_i256, ne_i320, ne_i384, ne_i1000, ne_l0, ne_l1, ne_l2, ne_l3, ne_l4, ne_l5, ne_l8, ne_l12, ne_l31, ne_l48, ne_l57, ne_l97, ne_l99, ne_l122, ne_l255, ne_l673, ne_l1073741823, ne_l1073741824, e2, e3, e4, ec, ne_cmp_eq, he]
    · have he : ¬ sp_bs (fun i => v0 (14 + i)) (ac_ a) s 8 * bb = v0 18 * (12 * sp_pc s 8 * aa) := hok
      rw [pm_isMeanOf_b13]
      simp (disch := omega) only [sm_lt, sm_b1s, sm_b2s, ↓reduceIte, sm_in_nI, nI_clamp, nI_add, pk_mul, pk_sub, ne_addneg, nI_l, ne_ltT, ne_ltF, ne_leT, ne_leF, ne_eqT, ne_eqF, ne_sI1s, ne_sI1n, ne_sI2, ne_sI3, ne_sL1, ne_sL2s, ne_sL2n, ne_sL3, pk_us, pk_un, pk_uLs, pk_uLn, mm_Z, mm_L, mm_1, mm_2, mm_3, ne_rz0, ne_rz1, not_true_eq_false, not_false_eq_true, ne_i0, ne_i1, ne_i2, ne_i3, ne_i4, ne_i5, ne_i6, ne_i7, ne_i8, ne_i9, ne_i10, ne_i12, ne_i14, ne_i16, ne_i18, ne_i19, ne_i20, ne_i23, ne_i24, ne_i27, ne_i29, ne_i30, ne_i31, ne_i32, ne_i35, ne_i48, ne_i52, ne_i54, ne_i57, ne_i59, ne_i63, ne_i64, ne_i76, ne_i77, ne_i78, ne_i79, ne_i80, ne_i81, ne_i97, ne_i99, ne_i100, ne_i101, ne_i104, ne_i105, ne_i108, ne_i110, ne_i111, ne_i116, ne_i117, ne_i122, ne_i103, ne_i200, ne_i255, ne_i256, ne_i320, ne_i384, ne_i1000, ne_l0, ne_l1, ne_l2, ne_l3, ne_l4, ne_l5, ne_l8, ne_l12, ne_l31, ne_l48, ne_l57, ne_l97, ne_l99, ne_l122, ne_l255, ne_l673, ne_l1073741823, ne_l1073741824, e2, e3, e4, ec, ne_cmp_eq, he]
  unfold pm_isMeanOf
  have q := ne_loop (fun f x (s' : sm_St) => pm_isMeanOf_b13 N f (nI s) (nI aa) (nI bb) (nI (sp_pc s x)) (nI x) s') (fun x s' => ∃ v1, nP M v1 s' ∧ v1 7 = sp_bs (fun i => v0 (14 + i)) (ac_ a) s x ∧ ∀ s, s ≠ 7 → s ≠ 8 → v1 s = v0 s) 8 (fun r => ∃ S', (sp_ok2 a (fun i => v0 (14 + i)) (ac_ a) s aa bb → r = some (nI 1, S')) ∧ (¬ sp_ok2 a (fun i => v0 (14 + i)) (ac_ a) s aa bb → r = some (nI 0, S')) ∧ nW M v (fun i => v0 (14 + i)) S') ?_ ?_ N 0 S0 (by omega) (by omega) ⟨_, g0, ne_up_s, fun s q _ => ne_up_n q⟩
  · obtain ⟨S', q1, q2, q3⟩ := q
    refine ⟨S', fun hok => ?_, fun hok => ?_, q3⟩
    · simp (disch := omega) only [sm_lt, sm_b1s, sm_b2s, ↓reduceIte, sm_in_nI, nI_clamp, nI_add, pk_mul, pk_sub, ne_addneg, nI_l, ne_ltT, ne_ltF, ne_leT, ne_leF, ne_eqT, ne_eqF, ne_sI1s, ne_sI1n, ne_sI2, ne_sI3, ne_sL1, ne_sL2s, ne_sL2n, ne_sL3, pk_us, pk_un, pk_uLs, pk_uLn, mm_Z, mm_L, mm_1, mm_2, mm_3, ne_rz0, ne_rz1, not_true_eq_false, not_false_eq_true, ne_i0, ne_i1, ne_i2, ne_i3, ne_i4, ne_i5, ne_i6, ne_i7, ne_i8, ne_i9, ne_i10, ne_i12, ne_i14, ne_i16, ne_i18, ne_i19, ne_i20, ne_i23, ne_i24, ne_i27, ne_i29, ne_i30, ne_i31, ne_i32, ne_i35, ne_i48, ne_i52, ne_i54, ne_i57, ne_i59, ne_i63, ne_i64, ne_i76, ne_i77, ne_i78, ne_i79, ne_i80, ne_i81, ne_i97, ne_i99, ne_i100, ne_i101, ne_i104, ne_i105, ne_i108, ne_i110, ne_i111, ne_i116, ne_i117, ne_i122, ne_i103, ne_i200, ne_i255, ne_i256, ne_i320, ne_i384, ne_i1000, ne_l0, ne_l1, ne_l2, ne_l3, ne_l4, ne_l5, ne_l8, ne_l12, ne_l31, ne_l48, ne_l57, ne_l97, ne_l99, ne_l122, ne_l255, ne_l673, ne_l1073741823, ne_l1073741824, e0]
      exact q1 hok
    · simp (disch := omega) only [sm_lt, sm_b1s, sm_b2s, ↓reduceIte, sm_in_nI, nI_clamp, nI_add, pk_mul, pk_sub, ne_addneg, nI_l, ne_ltT, ne_ltF, ne_leT, ne_leF, ne_eqT, ne_eqF, ne_sI1s, ne_sI1n, ne_sI2, ne_sI3, ne_sL1, ne_sL2s, ne_sL2n, ne_sL3, pk_us, pk_un, pk_uLs, pk_uLn, mm_Z, mm_L, mm_1, mm_2, mm_3, ne_rz0, ne_rz1, not_true_eq_false, not_false_eq_true, ne_i0, ne_i1, ne_i2, ne_i3, ne_i4, ne_i5, ne_i6, ne_i7, ne_i8, ne_i9, ne_i10, ne_i12, ne_i14, ne_i16, ne_i18, ne_i19, ne_i20, ne_i23, ne_i24, ne_i27, ne_i29, ne_i30, ne_i31, ne_i32, ne_i35, ne_i48, ne_i52, ne_i54, ne_i57, ne_i59, ne_i63, ne_i64, ne_i76, ne_i77, ne_i78, ne_i79, ne_i80, ne_i81, ne_i97, ne_i99, ne_i100, ne_i101, ne_i104, ne_i105, ne_i108, ne_i110, ne_i111, ne_i116, ne_i117, ne_i122, ne_i103, ne_i200, ne_i255, ne_i256, ne_i320, ne_i384, ne_i1000, ne_l0, ne_l1, ne_l2, ne_l3, ne_l4, ne_l5, ne_l8, ne_l12, ne_l31, ne_l48, ne_l57, ne_l97, ne_l99, ne_l122, ne_l255, ne_l673, ne_l1073741823, ne_l1073741824, e0]
      exact q2 hok
  · rintro f x s' hx ⟨v1, g1, g7, gf⟩
    left
    have eb := ne_bit (s := s) (x := x) (by omega) (by omega)
    have p := pcl x
    show ∃ s'', _ ∧ pm_isMeanOf_b13 N (f + 1) _ _ _ _ _ _ = pm_isMeanOf_b13 N f _ _ _ _ _ _
    rw [pm_isMeanOf_b13]
    unfold pm_isMeanOf_b49
    by_cases hbit : s.testBit x = true
    · rw [if_pos hbit] at eb
      have hl := (sp_mt_iff 8).mp hm x hx hbit
      unfold sp_ld at hl
      have hl := of_decide_eq_true hl
      have g18 : v1 18 = v0 18 := gf 18 (by decide) (by decide)
      obtain ⟨S1, e1, g1'⟩ := np_lay (N := N) (to := 8) (x := x) hN g1 ht (by decide) (by decide) hx (fun h4 => hs.2.2.2.2 _ (by omega)) (by rw [g18]; exact hb)
      have evl : sp_val (fun i => v1 (14 + i)) (ac_ a) x = sp_val (fun i => v0 (14 + i)) (ac_ a) x := by
        unfold sp_val
        by_cases h4 : x < 4
        · rw [if_pos h4, if_pos h4]
          exact gf _ (by omega) (by omega)
        · rw [if_neg h4, if_neg h4]
          show v1 18 * _ = v0 18 * _
          rw [g18]
      rw [evl] at g1'
      have es : sp_bs (fun i => v0 (14 + i)) (ac_ a) s (x + 1) = va_up v1 8 (sp_val (fun i => v0 (14 + i)) (ac_ a) x) 7 + va_up v1 8 (sp_val (fun i => v0 (14 + i)) (ac_ a) x) 8 := by
        rw [ne_up_s, ne_up_n (by decide), g7, sp_bs, if_pos hbit]
      obtain ⟨S2, e2, g2⟩ := nP_add (N := N) (a := 7) (b := 8) hN g1' (by omega) (by omega) (by omega) (by omega) (by omega) (by
        rw [← es]
        calc sp_bs (fun i => v0 (14 + i)) (ac_ a) s (x + 1) ≤ (x + 1) * (12 * v0 18) := bsl (x + 1) (by omega)
          _ ≤ 8 * (12 * v0 18) := Nat.mul_le_mul_right _ (by omega)
          _ = v0 18 * 96 := by omega
          _ < nm_B ^ 60 := sp_big hb (by decide))
      rw [← es] at g2
      have ep : sp_pc s (x + 1) = sp_pc s x + 1 := by rw [sp_pc, if_pos hbit]
      refine ⟨S2, ⟨_, g2, ne_up_s, fun s q7 q8 => by rw [ne_up_n q7, ne_up_n q8]; exact gf s q7 q8⟩, ?_⟩
      simp (disch := omega) only [sm_lt, sm_b1s, sm_b2s, ↓reduceIte, sm_in_nI, nI_clamp, nI_add, pk_mul, pk_sub, ne_addneg, nI_l, ne_ltT, ne_ltF, ne_leT, ne_leF, ne_eqT, ne_eqF, ne_sI1s, ne_sI1n, ne_sI2, ne_sI3, ne_sL1, ne_sL2s, ne_sL2n, ne_sL3, pk_us, pk_un, pk_uLs, pk_uLn, mm_Z, mm_L, mm_1, mm_2, mm_3, ne_rz0, ne_rz1, not_true_eq_false, not_false_eq_true, ne_i0, ne_i1, ne_i2, ne_i3, ne_i4, ne_i5, ne_i6, ne_i7, ne_i8, ne_i9, ne_i10, ne_i12, ne_i14, ne_i16, ne_i18, ne_i19, ne_i20, ne_i23, ne_i24, ne_i27, ne_i29, ne_i30, ne_i31, ne_i32, ne_i35, ne_i48, ne_i52, ne_i54, ne_i57, ne_i59, ne_i63, ne_i64, ne_i76, ne_i77, ne_i78, ne_i79, ne_i80, ne_i81, ne_i97, ne_i99, ne_i100, ne_i101, ne_i104, ne_i105, ne_i108, ne_i110, ne_i111, ne_i116, ne_i117, ne_i122, ne_i103, ne_i200, ne_i255, ne_i256, ne_i320, ne_i384, ne_i1000, ne_l0, ne_l1, ne_l2, ne_l3, ne_l4, ne_l5, ne_l8, ne_l12, ne_l31, ne_l48, ne_l57, ne_l97, ne_l99, ne_l122, ne_l255, ne_l673, ne_l1073741823, ne_l1073741824, eb, e1, e2, ep]
    · rw [if_neg hbit] at eb
      have ep : sp_pc s (x + 1) = sp_pc s x := by rw [sp_pc, if_neg hbit, Nat.add_zero]
      refine ⟨s', ⟨v1, g1, by rw [sp_bs, if_neg hbit, Nat.add_zero]; exact g7, gf⟩, ?_⟩
      simp (disch := omega) only [sm_lt, sm_b1s, sm_b2s, ↓reduceIte, sm_in_nI, nI_clamp, nI_add, pk_mul, pk_sub, ne_addneg, nI_l, ne_ltT, ne_ltF, ne_leT, ne_leF, ne_eqT, ne_eqF, ne_sI1s, ne_sI1n, ne_sI2, ne_sI3, ne_sL1, ne_sL2s, ne_sL2n, ne_sL3, pk_us, pk_un, pk_uLs, pk_uLn, mm_Z, mm_L, mm_1, mm_2, mm_3, ne_rz0, ne_rz1, not_true_eq_false, not_false_eq_true, ne_i0, ne_i1, ne_i2, ne_i3, ne_i4, ne_i5, ne_i6, ne_i7, ne_i8, ne_i9, ne_i10, ne_i12, ne_i14, ne_i16, ne_i18, ne_i19, ne_i20, ne_i23, ne_i24, ne_i27, ne_i29, ne_i30, ne_i31, ne_i32, ne_i35, ne_i48, ne_i52, ne_i54, ne_i57, ne_i59, ne_i63, ne_i64, ne_i76, ne_i77, ne_i78, ne_i79, ne_i80, ne_i81, ne_i97, ne_i99, ne_i100, ne_i101, ne_i104, ne_i105, ne_i108, ne_i110, ne_i111, ne_i116, ne_i117, ne_i122, ne_i103, ne_i200, ne_i255, ne_i256, ne_i320, ne_i384, ne_i1000, ne_l0, ne_l1, ne_l2, ne_l3, ne_l4, ne_l5, ne_l8, ne_l12, ne_l31, ne_l48, ne_l57, ne_l97, ne_l99, ne_l122, ne_l255, ne_l673, ne_l1073741823, ne_l1073741824, eb, ep]
  · rintro f s' ⟨v1, g1, g7, gf⟩
    exact fin s' v1 g1 g7 gf f
/-! the built side -/
def sp_lb (a : Nat → Nat) : Nat → Nat
  | 0 => (2 ^ a 77 - 1) * 16
  | i + 1 => sp_lb a i ||| (if a (4 * i) ≠ 2 ∧ a (4 * i) ≠ 4 then 2 ^ i else 0)
theorem sp_lb_ok (ht : a 77 ≤ 4) : ∀ n, n ≤ 4 → sp_lb a n < 256 ∧ ∀ x, x < 8 → (sp_lb a n).testBit x = decide ((x < n ∧ a (4 * x) ≠ 2 ∧ a (4 * x) ≠ 4) ∨ 4 ≤ x ∧ x < 4 + a 77)
  | 0, _ => by
    have h : a 77 = 0 ∨ a 77 = 1 ∨ a 77 = 2 ∨ a 77 = 3 ∨ a 77 = 4 := by omega
    have hx : ∀ x, x < 8 → x = 0 ∨ x = 1 ∨ x = 2 ∨ x = 3 ∨ x = 4 ∨ x = 5 ∨ x = 6 ∨ x = 7 := fun x hx => by omega
    unfold sp_lb
    rcases h with e | e | e | e | e <;> rw [e] <;> refine ⟨by decide, fun x h8 => ?_⟩ <;> rcases hx x h8 with rfl | rfl | rfl | rfl | rfl | rfl | rfl | rfl <;> simp <;> decide
  | n + 1, hn => by
    obtain ⟨i1, i2⟩ := sp_lb_ok ht n (by omega)
    have hp : (if a (4 * n) ≠ 2 ∧ a (4 * n) ≠ 4 then 2 ^ n else 0) < 256 := by
      split
      · exact Nat.lt_of_le_of_lt (Nat.pow_le_pow_right (by decide) (show n ≤ 3 by omega)) (by decide)
      · decide
    refine ⟨by rw [sp_lb]; exact Nat.or_lt_two_pow (n := 8) i1 hp, fun x hx => ?_⟩
    rw [sp_lb, Nat.testBit_or, i2 x hx]
    by_cases hg : a (4 * n) ≠ 2 ∧ a (4 * n) ≠ 4
    · rw [if_pos hg, Nat.testBit_two_pow]
      by_cases q : n = x
      · subst q
        simp [hg]
      · have : (x < n ∧ a (4 * x) ≠ 2 ∧ a (4 * x) ≠ 4 ∨ 4 ≤ x ∧ x < 4 + a 77) ↔ (x < n + 1 ∧ a (4 * x) ≠ 2 ∧ a (4 * x) ≠ 4 ∨ 4 ≤ x ∧ x < 4 + a 77) := by omega
        simp only [this, decide_eq_false q, Bool.or_false]
    · rw [if_neg hg, Nat.zero_testBit, Bool.or_false]
      have : (x < n ∧ a (4 * x) ≠ 2 ∧ a (4 * x) ≠ 4 ∨ 4 ≤ x ∧ x < 4 + a 77) ↔ (x < n + 1 ∧ a (4 * x) ≠ 2 ∧ a (4 * x) ≠ 4 ∨ 4 ≤ x ∧ x < 4 + a 77) := by
        constructor
        · rintro (h | h)
          · exact Or.inl ⟨by omega, h.2⟩
          · exact Or.inr h
        · rintro (h | h)
          · by_cases q : x = n
            · subst q
              exact absurd h.2 hg
            · exact Or.inl ⟨by omega, h.2⟩
          · exact Or.inr h
      simp only [this]
theorem ne_sh1 : ∀ x, x < 5 → nI 1 <<< (nI x &&& nI 31) = nI (2 ^ x) ∧ (nI (2 ^ x) - nI 1) <<< (nI 4 &&& nI 31) = nI ((2 ^ x - 1) * 16) := by decide
theorem xq_lenders (hN : 4000 ≤ N) (h9 : X.1 1 9 = nI (a 76)) (h10 : X.1 1 10 = nI (a 77)) (hk : a 76 ≤ 4) (ht : a 77 ≤ 4) (hkd : ∀ c, c < a 76 → a (4 * c) ≤ 4 ∧ X.1 2 c = nI (a (4 * c))) : px_House_lenders N X 1 = some (nI (sp_lb a (a 76)), X) := by
  have e1 := (ne_sh1 (a 77) (by omega)).1
  have e2 := (ne_sh1 (a 77) (by omega)).2
  unfold px_House_lenders
  have es : (nI 1 <<< (nI (a 77) &&& nI 31) - nI 1) <<< (nI 4 &&& nI 31) = nI (sp_lb a 0) := by rw [e1, e2]; rfl
  have es' : ((1 : Int32) <<< ((X.1 1 10) &&& 31) - (1 : Int32)) <<< ((4 : Int32) &&& 31) = nI (sp_lb a 0) := by rw [h10]; exact es
  rw [es']
  simp (disch := omega) only [sm_lt, sm_b1s, sm_b2s, ↓reduceIte, sm_in_nI, nI_clamp, nI_add, pk_mul, pk_sub, ne_addneg, nI_l, ne_ltT, ne_ltF, ne_leT, ne_leF, ne_eqT, ne_eqF, ne_sI1s, ne_sI1n, ne_sI2, ne_sI3, ne_sL1, ne_sL2s, ne_sL2n, ne_sL3, pk_us, pk_un, pk_uLs, pk_uLn, mm_Z, mm_L, mm_1, mm_2, mm_3, ne_rz0, ne_rz1, not_true_eq_false, not_false_eq_true, ne_i0, ne_i1, ne_i2, ne_i3, ne_i4, ne_i5, ne_i6, ne_i7, ne_i8, ne_i9, ne_i10, ne_i12, ne_i14, ne_i16, ne_i18, ne_i19, ne_i20, ne_i23, ne_i24, ne_i27, ne_i29, ne_i30, ne_i31, ne_i32, ne_i35, ne_i48, ne_i52, ne_i54, ne_i57, ne_i59, ne_i63, ne_i64, ne_i76, ne_i77, ne_i78, ne_i79, ne_i80, ne_i81, ne_i97, ne_i99, ne_i100, ne_i101, ne_i104, ne_i105, ne_i108, ne_i110, ne_i111, ne_i116, ne_i117, ne_i122, ne_i103, ne_i200, ne_i255, ne_i256, ne_i320, ne_i384, ne_i1000, ne_l0, ne_l1, ne_l2, ne_l3, ne_l4, ne_l5, ne_l8, ne_l12, ne_l31, ne_l48, ne_l57, ne_l97, ne_l99, ne_l122, ne_l255, ne_l673, ne_l1073741823, ne_l1073741824]
  refine ne_loop (fun f i (_ : Unit) => px_House_lenders_b13 N 1 f (nI (sp_lb a i)) (nI i) X) (fun _ _ => True) (a 76) (fun r => r = some (nI (sp_lb a (a 76)), X)) ?_ ?_ N 0 () (by omega) (by omega) trivial
  · intro f i _ hi _
    left
    refine ⟨(), trivial, ?_⟩
    obtain ⟨b1, b2⟩ := hkd i hi
    have hl := (sp_lb_ok (a := a) ht i (by omega)).1
    show px_House_lenders_b13 N 1 (f + 1) _ _ _ = _
    rw [px_House_lenders_b13]
    unfold px_House_lenders_b37
    by_cases hg : a (4 * i) ≠ 2 ∧ a (4 * i) ≠ 4
    · have eo : nI (sp_lb a i) ||| nI (2 ^ i) = nI (sp_lb a (i + 1)) := by
        rw [ne_orN (by omega) (Nat.lt_of_le_of_lt (Nat.pow_le_pow_right (by decide) (show i ≤ 4 by omega)) (by decide)), sp_lb, if_pos hg]
      have e3 := (ne_sh1 i (by omega)).1
      simp (disch := omega) only [sm_lt, sm_b1s, sm_b2s, ↓reduceIte, sm_in_nI, nI_clamp, nI_add, pk_mul, pk_sub, ne_addneg, nI_l, ne_ltT, ne_ltF, ne_leT, ne_leF, ne_eqT, ne_eqF, ne_sI1s, ne_sI1n, ne_sI2, ne_sI3, ne_sL1, ne_sL2s, ne_sL2n, ne_sL3, pk_us, pk_un, pk_uLs, pk_uLn, mm_Z, mm_L, mm_1, mm_2, mm_3, ne_rz0, ne_rz1, not_true_eq_false, not_false_eq_true, ne_i0, ne_i1, ne_i2, ne_i3, ne_i4, ne_i5, ne_i6, ne_i7, ne_i8, ne_i9, ne_i10, ne_i12, ne_i14, ne_i16, ne_i18, ne_i19, ne_i20, ne_i23, ne_i24, ne_i27, ne_i29, ne_i30, ne_i31, ne_i32, ne_i35, ne_i48, ne_i52, ne_i54, ne_i57, ne_i59, ne_i63, ne_i64, ne_i76, ne_i77, ne_i78, ne_i79, ne_i80, ne_i81, ne_i97, ne_i99, ne_i100, ne_i101, ne_i104, ne_i105, ne_i108, ne_i110, ne_i111, ne_i116, ne_i117, ne_i122, ne_i103, ne_i200, ne_i255, ne_i256, ne_i320, ne_i384, ne_i1000, ne_l0, ne_l1, ne_l2, ne_l3, ne_l4, ne_l5, ne_l8, ne_l12, ne_l31, ne_l48, ne_l57, ne_l97, ne_l99, ne_l122, ne_l255, ne_l673, ne_l1073741823, ne_l1073741824, h9, xq_lT b2 (by omega) b1 hg, e3, eo]
    · have eo : nI (sp_lb a i) ||| nI 0 = nI (sp_lb a (i + 1)) := by
        rw [ne_orN (by omega) (by decide), sp_lb, if_neg hg]
      simp (disch := omega) only [sm_lt, sm_b1s, sm_b2s, ↓reduceIte, sm_in_nI, nI_clamp, nI_add, pk_mul, pk_sub, ne_addneg, nI_l, ne_ltT, ne_ltF, ne_leT, ne_leF, ne_eqT, ne_eqF, ne_sI1s, ne_sI1n, ne_sI2, ne_sI3, ne_sL1, ne_sL2s, ne_sL2n, ne_sL3, pk_us, pk_un, pk_uLs, pk_uLn, mm_Z, mm_L, mm_1, mm_2, mm_3, ne_rz0, ne_rz1, not_true_eq_false, not_false_eq_true, ne_i0, ne_i1, ne_i2, ne_i3, ne_i4, ne_i5, ne_i6, ne_i7, ne_i8, ne_i9, ne_i10, ne_i12, ne_i14, ne_i16, ne_i18, ne_i19, ne_i20, ne_i23, ne_i24, ne_i27, ne_i29, ne_i30, ne_i31, ne_i32, ne_i35, ne_i48, ne_i52, ne_i54, ne_i57, ne_i59, ne_i63, ne_i64, ne_i76, ne_i77, ne_i78, ne_i79, ne_i80, ne_i81, ne_i97, ne_i99, ne_i100, ne_i101, ne_i104, ne_i105, ne_i108, ne_i110, ne_i111, ne_i116, ne_i117, ne_i122, ne_i103, ne_i200, ne_i255, ne_i256, ne_i320, ne_i384, ne_i1000, ne_l0, ne_l1, ne_l2, ne_l3, ne_l4, ne_l5, ne_l8, ne_l12, ne_l31, ne_l48, ne_l57, ne_l97, ne_l99, ne_l122, ne_l255, ne_l673, ne_l1073741823, ne_l1073741824, h9, xq_lF b2 (by omega) b1 hg, eo]
  · intro f _ _
    show px_House_lenders_b13 N 1 (f + 1) _ _ _ = _
    rw [px_House_lenders_b13]
    simp (disch := omega) only [sm_lt, sm_b1s, sm_b2s, ↓reduceIte, sm_in_nI, nI_clamp, nI_add, pk_mul, pk_sub, ne_addneg, nI_l, ne_ltT, ne_ltF, ne_leT, ne_leF, ne_eqT, ne_eqF, ne_sI1s, ne_sI1n, ne_sI2, ne_sI3, ne_sL1, ne_sL2s, ne_sL2n, ne_sL3, pk_us, pk_un, pk_uLs, pk_uLn, mm_Z, mm_L, mm_1, mm_2, mm_3, ne_rz0, ne_rz1, not_true_eq_false, not_false_eq_true, ne_i0, ne_i1, ne_i2, ne_i3, ne_i4, ne_i5, ne_i6, ne_i7, ne_i8, ne_i9, ne_i10, ne_i12, ne_i14, ne_i16, ne_i18, ne_i19, ne_i20, ne_i23, ne_i24, ne_i27, ne_i29, ne_i30, ne_i31, ne_i32, ne_i35, ne_i48, ne_i52, ne_i54, ne_i57, ne_i59, ne_i63, ne_i64, ne_i76, ne_i77, ne_i78, ne_i79, ne_i80, ne_i81, ne_i97, ne_i99, ne_i100, ne_i101, ne_i104, ne_i105, ne_i108, ne_i110, ne_i111, ne_i116, ne_i117, ne_i122, ne_i103, ne_i200, ne_i255, ne_i256, ne_i320, ne_i384, ne_i1000, ne_l0, ne_l1, ne_l2, ne_l3, ne_l4, ne_l5, ne_l8, ne_l12, ne_l31, ne_l48, ne_l57, ne_l97, ne_l99, ne_l122, ne_l255, ne_l673, ne_l1073741823, ne_l1073741824, h9]
theorem sp_lb_mt (hk : a 76 ≤ 4) (ht : a 77 ≤ 4) {s : Nat} (hs : s < 256) : (nI s &&& (nI (sp_lb a (a 76)) ^^^ -nI 1) = nI 0) = (sp_mt a s 8 = true) := by
  obtain ⟨h1, h2⟩ := sp_lb_ok (a := a) ht (a 76) hk
  rw [ne_andn hs h1]
  apply propext
  rw [sp_mt_iff 8]
  constructor
  · intro h x hx hb
    have := h x hx hb
    rw [h2 x hx] at this
    exact this
  · intro h x hx hb
    rw [h2 x hx]
    exact h x hx hb
end
