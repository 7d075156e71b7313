def sp_c2 (a : Nat → Nat) (s k j : Nat) : Bool := (s.testBit k && s.testBit j) && (decide (a (52 + 4 * k) = a (52 + 4 * j)) && (decide (a (52 + 4 * k + 1) ≤ a (52 + 4 * j + 2)) && decide (a (52 + 4 * j + 1) ≤ a (52 + 4 * k + 2))))
def sp_ck (a : Nat → Nat) (s k : Nat) : Nat → Bool
  | 0 => false
  | j + 1 => sp_ck a s k j || sp_c2 a s k j
def sp_cl (a : Nat → Nat) (s : Nat) : Nat → Bool
  | 0 => false
  | k + 1 => sp_cl a s k || sp_ck a s k k
theorem sp_ck_no {a : Nat → Nat} {s k : Nat} (h : s.testBit k = false) : ∀ j, sp_ck a s k j = false
  | 0 => rfl
  | j + 1 => by
    rw [sp_ck, sp_ck_no h j]
    unfold sp_c2
    rw [h]
    rfl
theorem sp_cl_hi {a : Nat → Nat} {s n : Nat} (h : ∀ k, n ≤ k → k < 6 → s.testBit k = false) : ∀ d, n + d ≤ 6 → sp_cl a s (n + d) = sp_cl a s n
  | 0, _ => rfl
  | d + 1, hd => by
    rw [← Nat.add_assoc, sp_cl, sp_cl_hi h d (by omega), sp_ck_no (h _ (by omega) (by omega)), Bool.or_false]
def sp_sb (s c : Nat) : Prop := ∀ x, x < 8 → s.testBit x = true → c.testBit x = true
def sp_in (a : Nat → Nat) (c s best : Nat) : Prop := sp_pc best 8 < sp_pc s 8 ∧ (nI s &&& (nI c ^^^ -nI 1) = nI 0) ∧ sp_cl a s (a 80) = false
def sp_b1 (s best : Nat) (p : Bool) : Nat := if p = true then s else best
/-- the best set ahead of s -/
def sp_bst (a : Nat → Nat) (c : Nat) : Nat → Nat
  | 0 => 0
  | s + 1 => if sp_pc (sp_bst a c s) 8 < sp_pc s 8 ∧ (nI s &&& (nI c ^^^ -nI 1) = nI 0) ∧ sp_cl a s (a 80) = false then s else sp_bst a c s
theorem sp_bst_le {a : Nat → Nat} {c : Nat} : ∀ s, sp_bst a c (s + 1) ≤ s
  | 0 => by rw [sp_bst]; split <;> exact Nat.le_refl _
  | s + 1 => by
    have := sp_bst_le (a := a) (c := c) s
    rw [sp_bst]
    split <;> omega
theorem sp_bst_lt {a : Nat → Nat} {c s : Nat} (hs : s ≤ 64) : sp_bst a c s < 64 := by
  rcases Nat.eq_zero_or_pos s with e | e
  · subst e; exact (by decide : (0 : Nat) < 64)
  · obtain ⟨m, rfl⟩ : ∃ m, s = m + 1 := ⟨s - 1, by omega⟩
    have := sp_bst_le (a := a) (c := c) m
    omega
theorem pc_68 {s : Nat} (hs : s < 64) : sp_pc s 8 = sp_pc s 6 := by
  have h6 : s.testBit 6 = false := Nat.testBit_lt_two_pow hs
  have h7 : s.testBit 7 = false := Nat.testBit_lt_two_pow (Nat.lt_trans hs (by decide))
  rw [sp_pc, sp_pc, h6, h7]
  simp
section
variable {N : Nat} {X S : sm_St} {a b v ik tx : Nat → Nat} {len : Nat}
theorem np_manyIn {s : Nat} (hN : 4000 ≤ N) (hs : s < 64) : pm_manyIn N S (nI s) = some (nI (sp_pc s 8), S) := by
  rw [pc_68 hs]
  unfold pm_manyIn
  simp (disch := omega) only [sm_lt, sm_b1s, sm_b2s, ↓reduceIte, sm_in_nI, nI_clamp, nI_add, pk_mul, pk_sub, ne_addneg, nI_l, ne_ltT, ne_ltF, ne_leT, ne_leF, ne_eqT, ne_eqF, ne_sI1s, ne_sI1n, ne_sI2, ne_sI3, ne_sL1, ne_sL2s, ne_sL2n, ne_sL3, pk_us, pk_un, pk_uLs, pk_uLn, mm_Z, mm_L, mm_1, mm_2, mm_3, ne_rz0, ne_rz1, not_true_eq_false, not_false_eq_true, ne_i0, ne_i1, ne_i2, ne_i3, ne_i4, ne_i5, ne_i6, ne_i7, ne_i8, ne_i9, ne_i10, ne_i12, ne_i14, ne_i16, ne_i18, ne_i19, ne_i20, ne_i23, ne_i24, ne_i27, ne_i29, ne_i30, ne_i31, ne_i32, ne_i35, ne_i48, ne_i52, ne_i54, ne_i57, ne_i59, ne_i63, ne_i64, ne_i76, ne_i77, ne_i78, ne_i79, ne_i80, ne_i81, ne_i97, ne_i99, ne_i100, ne_i101, ne_i104, ne_i105, ne_i108, ne_i110, ne_i111, ne_i116, ne_i117, ne_i122, ne_i103, ne_i200, ne_i255, ne_i256, ne_i320, ne_i384, ne_i1000, ne_l0, ne_l1, ne_l2, ne_l3, ne_l4, ne_l5, ne_l8, ne_l12, ne_l31, ne_l48, ne_l57, ne_l97, ne_l99, ne_l122, ne_l255, ne_l673, ne_l1073741823, ne_l1073741824]
  refine ne_loop (fun f x (_ : Unit) => pm_manyIn_b4 N f (nI s) (nI (sp_pc s x)) (nI x) S) (fun _ _ => True) 6 (fun r => r = some (nI (sp_pc s 6), S)) ?_ ?_ N 0 () (by omega) (by omega) trivial
  · intro f x _ hx _
    left
    refine ⟨(), trivial, ?_⟩
    have eb := ne_bit (s := s) (x := x) (by omega) (by omega)
    show pm_manyIn_b4 N (f + 1) _ _ _ _ = _
    rw [pm_manyIn_b4]
    simp (disch := omega) only [sm_lt, sm_b1s, sm_b2s, ↓reduceIte, sm_in_nI, nI_clamp, nI_add, pk_mul, pk_sub, ne_addneg, nI_l, ne_ltT, ne_ltF, ne_leT, ne_leF, ne_eqT, ne_eqF, ne_sI1s, ne_sI1n, ne_sI2, ne_sI3, ne_sL1, ne_sL2s, ne_sL2n, ne_sL3, pk_us, pk_un, pk_uLs, pk_uLn, mm_Z, mm_L, mm_1, mm_2, mm_3, ne_rz0, ne_rz1, not_true_eq_false, not_false_eq_true, ne_i0, ne_i1, ne_i2, ne_i3, ne_i4, ne_i5, ne_i6, ne_i7, ne_i8, ne_i9, ne_i10, ne_i12, ne_i14, ne_i16, ne_i18, ne_i19, ne_i20, ne_i23, ne_i24, ne_i27, ne_i29, ne_i30, ne_i31, ne_i32, ne_i35, ne_i48, ne_i52, ne_i54, ne_i57, ne_i59, ne_i63, ne_i64, ne_i76, ne_i77, ne_i78, ne_i79, ne_i80, ne_i81, ne_i97, ne_i99, ne_i100, ne_i101, ne_i104, ne_i105, ne_i108, ne_i110, ne_i111, ne_i116, ne_i117, ne_i122, ne_i103, ne_i200, ne_i255, ne_i256, ne_i320, ne_i384, ne_i1000, ne_l0, ne_l1, ne_l2, ne_l3, ne_l4, ne_l5, ne_l8, ne_l12, ne_l31, ne_l48, ne_l57, ne_l97, ne_l99, ne_l122, ne_l255, ne_l673, ne_l1073741823, ne_l1073741824, eb]
    rfl
  · intro f _ _
    show pm_manyIn_b4 N (f + 1) _ _ _ _ = _
    rw [pm_manyIn_b4]
    simp (disch := omega) only [sm_lt, sm_b1s, sm_b2s, ↓reduceIte, sm_in_nI, nI_clamp, nI_add, pk_mul, pk_sub, ne_addneg, nI_l, ne_ltT, ne_ltF, ne_leT, ne_leF, ne_eqT, ne_eqF, ne_sI1s, ne_sI1n, ne_sI2, ne_sI3, ne_sL1, ne_sL2s, ne_sL2n, ne_sL3, pk_us, pk_un, pk_uLs, pk_uLn, mm_Z, mm_L, mm_1, mm_2, mm_3, ne_rz0, ne_rz1, not_true_eq_false, not_false_eq_true, ne_i0, ne_i1, ne_i2, ne_i3, ne_i4, ne_i5, ne_i6, ne_i7, ne_i8, ne_i9, ne_i10, ne_i12, ne_i14, ne_i16, ne_i18, ne_i19, ne_i20, ne_i23, ne_i24, ne_i27, ne_i29, ne_i30, ne_i31, ne_i32, ne_i35, ne_i48, ne_i52, ne_i54, ne_i57, ne_i59, ne_i63, ne_i64, ne_i76, ne_i77, ne_i78, ne_i79, ne_i80, ne_i81, ne_i97, ne_i99, ne_i100, ne_i101, ne_i104, ne_i105, ne_i108, ne_i110, ne_i111, ne_i116, ne_i117, ne_i122, ne_i103, ne_i200, ne_i255, ne_i256, ne_i320, ne_i384, ne_i1000, ne_l0, ne_l1, ne_l2, ne_l3, ne_l4, ne_l5, ne_l8, ne_l12, ne_l31, ne_l48, ne_l57, ne_l97, ne_l99, ne_l122, ne_l255, ne_l673, ne_l1073741823, ne_l1073741824]
/-- who is served, on the reference's side -/
theorem np_served (hN : 4000 ≤ N) (h : RR X S a b v ik tx len) : ∃ c S', pm_findServed N S = some (nI c, S') ∧ bts (a 80) (sp_mb a v 13) c ∧ nW (sm_tn a S) v (sp_W a v 13) S' := by
  have hok := RR_ok h
  obtain ⟨o1, o2, o3, o4, o5, o6, o7, o8, o9, o10⟩ := hok
  have hs := RR_sc h
  have hwv := RR_wv h
  have hw := h.1
  have w80 : S.1 1 80 = nI (a 80) := hw 80 (by decide)
  obtain ⟨_, S1, e1, s1⟩ := RR_begin (N := N) hN h
  have hb : ∀ n, n ≤ 13 → sp_W a v n 4 < 2 ^ 1000 := fun n hn => sp_1000 (sp_ns_4 hs hwv.2.2.2 n) (by omega)
  -- behind the first bits
  have p2 : ∀ c0 S1, nW (sm_tn a S) v (sp_W a v 0) S1 → bts (a 80) (sp_mb a v 0) c0 → ∃ c S', pm_findServed_b50 N N (nI c0) (nI 0) S1 = some (nI c, S') ∧ bts (a 80) (sp_mb a v 13) c ∧ nW (sm_tn a S) v (sp_W a v 13) S' := by
    intro c0 S1 hW hc
    refine ne_loop (fun f n (s : Nat × sm_St) => pm_findServed_b50 N f (nI s.1) (nI n) s.2) (fun n s => bts (a 80) (sp_mb a v n) s.1 ∧ nW (sm_tn a S) v (sp_W a v n) s.2) 13 (fun r => ∃ c S', r = some (nI c, S') ∧ bts (a 80) (sp_mb a v 13) c ∧ nW (sm_tn a S) v (sp_W a v 13) S') ?_ ?_ N 0 (c0, S1) (by omega) (by omega) ⟨hc, hW⟩
    · rintro f n ⟨c, s⟩ hn ⟨i1, i2⟩
      simp only at i1 i2
      left
      obtain ⟨c', s2, e2, g1, g2⟩ := np_night_b (N := N) (r := pm_findServed_b50 N f) hN (RR_ok h) (tn_nw h.1) i2 (hb n (by omega)) (show n ≤ 12 by omega) rfl i1
      obtain ⟨s3, e3, g3⟩ := nW_night (N := N) hN g2 (tn_nw h.1) tn_t hs (sp_ns_w hs hwv.1 n) (hb n (by omega))
      refine ⟨(c', s3), ⟨g1, g3⟩, ?_⟩
      show pm_findServed_b50 N (f + 1) _ _ _ = _
      rw [pm_findServed_b50]
      simp (disch := omega) only [sm_lt, sm_b1s, sm_b2s, ↓reduceIte, sm_in_nI, nI_clamp, nI_add, pk_mul, pk_sub, ne_addneg, nI_l, ne_ltT, ne_ltF, ne_leT, ne_leF, ne_eqT, ne_eqF, ne_sI1s, ne_sI1n, ne_sI2, ne_sI3, ne_sL1, ne_sL2s, ne_sL2n, ne_sL3, pk_us, pk_un, pk_uLs, pk_uLn, mm_Z, mm_L, mm_1, mm_2, mm_3, ne_rz0, ne_rz1, not_true_eq_false, not_false_eq_true, ne_i0, ne_i1, ne_i2, ne_i3, ne_i4, ne_i5, ne_i6, ne_i7, ne_i8, ne_i9, ne_i10, ne_i12, ne_i14, ne_i16, ne_i18, ne_i19, ne_i20, ne_i23, ne_i24, ne_i27, ne_i29, ne_i30, ne_i31, ne_i32, ne_i35, ne_i48, ne_i52, ne_i54, ne_i57, ne_i59, ne_i63, ne_i64, ne_i76, ne_i77, ne_i78, ne_i79, ne_i80, ne_i81, ne_i97, ne_i99, ne_i100, ne_i101, ne_i104, ne_i105, ne_i108, ne_i110, ne_i111, ne_i116, ne_i117, ne_i122, ne_i103, ne_i200, ne_i255, ne_i256, ne_i320, ne_i384, ne_i1000, ne_l0, ne_l1, ne_l2, ne_l3, ne_l4, ne_l5, ne_l8, ne_l12, ne_l31, ne_l48, ne_l57, ne_l97, ne_l99, ne_l122, ne_l255, ne_l673, ne_l1073741823, ne_l1073741824]
      rw [e2, e3, sm_b1s]
    · rintro f ⟨c, s⟩ ⟨i1, i2⟩
      simp only at i1 i2
      show ∃ c' S', pm_findServed_b50 N (f + 1) _ _ _ = _ ∧ _
      rw [pm_findServed_b50]
      simp (disch := omega) only [sm_lt, sm_b1s, sm_b2s, ↓reduceIte, sm_in_nI, nI_clamp, nI_add, pk_mul, pk_sub, ne_addneg, nI_l, ne_ltT, ne_ltF, ne_leT, ne_leF, ne_eqT, ne_eqF, ne_sI1s, ne_sI1n, ne_sI2, ne_sI3, ne_sL1, ne_sL2s, ne_sL2n, ne_sL3, pk_us, pk_un, pk_uLs, pk_uLn, mm_Z, mm_L, mm_1, mm_2, mm_3, ne_rz0, ne_rz1, not_true_eq_false, not_false_eq_true, ne_i0, ne_i1, ne_i2, ne_i3, ne_i4, ne_i5, ne_i6, ne_i7, ne_i8, ne_i9, ne_i10, ne_i12, ne_i14, ne_i16, ne_i18, ne_i19, ne_i20, ne_i23, ne_i24, ne_i27, ne_i29, ne_i30, ne_i31, ne_i32, ne_i35, ne_i48, ne_i52, ne_i54, ne_i57, ne_i59, ne_i63, ne_i64, ne_i76, ne_i77, ne_i78, ne_i79, ne_i80, ne_i81, ne_i97, ne_i99, ne_i100, ne_i101, ne_i104, ne_i105, ne_i108, ne_i110, ne_i111, ne_i116, ne_i117, ne_i122, ne_i103, ne_i200, ne_i255, ne_i256, ne_i320, ne_i384, ne_i1000, ne_l0, ne_l1, ne_l2, ne_l3, ne_l4, ne_l5, ne_l8, ne_l12, ne_l31, ne_l48, ne_l57, ne_l97, ne_l99, ne_l122, ne_l255, ne_l673, ne_l1073741823, ne_l1073741824]
      exact ⟨c, s, rfl, i1, i2⟩
  unfold pm_findServed
  simp (disch := omega) only [sm_lt, sm_b1s, sm_b2s, ↓reduceIte, sm_in_nI, nI_clamp, nI_add, pk_mul, pk_sub, ne_addneg, nI_l, ne_ltT, ne_ltF, ne_leT, ne_leF, ne_eqT, ne_eqF, ne_sI1s, ne_sI1n, ne_sI2, ne_sI3, ne_sL1, ne_sL2s, ne_sL2n, ne_sL3, pk_us, pk_un, pk_uLs, pk_uLn, mm_Z, mm_L, mm_1, mm_2, mm_3, ne_rz0, ne_rz1, not_true_eq_false, not_false_eq_true, ne_i0, ne_i1, ne_i2, ne_i3, ne_i4, ne_i5, ne_i6, ne_i7, ne_i8, ne_i9, ne_i10, ne_i12, ne_i14, ne_i16, ne_i18, ne_i19, ne_i20, ne_i23, ne_i24, ne_i27, ne_i29, ne_i30, ne_i31, ne_i32, ne_i35, ne_i48, ne_i52, ne_i54, ne_i57, ne_i59, ne_i63, ne_i64, ne_i76, ne_i77, ne_i78, ne_i79, ne_i80, ne_i81, ne_i97, ne_i99, ne_i100, ne_i101, ne_i104, ne_i105, ne_i108, ne_i110, ne_i111, ne_i116, ne_i117, ne_i122, ne_i103, ne_i200, ne_i255, ne_i256, ne_i320, ne_i384, ne_i1000, ne_l0, ne_l1, ne_l2, ne_l3, ne_l4, ne_l5, ne_l8, ne_l12, ne_l31, ne_l48, ne_l57, ne_l97, ne_l99, ne_l122, ne_l255, ne_l673, ne_l1073741823, ne_l1073741824]
  refine ne_loop (fun f k (c : Nat) => pm_findServed_b4 N f (nI c) (nI k) S) (fun k c => bts (a 80) (fun j => decide (j < k) && sp_is a j) c) (a 80) (fun r => ∃ c S', r = some (nI c, S') ∧ bts (a 80) (sp_mb a v 13) c ∧ nW (sm_tn a S) v (sp_W a v 13) S') ?_ ?_ N 0 0 (by omega) (by omega) ⟨by decide, fun j hj => by simp⟩
  · intro f k c hk hI
    left
    obtain ⟨b0, b1, b2, b3, b4⟩ := o10 k hk
    have w0 := np_borrows (N := N) (f := 0) hw (show k < 6 by omega) (by decide)
    rw [Nat.add_zero] at w0
    have ek := (ne_full k (by omega)).1
    have e2k : 2 ^ k ≤ 2 ^ 5 := Nat.pow_le_pow_right (by decide) (by omega)
    have hcl := hI.1
    show ∃ c', _ ∧ pm_findServed_b4 N (f + 1) _ _ _ = pm_findServed_b4 N f _ _ _
    rw [pm_findServed_b4]
    unfold pm_findServed_b36
    by_cases hi : a (52 + 4 * k) < a 76
    · have e1 : sp_is a k = true := decide_eq_true hi
      have ec := np_clT (N := N) hw o1 hi
      have eo := ne_orN (a := c) (b := 2 ^ k) (by omega) (by omega)
      refine ⟨c ||| 2 ^ k, ⟨Nat.or_lt_two_pow (n := 6) hcl (by omega), fun j hj => ?_⟩, ?_⟩
      · rw [Nat.testBit_or, hI.2 j hj, Nat.testBit_two_pow]
        by_cases q : k = j
        · subst q
          show (decide (k < a 80) && (decide (k < k) && sp_is a k) || decide (k = k)) = (decide (k < a 80) && (decide (k < k + 1) && sp_is a k))
          rw [e1]
          simp [hk]
        · have : (j < k + 1) = (j < k) := propext (by omega)
          simp [q, this]
      · simp (disch := omega) only [sm_lt, sm_b1s, sm_b2s, ↓reduceIte, sm_in_nI, nI_clamp, nI_add, pk_mul, pk_sub, ne_addneg, nI_l, ne_ltT, ne_ltF, ne_leT, ne_leF, ne_eqT, ne_eqF, ne_sI1s, ne_sI1n, ne_sI2, ne_sI3, ne_sL1, ne_sL2s, ne_sL2n, ne_sL3, pk_us, pk_un, pk_uLs, pk_uLn, mm_Z, mm_L, mm_1, mm_2, mm_3, ne_rz0, ne_rz1, not_true_eq_false, not_false_eq_true, ne_i0, ne_i1, ne_i2, ne_i3, ne_i4, ne_i5, ne_i6, ne_i7, ne_i8, ne_i9, ne_i10, ne_i12, ne_i14, ne_i16, ne_i18, ne_i19, ne_i20, ne_i23, ne_i24, ne_i27, ne_i29, ne_i30, ne_i31, ne_i32, ne_i35, ne_i48, ne_i52, ne_i54, ne_i57, ne_i59, ne_i63, ne_i64, ne_i76, ne_i77, ne_i78, ne_i79, ne_i80, ne_i81, ne_i97, ne_i99, ne_i100, ne_i101, ne_i104, ne_i105, ne_i108, ne_i110, ne_i111, ne_i116, ne_i117, ne_i122, ne_i103, ne_i200, ne_i255, ne_i256, ne_i320, ne_i384, ne_i1000, ne_l0, ne_l1, ne_l2, ne_l3, ne_l4, ne_l5, ne_l8, ne_l12, ne_l31, ne_l48, ne_l57, ne_l97, ne_l99, ne_l122, ne_l255, ne_l673, ne_l1073741823, ne_l1073741824, w80, w0, ec, ek, eo]
    · have e1 : sp_is a k = false := decide_eq_false hi
      have ec := np_clF (N := N) hw o1 (show a 76 ≤ a (52 + 4 * k) by omega) (by omega)
      have eo := ne_orN (a := c) (b := 0) (by omega) (by decide)
      rw [Nat.or_zero] at eo
      refine ⟨c, ⟨hcl, fun j hj => ?_⟩, ?_⟩
      · rw [hI.2 j hj]
        by_cases q : j = k
        · subst q
          show (decide (j < a 80) && (decide (j < j) && sp_is a j)) = (decide (j < a 80) && (decide (j < j + 1) && sp_is a j))
          rw [e1]; simp
        · have : (j < k + 1) = (j < k) := propext (by omega)
          simp [this]
      · simp (disch := omega) only [sm_lt, sm_b1s, sm_b2s, ↓reduceIte, sm_in_nI, nI_clamp, nI_add, pk_mul, pk_sub, ne_addneg, nI_l, ne_ltT, ne_ltF, ne_leT, ne_leF, ne_eqT, ne_eqF, ne_sI1s, ne_sI1n, ne_sI2, ne_sI3, ne_sL1, ne_sL2s, ne_sL2n, ne_sL3, pk_us, pk_un, pk_uLs, pk_uLn, mm_Z, mm_L, mm_1, mm_2, mm_3, ne_rz0, ne_rz1, not_true_eq_false, not_false_eq_true, ne_i0, ne_i1, ne_i2, ne_i3, ne_i4, ne_i5, ne_i6, ne_i7, ne_i8, ne_i9, ne_i10, ne_i12, ne_i14, ne_i16, ne_i18, ne_i19, ne_i20, ne_i23, ne_i24, ne_i27, ne_i29, ne_i30, ne_i31, ne_i32, ne_i35, ne_i48, ne_i52, ne_i54, ne_i57, ne_i59, ne_i63, ne_i64, ne_i76, ne_i77, ne_i78, ne_i79, ne_i80, ne_i81, ne_i97, ne_i99, ne_i100, ne_i101, ne_i104, ne_i105, ne_i108, ne_i110, ne_i111, ne_i116, ne_i117, ne_i122, ne_i103, ne_i200, ne_i255, ne_i256, ne_i320, ne_i384, ne_i1000, ne_l0, ne_l1, ne_l2, ne_l3, ne_l4, ne_l5, ne_l8, ne_l12, ne_l31, ne_l48, ne_l57, ne_l97, ne_l99, ne_l122, ne_l255, ne_l673, ne_l1073741823, ne_l1073741824, w80, w0, ec, eo]
  · intro f c hI
    obtain ⟨c', S', e2, g1, g2⟩ := p2 c S1 s1 (bts_ex hI (fun j hj => by rw [decide_eq_true hj]; rfl))
    show ∃ c' S', pm_findServed_b4 N (f + 1) _ _ _ = _ ∧ _
    rw [pm_findServed_b4]
    refine ⟨c', S', ?_, g1, g2⟩
    simp (disch := omega) only [sm_lt, sm_b1s, sm_b2s, ↓reduceIte, sm_in_nI, nI_clamp, nI_add, pk_mul, pk_sub, ne_addneg, nI_l, ne_ltT, ne_ltF, ne_leT, ne_leF, ne_eqT, ne_eqF, ne_sI1s, ne_sI1n, ne_sI2, ne_sI3, ne_sL1, ne_sL2s, ne_sL2n, ne_sL3, pk_us, pk_un, pk_uLs, pk_uLn, mm_Z, mm_L, mm_1, mm_2, mm_3, ne_rz0, ne_rz1, not_true_eq_false, not_false_eq_true, ne_i0, ne_i1, ne_i2, ne_i3, ne_i4, ne_i5, ne_i6, ne_i7, ne_i8, ne_i9, ne_i10, ne_i12, ne_i14, ne_i16, ne_i18, ne_i19, ne_i20, ne_i23, ne_i24, ne_i27, ne_i29, ne_i30, ne_i31, ne_i32, ne_i35, ne_i48, ne_i52, ne_i54, ne_i57, ne_i59, ne_i63, ne_i64, ne_i76, ne_i77, ne_i78, ne_i79, ne_i80, ne_i81, ne_i97, ne_i99, ne_i100, ne_i101, ne_i104, ne_i105, ne_i108, ne_i110, ne_i111, ne_i116, ne_i117, ne_i122, ne_i103, ne_i200, ne_i255, ne_i256, ne_i320, ne_i384, ne_i1000, ne_l0, ne_l1, ne_l2, ne_l3, ne_l4, ne_l5, ne_l8, ne_l12, ne_l31, ne_l48, ne_l57, ne_l97, ne_l99, ne_l122, ne_l255, ne_l673, ne_l1073741823, ne_l1073741824, w80, e1]
    exact e2
/-- do two of the set meet? the built side -/
theorem xq_clash {s : Nat} (hN : 4000 ≤ N) (h6 : a 80 ≤ 6) (hs : s < 64) (h13 : X.1 1 13 = nI (a 80)) (hw : ∀ k f, k < a 80 → f < 4 → X.1 (28 + k) f = nI (a (52 + 4 * k + f))) (hb : ∀ k, k < a 80 → a (52 + 4 * k) ≤ 3 ∧ a (52 + 4 * k + 1) ≤ 12 ∧ a (52 + 4 * k + 2) ≤ 12) : px_House_clash N X 1 (nI s) = some (nI (if sp_cl a s (a 80) = true then 1 else 0), X) := by
  unfold px_House_clash
  simp (disch := omega) only [sm_lt, sm_b1s, sm_b2s, ↓reduceIte, sm_in_nI, nI_clamp, nI_add, pk_mul, pk_sub, ne_addneg, nI_l, ne_ltT, ne_ltF, ne_leT, ne_leF, ne_eqT, ne_eqF, ne_sI1s, ne_sI1n, ne_sI2, ne_sI3, ne_sL1, ne_sL2s, ne_sL2n, ne_sL3, pk_us, pk_un, pk_uLs, pk_uLn, mm_Z, mm_L, mm_1, mm_2, mm_3, ne_rz0, ne_rz1, not_true_eq_false, not_false_eq_true, ne_i0, ne_i1, ne_i2, ne_i3, ne_i4, ne_i5, ne_i6, ne_i7, ne_i8, ne_i9, ne_i10, ne_i12, ne_i14, ne_i16, ne_i18, ne_i19, ne_i20, ne_i23, ne_i24, ne_i27, ne_i29, ne_i30, ne_i31, ne_i32, ne_i35, ne_i48, ne_i52, ne_i54, ne_i57, ne_i59, ne_i63, ne_i64, ne_i76, ne_i77, ne_i78, ne_i79, ne_i80, ne_i81, ne_i97, ne_i99, ne_i100, ne_i101, ne_i104, ne_i105, ne_i108, ne_i110, ne_i111, ne_i116, ne_i117, ne_i122, ne_i103, ne_i200, ne_i255, ne_i256, ne_i320, ne_i384, ne_i1000, ne_l0, ne_l1, ne_l2, ne_l3, ne_l4, ne_l5, ne_l8, ne_l12, ne_l31, ne_l48, ne_l57, ne_l97, ne_l99, ne_l122, ne_l255, ne_l673, ne_l1073741823, ne_l1073741824]
  refine ne_loop (fun f k (_ : Unit) => px_House_clash_b2 N 1 f (nI s) (nI k) X) (fun k _ => sp_cl a s k = false) (a 80) (fun r => r = some (nI (if sp_cl a s (a 80) = true then 1 else 0), X)) ?_ ?_ N 0 () (by omega) (by omega) rfl
  · intro f k _ hk hI
    have up : sp_cl a s (k + 1) = true → sp_cl a s (a 80) = true := by
      intro h
      have : ∀ d, k + 1 + d ≤ a 80 → sp_cl a s (k + 1 + d) = true := fun d => by
        induction d with
        | zero => intro _; exact h
        | succ d ih => intro hd; rw [← Nat.add_assoc, sp_cl, ih (by omega), Bool.true_or]
      have := this (a 80 - (k + 1)) (by omega)
      rwa [show k + 1 + (a 80 - (k + 1)) = a 80 by omega] at this
    have inner : (sp_ck a s k k = true → px_House_clash_b12 N 1 (px_House_clash_b2 N 1 f) N (nI s) (nI k) (nI 0) X = some (nI 1, X)) ∧ (sp_ck a s k k = false → px_House_clash_b12 N 1 (px_House_clash_b2 N 1 f) N (nI s) (nI k) (nI 0) X = px_House_clash_b2 N 1 f (nI s) (nI (k + 1)) X) := by
      refine ne_loop (fun f' j (_ : Unit) => px_House_clash_b12 N 1 (px_House_clash_b2 N 1 f) f' (nI s) (nI k) (nI j) X) (fun j _ => sp_ck a s k j = false) k (fun o => (sp_ck a s k k = true → o = some (nI 1, X)) ∧ (sp_ck a s k k = false → o = px_House_clash_b2 N 1 f (nI s) (nI (k + 1)) X)) ?_ ?_ N 0 () (by omega) (by omega) rfl
      · intro f' j _ hj hI
        have jk : sp_ck a s k (j + 1) = true → sp_ck a s k k = true := by
          intro h
          have : ∀ d, j + 1 + d ≤ k → sp_ck a s k (j + 1 + d) = true := fun d => by
            induction d with
            | zero => intro _; exact h
            | succ d ih => intro hd; rw [← Nat.add_assoc, sp_ck, ih (by omega), Bool.true_or]
          have := this (k - (j + 1)) (by omega)
          rwa [show j + 1 + (k - (j + 1)) = k by omega] at this
        obtain ⟨b0, b1, b2⟩ := hb k hk
        obtain ⟨d0, d1, d2⟩ := hb j (by omega)
        have hzk := zs28 (show k < 6 by omega)
        have hzj := zs28 (show j < 6 by omega)
        have u0 := hw k 0 hk (by decide)
        have u1 := hw k 1 hk (by decide)
        have u2 := hw k 2 hk (by decide)
        have y0 := hw j 0 (by omega) (by decide)
        have y1 := hw j 1 (by omega) (by decide)
        have y2 := hw j 2 (by omega) (by decide)
        rw [Nat.add_zero] at u0 y0
        have ekk : 1 + 27 + k = 28 + k := by omega
        have ejj : 1 + 27 + j = 28 + j := by omega
        have ebit : (((nI s >>> (nI k &&& nI 31)) &&& (nI s >>> (nI j &&& nI 31))) &&& nI 1) = nI (if (s.testBit k && s.testBit j) = true then 1 else 0) := by
          have e : ∀ s, s < 64 → ∀ k, k < 6 → ∀ j, j < 6 → (((nI s >>> (nI k &&& nI 31)) &&& (nI s >>> (nI j &&& nI 31))) &&& nI 1) = nI (if (s.testBit k && s.testBit j) = true then 1 else 0) := by decide +kernel
          exact e s hs k (by omega) j (by omega)
        show (∃ s', _ ∧ px_House_clash_b12 N 1 _ (f' + 1) _ _ _ _ = _) ∨ ((_ → px_House_clash_b12 N 1 _ (f' + 1) _ _ _ _ = _) ∧ (_ → px_House_clash_b12 N 1 _ (f' + 1) _ _ _ _ = _))
        rw [px_House_clash_b12]
        unfold px_House_clash_b49 px_House_overlap
        by_cases hbit : (s.testBit k && s.testBit j) = true
        · rw [if_pos hbit] at ebit
          by_cases c0 : a (52 + 4 * k) = a (52 + 4 * j)
          · by_cases c1 : a (52 + 4 * k + 1) ≤ a (52 + 4 * j + 2)
            · by_cases c2 : a (52 + 4 * j + 1) ≤ a (52 + 4 * k + 2)
              · right
                have hc2 : sp_ck a s k (j + 1) = true := by
                  rw [sp_ck, hI]
                  unfold sp_c2
                  rw [hbit, decide_eq_true c0, decide_eq_true c1, decide_eq_true c2]
                  rfl
                refine ⟨fun _ => ?_, fun q => by rw [jk hc2] at q; cases q⟩
                simp (disch := omega) only [sm_lt, sm_b1s, sm_b2s, ↓reduceIte, sm_in_nI, nI_clamp, nI_add, pk_mul, pk_sub, ne_addneg, nI_l, ne_ltT, ne_ltF, ne_leT, ne_leF, ne_eqT, ne_eqF, ne_sI1s, ne_sI1n, ne_sI2, ne_sI3, ne_sL1, ne_sL2s, ne_sL2n, ne_sL3, pk_us, pk_un, pk_uLs, pk_uLn, mm_Z, mm_L, mm_1, mm_2, mm_3, ne_rz0, ne_rz1, not_true_eq_false, not_false_eq_true, ne_i0, ne_i1, ne_i2, ne_i3, ne_i4, ne_i5, ne_i6, ne_i7, ne_i8, ne_i9, ne_i10, ne_i12, ne_i14, ne_i16, ne_i18, ne_i19, ne_i20, ne_i23, ne_i24, ne_i27, ne_i29, ne_i30, ne_i31, ne_i32, ne_i35, ne_i48, ne_i52, ne_i54, ne_i57, ne_i59, ne_i63, ne_i64, ne_i76, ne_i77, ne_i78, ne_i79, ne_i80, ne_i81, ne_i97, ne_i99, ne_i100, ne_i101, ne_i104, ne_i105, ne_i108, ne_i110, ne_i111, ne_i116, ne_i117, ne_i122, ne_i103, ne_i200, ne_i255, ne_i256, ne_i320, ne_i384, ne_i1000, ne_l0, ne_l1, ne_l2, ne_l3, ne_l4, ne_l5, ne_l8, ne_l12, ne_l31, ne_l48, ne_l57, ne_l97, ne_l99, ne_l122, ne_l255, ne_l673, ne_l1073741823, ne_l1073741824, ebit, ekk, ejj, hzk, hzj, u0, u1, u2, y0, y1, y2]
              · left
                refine ⟨(), by rw [sp_ck, hI]; unfold sp_c2; rw [decide_eq_false c2]; simp, ?_⟩
                simp (disch := omega) only [sm_lt, sm_b1s, sm_b2s, ↓reduceIte, sm_in_nI, nI_clamp, nI_add, pk_mul, pk_sub, ne_addneg, nI_l, ne_ltT, ne_ltF, ne_leT, ne_leF, ne_eqT, ne_eqF, ne_sI1s, ne_sI1n, ne_sI2, ne_sI3, ne_sL1, ne_sL2s, ne_sL2n, ne_sL3, pk_us, pk_un, pk_uLs, pk_uLn, mm_Z, mm_L, mm_1, mm_2, mm_3, ne_rz0, ne_rz1, not_true_eq_false, not_false_eq_true, ne_i0, ne_i1, ne_i2, ne_i3, ne_i4, ne_i5, ne_i6, ne_i7, ne_i8, ne_i9, ne_i10, ne_i12, ne_i14, ne_i16, ne_i18, ne_i19, ne_i20, ne_i23, ne_i24, ne_i27, ne_i29, ne_i30, ne_i31, ne_i32, ne_i35, ne_i48, ne_i52, ne_i54, ne_i57, ne_i59, ne_i63, ne_i64, ne_i76, ne_i77, ne_i78, ne_i79, ne_i80, ne_i81, ne_i97, ne_i99, ne_i100, ne_i101, ne_i104, ne_i105, ne_i108, ne_i110, ne_i111, ne_i116, ne_i117, ne_i122, ne_i103, ne_i200, ne_i255, ne_i256, ne_i320, ne_i384, ne_i1000, ne_l0, ne_l1, ne_l2, ne_l3, ne_l4, ne_l5, ne_l8, ne_l12, ne_l31, ne_l48, ne_l57, ne_l97, ne_l99, ne_l122, ne_l255, ne_l673, ne_l1073741823, ne_l1073741824, ebit, ekk, ejj, hzk, hzj, u0, u1, u2, y0, y1, y2]
            · left
              refine ⟨(), by rw [sp_ck, hI]; unfold sp_c2; rw [decide_eq_false c1]; simp, ?_⟩
              simp (disch := omega) only [sm_lt, sm_b1s, sm_b2s, ↓reduceIte, sm_in_nI, nI_clamp, nI_add, pk_mul, pk_sub, ne_addneg, nI_l, ne_ltT, ne_ltF, ne_leT, ne_leF, ne_eqT, ne_eqF, ne_sI1s, ne_sI1n, ne_sI2, ne_sI3, ne_sL1, ne_sL2s, ne_sL2n, ne_sL3, pk_us, pk_un, pk_uLs, pk_uLn, mm_Z, mm_L, mm_1, mm_2, mm_3, ne_rz0, ne_rz1, not_true_eq_false, not_false_eq_true, ne_i0, ne_i1, ne_i2, ne_i3, ne_i4, ne_i5, ne_i6, ne_i7, ne_i8, ne_i9, ne_i10, ne_i12, ne_i14, ne_i16, ne_i18, ne_i19, ne_i20, ne_i23, ne_i24, ne_i27, ne_i29, ne_i30, ne_i31, ne_i32, ne_i35, ne_i48, ne_i52, ne_i54, ne_i57, ne_i59, ne_i63, ne_i64, ne_i76, ne_i77, ne_i78, ne_i79, ne_i80, ne_i81, ne_i97, ne_i99, ne_i100, ne_i101, ne_i104, ne_i105, ne_i108, ne_i110, ne_i111, ne_i116, ne_i117, ne_i122, ne_i103, ne_i200, ne_i255, ne_i256, ne_i320, ne_i384, ne_i1000, ne_l0, ne_l1, ne_l2, ne_l3, ne_l4, ne_l5, ne_l8, ne_l12, ne_l31, ne_l48, ne_l57, ne_l97, ne_l99, ne_l122, ne_l255, ne_l673, ne_l1073741823, ne_l1073741824, ebit, ekk, ejj, hzk, hzj, u0, u1, u2, y0, y1, y2]
          · left
            refine ⟨(), by rw [sp_ck, hI]; unfold sp_c2; rw [decide_eq_false c0]; simp, ?_⟩
            simp (disch := omega) only [sm_lt, sm_b1s, sm_b2s, ↓reduceIte, sm_in_nI, nI_clamp, nI_add, pk_mul, pk_sub, ne_addneg, nI_l, ne_ltT, ne_ltF, ne_leT, ne_leF, ne_eqT, ne_eqF, ne_sI1s, ne_sI1n, ne_sI2, ne_sI3, ne_sL1, ne_sL2s, ne_sL2n, ne_sL3, pk_us, pk_un, pk_uLs, pk_uLn, mm_Z, mm_L, mm_1, mm_2, mm_3, ne_rz0, ne_rz1, not_true_eq_false, not_false_eq_true, ne_i0, ne_i1, ne_i2, ne_i3, ne_i4, ne_i5, ne_i6, ne_i7, ne_i8, ne_i9, ne_i10, ne_i12, ne_i14, ne_i16, ne_i18, ne_i19, ne_i20, ne_i23, ne_i24, ne_i27, ne_i29, ne_i30, ne_i31, ne_i32, ne_i35, ne_i48, ne_i52, ne_i54, ne_i57, ne_i59, ne_i63, ne_i64, ne_i76, ne_i77, ne_i78, ne_i79, ne_i80, ne_i81, ne_i97, ne_i99, ne_i100, ne_i101, ne_i104, ne_i105, ne_i108, ne_i110, ne_i111, ne_i116, ne_i117, ne_i122, ne_i103, ne_i200, ne_i255, ne_i256, ne_i320, ne_i384, ne_i1000, ne_l0, ne_l1, ne_l2, ne_l3, ne_l4, ne_l5, ne_l8, ne_l12, ne_l31, ne_l48, ne_l57, ne_l97, ne_l99, ne_l122, ne_l255, ne_l673, ne_l1073741823, ne_l1073741824, ebit, ekk, ejj, hzk, hzj, u0, u1, u2, y0, y1, y2]
        · have hbit' : (s.testBit k && s.testBit j) = false := Bool.eq_false_iff.mpr hbit
          rw [if_neg hbit] at ebit
          left
          refine ⟨(), by rw [sp_ck, hI]; unfold sp_c2; rw [hbit']; rfl, ?_⟩
          simp (disch := omega) only [sm_lt, sm_b1s, sm_b2s, ↓reduceIte, sm_in_nI, nI_clamp, nI_add, pk_mul, pk_sub, ne_addneg, nI_l, ne_ltT, ne_ltF, ne_leT, ne_leF, ne_eqT, ne_eqF, ne_sI1s, ne_sI1n, ne_sI2, ne_sI3, ne_sL1, ne_sL2s, ne_sL2n, ne_sL3, pk_us, pk_un, pk_uLs, pk_uLn, mm_Z, mm_L, mm_1, mm_2, mm_3, ne_rz0, ne_rz1, not_true_eq_false, not_false_eq_true, ne_i0, ne_i1, ne_i2, ne_i3, ne_i4, ne_i5, ne_i6, ne_i7, ne_i8, ne_i9, ne_i10, ne_i12, ne_i14, ne_i16, ne_i18, ne_i19, ne_i20, ne_i23, ne_i24, ne_i27, ne_i29, ne_i30, ne_i31, ne_i32, ne_i35, ne_i48, ne_i52, ne_i54, ne_i57, ne_i59, ne_i63, ne_i64, ne_i76, ne_i77, ne_i78, ne_i79, ne_i80, ne_i81, ne_i97, ne_i99, ne_i100, ne_i101, ne_i104, ne_i105, ne_i108, ne_i110, ne_i111, ne_i116, ne_i117, ne_i122, ne_i103, ne_i200, ne_i255, ne_i256, ne_i320, ne_i384, ne_i1000, ne_l0, ne_l1, ne_l2, ne_l3, ne_l4, ne_l5, ne_l8, ne_l12, ne_l31, ne_l48, ne_l57, ne_l97, ne_l99, ne_l122, ne_l255, ne_l673, ne_l1073741823, ne_l1073741824, ebit]
      · intro f' _ hI
        show (_ → px_House_clash_b12 N 1 _ (f' + 1) _ _ _ _ = _) ∧ (_ → px_House_clash_b12 N 1 _ (f' + 1) _ _ _ _ = _)
        refine ⟨fun q => (by rw [hI] at q; cases q), fun _ => ?_⟩
        rw [px_House_clash_b12]
        simp (disch := omega) only [sm_lt, sm_b1s, sm_b2s, ↓reduceIte, sm_in_nI, nI_clamp, nI_add, pk_mul, pk_sub, ne_addneg, nI_l, ne_ltT, ne_ltF, ne_leT, ne_leF, ne_eqT, ne_eqF, ne_sI1s, ne_sI1n, ne_sI2, ne_sI3, ne_sL1, ne_sL2s, ne_sL2n, ne_sL3, pk_us, pk_un, pk_uLs, pk_uLn, mm_Z, mm_L, mm_1, mm_2, mm_3, ne_rz0, ne_rz1, not_true_eq_false, not_false_eq_true, ne_i0, ne_i1, ne_i2, ne_i3, ne_i4, ne_i5, ne_i6, ne_i7, ne_i8, ne_i9, ne_i10, ne_i12, ne_i14, ne_i16, ne_i18, ne_i19, ne_i20, ne_i23, ne_i24, ne_i27, ne_i29, ne_i30, ne_i31, ne_i32, ne_i35, ne_i48, ne_i52, ne_i54, ne_i57, ne_i59, ne_i63, ne_i64, ne_i76, ne_i77, ne_i78, ne_i79, ne_i80, ne_i81, ne_i97, ne_i99, ne_i100, ne_i101, ne_i104, ne_i105, ne_i108, ne_i110, ne_i111, ne_i116, ne_i117, ne_i122, ne_i103, ne_i200, ne_i255, ne_i256, ne_i320, ne_i384, ne_i1000, ne_l0, ne_l1, ne_l2, ne_l3, ne_l4, ne_l5, ne_l8, ne_l12, ne_l31, ne_l48, ne_l57, ne_l97, ne_l99, ne_l122, ne_l255, ne_l673, ne_l1073741823, ne_l1073741824]
    show (∃ s', _ ∧ px_House_clash_b2 N 1 (f + 1) _ _ _ = _) ∨ px_House_clash_b2 N 1 (f + 1) _ _ _ = _
    rw [px_House_clash_b2]
    cases hck : sp_ck a s k k with
    | true =>
      right
      rw [if_pos (up (by rw [sp_cl, hck, Bool.or_true]))]
      simp (disch := omega) only [sm_lt, sm_b1s, sm_b2s, ↓reduceIte, sm_in_nI, nI_clamp, nI_add, pk_mul, pk_sub, ne_addneg, nI_l, ne_ltT, ne_ltF, ne_leT, ne_leF, ne_eqT, ne_eqF, ne_sI1s, ne_sI1n, ne_sI2, ne_sI3, ne_sL1, ne_sL2s, ne_sL2n, ne_sL3, pk_us, pk_un, pk_uLs, pk_uLn, mm_Z, mm_L, mm_1, mm_2, mm_3, ne_rz0, ne_rz1, not_true_eq_false, not_false_eq_true, ne_i0, ne_i1, ne_i2, ne_i3, ne_i4, ne_i5, ne_i6, ne_i7, ne_i8, ne_i9, ne_i10, ne_i12, ne_i14, ne_i16, ne_i18, ne_i19, ne_i20, ne_i23, ne_i24, ne_i27, ne_i29, ne_i30, ne_i31, ne_i32, ne_i35, ne_i48, ne_i52, ne_i54, ne_i57, ne_i59, ne_i63, ne_i64, ne_i76, ne_i77, ne_i78, ne_i79, ne_i80, ne_i81, ne_i97, ne_i99, ne_i100, ne_i101, ne_i104, ne_i105, ne_i108, ne_i110, ne_i111, ne_i116, ne_i117, ne_i122, ne_i103, ne_i200, ne_i255, ne_i256, ne_i320, ne_i384, ne_i1000, ne_l0, ne_l1, ne_l2, ne_l3, ne_l4, ne_l5, ne_l8, ne_l12, ne_l31, ne_l48, ne_l57, ne_l97, ne_l99, ne_l122, ne_l255, ne_l673, ne_l1073741823, ne_l1073741824, h13]
      exact inner.1 hck
    | false =>
      left
      refine ⟨(), by rw [sp_cl, hI, hck]; rfl, ?_⟩
      simp (disch := omega) only [sm_lt, sm_b1s, sm_b2s, ↓reduceIte, sm_in_nI, nI_clamp, nI_add, pk_mul, pk_sub, ne_addneg, nI_l, ne_ltT, ne_ltF, ne_leT, ne_leF, ne_eqT, ne_eqF, ne_sI1s, ne_sI1n, ne_sI2, ne_sI3, ne_sL1, ne_sL2s, ne_sL2n, ne_sL3, pk_us, pk_un, pk_uLs, pk_uLn, mm_Z, mm_L, mm_1, mm_2, mm_3, ne_rz0, ne_rz1, not_true_eq_false, not_false_eq_true, ne_i0, ne_i1, ne_i2, ne_i3, ne_i4, ne_i5, ne_i6, ne_i7, ne_i8, ne_i9, ne_i10, ne_i12, ne_i14, ne_i16, ne_i18, ne_i19, ne_i20, ne_i23, ne_i24, ne_i27, ne_i29, ne_i30, ne_i31, ne_i32, ne_i35, ne_i48, ne_i52, ne_i54, ne_i57, ne_i59, ne_i63, ne_i64, ne_i76, ne_i77, ne_i78, ne_i79, ne_i80, ne_i81, ne_i97, ne_i99, ne_i100, ne_i101, ne_i104, ne_i105, ne_i108, ne_i110, ne_i111, ne_i116, ne_i117, ne_i122, ne_i103, ne_i200, ne_i255, ne_i256, ne_i320, ne_i384, ne_i1000, ne_l0, ne_l1, ne_l2, ne_l3, ne_l4, ne_l5, ne_l8, ne_l12, ne_l31, ne_l48, ne_l57, ne_l97, ne_l99, ne_l122, ne_l255, ne_l673, ne_l1073741823, ne_l1073741824, h13]
      exact inner.2 hck
  · intro f _ hI
    show px_House_clash_b2 N 1 (f + 1) _ _ _ = _
    have e : (if sp_cl a s (a 80) = true then 1 else 0) = 0 := if_neg (by rw [hI]; simp)
    rw [e, px_House_clash_b2]
    simp (disch := omega) only [sm_lt, sm_b1s, sm_b2s, ↓reduceIte, sm_in_nI, nI_clamp, nI_add, pk_mul, pk_sub, ne_addneg, nI_l, ne_ltT, ne_ltF, ne_leT, ne_leF, ne_eqT, ne_eqF, ne_sI1s, ne_sI1n, ne_sI2, ne_sI3, ne_sL1, ne_sL2s, ne_sL2n, ne_sL3, pk_us, pk_un, pk_uLs, pk_uLn, mm_Z, mm_L, mm_1, mm_2, mm_3, ne_rz0, ne_rz1, not_true_eq_false, not_false_eq_true, ne_i0, ne_i1, ne_i2, ne_i3, ne_i4, ne_i5, ne_i6, ne_i7, ne_i8, ne_i9, ne_i10, ne_i12, ne_i14, ne_i16, ne_i18, ne_i19, ne_i20, ne_i23, ne_i24, ne_i27, ne_i29, ne_i30, ne_i31, ne_i32, ne_i35, ne_i48, ne_i52, ne_i54, ne_i57, ne_i59, ne_i63, ne_i64, ne_i76, ne_i77, ne_i78, ne_i79, ne_i80, ne_i81, ne_i97, ne_i99, ne_i100, ne_i101, ne_i104, ne_i105, ne_i108, ne_i110, ne_i111, ne_i116, ne_i117, ne_i122, ne_i103, ne_i200, ne_i255, ne_i256, ne_i320, ne_i384, ne_i1000, ne_l0, ne_l1, ne_l2, ne_l3, ne_l4, ne_l5, ne_l8, ne_l12, ne_l31, ne_l48, ne_l57, ne_l97, ne_l99, ne_l122, ne_l255, ne_l673, ne_l1073741823, ne_l1073741824, h13]
end
