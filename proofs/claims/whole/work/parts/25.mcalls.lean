/-! shades behind some nights, and what the reference's calls make of them -/
def sp_ns (a t co w : Nat → Nat) : Nat → Nat → Nat
  | 0 => w
  | n + 1 => sp_nw a t co (sp_ns a t co w n)
theorem sp_nw_w {a t co w : Nat → Nat} (hs : sc a t co) (hw : sp_w a w) : sp_w a (sp_nw a t co w) := by
  intro c hc
  have hc4 : c ≠ 4 := by have := hs.1; omega
  have b0 := (sp_by_le hs (a 76) (Nat.le_refl _)).1
  unfold sp_nw
  rw [if_neg hc4, if_pos hc, if_pos rfl, ← Nat.mul_assoc]
  unfold sp_nt
  split
  · refine Nat.mul_le_mul_right _ ?_
    cases e : sp_gr a t co w c 8 with
    | none => exact hw c hc
    | some m => exact sp_gr_le hs hw 8 m e
  · split
    · rename_i h0
      calc sp_sm a t co w c 8 * (sp_by a t (a 76) / sp_ts a t c 8) ≤ (sp_ts a t c 8 * (12 * w 4)) * (sp_by a t (a 76) / sp_ts a t c 8) := Nat.mul_le_mul_right _ (sp_sm_le hs hw hc 8)
        _ = (12 * w 4) * (sp_ts a t c 8 * (sp_by a t (a 76) / sp_ts a t c 8)) := by rw [Nat.mul_comm (sp_ts a t c 8), Nat.mul_assoc]
        _ ≤ (12 * w 4) * sp_by a t (a 76) := Nat.mul_le_mul_left _ (Nat.mul_div_le _ _)
    · exact Nat.mul_le_mul_right _ (hw c hc)
theorem sp_nw_4 {a t co w : Nat → Nat} (hs : sc a t co) (n : Nat) (h : w 4 ≤ 2 ^ (21 * n)) : sp_nw a t co w 4 ≤ 2 ^ (21 * (n + 1)) := by
  unfold sp_nw
  rw [if_pos rfl, Nat.mul_add, Nat.pow_add]
  exact Nat.mul_le_mul h (Nat.le_trans (sp_by_4 hs (Nat.le_refl _)) (by decide))
theorem sp_nw_0 {a t co w : Nat → Nat} (hs : sc a t co) (h : 0 < w 4) : 0 < sp_nw a t co w 4 := by
  unfold sp_nw
  rw [if_pos rfl]
  exact Nat.mul_pos h (sp_by_le hs _ (Nat.le_refl _)).1
theorem sp_ns_w {a t co w : Nat → Nat} (hs : sc a t co) (hw : sp_w a w) : ∀ n, sp_w a (sp_ns a t co w n)
  | 0 => hw
  | n + 1 => sp_nw_w hs (sp_ns_w hs hw n)
theorem sp_ns_4 {a t co w : Nat → Nat} {m : Nat} (hs : sc a t co) (h : w 4 ≤ 2 ^ (21 * m)) : ∀ n, sp_ns a t co w n 4 ≤ 2 ^ (21 * (m + n))
  | 0 => h
  | n + 1 => sp_nw_4 hs (m + n) (sp_ns_4 hs h n)
theorem sp_ns_0 {a t co w : Nat → Nat} (hs : sc a t co) (h : 0 < w 4) : ∀ n, 0 < sp_ns a t co w n 4
  | 0 => h
  | n + 1 => sp_nw_0 hs (sp_ns_0 hs h n)
theorem sp_1000 {x n : Nat} (h : x ≤ 2 ^ (21 * n)) (hn : n ≤ 40) : x < 2 ^ 1000 := Nat.lt_of_le_of_lt h (Nat.pow_lt_pow_right (by decide) (by omega))
section
variable {N : Nat} {M S : sm_St} {v a t co w : Nat → Nat}
/-- S: shades w stand in the work places, the rest of v as it was -/
def nW (M : sm_St) (v w : Nat → Nat) (S : sm_St) : Prop := ∃ v', nP M v' S ∧ (fun i => v' (14 + i)) = w ∧ ∀ s, s < 4 → v' s = v s
theorem nW_pos {w' : Nat → Nat} (h : nW M v w S) (e : w = w') : nW M v w' S := by rw [← e]; exact h
theorem nW_1 {p : Nat} (h : nW M v w S) (hp : p ≠ 6) : S.1 p = M.1 p := by
  obtain ⟨v', h1, _⟩ := h
  exact nP_1 h1 hp
theorem nW_nw (h : nW M v w S) (hw : nw a M) : nw a S := by
  obtain ⟨v', h1, _⟩ := h
  exact nP_nw h1 hw
theorem nW_nt (h : nW M v w S) (hw : nt t co M) : nt t co S := by
  obtain ⟨v', h1, _⟩ := h
  exact nP_nt h1 hw
theorem nW_night (hN : 4000 ≤ N) (h : nW M v w S) (hw : nw a M) (ht : nt t co M) (hs : sc a t co) (hv : sp_w a w) (hb : w 4 < 2 ^ 1000) : ∃ S', pm_night N S = some S' ∧ nW M v (sp_nw a t co w) S' := by
  obtain ⟨v', h1, rfl, h3⟩ := h
  obtain ⟨S1, v1, e1, g1, g2, g3⟩ := np_night hN h1 hw ht hs hv hb
  exact ⟨S1, e1, v1, g1, g2, fun s hs' => by rw [g3 s (by omega)]; exact h3 s hs'⟩
theorem nW_nights {n m : Nat} (hN : 4000 ≤ N) (h : nW M v w S) (hw : nw a M) (ht : nt t co M) (hs : sc a t co) (hv : sp_w a w) (hb : w 4 ≤ 2 ^ (21 * m)) (hm : m ≤ 12) (hn : n ≤ 12) : ∃ S', pm_nights N S (nI n) = some S' ∧ nW M v (sp_ns a t co w n) S' := by
  unfold pm_nights
  simp (disch := omega) only [sm_lt, sm_b1s, sm_b2s, ↓reduceIte, sm_in_nI, nI_clamp, nI_add, pk_mul, pk_sub, ne_addneg, nI_l, ne_ltT, ne_ltF, ne_leT, ne_leF, ne_eqT, ne_eqF, ne_sI1s, ne_sI1n, ne_sI2, ne_sI3, ne_sL1, ne_sL2s, ne_sL2n, ne_sL3, pk_us, pk_un, pk_uLs, pk_uLn, mm_Z, mm_L, mm_1, mm_2, mm_3, ne_rz0, ne_rz1, not_true_eq_false, not_false_eq_true, ne_i0, ne_i1, ne_i2, ne_i3, ne_i4, ne_i5, ne_i6, ne_i7, ne_i8, ne_i9, ne_i10, ne_i12, ne_i14, ne_i16, ne_i18, ne_i19, ne_i20, ne_i23, ne_i24, ne_i27, ne_i29, ne_i30, ne_i31, ne_i32, ne_i35, ne_i48, ne_i52, ne_i54, ne_i57, ne_i59, ne_i63, ne_i64, ne_i76, ne_i77, ne_i78, ne_i79, ne_i80, ne_i81, ne_i97, ne_i99, ne_i100, ne_i101, ne_i104, ne_i105, ne_i108, ne_i110, ne_i111, ne_i116, ne_i117, ne_i122, ne_i103, ne_i200, ne_i255, ne_i256, ne_i320, ne_i384, ne_i1000, ne_l0, ne_l1, ne_l2, ne_l3, ne_l4, ne_l5, ne_l8, ne_l12, ne_l31, ne_l48, ne_l57, ne_l97, ne_l99, ne_l122, ne_l255, ne_l673, ne_l1073741823, ne_l1073741824]
  refine ne_loop (fun f i (s : sm_St) => pm_nights_b2 N f (nI n) (nI i) s) (fun i s => nW M v (sp_ns a t co w i) s) n (fun r => ∃ S', r = some S' ∧ nW M v (sp_ns a t co w n) S') ?_ ?_ N 0 S (by omega) (by omega) h
  · intro f i s hi hI
    left
    obtain ⟨S1, e1, h1⟩ := nW_night hN hI hw ht hs (sp_ns_w hs hv i) (sp_1000 (sp_ns_4 hs hb i) (by omega))
    refine ⟨S1, h1, ?_⟩
    show pm_nights_b2 N (f + 1) _ _ _ = _
    rw [pm_nights_b2]
    simp (disch := omega) only [sm_lt, sm_b1s, sm_b2s, ↓reduceIte, sm_in_nI, nI_clamp, nI_add, pk_mul, pk_sub, ne_addneg, nI_l, ne_ltT, ne_ltF, ne_leT, ne_leF, ne_eqT, ne_eqF, ne_sI1s, ne_sI1n, ne_sI2, ne_sI3, ne_sL1, ne_sL2s, ne_sL2n, ne_sL3, pk_us, pk_un, pk_uLs, pk_uLn, mm_Z, mm_L, mm_1, mm_2, mm_3, ne_rz0, ne_rz1, not_true_eq_false, not_false_eq_true, ne_i0, ne_i1, ne_i2, ne_i3, ne_i4, ne_i5, ne_i6, ne_i7, ne_i8, ne_i9, ne_i10, ne_i12, ne_i14, ne_i16, ne_i18, ne_i19, ne_i20, ne_i23, ne_i24, ne_i27, ne_i29, ne_i30, ne_i31, ne_i32, ne_i35, ne_i48, ne_i52, ne_i54, ne_i57, ne_i59, ne_i63, ne_i64, ne_i76, ne_i77, ne_i78, ne_i79, ne_i80, ne_i81, ne_i97, ne_i99, ne_i100, ne_i101, ne_i104, ne_i105, ne_i108, ne_i110, ne_i111, ne_i116, ne_i117, ne_i122, ne_i103, ne_i200, ne_i255, ne_i256, ne_i320, ne_i384, ne_i1000, ne_l0, ne_l1, ne_l2, ne_l3, ne_l4, ne_l5, ne_l8, ne_l12, ne_l31, ne_l48, ne_l57, ne_l97, ne_l99, ne_l122, ne_l255, ne_l673, ne_l1073741823, ne_l1073741824, e1]
  · intro f s hI
    show ∃ S', pm_nights_b2 N (f + 1) _ _ _ = _ ∧ _
    rw [pm_nights_b2]
    simp (disch := omega) only [sm_lt, sm_b1s, sm_b2s, ↓reduceIte, sm_in_nI, nI_clamp, nI_add, pk_mul, pk_sub, ne_addneg, nI_l, ne_ltT, ne_ltF, ne_leT, ne_leF, ne_eqT, ne_eqF, ne_sI1s, ne_sI1n, ne_sI2, ne_sI3, ne_sL1, ne_sL2s, ne_sL2n, ne_sL3, pk_us, pk_un, pk_uLs, pk_uLn, mm_Z, mm_L, mm_1, mm_2, mm_3, ne_rz0, ne_rz1, not_true_eq_false, not_false_eq_true, ne_i0, ne_i1, ne_i2, ne_i3, ne_i4, ne_i5, ne_i6, ne_i7, ne_i8, ne_i9, ne_i10, ne_i12, ne_i14, ne_i16, ne_i18, ne_i19, ne_i20, ne_i23, ne_i24, ne_i27, ne_i29, ne_i30, ne_i31, ne_i32, ne_i35, ne_i48, ne_i52, ne_i54, ne_i57, ne_i59, ne_i63, ne_i64, ne_i76, ne_i77, ne_i78, ne_i79, ne_i80, ne_i81, ne_i97, ne_i99, ne_i100, ne_i101, ne_i104, ne_i105, ne_i108, ne_i110, ne_i111, ne_i116, ne_i117, ne_i122, ne_i103, ne_i200, ne_i255, ne_i256, ne_i320, ne_i384, ne_i1000, ne_l0, ne_l1, ne_l2, ne_l3, ne_l4, ne_l5, ne_l8, ne_l12, ne_l31, ne_l48, ne_l57, ne_l97, ne_l99, ne_l122, ne_l255, ne_l673, ne_l1073741823, ne_l1073741824]
    exact ⟨s, rfl, hI⟩
theorem nW_term {p : Nat} (hN : 4000 ≤ N) (h : nW M v w S) (hp : p ≤ 12) (hb : w 4 < 2 ^ 1000) : ∃ S1 S2, pm_copy N S (nI 8) (nI 18) = some S1 ∧ pm_times N S1 (nI 8) (lN p) = some S2 ∧ nW M v w S2 ∧ ∀ c, c ≤ 4 → pm_compare N S2 (nI (14 + c)) (nI 8) = some (nm_cmp (w c) (w 4 * p), S2) := by
  obtain ⟨v', h1, rfl, h3⟩ := h
  obtain ⟨S1, e1, g1⟩ := nP_copy (a := 8) (b := 18) hN h1 (by omega) (by omega) (by omega) (by omega)
  obtain ⟨S2, e2, g2⟩ := nP_times (a := 8) (m := p) hN g1 (by omega) (by omega) (by omega) (by
    rw [ne_up_s]
    exact sp_big hb (by omega))
  rw [ne_up_s, bx_uu] at g2
  refine ⟨S1, S2, e1, e2, ⟨_, g2, ?_, fun s hs => by rw [ne_up_n (by omega)]; exact h3 s hs⟩, fun c hc => ?_⟩
  · funext i
    exact ne_up_n (by omega)
  · have := nP_compare (a := 14 + c) (b := 8) hN g2 (by omega) (by omega) (by omega) (by omega)
    rw [ne_up_s, ne_up_n (by omega)] at this
    exact this
theorem nW_least {c p : Nat} (hN : 4000 ≤ N) (h : nW M v w S) (hc : c < 4) (hp : p ≤ 12) (hb : w 4 < 2 ^ 1000) : ∃ S', pm_hasLeast N S (nI c) (nI p) = some (if w 4 * p ≤ w c then nI 1 else nI 0, S') ∧ nW M v w S' := by
  obtain ⟨S1, S2, e1, e2, h2, e3⟩ := nW_term hN h hp hb
  refine ⟨S2, ?_, h2⟩
  unfold pm_hasLeast
  by_cases q : w 4 * p ≤ w c
  · have q' : ¬ w c < w 4 * p := by omega
    simp (disch := omega) only [sm_lt, sm_b1s, sm_b2s, ↓reduceIte, sm_in_nI, nI_clamp, nI_add, pk_mul, pk_sub, ne_addneg, nI_l, ne_ltT, ne_ltF, ne_leT, ne_leF, ne_eqT, ne_eqF, ne_sI1s, ne_sI1n, ne_sI2, ne_sI3, ne_sL1, ne_sL2s, ne_sL2n, ne_sL3, pk_us, pk_un, pk_uLs, pk_uLn, mm_Z, mm_L, mm_1, mm_2, mm_3, ne_rz0, ne_rz1, not_true_eq_false, not_false_eq_true, ne_i0, ne_i1, ne_i2, ne_i3, ne_i4, ne_i5, ne_i6, ne_i7, ne_i8, ne_i9, ne_i10, ne_i12, ne_i14, ne_i16, ne_i18, ne_i19, ne_i20, ne_i23, ne_i24, ne_i27, ne_i29, ne_i30, ne_i31, ne_i32, ne_i35, ne_i48, ne_i52, ne_i54, ne_i57, ne_i59, ne_i63, ne_i64, ne_i76, ne_i77, ne_i78, ne_i79, ne_i80, ne_i81, ne_i97, ne_i99, ne_i100, ne_i101, ne_i104, ne_i105, ne_i108, ne_i110, ne_i111, ne_i116, ne_i117, ne_i122, ne_i103, ne_i200, ne_i255, ne_i256, ne_i320, ne_i384, ne_i1000, ne_l0, ne_l1, ne_l2, ne_l3, ne_l4, ne_l5, ne_l8, ne_l12, ne_l31, ne_l48, ne_l57, ne_l97, ne_l99, ne_l122, ne_l255, ne_l673, ne_l1073741823, ne_l1073741824, e1, e2, e3, ne_cmp_lt, q, q']
  · have q' : w c < w 4 * p := by omega
    simp (disch := omega) only [sm_lt, sm_b1s, sm_b2s, ↓reduceIte, sm_in_nI, nI_clamp, nI_add, pk_mul, pk_sub, ne_addneg, nI_l, ne_ltT, ne_ltF, ne_leT, ne_leF, ne_eqT, ne_eqF, ne_sI1s, ne_sI1n, ne_sI2, ne_sI3, ne_sL1, ne_sL2s, ne_sL2n, ne_sL3, pk_us, pk_un, pk_uLs, pk_uLn, mm_Z, mm_L, mm_1, mm_2, mm_3, ne_rz0, ne_rz1, not_true_eq_false, not_false_eq_true, ne_i0, ne_i1, ne_i2, ne_i3, ne_i4, ne_i5, ne_i6, ne_i7, ne_i8, ne_i9, ne_i10, ne_i12, ne_i14, ne_i16, ne_i18, ne_i19, ne_i20, ne_i23, ne_i24, ne_i27, ne_i29, ne_i30, ne_i31, ne_i32, ne_i35, ne_i48, ne_i52, ne_i54, ne_i57, ne_i59, ne_i63, ne_i64, ne_i76, ne_i77, ne_i78, ne_i79, ne_i80, ne_i81, ne_i97, ne_i99, ne_i100, ne_i101, ne_i104, ne_i105, ne_i108, ne_i110, ne_i111, ne_i116, ne_i117, ne_i122, ne_i103, ne_i200, ne_i255, ne_i256, ne_i320, ne_i384, ne_i1000, ne_l0, ne_l1, ne_l2, ne_l3, ne_l4, ne_l5, ne_l8, ne_l12, ne_l31, ne_l48, ne_l57, ne_l97, ne_l99, ne_l122, ne_l255, ne_l673, ne_l1073741823, ne_l1073741824, e1, e2, e3, ne_cmp_lt, q, q']
theorem nW_most {c p : Nat} (hN : 4000 ≤ N) (h : nW M v w S) (hc : c < 4) (hp : p ≤ 12) (hb : w 4 < 2 ^ 1000) : ∃ S', pm_hasMost N S (nI c) (nI p) = some (if w c ≤ w 4 * p then nI 1 else nI 0, S') ∧ nW M v w S' := by
  obtain ⟨S1, S2, e1, e2, h2, e3⟩ := nW_term hN h hp hb
  refine ⟨S2, ?_, h2⟩
  unfold pm_hasMost
  by_cases q : w c ≤ w 4 * p
  · have q' : ¬ w 4 * p < w c := by omega
    simp (disch := omega) only [sm_lt, sm_b1s, sm_b2s, ↓reduceIte, sm_in_nI, nI_clamp, nI_add, pk_mul, pk_sub, ne_addneg, nI_l, ne_ltT, ne_ltF, ne_leT, ne_leF, ne_eqT, ne_eqF, ne_sI1s, ne_sI1n, ne_sI2, ne_sI3, ne_sL1, ne_sL2s, ne_sL2n, ne_sL3, pk_us, pk_un, pk_uLs, pk_uLn, mm_Z, mm_L, mm_1, mm_2, mm_3, ne_rz0, ne_rz1, not_true_eq_false, not_false_eq_true, ne_i0, ne_i1, ne_i2, ne_i3, ne_i4, ne_i5, ne_i6, ne_i7, ne_i8, ne_i9, ne_i10, ne_i12, ne_i14, ne_i16, ne_i18, ne_i19, ne_i20, ne_i23, ne_i24, ne_i27, ne_i29, ne_i30, ne_i31, ne_i32, ne_i35, ne_i48, ne_i52, ne_i54, ne_i57, ne_i59, ne_i63, ne_i64, ne_i76, ne_i77, ne_i78, ne_i79, ne_i80, ne_i81, ne_i97, ne_i99, ne_i100, ne_i101, ne_i104, ne_i105, ne_i108, ne_i110, ne_i111, ne_i116, ne_i117, ne_i122, ne_i103, ne_i200, ne_i255, ne_i256, ne_i320, ne_i384, ne_i1000, ne_l0, ne_l1, ne_l2, ne_l3, ne_l4, ne_l5, ne_l8, ne_l12, ne_l31, ne_l48, ne_l57, ne_l97, ne_l99, ne_l122, ne_l255, ne_l673, ne_l1073741823, ne_l1073741824, e1, e2, e3, ne_cmp_gt, q, q']
  · have q' : w 4 * p < w c := by omega
    simp (disch := omega) only [sm_lt, sm_b1s, sm_b2s, ↓reduceIte, sm_in_nI, nI_clamp, nI_add, pk_mul, pk_sub, ne_addneg, nI_l, ne_ltT, ne_ltF, ne_leT, ne_leF, ne_eqT, ne_eqF, ne_sI1s, ne_sI1n, ne_sI2, ne_sI3, ne_sL1, ne_sL2s, ne_sL2n, ne_sL3, pk_us, pk_un, pk_uLs, pk_uLn, mm_Z, mm_L, mm_1, mm_2, mm_3, ne_rz0, ne_rz1, not_true_eq_false, not_false_eq_true, ne_i0, ne_i1, ne_i2, ne_i3, ne_i4, ne_i5, ne_i6, ne_i7, ne_i8, ne_i9, ne_i10, ne_i12, ne_i14, ne_i16, ne_i18, ne_i19, ne_i20, ne_i23, ne_i24, ne_i27, ne_i29, ne_i30, ne_i31, ne_i32, ne_i35, ne_i48, ne_i52, ne_i54, ne_i57, ne_i59, ne_i63, ne_i64, ne_i76, ne_i77, ne_i78, ne_i79, ne_i80, ne_i81, ne_i97, ne_i99, ne_i100, ne_i101, ne_i104, ne_i105, ne_i108, ne_i110, ne_i111, ne_i116, ne_i117, ne_i122, ne_i103, ne_i200, ne_i255, ne_i256, ne_i320, ne_i384, ne_i1000, ne_l0, ne_l1, ne_l2, ne_l3, ne_l4, ne_l5, ne_l8, ne_l12, ne_l31, ne_l48, ne_l57, ne_l97, ne_l99, ne_l122, ne_l255, ne_l673, ne_l1073741823, ne_l1073741824, e1, e2, e3, ne_cmp_gt, q, q']
/-- the base behind takeNow -/
def sm_tn (a : Nat → Nat) (M : sm_St) : sm_St := sm_sF (sm_sF M 7 (fun k => if k < 32 then nI (a (16 + k)) else M.1 7 k)) 8 (fun k => if k < 4 then nI (a (48 + k)) else M.1 8 k)
theorem tn_1 {p : Nat} (h7 : p ≠ 7) (h8 : p ≠ 8) : (sm_tn a M).1 p = M.1 p := by simp [sm_tn, sm_sF, va_up, h7, h8]
theorem tn_2 : (sm_tn a M).2 = M.2 := rfl
theorem tn_t : nt (fun k => a (16 + k)) (fun k => a (48 + k)) (sm_tn a M) := by
  refine ⟨fun k hk => ?_, fun k hk => ?_⟩
  · simp [sm_tn, sm_sF, va_up, hk]
  · simp [sm_tn, sm_sF, va_up, hk]
theorem tn_nw (hw : nw a M) : nw a (sm_tn a M) := fun k hk => by rw [tn_1 (by decide) (by decide)]; exact hw k hk
theorem nP_sF {p : Nat} {g : Nat → Int32} (h : nP M v S) (hp : p ≠ 6) : nP (sm_sF M p g) v (sm_sF S p g) := by
  obtain ⟨L, Z, rfl, hA⟩ := h
  refine ⟨L, Z, ?_, hA⟩
  unfold sm_sF mm
  refine Prod.ext ?_ rfl
  funext q
  show va_up (va_up M.1 6 Z) p g q = va_up (va_up M.1 p g) 6 Z q
  by_cases h1 : q = p
  · subst h1
    simp [va_up, hp]
  · by_cases h2 : q = 6
    · subst h2
      simp [va_up, Ne.symm hp]
    · simp [va_up, h1, h2]
theorem sF_sI {p k : Nat} {g : Nat → Int32} {x : Int32} : sm_sI (sm_sF S p g) p k x = sm_sF S p (upd g k x) := by
  unfold sm_sF sm_sI
  simp [va_up, bx_uu]
theorem sF_self {p : Nat} : sm_sF S p (S.1 p) = S := by
  unfold sm_sF
  have h1 : va_up S.1 p (S.1 p) = S.1 := by funext q; by_cases h : q = p <;> simp [va_up, h]
  rw [h1]
theorem sF_s {p : Nat} {g : Nat → Int32} : (sm_sF S p g).1 p = g := by simp [sm_sF, va_up]
theorem sF_n {p q : Nat} {g : Nat → Int32} (h : q ≠ p) : (sm_sF S p g).1 q = S.1 q := by simp [sm_sF, va_up, h]
theorem np_takeNow (hN : 4000 ≤ N) (h : nP M v S) (hw : nw a M) : ∃ S', pm_takeNow N S = some S' ∧ nW (sm_tn a M) v (fun i => if i < 5 then v (19 + i) else v (14 + i)) S' := by
  have hwS := nP_nw h hw
  -- the numbers
  have part3 : ∀ S, nP (sm_tn a M) v S → ∃ S', pm_takeNow_b59 N N (nI 0) S = some S' ∧ nW (sm_tn a M) v (fun i => if i < 5 then v (19 + i) else v (14 + i)) S' := by
    intro S h
    refine ne_loop (fun f i (s : sm_St) => pm_takeNow_b59 N f (nI i) s) (fun i s => nP (sm_tn a M) (fun s => if 14 ≤ s ∧ s < 14 + i then v (s + 5) else v s) s) 5 (fun r => ∃ S', r = some S' ∧ nW (sm_tn a M) v (fun i => if i < 5 then v (19 + i) else v (14 + i)) S') ?_ ?_ N 0 S (by omega) (by omega) (nP_eq h (fun s _ => by rw [if_neg (by omega)]))
    · intro f i s hi hI
      left
      obtain ⟨S1, e1, h1⟩ := nP_copy (a := 14 + i) (b := 19 + i) hN hI (by omega) (by omega) (by omega) (by omega)
      refine ⟨S1, nP_eq h1 (fun s _ => ?_), ?_⟩
      · by_cases e : s = 14 + i
        · subst e
          rw [ne_up_s, if_neg (by omega), if_pos (by omega)]
          congr 1
          omega
        · rw [ne_up_n e]
          by_cases q : 14 ≤ s ∧ s < 14 + i
          · rw [if_pos q, if_pos (by omega)]
          · rw [if_neg q, if_neg (by omega)]
      · show pm_takeNow_b59 N (f + 1) _ _ = _
        rw [pm_takeNow_b59]
        simp (disch := omega) only [sm_lt, sm_b1s, sm_b2s, ↓reduceIte, sm_in_nI, nI_clamp, nI_add, pk_mul, pk_sub, ne_addneg, nI_l, ne_ltT, ne_ltF, ne_leT, ne_leF, ne_eqT, ne_eqF, ne_sI1s, ne_sI1n, ne_sI2, ne_sI3, ne_sL1, ne_sL2s, ne_sL2n, ne_sL3, pk_us, pk_un, pk_uLs, pk_uLn, mm_Z, mm_L, mm_1, mm_2, mm_3, ne_rz0, ne_rz1, not_true_eq_false, not_false_eq_true, ne_i0, ne_i1, ne_i2, ne_i3, ne_i4, ne_i5, ne_i6, ne_i7, ne_i8, ne_i9, ne_i10, ne_i12, ne_i14, ne_i16, ne_i18, ne_i19, ne_i20, ne_i23, ne_i24, ne_i27, ne_i29, ne_i30, ne_i31, ne_i32, ne_i35, ne_i48, ne_i52, ne_i54, ne_i57, ne_i59, ne_i63, ne_i64, ne_i76, ne_i77, ne_i78, ne_i79, ne_i80, ne_i81, ne_i97, ne_i99, ne_i100, ne_i101, ne_i104, ne_i105, ne_i108, ne_i110, ne_i111, ne_i116, ne_i117, ne_i122, ne_i103, ne_i200, ne_i255, ne_i256, ne_i320, ne_i384, ne_i1000, ne_l0, ne_l1, ne_l2, ne_l3, ne_l4, ne_l5, ne_l8, ne_l12, ne_l31, ne_l48, ne_l57, ne_l97, ne_l99, ne_l122, ne_l255, ne_l673, ne_l1073741823, ne_l1073741824, e1]
    · intro f s hI
      show ∃ S', pm_takeNow_b59 N (f + 1) _ _ = _ ∧ _
      rw [pm_takeNow_b59]
      simp (disch := omega) only [sm_lt, sm_b1s, sm_b2s, ↓reduceIte, sm_in_nI, nI_clamp, nI_add, pk_mul, pk_sub, ne_addneg, nI_l, ne_ltT, ne_ltF, ne_leT, ne_leF, ne_eqT, ne_eqF, ne_sI1s, ne_sI1n, ne_sI2, ne_sI3, ne_sL1, ne_sL2s, ne_sL2n, ne_sL3, pk_us, pk_un, pk_uLs, pk_uLn, mm_Z, mm_L, mm_1, mm_2, mm_3, ne_rz0, ne_rz1, not_true_eq_false, not_false_eq_true, ne_i0, ne_i1, ne_i2, ne_i3, ne_i4, ne_i5, ne_i6, ne_i7, ne_i8, ne_i9, ne_i10, ne_i12, ne_i14, ne_i16, ne_i18, ne_i19, ne_i20, ne_i23, ne_i24, ne_i27, ne_i29, ne_i30, ne_i31, ne_i32, ne_i35, ne_i48, ne_i52, ne_i54, ne_i57, ne_i59, ne_i63, ne_i64, ne_i76, ne_i77, ne_i78, ne_i79, ne_i80, ne_i81, ne_i97, ne_i99, ne_i100, ne_i101, ne_i104, ne_i105, ne_i108, ne_i110, ne_i111, ne_i116, ne_i117, ne_i122, ne_i103, ne_i200, ne_i255, ne_i256, ne_i320, ne_i384, ne_i1000, ne_l0, ne_l1, ne_l2, ne_l3, ne_l4, ne_l5, ne_l8, ne_l12, ne_l31, ne_l48, ne_l57, ne_l97, ne_l99, ne_l122, ne_l255, ne_l673, ne_l1073741823, ne_l1073741824]
      refine ⟨s, rfl, _, hI, ?_, fun s hs => by rw [if_neg (by omega)]⟩
      funext i
      show (if 14 ≤ 14 + i ∧ 14 + i < 14 + 5 then v (14 + i + 5) else v (14 + i)) = _
      by_cases q : i < 5
      · rw [if_pos (by omega), if_pos q]
        congr 1
        omega
      · rw [if_neg (by omega), if_neg q]
  have part2 : ∀ S, nw a S → nP (sm_sF M 7 (fun k => if k < 32 then nI (a (16 + k)) else M.1 7 k)) v S → ∃ S', pm_takeNow_b31 N N (nI 0) S = some S' ∧ nW (sm_tn a M) v (fun i => if i < 5 then v (19 + i) else v (14 + i)) S' := by
    intro S hwS hS
    have q := ne_loop (fun f i (g : Nat → Int32) => pm_takeNow_b31 N f (nI i) (sm_sF S 8 g)) (fun i g => ∀ k, g k = if k < i then nI (a (48 + k)) else M.1 8 k) 4 (fun r => ∃ S', r = some S' ∧ nW (sm_tn a M) v (fun i => if i < 5 then v (19 + i) else v (14 + i)) S') ?_ ?_ N 0 (S.1 8) (by omega) (by omega) (fun k => by rw [nP_1 hS (by decide), if_neg (by omega), sF_n (by decide)])
    · simp only [sF_self] at q
      exact q
    · intro f i g hi hI
      left
      refine ⟨upd g i (nI (a (48 + i))), fun k => ?_, ?_⟩
      · by_cases e : k = i
        · subst e
          rw [pk_us, if_pos (by omega)]
        · rw [pk_un e, hI]
          by_cases q : k < i
          · rw [if_pos q, if_pos (by omega)]
          · rw [if_neg q, if_neg (by omega)]
      · show pm_takeNow_b31 N (f + 1) _ _ = _
        rw [pm_takeNow_b31]
        simp (disch := omega) only [sm_lt, sm_b1s, sm_b2s, ↓reduceIte, sm_in_nI, nI_clamp, nI_add, pk_mul, pk_sub, ne_addneg, nI_l, ne_ltT, ne_ltF, ne_leT, ne_leF, ne_eqT, ne_eqF, ne_sI1s, ne_sI1n, ne_sI2, ne_sI3, ne_sL1, ne_sL2s, ne_sL2n, ne_sL3, pk_us, pk_un, pk_uLs, pk_uLn, mm_Z, mm_L, mm_1, mm_2, mm_3, ne_rz0, ne_rz1, not_true_eq_false, not_false_eq_true, ne_i0, ne_i1, ne_i2, ne_i3, ne_i4, ne_i5, ne_i6, ne_i7, ne_i8, ne_i9, ne_i10, ne_i12, ne_i14, ne_i16, ne_i18, ne_i19, ne_i20, ne_i23, ne_i24, ne_i27, ne_i29, ne_i30, ne_i31, ne_i32, ne_i35, ne_i48, ne_i52, ne_i54, ne_i57, ne_i59, ne_i63, ne_i64, ne_i76, ne_i77, ne_i78, ne_i79, ne_i80, ne_i81, ne_i97, ne_i99, ne_i100, ne_i101, ne_i104, ne_i105, ne_i108, ne_i110, ne_i111, ne_i116, ne_i117, ne_i122, ne_i103, ne_i200, ne_i255, ne_i256, ne_i320, ne_i384, ne_i1000, ne_l0, ne_l1, ne_l2, ne_l3, ne_l4, ne_l5, ne_l8, ne_l12, ne_l31, ne_l48, ne_l57, ne_l97, ne_l99, ne_l122, ne_l255, ne_l673, ne_l1073741823, ne_l1073741824, sF_n, hwS, sF_sI]
    · intro f g hI
      show ∃ S', pm_takeNow_b31 N (f + 1) _ _ = _ ∧ _
      rw [pm_takeNow_b31]
      simp (disch := omega) only [sm_lt, sm_b1s, sm_b2s, ↓reduceIte, sm_in_nI, nI_clamp, nI_add, pk_mul, pk_sub, ne_addneg, nI_l, ne_ltT, ne_ltF, ne_leT, ne_leF, ne_eqT, ne_eqF, ne_sI1s, ne_sI1n, ne_sI2, ne_sI3, ne_sL1, ne_sL2s, ne_sL2n, ne_sL3, pk_us, pk_un, pk_uLs, pk_uLn, mm_Z, mm_L, mm_1, mm_2, mm_3, ne_rz0, ne_rz1, not_true_eq_false, not_false_eq_true, ne_i0, ne_i1, ne_i2, ne_i3, ne_i4, ne_i5, ne_i6, ne_i7, ne_i8, ne_i9, ne_i10, ne_i12, ne_i14, ne_i16, ne_i18, ne_i19, ne_i20, ne_i23, ne_i24, ne_i27, ne_i29, ne_i30, ne_i31, ne_i32, ne_i35, ne_i48, ne_i52, ne_i54, ne_i57, ne_i59, ne_i63, ne_i64, ne_i76, ne_i77, ne_i78, ne_i79, ne_i80, ne_i81, ne_i97, ne_i99, ne_i100, ne_i101, ne_i104, ne_i105, ne_i108, ne_i110, ne_i111, ne_i116, ne_i117, ne_i122, ne_i103, ne_i200, ne_i255, ne_i256, ne_i320, ne_i384, ne_i1000, ne_l0, ne_l1, ne_l2, ne_l3, ne_l4, ne_l5, ne_l8, ne_l12, ne_l31, ne_l48, ne_l57, ne_l97, ne_l99, ne_l122, ne_l255, ne_l673, ne_l1073741823, ne_l1073741824]
      refine part3 _ ?_
      have e : g = fun k => if k < 4 then nI (a (48 + k)) else M.1 8 k := funext hI
      rw [e]
      exact nP_sF hS (by decide)
  unfold pm_takeNow
  simp (disch := omega) only [sm_lt, sm_b1s, sm_b2s, ↓reduceIte, sm_in_nI, nI_clamp, nI_add, pk_mul, pk_sub, ne_addneg, nI_l, ne_ltT, ne_ltF, ne_leT, ne_leF, ne_eqT, ne_eqF, ne_sI1s, ne_sI1n, ne_sI2, ne_sI3, ne_sL1, ne_sL2s, ne_sL2n, ne_sL3, pk_us, pk_un, pk_uLs, pk_uLn, mm_Z, mm_L, mm_1, mm_2, mm_3, ne_rz0, ne_rz1, not_true_eq_false, not_false_eq_true, ne_i0, ne_i1, ne_i2, ne_i3, ne_i4, ne_i5, ne_i6, ne_i7, ne_i8, ne_i9, ne_i10, ne_i12, ne_i14, ne_i16, ne_i18, ne_i19, ne_i20, ne_i23, ne_i24, ne_i27, ne_i29, ne_i30, ne_i31, ne_i32, ne_i35, ne_i48, ne_i52, ne_i54, ne_i57, ne_i59, ne_i63, ne_i64, ne_i76, ne_i77, ne_i78, ne_i79, ne_i80, ne_i81, ne_i97, ne_i99, ne_i100, ne_i101, ne_i104, ne_i105, ne_i108, ne_i110, ne_i111, ne_i116, ne_i117, ne_i122, ne_i103, ne_i200, ne_i255, ne_i256, ne_i320, ne_i384, ne_i1000, ne_l0, ne_l1, ne_l2, ne_l3, ne_l4, ne_l5, ne_l8, ne_l12, ne_l31, ne_l48, ne_l57, ne_l97, ne_l99, ne_l122, ne_l255, ne_l673, ne_l1073741823, ne_l1073741824]
  have q := ne_loop (fun f i (g : Nat → Int32) => pm_takeNow_b2 N f (nI i) (sm_sF S 7 g)) (fun i g => ∀ k, g k = if k < i then nI (a (16 + k)) else M.1 7 k) 32 (fun r => ∃ S', r = some S' ∧ nW (sm_tn a M) v (fun i => if i < 5 then v (19 + i) else v (14 + i)) S') ?_ ?_ N 0 (S.1 7) (by omega) (by omega) (fun k => by rw [nP_1 h (by decide), if_neg (by omega)])
  · simp only [sF_self] at q
    exact q
  · intro f i g hi hI
    left
    refine ⟨upd g i (nI (a (16 + i))), fun k => ?_, ?_⟩
    · by_cases e : k = i
      · subst e
        rw [pk_us, if_pos (by omega)]
      · rw [pk_un e, hI]
        by_cases q : k < i
        · rw [if_pos q, if_pos (by omega)]
        · rw [if_neg q, if_neg (by omega)]
    · show pm_takeNow_b2 N (f + 1) _ _ = _
      rw [pm_takeNow_b2]
      simp (disch := omega) only [sm_lt, sm_b1s, sm_b2s, ↓reduceIte, sm_in_nI, nI_clamp, nI_add, pk_mul, pk_sub, ne_addneg, nI_l, ne_ltT, ne_ltF, ne_leT, ne_leF, ne_eqT, ne_eqF, ne_sI1s, ne_sI1n, ne_sI2, ne_sI3, ne_sL1, ne_sL2s, ne_sL2n, ne_sL3, pk_us, pk_un, pk_uLs, pk_uLn, mm_Z, mm_L, mm_1, mm_2, mm_3, ne_rz0, ne_rz1, not_true_eq_false, not_false_eq_true, ne_i0, ne_i1, ne_i2, ne_i3, ne_i4, ne_i5, ne_i6, ne_i7, ne_i8, ne_i9, ne_i10, ne_i12, ne_i14, ne_i16, ne_i18, ne_i19, ne_i20, ne_i23, ne_i24, ne_i27, ne_i29, ne_i30, ne_i31, ne_i32, ne_i35, ne_i48, ne_i52, ne_i54, ne_i57, ne_i59, ne_i63, ne_i64, ne_i76, ne_i77, ne_i78, ne_i79, ne_i80, ne_i81, ne_i97, ne_i99, ne_i100, ne_i101, ne_i104, ne_i105, ne_i108, ne_i110, ne_i111, ne_i116, ne_i117, ne_i122, ne_i103, ne_i200, ne_i255, ne_i256, ne_i320, ne_i384, ne_i1000, ne_l0, ne_l1, ne_l2, ne_l3, ne_l4, ne_l5, ne_l8, ne_l12, ne_l31, ne_l48, ne_l57, ne_l97, ne_l99, ne_l122, ne_l255, ne_l673, ne_l1073741823, ne_l1073741824, sF_n, hwS, sF_sI]
  · intro f g hI
    show ∃ S', pm_takeNow_b2 N (f + 1) _ _ = _ ∧ _
    rw [pm_takeNow_b2]
    simp (disch := omega) only [sm_lt, sm_b1s, sm_b2s, ↓reduceIte, sm_in_nI, nI_clamp, nI_add, pk_mul, pk_sub, ne_addneg, nI_l, ne_ltT, ne_ltF, ne_leT, ne_leF, ne_eqT, ne_eqF, ne_sI1s, ne_sI1n, ne_sI2, ne_sI3, ne_sL1, ne_sL2s, ne_sL2n, ne_sL3, pk_us, pk_un, pk_uLs, pk_uLn, mm_Z, mm_L, mm_1, mm_2, mm_3, ne_rz0, ne_rz1, not_true_eq_false, not_false_eq_true, ne_i0, ne_i1, ne_i2, ne_i3, ne_i4, ne_i5, ne_i6, ne_i7, ne_i8, ne_i9, ne_i10, ne_i12, ne_i14, ne_i16, ne_i18, ne_i19, ne_i20, ne_i23, ne_i24, ne_i27, ne_i29, ne_i30, ne_i31, ne_i32, ne_i35, ne_i48, ne_i52, ne_i54, ne_i57, ne_i59, ne_i63, ne_i64, ne_i76, ne_i77, ne_i78, ne_i79, ne_i80, ne_i81, ne_i97, ne_i99, ne_i100, ne_i101, ne_i104, ne_i105, ne_i108, ne_i110, ne_i111, ne_i116, ne_i117, ne_i122, ne_i103, ne_i200, ne_i255, ne_i256, ne_i320, ne_i384, ne_i1000, ne_l0, ne_l1, ne_l2, ne_l3, ne_l4, ne_l5, ne_l8, ne_l12, ne_l31, ne_l48, ne_l57, ne_l97, ne_l99, ne_l122, ne_l255, ne_l673, ne_l1073741823, ne_l1073741824]
    have e : g = fun k => if k < 32 then nI (a (16 + k)) else M.1 7 k := funext hI
    refine part2 _ (fun k hk => by rw [sF_n (by decide)]; exact hwS k hk) ?_
    rw [e]
    exact nP_sF h (by decide)
end
