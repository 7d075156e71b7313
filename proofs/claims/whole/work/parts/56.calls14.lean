section
variable {N : Nat} {X S : sm_St} {a b v ik tx w : Nat → Nat} {len : Nat}
/-- the factors of a set -/
def sp_cf (a : Nat → Nat) (s aa bb T : Nat) (r : Nat) : Int := if r = 4 then ((bb * T : Nat) : Int) - ((12 * aa * sp_pc s 8 : Nat) : Int) else if r < a 76 ∧ s.testBit r = true then (bb : Int) else 0
/-- colours of the set's things -/
def sp_ct (a : Nat → Nat) (s : Nat) : Nat → Nat
  | 0 => 0
  | t + 1 => sp_ct a s t + if s.testBit (4 + t) = true then a (48 + t) else 0
theorem sp_mt_num {s x : Nat} (hm : sp_mt a s 8 = true) (hx : x < 8) (hb : s.testBit x = true) : x < a 76 ∨ 4 ≤ x ∧ x < 4 + a 77 := by
  have := (sp_mt_iff 8).mp hm x hx hb
  unfold sp_ld at this
  have := of_decide_eq_true this
  omega
theorem sp_ct_hi {s : Nat} (ht : a 77 ≤ 4) (hk : a 76 ≤ 4) (hm : sp_mt a s 8 = true) : ∀ d, a 77 + d ≤ 4 → sp_ct a s (a 77 + d) = sp_ct a s (a 77)
  | 0, _ => rfl
  | d + 1, hd => by
    have hb : ¬ s.testBit (4 + (a 77 + d)) = true := fun e => by
      have := sp_mt_num hm (by omega) e
      omega
    rw [← Nat.add_assoc, sp_ct, if_neg hb, Nat.add_zero, sp_ct_hi ht hk hm d (by omega)]
theorem sp_ct_le {s : Nat} (hc : ∀ t, t < a 77 → a (48 + t) ≤ 12) : ∀ n, n ≤ a 77 → sp_ct a s n ≤ 12 * n
  | 0, _ => Nat.le_refl _
  | n + 1, h => by
    have := sp_ct_le (s := s) hc n (by omega)
    have := hc n (by omega)
    rw [sp_ct]
    split <;> omega
theorem sp_bs_split {s : Nat} : ∀ n, sp_bs w (ac_ a) s (4 + n) = sp_bs w (ac_ a) s 4 + w 4 * sp_ct a s n
  | 0 => by simp [sp_ct]
  | n + 1 => by
    have e : ac_ a n = a (48 + n) := rfl
    rw [← Nat.add_assoc, sp_bs, sp_bs_split n, sp_ct, sp_val_t, Nat.mul_add, e]
    by_cases hb : s.testBit (4 + n) = true
    · rw [if_pos hb, if_pos hb]
      omega
    · rw [if_neg hb, if_neg hb]
      omega
theorem sxi_4 {s aa bb T : Nat} (hm : sp_mt a s 8 = true) : ∀ n, n ≤ 4 → sxi (sp_cf a s aa bb T) w n = ((bb * sp_bs w (ac_ a) s n : Nat) : Int)
  | 0, _ => by simp [sxi, sp_bs]
  | n + 1, h => by
    rw [sxi, sxi_4 hm n (by omega), sp_bs]
    unfold sp_cf
    rw [if_neg (by omega)]
    have hv : sp_val w (ac_ a) n = w n := if_pos (by omega)
    by_cases hb : s.testBit n = true
    · have hk : n < a 76 := by
        have := sp_mt_num hm (by omega) hb
        omega
      rw [if_pos ⟨hk, hb⟩, if_pos hb, hv, Nat.mul_add, Int.natCast_add, Int.natCast_mul bb (w n)]
    · rw [if_neg (fun q => hb q.2), if_neg hb, Int.zero_mul, Nat.add_zero, Int.add_zero]
theorem sxi_ok {s aa bb : Nat} (ht : a 77 ≤ 4) (hk : a 76 ≤ 4) (hm : sp_mt a s 8 = true) : (sxi (sp_cf a s aa bb (sp_ct a s (a 77))) w 5 = 0) = sp_ok2 a w (ac_ a) s aa bb := by
  have h4 : sp_ct a s 4 = sp_ct a s (a 77) := by
    have := sp_ct_hi ht hk hm (4 - a 77) (by omega)
    rwa [show a 77 + (4 - a 77) = 4 by omega] at this
  have e8 := sp_bs_split (a := a) (w := w) (s := s) 4
  rw [h4] at e8
  have e5 : sxi (sp_cf a s aa bb (sp_ct a s (a 77))) w 5 = ((bb * sp_bs w (ac_ a) s 4 : Nat) : Int) + (((bb * sp_ct a s (a 77) : Nat) : Int) - ((12 * aa * sp_pc s 8 : Nat) : Int)) * (w 4 : Int) := by
    rw [sxi, sxi_4 hm 4 (Nat.le_refl _)]
    unfold sp_cf
    rw [if_pos rfl]
  rw [e5]
  unfold sp_ok2
  rw [show (8 : Nat) = 4 + 4 from rfl, e8]
  apply propext
  rw [Int.sub_mul, ← Int.natCast_mul, ← Int.natCast_mul]
  have x1 : bb * sp_ct a s (a 77) * w 4 = w 4 * sp_ct a s (a 77) * bb := by rw [Nat.mul_comm bb, Nat.mul_comm (w 4), Nat.mul_assoc, Nat.mul_comm bb, ← Nat.mul_assoc]
  have x2 : 12 * aa * sp_pc s (4 + 4) * w 4 = w 4 * (12 * sp_pc s (4 + 4) * aa) := by rw [Nat.mul_comm _ (w 4), Nat.mul_right_comm 12 aa]
  have x3 : (sp_bs w (ac_ a) s 4 + w 4 * sp_ct a s (a 77)) * bb = bb * sp_bs w (ac_ a) s 4 + w 4 * sp_ct a s (a 77) * bb := by rw [Nat.add_mul, Nat.mul_comm bb]
  rw [x1, x2, x3]
  omega
theorem xq_gives {s aa bb : Nat} (hN : 4000 ≤ N) (hk : a 76 ≤ 4) (ht : a 77 ≤ 4) (hc : ∀ t, t < a 77 → a (48 + t) ≤ 12 ∧ X.1 6 t = nI (a (48 + t))) (h9 : X.1 1 9 = nI (a 76)) (h10 : X.1 1 10 = nI (a 77)) (hx : xsh X 12 (a 76) w) (hm : sp_mt a s 8 = true) (hs : s < 256) (ha : aa ≤ 99) (hb : bb ≤ 99) : ∃ g, (sp_ok2 a w (ac_ a) s aa bb → px_L_gives N X (nI s) (nI aa) (nI bb) = some (nI 1, sm_lF X 108 g)) ∧ (¬ sp_ok2 a w (ac_ a) s aa bb → px_L_gives N X (nI s) (nI aa) (nI bb) = some (nI 0, sm_lF X 108 g)) := by
  obtain ⟨u, hu, hu0, hu2, hlt, hrow⟩ := hx
  have pcl := sp_pc_le s 8
  obtain ⟨g0, e0, z0⟩ := xq_begin (X := X) (N := N) (p := 107) hN
  have ctl := sp_ct_le (a := a) (s := s) (fun t ht => (hc t ht).1)
  -- the end
  have fin : ∀ (g : Nat → Int64), (∀ r, r < 4 → g r = Int64.ofInt (sp_cf a s aa bb (sp_ct a s (a 77)) r)) → g 4 = lN (bb * sp_ct a s (a 77)) → ∀ f, ∃ g', (sp_ok2 a w (ac_ a) s aa bb → px_L_gives_b52 N (f + 1) (nI s) (nI aa) (nI bb) (nI (a 77)) (sm_lF X 108 g) = some (nI 1, sm_lF X 108 g')) ∧ (¬ sp_ok2 a w (ac_ a) s aa bb → px_L_gives_b52 N (f + 1) (nI s) (nI aa) (nI bb) (nI (a 77)) (sm_lF X 108 g) = some (nI 0, sm_lF X 108 g')) := by
    intro g hg g4 f
    have eb := xq_bitCount (N := N) (X := sm_lF X 108 g) hs
    have ct := ctl (a 77) (Nat.le_refl _)
    have b1 : bb * sp_ct a s (a 77) ≤ 99 * 48 := Nat.mul_le_mul hb (by omega)
    have b2 : 12 * aa * sp_pc s 8 ≤ 12 * 99 * 8 := Nat.mul_le_mul (Nat.mul_le_mul_left _ ha) pcl
    have ed : lN (bb * sp_ct a s (a 77)) - lN (12 * aa * sp_pc s 8) = Int64.ofInt (sp_cf a s aa bb (sp_ct a s (a 77)) 4) := by
      rw [nm_lI, nm_lI, ← Int64.ofInt_sub]
      unfold sp_cf
      rw [if_pos rfl]
    have ez := xq_isZero (X := sm_lF X 108 (vp_updL g 4 (lN (bb * sp_ct a s (a 77)) - lN (12 * aa * sp_pc s 8)))) (N := N) (q := 12) (u := u) (p := 107) (c := sp_cf a s aa bb (sp_ct a s (a 77))) (w := w) hN hu (by omega) (fun r h5 => by
      show (sm_lF X 108 _).2.1 108 r = _
      rw [lF_s]
      by_cases q : r = 4
      · subst q
        rw [pk_uLs, ed]
      · rw [pk_uLn q]
        exact hg r (by omega)) (fun r h5 => by
      unfold sp_cf
      split
      · omega
      · split <;> omega) (fun r h5 h0 => hrow r (by
      by_cases q : r = 4
      · exact Or.inr q
      · unfold sp_cf at h0
        rw [if_neg q] at h0
        by_cases q2 : r < a 76 ∧ s.testBit r = true
        · exact Or.inl q2.1
        · rw [if_neg q2] at h0
          exact absurd rfl h0))
    have okE := sxi_ok (w := w) (aa := aa) (bb := bb) ht hk hm
    refine ⟨vp_updL g 4 (lN (bb * sp_ct a s (a 77)) - lN (12 * aa * sp_pc s 8)), fun hok => ?_, fun hok => ?_⟩
    · rw [if_pos (by rw [okE]; exact hok)] at ez
      rw [px_L_gives_b52]
      simp (disch := omega) only [sm_lt, sm_b1s, sm_b2s, ↓reduceIte, sm_in_nI, nI_clamp, nI_add, pk_mul, pk_sub, ne_addneg, nI_l, ne_ltT, ne_ltF, ne_leT, ne_leF, ne_eqT, ne_eqF, ne_sI1s, ne_sI1n, ne_sI2, ne_sI3, ne_sL1, ne_sL2s, ne_sL2n, ne_sL3, pk_us, pk_un, pk_uLs, pk_uLn, mm_Z, mm_L, mm_1, mm_2, mm_3, ne_rz0, ne_rz1, not_true_eq_false, not_false_eq_true, ne_i0, ne_i1, ne_i2, ne_i3, ne_i4, ne_i5, ne_i6, ne_i7, ne_i8, ne_i9, ne_i10, ne_i12, ne_i14, ne_i16, ne_i18, ne_i19, ne_i20, ne_i23, ne_i24, ne_i27, ne_i29, ne_i30, ne_i31, ne_i32, ne_i35, ne_i48, ne_i52, ne_i54, ne_i57, ne_i59, ne_i63, ne_i64, ne_i76, ne_i77, ne_i78, ne_i79, ne_i80, ne_i81, ne_i97, ne_i99, ne_i100, ne_i101, ne_i104, ne_i105, ne_i108, ne_i110, ne_i111, ne_i116, ne_i117, ne_i122, ne_i103, ne_i200, ne_i255, ne_i256, ne_i320, ne_i384, ne_i1000, ne_l0, ne_l1, ne_l2, ne_l3, ne_l4, ne_l5, ne_l8, ne_l12, ne_l31, ne_l48, ne_l57, ne_l97, ne_l99, ne_l122, ne_l255, ne_l673, ne_l1073741823, ne_l1073741824, lF_1, h10, eb, lF_s, g4, lF_sL, lN_mul, ez]
    · rw [if_neg (by rw [okE]; exact hok)] at ez
      rw [px_L_gives_b52]
      simp (disch := omega) only [sm_lt, sm_b1s, sm_b2s, ↓reduceIte, sm_in_nI, nI_clamp, nI_add, pk_mul, pk_sub, ne_addneg, nI_l, ne_ltT, ne_ltF, ne_leT, ne_leF, ne_eqT, ne_eqF, ne_sI1s, ne_sI1n, ne_sI2, ne_sI3, ne_sL1, ne_sL2s, ne_sL2n, ne_sL3, pk_us, pk_un, pk_uLs, pk_uLn, mm_Z, mm_L, mm_1, mm_2, mm_3, ne_rz0, ne_rz1, not_true_eq_false, not_false_eq_true, ne_i0, ne_i1, ne_i2, ne_i3, ne_i4, ne_i5, ne_i6, ne_i7, ne_i8, ne_i9, ne_i10, ne_i12, ne_i14, ne_i16, ne_i18, ne_i19, ne_i20, ne_i23, ne_i24, ne_i27, ne_i29, ne_i30, ne_i31, ne_i32, ne_i35, ne_i48, ne_i52, ne_i54, ne_i57, ne_i59, ne_i63, ne_i64, ne_i76, ne_i77, ne_i78, ne_i79, ne_i80, ne_i81, ne_i97, ne_i99, ne_i100, ne_i101, ne_i104, ne_i105, ne_i108, ne_i110, ne_i111, ne_i116, ne_i117, ne_i122, ne_i103, ne_i200, ne_i255, ne_i256, ne_i320, ne_i384, ne_i1000, ne_l0, ne_l1, ne_l2, ne_l3, ne_l4, ne_l5, ne_l8, ne_l12, ne_l31, ne_l48, ne_l57, ne_l97, ne_l99, ne_l122, ne_l255, ne_l673, ne_l1073741823, ne_l1073741824, lF_1, h10, eb, lF_s, g4, lF_sL, lN_mul, ez]
  -- things
  have p2 : ∀ (g : Nat → Int64), (∀ r, r < 4 → g r = Int64.ofInt (sp_cf a s aa bb (sp_ct a s (a 77)) r)) → g 4 = lN 0 → ∃ g', (sp_ok2 a w (ac_ a) s aa bb → px_L_gives_b52 N N (nI s) (nI aa) (nI bb) (nI 0) (sm_lF X 108 g) = some (nI 1, sm_lF X 108 g')) ∧ (¬ sp_ok2 a w (ac_ a) s aa bb → px_L_gives_b52 N N (nI s) (nI aa) (nI bb) (nI 0) (sm_lF X 108 g) = some (nI 0, sm_lF X 108 g')) := by
    intro g hg g4
    refine ne_loop (fun f t (g : Nat → Int64) => px_L_gives_b52 N f (nI s) (nI aa) (nI bb) (nI t) (sm_lF X 108 g)) (fun t g => (∀ r, r < 4 → g r = Int64.ofInt (sp_cf a s aa bb (sp_ct a s (a 77)) r)) ∧ g 4 = lN (bb * sp_ct a s t)) (a 77) (fun o => ∃ g', (sp_ok2 a w (ac_ a) s aa bb → o = some (nI 1, sm_lF X 108 g')) ∧ (¬ sp_ok2 a w (ac_ a) s aa bb → o = some (nI 0, sm_lF X 108 g'))) ?_ ?_ N 0 g (by omega) (by omega) ⟨hg, by rw [g4]; rfl⟩
    · rintro f t g ht' ⟨i1, i2⟩
      left
      have ebit := ne_bit (s := s) (x := 4 + t) (by omega) (by omega)
      obtain ⟨c1, c2⟩ := hc t ht'
      show ∃ g', _ ∧ px_L_gives_b52 N (f + 1) _ _ _ _ _ = px_L_gives_b52 N f _ _ _ _ _
      rw [px_L_gives_b52]
      unfold px_L_gives_b101
      by_cases hbit : s.testBit (4 + t) = true
      · rw [if_pos hbit] at ebit
        have ec : sp_ct a s (t + 1) = sp_ct a s t + a (48 + t) := by rw [sp_ct, if_pos hbit]
        refine ⟨vp_updL g 4 (lN (bb * sp_ct a s (t + 1))), ⟨fun r hr => by rw [pk_uLn (by omega)]; exact i1 r hr, pk_uLs⟩, ?_⟩
        have el : lN (bb * sp_ct a s t + bb * a (48 + t)) = lN (bb * sp_ct a s (t + 1)) := by rw [ec, Nat.mul_add]
        simp (disch := omega) only [sm_lt, sm_b1s, sm_b2s, ↓reduceIte, sm_in_nI, nI_clamp, nI_add, pk_mul, pk_sub, ne_addneg, nI_l, ne_ltT, ne_ltF, ne_leT, ne_leF, ne_eqT, ne_eqF, ne_sI1s, ne_sI1n, ne_sI2, ne_sI3, ne_sL1, ne_sL2s, ne_sL2n, ne_sL3, pk_us, pk_un, pk_uLs, pk_uLn, mm_Z, mm_L, mm_1, mm_2, mm_3, ne_rz0, ne_rz1, not_true_eq_false, not_false_eq_true, ne_i0, ne_i1, ne_i2, ne_i3, ne_i4, ne_i5, ne_i6, ne_i7, ne_i8, ne_i9, ne_i10, ne_i12, ne_i14, ne_i16, ne_i18, ne_i19, ne_i20, ne_i23, ne_i24, ne_i27, ne_i29, ne_i30, ne_i31, ne_i32, ne_i35, ne_i48, ne_i52, ne_i54, ne_i57, ne_i59, ne_i63, ne_i64, ne_i76, ne_i77, ne_i78, ne_i79, ne_i80, ne_i81, ne_i97, ne_i99, ne_i100, ne_i101, ne_i104, ne_i105, ne_i108, ne_i110, ne_i111, ne_i116, ne_i117, ne_i122, ne_i103, ne_i200, ne_i255, ne_i256, ne_i320, ne_i384, ne_i1000, ne_l0, ne_l1, ne_l2, ne_l3, ne_l4, ne_l5, ne_l8, ne_l12, ne_l31, ne_l48, ne_l57, ne_l97, ne_l99, ne_l122, ne_l255, ne_l673, ne_l1073741823, ne_l1073741824, lF_1, h10, ebit, lF_s, i2, c2, lN_mul, lN_add, lF_sL, el]
      · rw [if_neg hbit] at ebit
        have ec : sp_ct a s (t + 1) = sp_ct a s t := by rw [sp_ct, if_neg hbit, Nat.add_zero]
        refine ⟨g, ⟨i1, by rw [ec]; exact i2⟩, ?_⟩
        simp (disch := omega) only [sm_lt, sm_b1s, sm_b2s, ↓reduceIte, sm_in_nI, nI_clamp, nI_add, pk_mul, pk_sub, ne_addneg, nI_l, ne_ltT, ne_ltF, ne_leT, ne_leF, ne_eqT, ne_eqF, ne_sI1s, ne_sI1n, ne_sI2, ne_sI3, ne_sL1, ne_sL2s, ne_sL2n, ne_sL3, pk_us, pk_un, pk_uLs, pk_uLn, mm_Z, mm_L, mm_1, mm_2, mm_3, ne_rz0, ne_rz1, not_true_eq_false, not_false_eq_true, ne_i0, ne_i1, ne_i2, ne_i3, ne_i4, ne_i5, ne_i6, ne_i7, ne_i8, ne_i9, ne_i10, ne_i12, ne_i14, ne_i16, ne_i18, ne_i19, ne_i20, ne_i23, ne_i24, ne_i27, ne_i29, ne_i30, ne_i31, ne_i32, ne_i35, ne_i48, ne_i52, ne_i54, ne_i57, ne_i59, ne_i63, ne_i64, ne_i76, ne_i77, ne_i78, ne_i79, ne_i80, ne_i81, ne_i97, ne_i99, ne_i100, ne_i101, ne_i104, ne_i105, ne_i108, ne_i110, ne_i111, ne_i116, ne_i117, ne_i122, ne_i103, ne_i200, ne_i255, ne_i256, ne_i320, ne_i384, ne_i1000, ne_l0, ne_l1, ne_l2, ne_l3, ne_l4, ne_l5, ne_l8, ne_l12, ne_l31, ne_l48, ne_l57, ne_l97, ne_l99, ne_l122, ne_l255, ne_l673, ne_l1073741823, ne_l1073741824, lF_1, h10, ebit]
    · rintro f g ⟨i1, i2⟩
      exact fin g i1 i2 f
  unfold px_L_gives
  have q := ne_loop (fun f i (g : Nat → Int64) => px_L_gives_b10 N f (nI s) (nI aa) (nI bb) (nI i) (sm_lF X 108 g)) (fun i g => (∀ r, r < i → g r = Int64.ofInt (sp_cf a s aa bb (sp_ct a s (a 77)) r)) ∧ ∀ r, i ≤ r → r < 5 → g r = lN 0) (a 76) (fun o => ∃ g', (sp_ok2 a w (ac_ a) s aa bb → o = some (nI 1, sm_lF X 108 g')) ∧ (¬ sp_ok2 a w (ac_ a) s aa bb → o = some (nI 0, sm_lF X 108 g'))) ?_ ?_ N 0 g0 (by omega) (by omega) ⟨fun r hr => by omega, fun r _ hr => z0 r hr⟩
  · obtain ⟨g', q1, q2⟩ := q
    have el : sm_lF X (107 + 1) g0 = sm_lF X 108 g0 := rfl
    refine ⟨g', fun hok => ?_, fun hok => ?_⟩
    · simp (disch := omega) only [sm_lt, sm_b1s, sm_b2s, ↓reduceIte, sm_in_nI, nI_clamp, nI_add, pk_mul, pk_sub, ne_addneg, nI_l, ne_ltT, ne_ltF, ne_leT, ne_leF, ne_eqT, ne_eqF, ne_sI1s, ne_sI1n, ne_sI2, ne_sI3, ne_sL1, ne_sL2s, ne_sL2n, ne_sL3, pk_us, pk_un, pk_uLs, pk_uLn, mm_Z, mm_L, mm_1, mm_2, mm_3, ne_rz0, ne_rz1, not_true_eq_false, not_false_eq_true, ne_i0, ne_i1, ne_i2, ne_i3, ne_i4, ne_i5, ne_i6, ne_i7, ne_i8, ne_i9, ne_i10, ne_i12, ne_i14, ne_i16, ne_i18, ne_i19, ne_i20, ne_i23, ne_i24, ne_i27, ne_i29, ne_i30, ne_i31, ne_i32, ne_i35, ne_i48, ne_i52, ne_i54, ne_i57, ne_i59, ne_i63, ne_i64, ne_i76, ne_i77, ne_i78, ne_i79, ne_i80, ne_i81, ne_i97, ne_i99, ne_i100, ne_i101, ne_i104, ne_i105, ne_i108, ne_i110, ne_i111, ne_i116, ne_i117, ne_i122, ne_i103, ne_i200, ne_i255, ne_i256, ne_i320, ne_i384, ne_i1000, ne_l0, ne_l1, ne_l2, ne_l3, ne_l4, ne_l5, ne_l8, ne_l12, ne_l31, ne_l48, ne_l57, ne_l97, ne_l99, ne_l122, ne_l255, ne_l673, ne_l1073741823, ne_l1073741824, e0]
      exact q1 hok
    · simp (disch := omega) only [sm_lt, sm_b1s, sm_b2s, ↓reduceIte, sm_in_nI, nI_clamp, nI_add, pk_mul, pk_sub, ne_addneg, nI_l, ne_ltT, ne_ltF, ne_leT, ne_leF, ne_eqT, ne_eqF, ne_sI1s, ne_sI1n, ne_sI2, ne_sI3, ne_sL1, ne_sL2s, ne_sL2n, ne_sL3, pk_us, pk_un, pk_uLs, pk_uLn, mm_Z, mm_L, mm_1, mm_2, mm_3, ne_rz0, ne_rz1, not_true_eq_false, not_false_eq_true, ne_i0, ne_i1, ne_i2, ne_i3, ne_i4, ne_i5, ne_i6, ne_i7, ne_i8, ne_i9, ne_i10, ne_i12, ne_i14, ne_i16, ne_i18, ne_i19, ne_i20, ne_i23, ne_i24, ne_i27, ne_i29, ne_i30, ne_i31, ne_i32, ne_i35, ne_i48, ne_i52, ne_i54, ne_i57, ne_i59, ne_i63, ne_i64, ne_i76, ne_i77, ne_i78, ne_i79, ne_i80, ne_i81, ne_i97, ne_i99, ne_i100, ne_i101, ne_i104, ne_i105, ne_i108, ne_i110, ne_i111, ne_i116, ne_i117, ne_i122, ne_i103, ne_i200, ne_i255, ne_i256, ne_i320, ne_i384, ne_i1000, ne_l0, ne_l1, ne_l2, ne_l3, ne_l4, ne_l5, ne_l8, ne_l12, ne_l31, ne_l48, ne_l57, ne_l97, ne_l99, ne_l122, ne_l255, ne_l673, ne_l1073741823, ne_l1073741824, e0]
      exact q2 hok
  · rintro f i g hi ⟨i1, i2⟩
    left
    have ebit := ne_bit (s := s) (x := i) (by omega) (by omega)
    show ∃ g', _ ∧ px_L_gives_b10 N (f + 1) _ _ _ _ _ = px_L_gives_b10 N f _ _ _ _ _
    rw [px_L_gives_b10]
    unfold px_L_gives_b43
    by_cases hbit : s.testBit i = true
    · rw [if_pos hbit] at ebit
      refine ⟨vp_updL g i (lN bb), ⟨fun r hr => ?_, fun r hr h5 => by rw [pk_uLn (by omega)]; exact i2 r (by omega) h5⟩, ?_⟩
      · by_cases q : r = i
        · subst q
          rw [pk_uLs, nm_lI]
          unfold sp_cf
          rw [if_neg (by omega), if_pos ⟨hi, hbit⟩]
        · rw [pk_uLn q]
          exact i1 r (by omega)
      · simp (disch := omega) only [sm_lt, sm_b1s, sm_b2s, ↓reduceIte, sm_in_nI, nI_clamp, nI_add, pk_mul, pk_sub, ne_addneg, nI_l, ne_ltT, ne_ltF, ne_leT, ne_leF, ne_eqT, ne_eqF, ne_sI1s, ne_sI1n, ne_sI2, ne_sI3, ne_sL1, ne_sL2s, ne_sL2n, ne_sL3, pk_us, pk_un, pk_uLs, pk_uLn, mm_Z, mm_L, mm_1, mm_2, mm_3, ne_rz0, ne_rz1, not_true_eq_false, not_false_eq_true, ne_i0, ne_i1, ne_i2, ne_i3, ne_i4, ne_i5, ne_i6, ne_i7, ne_i8, ne_i9, ne_i10, ne_i12, ne_i14, ne_i16, ne_i18, ne_i19, ne_i20, ne_i23, ne_i24, ne_i27, ne_i29, ne_i30, ne_i31, ne_i32, ne_i35, ne_i48, ne_i52, ne_i54, ne_i57, ne_i59, ne_i63, ne_i64, ne_i76, ne_i77, ne_i78, ne_i79, ne_i80, ne_i81, ne_i97, ne_i99, ne_i100, ne_i101, ne_i104, ne_i105, ne_i108, ne_i110, ne_i111, ne_i116, ne_i117, ne_i122, ne_i103, ne_i200, ne_i255, ne_i256, ne_i320, ne_i384, ne_i1000, ne_l0, ne_l1, ne_l2, ne_l3, ne_l4, ne_l5, ne_l8, ne_l12, ne_l31, ne_l48, ne_l57, ne_l97, ne_l99, ne_l122, ne_l255, ne_l673, ne_l1073741823, ne_l1073741824, lF_1, h9, ebit, lF_sL]
    · rw [if_neg hbit] at ebit
      refine ⟨g, ⟨fun r hr => ?_, fun r hr h5 => i2 r (by omega) h5⟩, ?_⟩
      · by_cases q : r = i
        · subst q
          rw [i2 r (by omega) (by omega)]
          unfold sp_cf
          rw [if_neg (by omega), if_neg (fun q => hbit q.2)]
          rfl
        · exact i1 r (by omega)
      · simp (disch := omega) only [sm_lt, sm_b1s, sm_b2s, ↓reduceIte, sm_in_nI, nI_clamp, nI_add, pk_mul, pk_sub, ne_addneg, nI_l, ne_ltT, ne_ltF, ne_leT, ne_leF, ne_eqT, ne_eqF, ne_sI1s, ne_sI1n, ne_sI2, ne_sI3, ne_sL1, ne_sL2s, ne_sL2n, ne_sL3, pk_us, pk_un, pk_uLs, pk_uLn, mm_Z, mm_L, mm_1, mm_2, mm_3, ne_rz0, ne_rz1, not_true_eq_false, not_false_eq_true, ne_i0, ne_i1, ne_i2, ne_i3, ne_i4, ne_i5, ne_i6, ne_i7, ne_i8, ne_i9, ne_i10, ne_i12, ne_i14, ne_i16, ne_i18, ne_i19, ne_i20, ne_i23, ne_i24, ne_i27, ne_i29, ne_i30, ne_i31, ne_i32, ne_i35, ne_i48, ne_i52, ne_i54, ne_i57, ne_i59, ne_i63, ne_i64, ne_i76, ne_i77, ne_i78, ne_i79, ne_i80, ne_i81, ne_i97, ne_i99, ne_i100, ne_i101, ne_i104, ne_i105, ne_i108, ne_i110, ne_i111, ne_i116, ne_i117, ne_i122, ne_i103, ne_i200, ne_i255, ne_i256, ne_i320, ne_i384, ne_i1000, ne_l0, ne_l1, ne_l2, ne_l3, ne_l4, ne_l5, ne_l8, ne_l12, ne_l31, ne_l48, ne_l57, ne_l97, ne_l99, ne_l122, ne_l255, ne_l673, ne_l1073741823, ne_l1073741824, lF_1, h9, ebit]
  · rintro f g ⟨i1, i2⟩
    show ∃ g', (_ → px_L_gives_b10 N (f + 1) _ _ _ _ _ = _) ∧ (_ → px_L_gives_b10 N (f + 1) _ _ _ _ _ = _)
    rw [px_L_gives_b10]
    obtain ⟨g', q1, q2⟩ := p2 g (fun r hr => by
      by_cases q : r < a 76
      · exact i1 r q
      · rw [i2 r (by omega) (by omega)]
        unfold sp_cf
        rw [if_neg (by omega), if_neg (fun h => q h.1)]
        rfl) (i2 4 (by omega) (by omega))
    refine ⟨g', fun hok => ?_, fun hok => ?_⟩
    · simp (disch := omega) only [sm_lt, sm_b1s, sm_b2s, ↓reduceIte, sm_in_nI, nI_clamp, nI_add, pk_mul, pk_sub, ne_addneg, nI_l, ne_ltT, ne_ltF, ne_leT, ne_leF, ne_eqT, ne_eqF, ne_sI1s, ne_sI1n, ne_sI2, ne_sI3, ne_sL1, ne_sL2s, ne_sL2n, ne_sL3, pk_us, pk_un, pk_uLs, pk_uLn, mm_Z, mm_L, mm_1, mm_2, mm_3, ne_rz0, ne_rz1, not_true_eq_false, not_false_eq_true, ne_i0, ne_i1, ne_i2, ne_i3, ne_i4, ne_i5, ne_i6, ne_i7, ne_i8, ne_i9, ne_i10, ne_i12, ne_i14, ne_i16, ne_i18, ne_i19, ne_i20, ne_i23, ne_i24, ne_i27, ne_i29, ne_i30, ne_i31, ne_i32, ne_i35, ne_i48, ne_i52, ne_i54, ne_i57, ne_i59, ne_i63, ne_i64, ne_i76, ne_i77, ne_i78, ne_i79, ne_i80, ne_i81, ne_i97, ne_i99, ne_i100, ne_i101, ne_i104, ne_i105, ne_i108, ne_i110, ne_i111, ne_i116, ne_i117, ne_i122, ne_i103, ne_i200, ne_i255, ne_i256, ne_i320, ne_i384, ne_i1000, ne_l0, ne_l1, ne_l2, ne_l3, ne_l4, ne_l5, ne_l8, ne_l12, ne_l31, ne_l48, ne_l57, ne_l97, ne_l99, ne_l122, ne_l255, ne_l673, ne_l1073741823, ne_l1073741824, lF_1, h9]
      exact q1 hok
    · simp (disch := omega) only [sm_lt, sm_b1s, sm_b2s, ↓reduceIte, sm_in_nI, nI_clamp, nI_add, pk_mul, pk_sub, ne_addneg, nI_l, ne_ltT, ne_ltF, ne_leT, ne_leF, ne_eqT, ne_eqF, ne_sI1s, ne_sI1n, ne_sI2, ne_sI3, ne_sL1, ne_sL2s, ne_sL2n, ne_sL3, pk_us, pk_un, pk_uLs, pk_uLn, mm_Z, mm_L, mm_1, mm_2, mm_3, ne_rz0, ne_rz1, not_true_eq_false, not_false_eq_true, ne_i0, ne_i1, ne_i2, ne_i3, ne_i4, ne_i5, ne_i6, ne_i7, ne_i8, ne_i9, ne_i10, ne_i12, ne_i14, ne_i16, ne_i18, ne_i19, ne_i20, ne_i23, ne_i24, ne_i27, ne_i29, ne_i30, ne_i31, ne_i32, ne_i35, ne_i48, ne_i52, ne_i54, ne_i57, ne_i59, ne_i63, ne_i64, ne_i76, ne_i77, ne_i78, ne_i79, ne_i80, ne_i81, ne_i97, ne_i99, ne_i100, ne_i101, ne_i104, ne_i105, ne_i108, ne_i110, ne_i111, ne_i116, ne_i117, ne_i122, ne_i103, ne_i200, ne_i255, ne_i256, ne_i320, ne_i384, ne_i1000, ne_l0, ne_l1, ne_l2, ne_l3, ne_l4, ne_l5, ne_l8, ne_l12, ne_l31, ne_l48, ne_l57, ne_l97, ne_l99, ne_l122, ne_l255, ne_l673, ne_l1073741823, ne_l1073741824, lF_1, h9]
      exact q2 hok
end
