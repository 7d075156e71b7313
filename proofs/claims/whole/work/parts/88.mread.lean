section
variable {N : Nat} {M0 M S : sm_St} {v tx : Nat → Nat} {len q nc nt cn : Nat} {cl co hr : Nat → Nat}
theorem mdE_0 {k : Nat} {x : Int32} (h : mdE M0 M S v) (hk : 22 ≤ k) : mdE M0 (sm_sI M 0 k x) (sm_sI S 0 k x) v := ⟨nP_sI h.1 (by decide), fun p p0 p1 p2 p3 => by rw [ne_sI1n p0]; exact h.2.1 p p0 p1 p2 p3, fun j hj => by rw [ne_sI1s, pk_un (by omega)]; exact h.2.2 j hj⟩
theorem mdE_p {p k : Nat} {x : Int32} (h : mdE M0 M S v) (hp : p = 18 ∨ p = 19 ∨ p = 20) : mdE M0 (sm_sI M p k x) (sm_sI S p k x) v := ⟨nP_sI h.1 (by omega), fun q p0 p1 p2 p3 => by rw [ne_sI1n (by omega)]; exact h.2.1 q p0 p1 p2 p3, fun j hj => by rw [ne_sI1n (by omega)]; exact h.2.2 j hj⟩
theorem mdS_29 {n : Nat} (h : mdS M0 M S v tx len q nc nt cn cl co hr) : mdS M0 (sm_sI M 0 29 (nI n)) (sm_sI S 0 29 (nI n)) v tx len q n nt cn cl co hr := by
  obtain ⟨h1, ⟨h2, h3, h4, h5⟩, h6, h7, h8, h9, h10⟩ := h
  exact ⟨mdE_0 h1 (by decide), ⟨by rw [ne_sI1s, pk_un (by decide)]; exact h2, by rw [ne_sI1s, pk_un (by decide)]; exact h3, by rw [ne_sI1s, pk_un (by decide)]; exact h4, fun z => by rw [ne_sI1s, pk_un (by decide)]; exact h5 z⟩, by rw [ne_sI1s, pk_us], by rw [ne_sI1s, pk_un (by decide)]; exact h7, fun k hk => by rw [ne_sI1n (by decide)]; exact h8 k hk, fun t ht => by rw [ne_sI1n (by decide)]; exact h9 t ht, fun k hk => by rw [ne_sI1n (by decide)]; exact h10 k hk⟩
theorem mdS_18 {x : Nat} (h : mdS M0 M S v tx len q nc nt cn cl co hr) : mdS M0 (sm_sI M 18 cn (nI x)) (sm_sI S 18 cn (nI x)) v tx len q nc nt (cn + 1) (va_up cl cn x) co hr := by
  obtain ⟨h1, ⟨h2, h3, h4, h5⟩, h6, h7, h8, h9, h10⟩ := h
  refine ⟨mdE_p h1 (Or.inl rfl), ⟨by rw [ne_sI1n (by decide)]; exact h2, by rw [ne_sI1n (by decide)]; exact h3, by rw [ne_sI1n (by decide)]; exact h4, fun z => by rw [ne_sI1n (by decide)]; exact h5 z⟩, by rw [ne_sI1n (by decide)]; exact h6, by rw [ne_sI1n (by decide)]; exact h7, fun k hk => ?_, fun t ht => by rw [ne_sI1n (by decide)]; exact h9 t ht, fun k hk => by rw [ne_sI1n (by decide)]; exact h10 k hk⟩
  rw [ne_sI1s]
  by_cases e : k = cn
  · rw [e, pk_us, ne_up_s]
  · rw [pk_un e, ne_up_n e]
    exact h8 k (by omega)
theorem mdS_20 {x : Nat} (h : mdS M0 M S v tx len q nc nt cn cl co hr) : mdS M0 (sm_sI (sm_sI M 20 nt (nI x)) 0 30 (nI (nt + 1))) (sm_sI (sm_sI S 20 nt (nI x)) 0 30 (nI (nt + 1))) v tx len q nc (nt + 1) cn cl (va_up co nt x) hr := by
  obtain ⟨h1, ⟨h2, h3, h4, h5⟩, h6, h7, h8, h9, h10⟩ := h
  refine ⟨mdE_0 (mdE_p h1 (Or.inr (Or.inr rfl))) (by decide), ⟨by rw [ne_sI1s, pk_un (by decide), ne_sI1n (by decide)]; exact h2, by rw [ne_sI1s, pk_un (by decide), ne_sI1n (by decide)]; exact h3, by rw [ne_sI1s, pk_un (by decide), ne_sI1n (by decide)]; exact h4, fun z => by rw [ne_sI1s, pk_un (by decide), ne_sI1n (by decide)]; exact h5 z⟩, by rw [ne_sI1s, pk_un (by decide), ne_sI1n (by decide)]; exact h6, by rw [ne_sI1s, pk_us], fun k hk => by rw [ne_sI1n (by decide), ne_sI1n (by decide)]; exact h8 k hk, fun t ht => ?_, fun k hk => by rw [ne_sI1n (by decide), ne_sI1n (by decide)]; exact h10 k hk⟩
  rw [ne_sI1n (by decide), ne_sI1s]
  by_cases e : t = nt
  · rw [e, pk_us, ne_up_s]
  · rw [pk_un e, ne_up_n e]
    exact h9 t (by omega)
theorem mdS_19 {k n : Nat} (h : mdS M0 M S v tx len q nc nt cn cl co hr) : mdS M0 (sm_sI M 19 k (nI n)) (sm_sI S 19 k (nI n)) v tx len q nc nt cn cl co (va_up hr k n) := by
  obtain ⟨h1, ⟨h2, h3, h4, h5⟩, h6, h7, h8, h9, h10⟩ := h
  refine ⟨mdE_p h1 (Or.inr (Or.inl rfl)), ⟨by rw [ne_sI1n (by decide)]; exact h2, by rw [ne_sI1n (by decide)]; exact h3, by rw [ne_sI1n (by decide)]; exact h4, fun z => by rw [ne_sI1n (by decide)]; exact h5 z⟩, by rw [ne_sI1n (by decide)]; exact h6, by rw [ne_sI1n (by decide)]; exact h7, fun k hk => by rw [ne_sI1n (by decide)]; exact h8 k hk, fun t ht => by rw [ne_sI1n (by decide)]; exact h9 t ht, fun j hj => ?_⟩
  rw [ne_sI1s]
  by_cases e : j = k
  · rw [e, pk_us, ne_up_s]
  · rw [pk_un e, ne_up_n e]
    exact h10 j hj
theorem zm18 : (zm_sh 18).2 = 12 := rfl
theorem zm19 : (zm_sh 19).2 = 32 := rfl
theorem zm20 : (zm_sh 20).2 = 4 := rfl
theorem mdS_ph {x y n : Nat} (h : mdS M0 M S v tx len q nc nt cn cl co hr) (hx : x < 8) (hy : y < 8) : ∃ M' S', pm_putHours N S 19 (nI 0) (nI x) (nI y) (nI n) = some S' ∧ mdS M0 M' S' v tx len q nc nt cn cl co (sp_ph hr x y n) := by
  have z := zm19
  unfold pm_putHours pm_putHours_b17 sp_ph sp_p1
  by_cases hx4 : x < 4
  · by_cases hy4 : y < 4
    · rw [if_pos hy4, if_pos hx4]
      refine ⟨_, sm_sI (sm_sI S 19 (8 * x + y) (nI n)) 19 (8 * y + x) (nI n), ?_, mdS_19 (mdS_19 h)⟩
      simp (disch := omega) only [sm_lt, sm_b1s, sm_b2s, ↓reduceIte, sm_in_nI, nI_clamp, nI_add, pk_mul, pk_sub, ne_addneg, nI_l, ne_ltT, ne_ltF, ne_leT, ne_leF, ne_eqT, ne_eqF, ne_sI1s, ne_sI1n, ne_sI2, ne_sI3, ne_sL1, ne_sL2s, ne_sL2n, ne_sL3, pk_us, pk_un, pk_uLs, pk_uLn, mm_Z, mm_L, mm_1, mm_2, mm_3, ne_rz0, ne_rz1, not_true_eq_false, not_false_eq_true, ne_i0, ne_i1, ne_i2, ne_i3, ne_i4, ne_i5, ne_i6, ne_i7, ne_i8, ne_i9, ne_i10, ne_i12, ne_i14, ne_i16, ne_i18, ne_i19, ne_i20, ne_i23, ne_i24, ne_i27, ne_i29, ne_i30, ne_i31, ne_i32, ne_i35, ne_i48, ne_i52, ne_i54, ne_i57, ne_i59, ne_i63, ne_i64, ne_i76, ne_i77, ne_i78, ne_i79, ne_i80, ne_i81, ne_i97, ne_i99, ne_i100, ne_i101, ne_i104, ne_i105, ne_i108, ne_i110, ne_i111, ne_i116, ne_i117, ne_i122, ne_i103, ne_i200, ne_i255, ne_i256, ne_i320, ne_i384, ne_i1000, ne_l0, ne_l1, ne_l2, ne_l3, ne_l4, ne_l5, ne_l8, ne_l12, ne_l31, ne_l48, ne_l57, ne_l97, ne_l99, ne_l122, ne_l255, ne_l673, ne_l1073741823, ne_l1073741824, z, zm_sh, Nat.zero_add]
    · rw [if_neg hy4, if_pos hx4]
      refine ⟨_, sm_sI S 19 (8 * x + y) (nI n), ?_, mdS_19 h⟩
      simp (disch := omega) only [sm_lt, sm_b1s, sm_b2s, ↓reduceIte, sm_in_nI, nI_clamp, nI_add, pk_mul, pk_sub, ne_addneg, nI_l, ne_ltT, ne_ltF, ne_leT, ne_leF, ne_eqT, ne_eqF, ne_sI1s, ne_sI1n, ne_sI2, ne_sI3, ne_sL1, ne_sL2s, ne_sL2n, ne_sL3, pk_us, pk_un, pk_uLs, pk_uLn, mm_Z, mm_L, mm_1, mm_2, mm_3, ne_rz0, ne_rz1, not_true_eq_false, not_false_eq_true, ne_i0, ne_i1, ne_i2, ne_i3, ne_i4, ne_i5, ne_i6, ne_i7, ne_i8, ne_i9, ne_i10, ne_i12, ne_i14, ne_i16, ne_i18, ne_i19, ne_i20, ne_i23, ne_i24, ne_i27, ne_i29, ne_i30, ne_i31, ne_i32, ne_i35, ne_i48, ne_i52, ne_i54, ne_i57, ne_i59, ne_i63, ne_i64, ne_i76, ne_i77, ne_i78, ne_i79, ne_i80, ne_i81, ne_i97, ne_i99, ne_i100, ne_i101, ne_i104, ne_i105, ne_i108, ne_i110, ne_i111, ne_i116, ne_i117, ne_i122, ne_i103, ne_i200, ne_i255, ne_i256, ne_i320, ne_i384, ne_i1000, ne_l0, ne_l1, ne_l2, ne_l3, ne_l4, ne_l5, ne_l8, ne_l12, ne_l31, ne_l48, ne_l57, ne_l97, ne_l99, ne_l122, ne_l255, ne_l673, ne_l1073741823, ne_l1073741824, z, zm_sh, Nat.zero_add]
  · by_cases hy4 : y < 4
    · rw [if_pos hy4, if_neg hx4]
      refine ⟨_, sm_sI S 19 (8 * y + x) (nI n), ?_, mdS_19 h⟩
      simp (disch := omega) only [sm_lt, sm_b1s, sm_b2s, ↓reduceIte, sm_in_nI, nI_clamp, nI_add, pk_mul, pk_sub, ne_addneg, nI_l, ne_ltT, ne_ltF, ne_leT, ne_leF, ne_eqT, ne_eqF, ne_sI1s, ne_sI1n, ne_sI2, ne_sI3, ne_sL1, ne_sL2s, ne_sL2n, ne_sL3, pk_us, pk_un, pk_uLs, pk_uLn, mm_Z, mm_L, mm_1, mm_2, mm_3, ne_rz0, ne_rz1, not_true_eq_false, not_false_eq_true, ne_i0, ne_i1, ne_i2, ne_i3, ne_i4, ne_i5, ne_i6, ne_i7, ne_i8, ne_i9, ne_i10, ne_i12, ne_i14, ne_i16, ne_i18, ne_i19, ne_i20, ne_i23, ne_i24, ne_i27, ne_i29, ne_i30, ne_i31, ne_i32, ne_i35, ne_i48, ne_i52, ne_i54, ne_i57, ne_i59, ne_i63, ne_i64, ne_i76, ne_i77, ne_i78, ne_i79, ne_i80, ne_i81, ne_i97, ne_i99, ne_i100, ne_i101, ne_i104, ne_i105, ne_i108, ne_i110, ne_i111, ne_i116, ne_i117, ne_i122, ne_i103, ne_i200, ne_i255, ne_i256, ne_i320, ne_i384, ne_i1000, ne_l0, ne_l1, ne_l2, ne_l3, ne_l4, ne_l5, ne_l8, ne_l12, ne_l31, ne_l48, ne_l57, ne_l97, ne_l99, ne_l122, ne_l255, ne_l673, ne_l1073741823, ne_l1073741824, z, zm_sh, Nat.zero_add]
    · rw [if_neg hy4, if_neg hx4]
      refine ⟨_, S, ?_, h⟩
      simp (disch := omega) only [sm_lt, sm_b1s, sm_b2s, ↓reduceIte, sm_in_nI, nI_clamp, nI_add, pk_mul, pk_sub, ne_addneg, nI_l, ne_ltT, ne_ltF, ne_leT, ne_leF, ne_eqT, ne_eqF, ne_sI1s, ne_sI1n, ne_sI2, ne_sI3, ne_sL1, ne_sL2s, ne_sL2n, ne_sL3, pk_us, pk_un, pk_uLs, pk_uLn, mm_Z, mm_L, mm_1, mm_2, mm_3, ne_rz0, ne_rz1, not_true_eq_false, not_false_eq_true, ne_i0, ne_i1, ne_i2, ne_i3, ne_i4, ne_i5, ne_i6, ne_i7, ne_i8, ne_i9, ne_i10, ne_i12, ne_i14, ne_i16, ne_i18, ne_i19, ne_i20, ne_i23, ne_i24, ne_i27, ne_i29, ne_i30, ne_i31, ne_i32, ne_i35, ne_i48, ne_i52, ne_i54, ne_i57, ne_i59, ne_i63, ne_i64, ne_i76, ne_i77, ne_i78, ne_i79, ne_i80, ne_i81, ne_i97, ne_i99, ne_i100, ne_i101, ne_i104, ne_i105, ne_i108, ne_i110, ne_i111, ne_i116, ne_i117, ne_i122, ne_i103, ne_i200, ne_i255, ne_i256, ne_i320, ne_i384, ne_i1000, ne_l0, ne_l1, ne_l2, ne_l3, ne_l4, ne_l5, ne_l8, ne_l12, ne_l31, ne_l48, ne_l57, ne_l97, ne_l99, ne_l122, ne_l255, ne_l673, ne_l1073741823, ne_l1073741824]
/-- a refused item -/
def mdF (M0 M S : sm_St) (v : Nat → Nat) (f : Nat) : Prop := mdE M0 M S v ∧ S.1 0 22 = nI f
theorem mdS_F (h : mdS M0 M S v tx len q nc nt cn cl co hr) : mdF M0 M S v (tk_p tx len q) := ⟨h.1, by rw [(mdS_S h).1]; exact h.2.1.1⟩
/-- one figure of a cloth -/
theorem md_b48 {k m : Nat} {r : Int32 → Int32 → sm_St → Option (Int32 × sm_St)} (hN : 4000 ≤ N) (hT : lkT M0 tx len) (hq : q ≤ len) (hc : nc < 4) (hk : k < 3) (hm : m < 2 ^ 31) (h : mdS M0 M S v tx len q nc nt (3 * nc + k) cl co hr) : ∃ M' S', pm_readsCloth_b48 N r (nI k) (nI 0) (nI m) S = r (nI (sp_b (tk_n tx len q m))) (nI (k + 1)) S' ∧ (tk_n tx len q m = true → mdS M0 M' S' v tx len (tk_e tx len q) nc nt (3 * nc + (k + 1)) (va_up cl (3 * nc + k) (tk_v tx len q)) co hr) ∧ (tk_n tx len q m = false → mdF M0 M' S' v (tk_p tx len q)) := by
  obtain ⟨M1, S1, e1, g1, g2⟩ := md_takes (N := N) hN hT hq hm h
  have go : ∀ (M1 : sm_St), nP M1 v S1 → M1.1 0 29 = nI nc → pm_readsCloth_b48 N r (nI k) (nI 0) (nI m) S = r (nI (sp_b (tk_n tx len q m))) (nI (k + 1)) (sm_sI S1 18 (3 * nc + k) (S1.1 0 31)) := fun M1 hp h29 => by
    have s29 : S1.1 0 29 = nI nc := by rw [nP_1 hp (by decide)]; exact h29
    have z := zm18
    unfold pm_readsCloth_b48
    rw [e1, sm_b2s]
    simp (disch := omega) only [sm_lt, sm_b1s, sm_b2s, ↓reduceIte, sm_in_nI, nI_clamp, nI_add, pk_mul, pk_sub, ne_addneg, nI_l, ne_ltT, ne_ltF, ne_leT, ne_leF, ne_eqT, ne_eqF, ne_sI1s, ne_sI1n, ne_sI2, ne_sI3, ne_sL1, ne_sL2s, ne_sL2n, ne_sL3, pk_us, pk_un, pk_uLs, pk_uLn, mm_Z, mm_L, mm_1, mm_2, mm_3, ne_rz0, ne_rz1, not_true_eq_false, not_false_eq_true, ne_i0, ne_i1, ne_i2, ne_i3, ne_i4, ne_i5, ne_i6, ne_i7, ne_i8, ne_i9, ne_i10, ne_i12, ne_i14, ne_i16, ne_i18, ne_i19, ne_i20, ne_i23, ne_i24, ne_i27, ne_i29, ne_i30, ne_i31, ne_i32, ne_i35, ne_i48, ne_i52, ne_i54, ne_i57, ne_i59, ne_i63, ne_i64, ne_i76, ne_i77, ne_i78, ne_i79, ne_i80, ne_i81, ne_i97, ne_i99, ne_i100, ne_i101, ne_i104, ne_i105, ne_i108, ne_i110, ne_i111, ne_i116, ne_i117, ne_i122, ne_i103, ne_i200, ne_i255, ne_i256, ne_i320, ne_i384, ne_i1000, ne_l0, ne_l1, ne_l2, ne_l3, ne_l4, ne_l5, ne_l8, ne_l12, ne_l31, ne_l48, ne_l57, ne_l97, ne_l99, ne_l122, ne_l255, ne_l673, ne_l1073741823, ne_l1073741824, s29, z]
  cases hn : tk_n tx len q m with
  | true =>
    obtain ⟨h1, h31⟩ := g1 hn
    have s31 : S1.1 0 31 = nI (tk_v tx len q) := by rw [(mdS_S h1).1]; exact h31
    have e := go M1 h1.1.1 h1.2.2.1
    rw [hn, s31] at e
    exact ⟨_, _, e, fun _ => mdS_18 h1, fun z => by cases z⟩
  | false =>
    have h1 := g2 hn
    have e := go M1 h1.1.1 h1.2.2.1
    rw [hn] at e
    refine ⟨sm_sI M1 18 (3 * nc + k) (S1.1 0 31), _, e, fun z => (by cases z), fun _ => ⟨mdE_p h1.1 (Or.inl rfl), ?_⟩⟩
    rw [ne_sI1n (by decide)]
    exact (mdS_F h1).2
theorem md_b75 {k : Nat} (hN : 4000 ≤ N) {f : Nat} : pm_readsCloth_b18 N (f + 1) (nI 0) (nI (k + 1)) S = some (nI 0, sm_sI S 0 29 (S.1 0 29 + 1)) := by
  rw [pm_readsCloth_b18]
  unfold pm_readsCloth_b75
  simp only [sm_lt]
  split
  · rfl
  · rw [if_pos (show nI 0 = 0 from rfl)]
    rfl
theorem md_cloth (hN : 4000 ≤ N) (hT : lkT M0 tx len) (hq : q ≤ len) (hc : nc < 4) (h : mdS M0 M S v tx len q nc nt (3 * nc) cl co hr) : ∃ M' S', (tk_n tx len (tk_e tx len q) 4 = true ∧ tk_n tx len (tk_e tx len (tk_e tx len q)) 3 = true ∧ tk_n tx len (tk_e tx len (tk_e tx len (tk_e tx len q))) 12 = true ∧ pm_readsCloth N S = some (nI 1, S') ∧ mdS M0 M' S' v tx len (tk_e tx len (tk_e tx len (tk_e tx len (tk_e tx len q)))) (nc + 1) nt (3 * (nc + 1)) (up3 cl nc (tk_v tx len (tk_e tx len q)) (tk_v tx len (tk_e tx len (tk_e tx len q))) (tk_v tx len (tk_e tx len (tk_e tx len (tk_e tx len q))))) co hr) ∨ ∃ f, itC tx len (tk_e tx len q) = .inl f ∧ pm_readsCloth N S = some (nI 0, S') ∧ mdF M0 M' S' v f := by
  obtain ⟨n, rfl⟩ : ∃ n, N = n + 4 := ⟨N - 4, by omega⟩
  have s29 : S.1 0 29 = nI nc := by rw [(mdS_S h).1]; exact h.2.2.1
  have n4 : ¬ S.1 0 29 = (4 : Int32) := by rw [s29]; exact fun z => by have := (nI_eq (b := 4) (by omega) (by decide)).mp z; omega
  obtain ⟨M1, S1, e1, g1, _⟩ := md_goOn (N := n + 4) hN hT hq h
  have l1 := tk_e_le (tx := tx) hq
  have l2 := tk_e_le (tx := tx) l1
  have l3 := tk_e_le (tx := tx) l2
  have F0 : ∀ (M1 S1 : sm_St) (f : Nat), mdF M0 M1 S1 v f → mdF M0 (sm_sI M1 0 29 (S1.1 0 29 + 1)) (sm_sI S1 0 29 (S1.1 0 29 + 1)) v f := fun M1 S1 f hF => ⟨mdE_0 hF.1 (by decide), by rw [ne_sI1s, pk_un (by decide)]; exact hF.2⟩
  unfold pm_readsCloth itC
  rw [if_neg n4, e1, sm_b1s]
  simp only [sm_lt]
  obtain ⟨M2, S2, e2, t2, u2⟩ := md_b48 (N := n + 4) (k := 0) (m := 4) (r := pm_readsCloth_b18 (n + 4) (n + 3)) hN hT l1 hc (by decide) (by decide) g1
  have h2 : pm_readsCloth_b18 (n + 4) (n + 4) (1 : Int32) (0 : Int32) S1 = pm_readsCloth_b48 (n + 4) (pm_readsCloth_b18 (n + 4) (n + 3)) (nI 0) (nI 0) (nI 4) S1 := by
    rw [pm_readsCloth_b18, if_neg (show ¬ (3 : Int32) ≤ (0 : Int32) by decide), if_neg (show ¬ (1 : Int32) = 0 by decide), if_pos (show (0 : Int32) = 0 from rfl)]
    rfl
  rw [h2, e2]
  cases b2 : tk_n tx len (tk_e tx len q) 4 with
  | false =>
    have hF := u2 b2
    refine ⟨_, _, Or.inr ⟨_, if_neg Bool.false_ne_true, ?_, F0 _ _ _ hF⟩⟩
    exact md_b75 (N := n + 4) (k := 0) (f := n + 2) hN
  | true =>
    have g2 := t2 b2
    obtain ⟨M3, S3, e3, t3, u3⟩ := md_b48 (N := n + 4) (k := 1) (m := 3) (r := pm_readsCloth_b18 (n + 4) (n + 2)) hN hT l2 hc (by decide) (by decide) g2
    have h3 : pm_readsCloth_b18 (n + 4) (n + 3) (nI (sp_b true)) (nI (0 + 1)) S2 = pm_readsCloth_b48 (n + 4) (pm_readsCloth_b18 (n + 4) (n + 2)) (nI 1) (nI 0) (nI 3) S2 := by
      rw [pm_readsCloth_b18, if_neg (show ¬ (3 : Int32) ≤ nI (0 + 1) by decide), if_neg (show ¬ nI (sp_b true) = 0 by decide), if_neg (show ¬ nI (0 + 1) = 0 by decide), if_pos (show nI (0 + 1) = (1 : Int32) from rfl)]
      rfl
    rw [h3, e3, if_pos rfl]
    cases b3 : tk_n tx len (tk_e tx len (tk_e tx len q)) 3 with
    | false =>
      have hF := u3 b3
      refine ⟨_, _, Or.inr ⟨_, if_neg Bool.false_ne_true, ?_, F0 _ _ _ hF⟩⟩
      exact md_b75 (N := n + 4) (k := 1) (f := n + 1) hN
    | true =>
      have g3 := t3 b3
      obtain ⟨M4, S4, e4, t4, u4⟩ := md_b48 (N := n + 4) (k := 2) (m := 12) (r := pm_readsCloth_b18 (n + 4) (n + 1)) hN hT l3 hc (by decide) (by decide) g3
      have h4 : pm_readsCloth_b18 (n + 4) (n + 2) (nI (sp_b true)) (nI (1 + 1)) S3 = pm_readsCloth_b48 (n + 4) (pm_readsCloth_b18 (n + 4) (n + 1)) (nI 2) (nI 0) (nI 12) S3 := by
        rw [pm_readsCloth_b18, if_neg (show ¬ (3 : Int32) ≤ nI (1 + 1) by decide), if_neg (show ¬ nI (sp_b true) = 0 by decide), if_neg (show ¬ nI (1 + 1) = 0 by decide), if_neg (show ¬ nI (1 + 1) = (1 : Int32) by decide)]
        rfl
      rw [h4, e4, if_pos rfl]
      cases b4 : tk_n tx len (tk_e tx len (tk_e tx len (tk_e tx len q))) 12 with
      | false =>
        have hF := u4 b4
        refine ⟨_, _, Or.inr ⟨_, if_neg Bool.false_ne_true, ?_, F0 _ _ _ hF⟩⟩
        exact md_b75 (N := n + 4) (k := 2) (f := n) hN
      | true =>
        have g4 := t4 b4
        have s4 : S4.1 0 29 = nI nc := by rw [(mdS_S g4).1]; exact g4.2.2.1
        have g5 := mdS_29 (n := nc + 1) g4
        refine ⟨_, sm_sI S4 0 29 (nI (nc + 1)), Or.inl ⟨rfl, rfl, rfl, ?_, g5⟩⟩
        rw [pm_readsCloth_b18, if_pos (show (3 : Int32) ≤ nI (2 + 1) by decide)]
        unfold pm_readsCloth_b75
        simp only [sm_lt]
        rw [s4, nI_1]
        rfl
theorem md_thing (hN : 4000 ≤ N) (hT : lkT M0 tx len) (hq : q ≤ len) (hc : nt < 4) (h : mdS M0 M S v tx len q nc nt cn cl co hr) : ∃ M' S', (tk_n tx len (tk_e tx len q) 12 = true ∧ pm_readsThing N S = some (nI 1, S') ∧ mdS M0 M' S' v tx len (tk_e tx len (tk_e tx len q)) nc (nt + 1) cn cl (va_up co nt (tk_v tx len (tk_e tx len q))) hr) ∨ ∃ f, itT tx len (tk_e tx len q) = .inl f ∧ pm_readsThing N S = some (nI 0, S') ∧ mdF M0 M' S' v f := by
  have s30 : S.1 0 30 = nI nt := by rw [(mdS_S h).1]; exact h.2.2.2.1
  have n4 : ¬ S.1 0 30 = (4 : Int32) := by rw [s30]; exact fun z => by have := (nI_eq (b := 4) (by omega) (by decide)).mp z; omega
  obtain ⟨M1, S1, e1, g1, _⟩ := md_goOn (N := N) hN hT hq h
  have l1 := tk_e_le (tx := tx) hq
  obtain ⟨M2, S2, e2, t2, u2⟩ := md_takes (N := N) (m := 12) hN hT l1 (by decide) g1
  have e2' : pm_takesOne N S1 (0 : Int32) (12 : Int32) = some (nI (sp_b (tk_n tx len (tk_e tx len q) 12)), S2) := e2
  unfold pm_readsThing itT
  rw [if_neg n4, e1, sm_b1s, e2', sm_b2s]
  cases b2 : tk_n tx len (tk_e tx len q) 12 with
  | false =>
    have g2 := u2 b2
    refine ⟨M2, S2, Or.inr ⟨_, if_neg Bool.false_ne_true, ?_, mdS_F g2⟩⟩
    rw [if_pos (show nI (sp_b false) = 0 from rfl)]
    rfl
  | true =>
    obtain ⟨g2, h31⟩ := t2 b2
    have s2 := (mdS_S g2).1
    have s31 : S2.1 0 31 = nI (tk_v tx len (tk_e tx len q)) := by rw [s2]; exact h31
    have s30' : S2.1 0 30 = nI nt := by rw [s2]; exact g2.2.2.2.1
    have z := zm20
    refine ⟨_, _, Or.inl ⟨rfl, ?_, mdS_20 g2⟩⟩
    rw [if_neg (show ¬ nI (sp_b true) = 0 by decide)]
    simp (disch := omega) only [sm_lt, sm_b1s, sm_b2s, ↓reduceIte, sm_in_nI, nI_clamp, nI_add, pk_mul, pk_sub, ne_addneg, nI_l, ne_ltT, ne_ltF, ne_leT, ne_leF, ne_eqT, ne_eqF, ne_sI1s, ne_sI1n, ne_sI2, ne_sI3, ne_sL1, ne_sL2s, ne_sL2n, ne_sL3, pk_us, pk_un, pk_uLs, pk_uLn, mm_Z, mm_L, mm_1, mm_2, mm_3, ne_rz0, ne_rz1, not_true_eq_false, not_false_eq_true, ne_i0, ne_i1, ne_i2, ne_i3, ne_i4, ne_i5, ne_i6, ne_i7, ne_i8, ne_i9, ne_i10, ne_i12, ne_i14, ne_i16, ne_i18, ne_i19, ne_i20, ne_i23, ne_i24, ne_i27, ne_i29, ne_i30, ne_i31, ne_i32, ne_i35, ne_i48, ne_i52, ne_i54, ne_i57, ne_i59, ne_i63, ne_i64, ne_i76, ne_i77, ne_i78, ne_i79, ne_i80, ne_i81, ne_i97, ne_i99, ne_i100, ne_i101, ne_i104, ne_i105, ne_i108, ne_i110, ne_i111, ne_i116, ne_i117, ne_i122, ne_i103, ne_i200, ne_i255, ne_i256, ne_i320, ne_i384, ne_i1000, ne_l0, ne_l1, ne_l2, ne_l3, ne_l4, ne_l5, ne_l8, ne_l12, ne_l31, ne_l48, ne_l57, ne_l97, ne_l99, ne_l122, ne_l255, ne_l673, ne_l1073741823, ne_l1073741824, s30', s31, z]
theorem md_there {n : Nat} (h : mdS M0 M S v tx len q nc nt cn cl co hr) (hc : nc ≤ 4) (ht : nt ≤ 4) (hn : n ≤ 99) : pm_isReadNumber N S (nI n) = some (nI (sp_b (tk_th nc nt n)), S) := by
  have s29 : S.1 0 29 = nI nc := by rw [(mdS_S h).1]; exact h.2.2.1
  have s30 : S.1 0 30 = nI nt := by rw [(mdS_S h).1]; exact h.2.2.2.1
  have z1 : ¬ (nI 1 = 0) := by decide
  have z0 : nI 0 = 0 := rfl
  unfold pm_isReadNumber pm_isReadNumber_b34 tk_th
  rw [s29, nI_l (show n < 2 ^ 31 by omega)]
  have e2 : pm_in N S (lN n) (4 : Int64) ((3 : Int32) + S.1 0 30).toInt64 = some (nI (if 4 ≤ n ∧ n < 4 + nt then 1 else 0), S) := by
    rw [s30, show (3 : Int32) = nI 3 from rfl, nI_add, nI_l (show 3 + nt < 2 ^ 31 by omega)]
    by_cases q : 4 ≤ n ∧ n < 4 + nt
    · rw [if_pos q]
      exact ne_inT (a := 4) q.1 (by omega) (by omega)
    · rw [if_neg q]
      exact ne_inF (a := 4) (by omega) (by omega) (by decide) (by omega)
  have e1 : pm_in N S (lN n) (0 : Int64) ((nI nc - (1 : Int32)).toInt64) = some (nI (if n < nc then 1 else 0), S) := by
    by_cases c0 : nc = 0
    · rw [c0, if_neg (by omega), ne_in]
      have : ((nI 0 - (1 : Int32)).toInt64).toInt = -1 := by decide
      rw [this, show (0 : Int64).toInt = 0 from rfl, lN_toInt (by omega), if_neg (by omega)]
    · rw [show (1 : Int32) = nI 1 from rfl, pk_sub (by omega), nI_l (show nc - 1 < 2 ^ 31 by omega)]
      by_cases q : n < nc
      · rw [if_pos q]
        exact ne_inT (a := 0) (by omega) (by omega) (by omega)
      · rw [if_neg q]
        exact ne_inF (a := 0) (by omega) (by omega) (by decide) (by omega)
  rw [e1, sm_b2s]
  by_cases q : n < nc
  · rw [if_pos q, if_neg z1, decide_eq_true (Or.inl q)]
    rfl
  · rw [if_neg q, if_pos z0, e2, sm_b2s]
    by_cases q2 : 4 ≤ n ∧ n < 4 + nt
    · rw [if_pos q2, if_neg z1, decide_eq_true (Or.inr q2)]
      rfl
    · rw [if_neg q2, if_pos z0, decide_eq_false (fun z => by omega)]
      rfl
theorem md_touch (hN : 4000 ≤ N) (hT : lkT M0 tx len) (hq : q ≤ len) (hc : nc ≤ 4) (ht : nt ≤ 4) (h : mdS M0 M S v tx len q nc nt cn cl co hr) : ∃ M' S', (itA tx len nc nt (tk_e tx len q) = true ∧ itB tx len nc nt (tk_e tx len q) (tk_e tx len (tk_e tx len q)) = true ∧ tk_n tx len (tk_e tx len (tk_e tx len (tk_e tx len q))) 3 = true ∧ pm_readsTouch N S = some (nI 1, S') ∧ mdS M0 M' S' v tx len (tk_e tx len (tk_e tx len (tk_e tx len (tk_e tx len q)))) nc nt cn cl co (sp_ph hr (tk_v tx len (tk_e tx len q)) (tk_v tx len (tk_e tx len (tk_e tx len q))) (tk_v tx len (tk_e tx len (tk_e tx len (tk_e tx len q)))))) ∨ ∃ f, itU tx len nc nt (tk_e tx len q) = .inl f ∧ pm_readsTouch N S = some (nI 0, S') ∧ mdF M0 M' S' v f := by
  have z1 : ¬ (nI 1 = 0) := by decide
  have z0 : nI 0 = 0 := rfl
  obtain ⟨M1, S1, e1, g1, _⟩ := md_goOn (N := N) hN hT hq h
  have l1 := tk_e_le (tx := tx) hq
  have l2 := tk_e_le (tx := tx) l1
  -- a number that is there
  have numT : ∀ (S1 M1 : sm_St) (r : Nat), mdS M0 M1 S1 v tx len r nc nt cn cl co hr → (tk_n tx len r 7 && tk_th nc nt (tk_v tx len r)) = true → S1.1 0 24 = (2 : Int32) ∧ S1.1 0 25 = nI (tk_v tx len r) ∧ pm_isReadNumber N S1 (nI (tk_v tx len r)) = some (nI 1, S1) ∧ tk_v tx len r ≤ 7 := by
    intro S1 M1 r g hb
    rw [Bool.and_eq_true] at hb
    obtain ⟨h4, h7⟩ := of_decide_eq_true hb.1
    have m2 := (tk_KM tx len r).1.mp h4
    have e := md_there (N := N) (n := tk_v tx len r) g hc ht (by omega)
    rw [hb.2] at e
    have s := (mdS_S g).1
    exact ⟨by rw [s, g.2.1.2.2.1, m2]; rfl, by rw [s]; exact g.2.1.2.2.2 m2, e, h7⟩
  have numF : ∀ (S1 M1 : sm_St) (r : Nat), mdS M0 M1 S1 v tx len r nc nt cn cl co hr → (tk_n tx len r 7 && tk_th nc nt (tk_v tx len r)) = false → ¬ S1.1 0 24 = (2 : Int32) ∨ (S1.1 0 24 = (2 : Int32) ∧ pm_isReadNumber N S1 (S1.1 0 25) = some (nI 0, S1)) := by
    intro S1 M1 r g hb
    have s := (mdS_S g).1
    obtain ⟨k1, _, _, k4⟩ := tk_KM tx len r
    by_cases m2 : tk_M tx len r = 2
    · right
      have v99 := tk_v_99 (k1.mpr m2)
      refine ⟨by rw [s, g.2.1.2.2.1, m2]; rfl, ?_⟩
      rw [s, g.2.1.2.2.2 m2]
      have e := md_there (N := N) (n := tk_v tx len r) g hc ht v99
      have tF : tk_th nc nt (tk_v tx len r) = false := by
        cases q : tk_th nc nt (tk_v tx len r) with
        | false => rfl
        | true =>
          rw [q, Bool.and_true] at hb
          have := of_decide_eq_false hb
          have := of_decide_eq_true q
          omega
      rw [tF] at e
      exact e
    · left
      rw [s, g.2.1.2.2.1]
      exact fun z => m2 ((nI_eq (b := 2) (by omega) (by decide)).mp z)
  unfold pm_readsTouch itU
  rw [e1, sm_b1s]
  cases bA : itA tx len nc nt (tk_e tx len q) with
  | false =>
    unfold itA at bA
    refine ⟨M1, S1, Or.inr ⟨_, if_neg Bool.false_ne_true, ?_, mdS_F g1⟩⟩
    rcases numF S1 M1 _ g1 bA with z | ⟨z, e⟩
    · rw [if_neg z]
      rfl
    · rw [if_pos z, e, sm_b2s, if_pos z0]
      rfl
  | true =>
    unfold itA at bA
    obtain ⟨a1, a2, a3, a4⟩ := numT S1 M1 _ g1 bA
    rw [if_pos a1, a2, a3, sm_b2s, if_neg z1]
    simp only [sm_lt]
    rw [a2]
    obtain ⟨M2, S2, e2, g2, _⟩ := md_goOn (N := N) hN hT l1 g1
    rw [e2, sm_b1s]
    cases bB : itB tx len nc nt (tk_e tx len q) (tk_e tx len (tk_e tx len q)) with
    | false =>
      unfold itB at bB
      refine ⟨M2, S2, Or.inr ⟨_, by rw [if_pos trivial, if_neg Bool.false_ne_true], ?_, mdS_F g2⟩⟩
      cases b3 : (tk_n tx len (tk_e tx len (tk_e tx len q)) 7 && tk_th nc nt (tk_v tx len (tk_e tx len (tk_e tx len q)))) with
      | false =>
        rcases numF S2 M2 _ g2 b3 with z | ⟨z, e⟩
        · rw [if_neg z]
          rfl
        · rw [if_pos z, e, sm_b2s, if_pos z0]
          rfl
      | true =>
        obtain ⟨c1, c2, c3, c4⟩ := numT S2 M2 _ g2 b3
        rw [b3, Bool.true_and] at bB
        rw [if_pos c1, c2, c3, sm_b2s, if_neg z1, c2]
        by_cases e : tk_v tx len (tk_e tx len (tk_e tx len q)) = tk_v tx len (tk_e tx len q)
        · rw [e, if_pos rfl]
          rfl
        · rw [decide_eq_false e, Bool.not_false, Bool.true_and] at bB
          have := of_decide_eq_false bB
          rw [if_neg (fun z => e ((nI_eq (by omega) (by omega)).mp z)), if_neg (show ¬ nI (tk_v tx len (tk_e tx len q)) ≤ (3 : Int32) from nI_ge (a := 3) (by omega) (by omega)), if_neg (show ¬ nI (tk_v tx len (tk_e tx len (tk_e tx len q))) ≤ (3 : Int32) from nI_ge (a := 3) (by omega) (by omega))]
          rfl
    | true =>
      unfold itB at bB
      rw [Bool.and_eq_true, Bool.and_eq_true] at bB
      obtain ⟨⟨b3, b4⟩, b5⟩ := bB
      obtain ⟨c1, c2, c3, c4⟩ := numT S2 M2 _ g2 b3
      have ne : tk_v tx len (tk_e tx len (tk_e tx len q)) ≠ tk_v tx len (tk_e tx len q) := fun e => by
        rw [decide_eq_true e] at b4
        cases b4
      have lt4 := of_decide_eq_true b5
      rw [if_pos c1, c2, c3, sm_b2s, if_neg z1, c2, if_neg (fun z => ne ((nI_eq (by omega) (by omega)).mp z))]
      obtain ⟨M3, S3, e3, g3, _⟩ := md_goOn (N := N) hN hT l2 g2
      obtain ⟨M4, S4, e4, t4, u4⟩ := md_takes (N := N) (m := 3) hN hT (tk_e_le (tx := tx) l2) (by decide) g3
      have e4' : pm_takesOne N S3 (0 : Int32) (3 : Int32) = some (nI (sp_b (tk_n tx len (tk_e tx len (tk_e tx len (tk_e tx len q))) 3)), S4) := e4
      have fin : ∃ M' S', (tk_n tx len (tk_e tx len (tk_e tx len (tk_e tx len q))) 3 = true ∧ pm_readsTouch_b76 N (nI (tk_v tx len (tk_e tx len q))) S2 = some (nI 1, S') ∧ mdS M0 M' S' v tx len (tk_e tx len (tk_e tx len (tk_e tx len (tk_e tx len q)))) nc nt cn cl co (sp_ph hr (tk_v tx len (tk_e tx len q)) (tk_v tx len (tk_e tx len (tk_e tx len q))) (tk_v tx len (tk_e tx len (tk_e tx len (tk_e tx len q)))))) ∨ (tk_n tx len (tk_e tx len (tk_e tx len (tk_e tx len q))) 3 = false ∧ pm_readsTouch_b76 N (nI (tk_v tx len (tk_e tx len q))) S2 = some (nI 0, S') ∧ mdF M0 M' S' v (tk_p tx len (tk_e tx len (tk_e tx len (tk_e tx len q))))) := by
        unfold pm_readsTouch_b76
        simp only [sm_lt]
        rw [c2, e3, sm_b1s, e4', sm_b2s]
        cases b6 : tk_n tx len (tk_e tx len (tk_e tx len (tk_e tx len q))) 3 with
        | false =>
          rw [if_pos (show nI (sp_b false) = 0 from rfl)]
          exact ⟨M4, S4, Or.inr ⟨rfl, rfl, mdS_F (u4 b6)⟩⟩
        | true =>
          obtain ⟨g4, h31⟩ := t4 b6
          obtain ⟨M5, S5, e5, g5⟩ := mdS_ph (N := N) (x := tk_v tx len (tk_e tx len q)) (y := tk_v tx len (tk_e tx len (tk_e tx len q))) (n := tk_v tx len (tk_e tx len (tk_e tx len (tk_e tx len q)))) g4 (by omega) (by omega)
          have s31 : S4.1 0 31 = nI (tk_v tx len (tk_e tx len (tk_e tx len (tk_e tx len q)))) := by rw [(mdS_S g4).1]; exact h31
          have e5' : pm_putHours N S4 19 (0 : Int32) (nI (tk_v tx len (tk_e tx len q))) (nI (tk_v tx len (tk_e tx len (tk_e tx len q)))) (S4.1 0 31) = some S5 := by rw [s31]; exact e5
          rw [if_neg (show ¬ nI (sp_b true) = 0 from z1), e5', sm_b1s]
          exact ⟨M5, S5, Or.inl ⟨rfl, rfl, g5⟩⟩
      have both : (if nI (tk_v tx len (tk_e tx len q)) ≤ (3 : Int32) then pm_readsTouch_b76 N (nI (tk_v tx len (tk_e tx len q))) S2 else if nI (tk_v tx len (tk_e tx len (tk_e tx len q))) ≤ (3 : Int32) then pm_readsTouch_b76 N (nI (tk_v tx len (tk_e tx len q))) S2 else some ((0 : Int32), S2)) = pm_readsTouch_b76 N (nI (tk_v tx len (tk_e tx len q))) S2 := by
        by_cases x4 : tk_v tx len (tk_e tx len q) < 4
        · rw [if_pos (show nI (tk_v tx len (tk_e tx len q)) ≤ (3 : Int32) from nI_le (b := 3) (by omega) (by decide))]
        · rw [if_neg (show ¬ nI (tk_v tx len (tk_e tx len q)) ≤ (3 : Int32) from nI_ge (a := 3) (by omega) (by omega)), if_pos (show nI (tk_v tx len (tk_e tx len (tk_e tx len q))) ≤ (3 : Int32) from nI_le (b := 3) (by omega) (by decide))]
      obtain ⟨M', S', f⟩ := fin
      refine ⟨M', S', ?_⟩
      rcases f with ⟨f1, f2, f3⟩ | ⟨f1, f2, f3⟩
      · left
        exact ⟨trivial, rfl, f1, by rw [← f2]; exact both, f3⟩
      · right
        exact ⟨_, by rw [if_pos trivial, if_pos rfl, f1, if_neg Bool.false_ne_true], by rw [← f2]; exact both, f3⟩
end
