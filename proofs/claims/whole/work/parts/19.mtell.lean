theorem nm_div0 {M : sm_St} {Z : Nat → Int32} {N a n : Nat} (ha : a < 124) (hn : n ≤ 60) : ∀ (d k f : Nat) (L : Nat → Int64), k + d = n → d < f → ∃ L', nm_fr a L L' ∧ pm_divide_b23 N f (nI a) (nI n) (nI k) (mm M L Z) = pm_divide_b50 N N (nI a) (nI n + (-1)) (mm M L' Z) := by
  intro d
  induction d with
  | zero =>
    intro k f L hk hf
    obtain ⟨f, rfl⟩ : ∃ g, f = g + 1 := ⟨f - 1, by omega⟩
    refine ⟨L, nm_fr_rf, ?_⟩
    rw [pm_divide_b23, if_pos (nI_le (by omega) (by omega))]
    simp only [sm_lt]
    rw [Int32.sub_eq_add_neg]
  | succ d ih =>
    intro k f L hk hf
    obtain ⟨f, rfl⟩ : ∃ g, f = g + 1 := ⟨f - 1, by omega⟩
    obtain ⟨L', h1, h2⟩ := ih (k + 1) f (vp_updL L (64 * a + k) 0) (by omega) (by omega)
    refine ⟨L', nm_fr_tr (nm_fr_up (by omega)) h1, ?_⟩
    rw [pm_divide_b23, if_neg (nI_ge (by omega) (by omega)), nm_e64, sm_ite_t (sm_in_nI (by omega) (by decide)), nI_clamp (by omega), mm_sL]
    simp only [sm_lt, nI_1]
    exact h2
theorem nm_divide {M : sm_St} {L : Nat → Int64} {Z : Nat → Int32} {N a g v : Nat} (hN : 4000 ≤ N) (ha : a < 124) (ha4 : a ≠ 4) (ha5 : a ≠ 5) (ha6 : a ≠ 6) (hg : 0 < g) (hg2 : nm_nd (2 * g) ≤ 60) (hG : nm_N L Z 4 g) (hA : nm_N L Z a v) : ∃ L' Z', pm_divide N (mm M L Z) (nI a) = some (mm M L' Z') ∧ nm_N L' Z' a (v / g) ∧ ∀ t, t ≠ a → t ≠ 5 → t ≠ 6 → nm_same L Z L' Z' t := by
  have nv := hA.1
  obtain ⟨L1, Z1, a1, a2, a3⟩ := nm_use (nm_copy (M := M) (N := N) (a := 6) (by omega) (Ne.symm ha6) (by decide) ha hA) hA.1
  obtain ⟨L2, Z2, b1, b2, b3⟩ := nm_use (nm_set (M := M) (L := L1) (Z := Z1) (N := N) (a := 5) (x := 0) (by omega) (by decide) (by decide)) (by decide)
  have hT := nm_same_N (b3 6 (by decide)) a2
  have hA2 := nm_same_N (b3 a ha5) (nm_same_N (a3 a ha6) hA)
  have hG2 := nm_same_N (b3 4 (by decide)) (nm_same_N (a3 4 (by decide)) hG)
  obtain ⟨L3, c1, c2⟩ := nm_div0 (M := M) (Z := Z2) (N := N) ha hA.1 (nm_nd v) 0 N L2 (by omega) (by omega)
  have s3 : ∀ t, t ≠ a → nm_same L2 Z2 L3 Z2 t := fun t ht => ⟨rfl, fun k hk => c1 _ (by omega)⟩
  obtain ⟨L', Z', d1, d2, d3⟩ := nm_divK (M := M) (N := N) hN ha ha4 ha5 ha6 hg hg2 (v := v) (nm_nd v) N L3 Z2 (Nat.le_refl _) (by omega) ⟨nm_same_N (s3 4 (Ne.symm ha4)) hG2, nm_same_N (s3 6 (Ne.symm ha6)) hT, by
    have : v / 2 ^ (30 * nm_nd v) = 0 := by rw [← nm_B2]; exact nm_div_full (nm_lt_nd v)
    rw [this, Nat.zero_mod]
    exact nm_same_N (s3 5 (Ne.symm ha5)) b2⟩ hA2.2.1 (fun j hj hj' => absurd hj (by omega))
  refine ⟨L', Z', ?_, d2, fun t ht h5 h6 => nm_same_tr (a3 t h6) (nm_same_tr (b3 t h5) (nm_same_tr (s3 t ht) (d3 t ht h5)))⟩
  unfold pm_divide
  rw [nm_c6, a1, sm_b1s, nm_c5, nm_l0, b1, sm_b1s, sm_ite_t (by decide), mm_Z, nI_clamp (by decide), hT.2.1]
  simp only [sm_lt]
  rw [nm_c0, c2, d1]
theorem mm_sIo {M : sm_St} {L : Nat → Int64} {Z : Nat → Int32} {p k : Nat} {v : Int32} (h : p ≠ 6) : sm_sI (mm M L Z) p k v = mm (sm_sI M p k v) L Z := by
  unfold sm_sI mm
  refine Prod.ext ?_ rfl
  show va_up (va_up M.1 6 Z) p (upd (va_up M.1 6 Z p) k v) = va_up (va_up M.1 p (upd (M.1 p) k v)) 6 Z
  funext q
  by_cases h1 : q = p
  · subst h1
    simp [va_up, h]
  · by_cases h2 : q = 6
    · subst h2
      simp [va_up, h1]
    · simp [va_up, h1, h2]
/-- THE FRACTION: lowest terms -/
theorem nm_tell {M : sm_St} {L : Nat → Int64} {Z : Nat → Int32} {N v w : Nat} (hN : 4000 ≤ N) (hw : 0 < w) (hw2 : nm_nd (2 * w) ≤ 60) (hP : nm_N L Z 2 v) (hQ : nm_N L Z 3 w) : ∃ L' Z', pm_tell N (mm M L Z) 2 3 0 = some (mm (sm_sI M 0 6 (if v = 0 then 0 else 1)) L' Z') ∧ nm_N L' Z' 0 (v / Nat.gcd v w) ∧ nm_N L' Z' 1 (w / Nat.gcd v w) ∧ ∀ t, t ≠ 0 → t ≠ 1 → t ≠ 4 → t ≠ 5 → t ≠ 6 → nm_same L Z L' Z' t := by
  have nv := hP.1
  unfold pm_tell
  rw [sm_ite_t (by decide), mm_Z, show (2 : Int32).toNatClampNeg = 2 by decide, hP.2.1]
  rcases Nat.eq_zero_or_pos v with e | e
  · subst e
    obtain ⟨L1, Z1, a1, a2, a3⟩ := nm_use (nm_set (M := M) (L := L) (Z := Z) (N := N) (a := 0) (x := 0) (by omega) (by decide) (by decide)) (by decide)
    obtain ⟨L2, Z2, b1, b2, b3⟩ := nm_use (nm_set (M := M) (L := L1) (Z := Z1) (N := N) (a := 1) (x := 1) (by omega) (by decide) (by decide)) (by decide)
    refine ⟨L2, Z2, ?_, by rw [Nat.zero_div]; exact nm_same_N (b3 0 (by decide)) a2, by rw [Nat.gcd_zero_left, Nat.div_self hw]; exact b2, fun t h0 h1 _ _ _ => nm_same_tr (a3 t h0) (b3 t h1)⟩
    rw [nm_nd_0, if_pos (by decide), nm_c0, nm_l0, a1, sm_b1s, nm_c1, nm_l1, b1, sm_b1s]
    simp only [sm_lt]
    rw [mm_sIo (by decide), if_pos trivial]
  · have hg : 0 < Nat.gcd v w := Nat.gcd_pos_of_pos_left _ e
    have hgw : Nat.gcd v w ≤ w := Nat.gcd_le_right _ hw
    have hg2 : nm_nd (2 * Nat.gcd v w) ≤ 60 := Nat.le_trans (nm_nd_mono (by omega)) hw2
    obtain ⟨L1, Z1, a1, a2, a3⟩ := nm_gcd (M := M) (N := N) (a := 2) (b := 3) hN (by decide) (by decide) (by decide) (by decide) (by decide) e hw hP hQ
    have hP1 := nm_same_N (a3 2 (by decide) (by decide) (by decide)) hP
    have hQ1 := nm_same_N (a3 3 (by decide) (by decide) (by decide)) hQ
    obtain ⟨L2, Z2, b1, b2, b3⟩ := nm_use (nm_copy (M := M) (N := N) (a := 0) (b := 2) (by omega) (by decide) (by decide) (by decide) hP1) hP.1
    obtain ⟨L3, Z3, c1, c2, c3⟩ := nm_divide (M := M) (N := N) (a := 0) hN (by decide) (by decide) (by decide) (by decide) hg hg2 (nm_same_N (b3 4 (by decide)) a2) b2
    have hQ3 := nm_same_N (c3 3 (by decide) (by decide) (by decide)) (nm_same_N (b3 3 (by decide)) hQ1)
    have hG3 := nm_same_N (c3 4 (by decide) (by decide) (by decide)) (nm_same_N (b3 4 (by decide)) a2)
    obtain ⟨L4, Z4, d1, d2, d3⟩ := nm_use (nm_copy (M := M) (N := N) (a := 1) (b := 3) (by omega) (by decide) (by decide) (by decide) hQ3) hQ.1
    obtain ⟨L5, Z5, e1, e2, e3⟩ := nm_divide (M := M) (N := N) (a := 1) hN (by decide) (by decide) (by decide) (by decide) hg hg2 (nm_same_N (d3 4 (by decide)) hG3) d2
    refine ⟨L5, Z5, ?_, nm_same_N (e3 0 (by decide) (by decide) (by decide)) (nm_same_N (d3 0 (by decide)) c2), e2, fun t h0 h1 h4 h5 h6 => nm_same_tr (a3 t h4 h5 h6) (nm_same_tr (b3 t h0) (nm_same_tr (c3 t h0 h5 h6) (nm_same_tr (d3 t h1) (e3 t h1 h5 h6))))⟩
    rw [if_neg (nI_ne0 (nm_nd_pos e) (by omega)), show (2 : Int32) = nI 2 by decide, show (3 : Int32) = nI 3 by decide, a1, sm_b1s, show (0 : Int32) = nI 0 by decide, b1, sm_b1s, c1, sm_b1s, show (1 : Int32) = nI 1 by decide, d1, sm_b1s, e1, sm_b1s, if_pos rfl]
    unfold pm_tell_b65
    simp only [sm_lt]
    rw [mm_sIo (by decide), if_neg (by omega)]
