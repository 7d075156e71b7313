theorem nm_big {v : Nat} (h : nm_nd v ≤ 60) : v < 2 ^ 1800 := Nat.lt_of_lt_of_le (nm_nd_le.mp h) (by rw [nm_B2]; exact Nat.le_refl _)
theorem nm_sz5 {M : sm_St} {L : Nat → Int64} {Z : Nat → Int32} {y : Nat} (h : nm_N L Z 5 y) : (mm M L Z).1 6 (5 : Int32).toNatClampNeg = nI (nm_nd y) := by
  rw [mm_Z, nm_c5, nI_clamp (by decide)]
  exact h.2.1
theorem nm_gcdE {M : sm_St} {N t f x : Nat} {L : Nat → Int64} {Z : Nat → Int32} (hH : nm_N L Z 5 0) : pm_findDivisor_b46 N (f + 1) (nI t) (mm M L Z) = pm_findDivisor_b128 N N (nI t) (nI 0) (mm M L Z) := by
  rw [pm_findDivisor_b46, nm_sz5 hH, nm_nd_0, sm_ite_t (by decide), if_pos (by decide)]
  rfl
theorem nm_gcdN {M : sm_St} {N t f y : Nat} {L : Nat → Int64} {Z : Nat → Int32} (hy : 0 < y) (hH : nm_N L Z 5 y) : pm_findDivisor_b46 N (f + 1) (nI t) (mm M L Z) = pm_findDivisor_b55 N (pm_findDivisor_b46 N f) N (nI t) (mm M L Z) := by
  have := hH.1
  rw [pm_findDivisor_b46, nm_sz5 hH, sm_ite_t (by decide), if_neg (nI_nle (nm_nd_pos hy) (by omega))]
theorem nm_gcdO {M : sm_St} {N t : Nat} (hN : 4000 ≤ N) : ∀ (f x y : Nat) (L : Nat → Int64) (Z : Nat → Int32), x % 2 = 1 → y % 2 = 0 → x * y < 2 ^ f → nm_N L Z 4 x → nm_N L Z 5 y → ∃ L' Z', pm_findDivisor_b46 N (f + 1) (nI t) (mm M L Z) = pm_findDivisor_b128 N N (nI t) (nI 0) (mm M L' Z') ∧ nm_N L' Z' 4 (Nat.gcd x y) ∧ nm_Fr L Z L' Z' := by
  intro f
  induction f with
  | zero =>
    intro x y L Z hx hy hf hG hH
    have hy0 : y = 0 := by
      rcases Nat.eq_zero_or_pos y with q | q
      · exact q
      · have : 0 < x * y := Nat.mul_pos (by omega) q
        simp at hf
        omega
    subst hy0
    exact ⟨L, Z, nm_gcdE (x := x) hH, by rw [Nat.gcd_zero_right]; exact hG, nm_Fr_rf⟩
  | succ f ih =>
    intro x y L Z hx hy hf hG hH
    rcases Nat.eq_zero_or_pos y with q | q
    · subst q
      exact ⟨L, Z, nm_gcdE (x := x) hH, by rw [Nat.gcd_zero_right]; exact hG, nm_Fr_rf⟩
    · have ho : Nat.gcd x y % 2 = 1 := by
        rcases Nat.mod_two_eq_zero_or_one (Nat.gcd x y) with r | r
        · have := Nat.dvd_trans (Nat.dvd_of_mod_eq_zero r) (Nat.gcd_dvd_left x y)
          omega
        · exact r
      obtain ⟨x1, L1, Z1, a1, a2, a3, a4, a5, a6, a7⟩ := nm_gcdG (M := M) (N := N) (r46 := pm_findDivisor_b46 N (f + 1)) (v3 := nI t) (by omega) 1800 N x y L Z (by omega) (nm_big hG.1) (by omega) ho hG hH
      obtain ⟨x2, y2, L2, Z2, b1, b2, b3, b4, b5, b6, b7, b8, b9⟩ := nm_gcdH (M := M) (N := N) (r46 := pm_findDivisor_b46 N (f + 1)) (v3 := nI t) (by omega) 1800 N x1 y L1 Z1 a1 q (nm_big hH.1) (by omega) (by rw [a3]; exact ho) a4 a5
      have hp : x1 * y ≤ x * y := Nat.mul_le_mul_right _ a2
      have h2 := b4.2 hy
      rw [Nat.pow_succ] at hf
      obtain ⟨L', Z', c1, c2, c3⟩ := ih x2 y2 L2 Z2 b1 b2 (by omega) b6 b7
      refine ⟨L', Z', ?_, by rw [b3, a3] at c2; exact c2, nm_Fr_tr a6 (nm_Fr_tr b8 c3)⟩
      rw [nm_gcdN q hH, a7, b9, c1]
theorem nm_gcdP {M : sm_St} {N t f x y : Nat} {L : Nat → Int64} {Z : Nat → Int32} (hN : 4000 ≤ N) (hx : 0 < x) (hy : 0 < y) (ho : Nat.gcd x y % 2 = 1) (hf : x * y < 2 ^ f) (hG : nm_N L Z 4 x) (hH : nm_N L Z 5 y) : ∃ L' Z', pm_findDivisor_b46 N (f + 2) (nI t) (mm M L Z) = pm_findDivisor_b128 N N (nI t) (nI 0) (mm M L' Z') ∧ nm_N L' Z' 4 (Nat.gcd x y) ∧ nm_Fr L Z L' Z' := by
  obtain ⟨x1, L1, Z1, a1, a2, a3, a4, a5, a6, a7⟩ := nm_gcdG (M := M) (N := N) (r46 := pm_findDivisor_b46 N (f + 1)) (v3 := nI t) (by omega) 1800 N x y L Z hx (nm_big hG.1) (by omega) ho hG hH
  obtain ⟨x2, y2, L2, Z2, b1, b2, b3, b4, b5, b6, b7, b8, b9⟩ := nm_gcdH (M := M) (N := N) (r46 := pm_findDivisor_b46 N (f + 1)) (v3 := nI t) (by omega) 1800 N x1 y L1 Z1 a1 hy (nm_big hH.1) (by omega) (by rw [a3]; exact ho) a4 a5
  have hp : x1 * y ≤ x * y := Nat.mul_le_mul_right _ a2
  obtain ⟨L', Z', c1, c2, c3⟩ := nm_gcdO (M := M) (t := t) hN f x2 y2 L2 Z2 b1 b2 (by have := b4.1; omega) b6 b7
  refine ⟨L', Z', ?_, by rw [b3, a3] at c2; exact c2, nm_Fr_tr a6 (nm_Fr_tr b8 c3)⟩
  rw [show f + 2 = (f + 1) + 1 from rfl, nm_gcdN hy hH, a7, b9, c1]
/-- both even: halved, and counted -/
theorem nm_gcdB {M : sm_St} {N : Nat} (hN : 4000 ≤ N) : ∀ (j f x y t : Nat) (L : Nat → Int64) (Z : Nat → Int32), 0 < x → 0 < y → x < 2 ^ j → j < f → t + j ≤ 2000 → nm_nd (Nat.gcd x y * 2 ^ t) ≤ 60 → nm_N L Z 4 x → nm_N L Z 5 y → ∃ L' Z', pm_findDivisor_b14 N f (nI t) (mm M L Z) = some (mm M L' Z') ∧ nm_N L' Z' 4 (Nat.gcd x y * 2 ^ t) ∧ nm_Fr L Z L' Z' := by
  intro j
  induction j with
  | zero => intro f x y t L Z h0 _ h1; simp at h1; omega
  | succ j ih =>
    intro f x y t L Z h0 h0' h1 hf ht hg hG hH
    obtain ⟨f, rfl⟩ : ∃ g, f = g + 1 := ⟨f - 1, by omega⟩
    -- when they are not both even
    have fin : Nat.gcd x y % 2 = 1 → ∃ L' Z', pm_findDivisor_b46 N N (nI t) (mm M L Z) = some (mm M L' Z') ∧ nm_N L' Z' 4 (Nat.gcd x y * 2 ^ t) ∧ nm_Fr L Z L' Z' := by
      intro ho
      have hp : x * y < 2 ^ (N - 2) := by
        have h3 : x * y < 2 ^ 1800 * 2 ^ 1800 := Nat.mul_lt_mul'' (nm_big hG.1) (nm_big hH.1)
        rw [← Nat.pow_add] at h3
        exact Nat.lt_of_lt_of_le h3 (Nat.pow_le_pow_right (by decide) (by omega))
      obtain ⟨L1, Z1, a1, a2, a3⟩ := nm_gcdP (M := M) (t := t) hN h0 h0' ho hp hG hH
      obtain ⟨L2, Z2, b1, b2, b3⟩ := nm_gcdT (M := M) (N := N) (t := t) (by omega) (by omega) t 0 N (Nat.gcd x y) L1 Z1 (by omega) (by omega) hg a2
      refine ⟨L2, Z2, ?_, b2, nm_Fr_tr a3 b3⟩
      rw [show N = (N - 2) + 2 by omega] at a1 ⊢
      rw [show N - 2 + 2 - 2 = N - 2 by omega] at a1
      rw [a1, ← b1]
      rw [show N - 2 + 2 = N by omega]
    rw [pm_findDivisor_b14, nm_c4, nm_isEven (by decide) hG, sm_b2s]
    by_cases q : x % 2 = 0
    · rw [if_pos q, if_neg (by decide), nm_c5, nm_isEven (by decide) hH, sm_b2s]
      by_cases r : y % 2 = 0
      · rw [if_pos r, if_neg (by decide)]
        have hx2 : nm_nd (x / 2) ≤ 60 := Nat.le_trans (nm_nd_mono (Nat.div_le_self _ _)) hG.1
        have hy2 : nm_nd (y / 2) ≤ 60 := Nat.le_trans (nm_nd_mono (Nat.div_le_self _ _)) hH.1
        obtain ⟨L1, Z1, a1, a2, a3⟩ := nm_use (nm_halve (M := M) (N := N) (by omega) (by decide) hG) hx2
        obtain ⟨L2, Z2, b1, b2, b3⟩ := nm_use (nm_halve (M := M) (N := N) (by omega) (by decide) (nm_same_N (a3 5 (by decide)) hH)) hy2
        have e : Nat.gcd x y * 2 ^ t = Nat.gcd (x / 2) (y / 2) * 2 ^ (t + 1) := by
          have ex : x = 2 * (x / 2) := by omega
          have ey : y = 2 * (y / 2) := by omega
          conv => lhs; rw [ex, ey]
          rw [Nat.gcd_mul_left, Nat.pow_succ, Nat.mul_comm 2, Nat.mul_assoc, Nat.mul_comm 2]
        rw [Nat.pow_succ] at h1
        obtain ⟨L', Z', c1, c2, c3⟩ := ih f (x / 2) (y / 2) (t + 1) L2 Z2 (by omega) (by omega) (by omega) (by omega) (by omega) (by rw [← e]; exact hg) (nm_same_N (b3 4 (by decide)) a2) b2
        refine ⟨L', Z', ?_, by rw [e]; exact c2, nm_Fr_tr (fun t h4 _ _ => a3 t h4) (nm_Fr_tr (fun t _ h5 _ => b3 t h5) c3)⟩
        rw [a1, sm_b1s, b1, sm_b1s]
        simp only [sm_lt, nI_1]
        exact c1
      · rw [if_neg r, if_pos rfl]
        apply fin
        rcases Nat.mod_two_eq_zero_or_one (Nat.gcd x y) with z | z
        · have := Nat.dvd_trans (Nat.dvd_of_mod_eq_zero z) (Nat.gcd_dvd_right x y)
          omega
        · exact z
    · rw [if_neg q, if_pos rfl]
      apply fin
      rcases Nat.mod_two_eq_zero_or_one (Nat.gcd x y) with z | z
      · have := Nat.dvd_trans (Nat.dvd_of_mod_eq_zero z) (Nat.gcd_dvd_left x y)
        omega
      · exact z
theorem nm_gcd {M : sm_St} {L : Nat → Int64} {Z : Nat → Int32} {N a b v w : Nat} (hN : 4000 ≤ N) (ha : a < 124) (hb : b < 124) (ha4 : a ≠ 4) (hb4 : b ≠ 4) (hb5 : b ≠ 5) (hv : 0 < v) (hw : 0 < w) (h : nm_N L Z a v) (h' : nm_N L Z b w) : ∃ L' Z', pm_findDivisor N (mm M L Z) (nI a) (nI b) = some (mm M L' Z') ∧ nm_N L' Z' 4 (Nat.gcd v w) ∧ nm_Fr L Z L' Z' := by
  obtain ⟨L1, Z1, a1, a2, a3⟩ := nm_use (nm_copy (M := M) (N := N) (a := 4) (by omega) (Ne.symm ha4) (by decide) ha h) h.1
  obtain ⟨L2, Z2, b1, b2, b3⟩ := nm_use (nm_copy (M := M) (N := N) (a := 5) (by omega) (Ne.symm hb5) (by decide) hb (nm_same_N (a3 b hb4) h')) h'.1
  have hg : nm_nd (Nat.gcd v w * 2 ^ 0) ≤ 60 := by
    rw [Nat.pow_zero, Nat.mul_one]
    exact Nat.le_trans (nm_nd_mono (Nat.gcd_le_left _ hv)) h.1
  obtain ⟨L', Z', c1, c2, c3⟩ := nm_gcdB (M := M) hN 1800 N v w 0 L2 Z2 hv hw (nm_big h.1) (by omega) (by omega) hg (nm_same_N (b3 4 (by decide)) a2) b2
  refine ⟨L', Z', ?_, by rw [Nat.pow_zero, Nat.mul_one] at c2; exact c2, nm_Fr_tr (fun t h4 _ _ => a3 t h4) (nm_Fr_tr (fun t _ h5 _ => b3 t h5) c3)⟩
  unfold pm_findDivisor
  rw [nm_c4, a1, sm_b1s, nm_c5, b1, sm_b1s]
  exact c1
