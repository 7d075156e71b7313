theorem nm_keep' {L : Nat → Int64} {Z : Nat → Int32} {a t u k : Nat} {x : Int64} (hk : k < 64) (ht : a ≠ t) (hN : nm_N L Z t u) : nm_N (vp_updL L (64 * a + k) x) Z t u := ⟨hN.1, hN.2.1, fun j hj => by
  have := hN.1
  unfold vp_updL
  rw [if_neg (by omega)]
  exact hN.2.2 j hj⟩
/-- what the division keeps: the divisor, what is divided, what is left -/
def nm_V (L : Nat → Int64) (Z : Nat → Int32) (g v h : Nat) : Prop := nm_N L Z 4 g ∧ nm_N L Z 6 v ∧ nm_N L Z 5 h
/-- the thirty bits of one digit -/
theorem nm_divB {M : sm_St} {N a g v k : Nat} {r50 : Int32 → Int32 → sm_St → Option sm_St} (hN : 4000 ≤ N) (hg : 0 < g) (hg2 : nm_nd (2 * g) ≤ 60) (hk : k < nm_nd v) : ∀ (i f q : Nat) (L : Nat → Int64) (Z : Nat → Int32), i ≤ 30 → i < f → q = v / 2 ^ (30 * k + i) / g % 2 ^ (30 - i) → nm_V L Z g v (v / 2 ^ (30 * k + i) % g) → ∃ L' Z', nm_V L' Z' g v (v / 2 ^ (30 * k) % g) ∧ (∀ t, t ≠ 5 → nm_same L Z L' Z' t) ∧ pm_divide_b61 N r50 f (nI a) (nI k) (lN q) (nI i + (-1)) (mm M L Z) = pm_divide_b61 N r50 (f - i) (nI a) (nI k) (lN (nm_dg (v / g) k)) (nI 0 + (-1)) (mm M L' Z') := by
  intro i
  induction i with
  | zero =>
    intro f q L Z hi hf hq hV
    have e : q = nm_dg (v / g) k := by
      rw [hq]
      unfold nm_dg
      rw [nm_B2, Nat.add_zero, Nat.div_div_eq_div_mul, Nat.div_div_eq_div_mul, Nat.mul_comm]
    exact ⟨L, Z, by simpa using hV, fun _ _ => nm_same_rf, by rw [e, Nat.sub_zero]⟩
  | succ i ih =>
    intro f q L Z hi hf hq hV
    obtain ⟨f, rfl⟩ : ∃ g, f = g + 1 := ⟨f - 1, by omega⟩
    obtain ⟨hG, hT, hH⟩ := hV
    have bt := nm_bit v k i (by omega)
    have nT := hT.1
    generalize hu : v / 2 ^ (30 * k + (i + 1)) = u at *
    generalize hu1 : v / 2 ^ (30 * k + i) = u1 at *
    have hb2 : u1 % 2 ≤ 1 := by omega
    have st := nm_dstep (u := u) (g := g) (b := u1 % 2) hg hb2
    rw [← bt.2] at st
    have hlt := Nat.mod_lt u hg
    have n5 : nm_nd (u % g * 2) ≤ 60 := Nat.le_trans (nm_nd_mono (by omega)) hg2
    have n5b : nm_nd (u % g * 2 + 1) ≤ 60 := Nat.le_trans (nm_nd_mono (by omega)) hg2
    have n4 : nm_nd g ≤ 60 := hG.1
    -- behind the doubling and the bit
    have tail : ∀ (L2 : Nat → Int64) (Z2 : Nat → Int32), nm_V L2 Z2 g v (2 * (u % g) + u1 % 2) → (∀ t, t ≠ 5 → nm_same L Z L2 Z2 t) → ∃ L' Z', nm_V L' Z' g v (v / 2 ^ (30 * k) % g) ∧ (∀ t, t ≠ 5 → nm_same L Z L' Z' t) ∧ pm_divide_b98 N r50 (pm_divide_b61 N r50 f) (nI a) (nI k) (lN q) (nI i) (mm M L2 Z2) = pm_divide_b61 N r50 (f + 1 - (i + 1)) (nI a) (nI k) (lN (nm_dg (v / g) k)) (nI 0 + (-1)) (mm M L' Z') := by
      intro L2 Z2 hV2 hs2
      obtain ⟨hG2, hT2, hH2⟩ := hV2
      unfold pm_divide_b98
      simp only [sm_lt, nm_l2, lN_mul]
      rw [nm_c5, nm_c4, nm_compare (by omega) (by decide) (by decide) hH2 hG2, sm_b2s]
      by_cases l : 2 * (u % g) + u1 % 2 < g
      · have hc : nm_cmp (2 * (u % g) + u1 % 2) g < 0 := by
          unfold nm_cmp
          rw [if_pos l]; decide
        obtain ⟨s1, s2⟩ := st.1 l
        obtain ⟨L', Z', c1, c2, c3⟩ := ih f (2 * q) L2 Z2 (by omega) (by omega) (by rw [s2, hq, show 30 - i = (30 - (i + 1)) + 1 by omega, nm_m2]) ⟨hG2, hT2, by rw [s1]; exact hH2⟩
        refine ⟨L', Z', c1, fun t ht => nm_same_tr (hs2 t ht) (c2 t ht), ?_⟩
        rw [if_pos hc]
        unfold pm_divide_b127
        rw [show f + 1 - (i + 1) = f - i by omega]
        exact c3
      · have hc : ¬ nm_cmp (2 * (u % g) + u1 % 2) g < 0 := by
          unfold nm_cmp
          rw [if_neg l]
          split <;> decide
        obtain ⟨s1, s2⟩ := st.2 (by omega)
        have hd : nm_nd (2 * (u % g) + u1 % 2 - g) ≤ 60 := Nat.le_trans (nm_nd_mono (Nat.sub_le _ _)) hH2.1
        obtain ⟨L3, Z3, d1, d2, d3⟩ := nm_use (nm_take (M := M) (N := N) (a := 5) (b := 4) (by omega) (by decide) (by decide) (by decide) (by omega) hH2 hG2) hd
        obtain ⟨L', Z', c1, c2, c3⟩ := ih f (2 * q + 1) L3 Z3 (by omega) (by omega) (by rw [s2, hq, show 30 - i = (30 - (i + 1)) + 1 by omega, nm_m21]) ⟨nm_same_N (d3 4 (by decide)) hG2, nm_same_N (d3 6 (by decide)) hT2, by rw [s1]; exact d2⟩
        refine ⟨L', Z', c1, fun t ht => nm_same_tr (hs2 t ht) (nm_same_tr (d3 t ht) (c2 t ht)), ?_⟩
        rw [if_neg hc, d1, sm_b1s]
        unfold pm_divide_b127
        rw [show f + 1 - (i + 1) = f - i by omega, nm_l1, lN_add]
        exact c3
    obtain ⟨L1, Z1, a1, a2, a3⟩ := nm_use (nm_times (M := M) (N := N) (m := 2) (by omega) (by decide) (by decide) hH) n5
    have hT1 := nm_same_N (a3 6 (by decide)) hT
    have hG1 := nm_same_N (a3 4 (by decide)) hG
    have hd1 := nm_dg_lt v k
    rw [pm_divide_b61, pk_m1, if_neg (nI_pos (by omega)), nm_c5, nm_l2, a1, sm_b1s]
    rw [show (384 : Int32) + nI k = nI (64 * 6 + k) by rw [show (384 : Int32) = nI 384 by decide, nI_add], sm_ite_t (sm_in_nI (by omega) (by decide)), nI_clamp (by omega), mm_L, hT1.2.2 k hk, nm_shr (by omega) (by omega), nm_and1, bt.1]
    by_cases b1 : u1 % 2 = 1
    · rw [if_pos (by rw [b1]; rfl)]
      obtain ⟨L2, Z2, e1, e2, e3⟩ := nm_addOne (M := M) (N := N) (by omega) (by omega) a2
      obtain ⟨L', Z', c1, c2, c3⟩ := tail L2 Z2 ⟨nm_same_N (e3 4 (by decide)) hG1, nm_same_N (e3 6 (by decide)) hT1, by rw [b1, Nat.mul_comm]; exact e2⟩ (fun t ht => nm_same_tr (a3 t ht) (e3 t ht))
      refine ⟨L', Z', c1, c2, ?_⟩
      rw [e1, sm_b1s]
      exact c3
    · have b0 : u1 % 2 = 0 := by omega
      rw [if_neg (by rw [b0]; decide)]
      exact tail L1 Z1 ⟨hG1, hT1, by rw [b0, Nat.add_zero, Nat.mul_comm]; exact a2⟩ a3
/-- the digits from the top -/
theorem nm_divK {M : sm_St} {N a g v : Nat} (hN : 4000 ≤ N) (ha : a < 124) (ha4 : a ≠ 4) (ha5 : a ≠ 5) (ha6 : a ≠ 6) (hg : 0 < g) (hg2 : nm_nd (2 * g) ≤ 60) : ∀ (k f : Nat) (L : Nat → Int64) (Z : Nat → Int32), k ≤ nm_nd v → k < f → nm_V L Z g v (v / 2 ^ (30 * k) % g) → Z a = nI (nm_nd v) → (∀ j, k ≤ j → j < nm_nd v → L (64 * a + j) = lN (nm_dg (v / g) j)) → ∃ L' Z', pm_divide_b50 N f (nI a) (nI k + (-1)) (mm M L Z) = some (mm M L' Z') ∧ nm_N L' Z' a (v / g) ∧ ∀ t, t ≠ a → t ≠ 5 → nm_same L Z L' Z' t := by
  intro k
  induction k with
  | zero =>
    intro f L Z hk hf hV hZ hs
    obtain ⟨f, rfl⟩ : ∃ g, f = g + 1 := ⟨f - 1, by omega⟩
    have nv := hV.2.1.1
    have hR : nm_R L a (nm_nd v) (v / g) := ⟨Nat.lt_of_le_of_lt (Nat.div_le_self _ _) (nm_lt_nd v), fun j hj => hs j (by omega) hj⟩
    have hle : nm_nd (v / g) ≤ nm_nd v := nm_nd_mono (Nat.div_le_self _ _)
    refine ⟨L, upd Z a (nI (nm_nd (v / g))), ?_, nm_new (by omega) (fun j hj => hR.2 j (by omega)), fun t ht _ => nm_same_fr nm_fr_rf ht⟩
    rw [pm_divide_b50, if_pos (by decide), nm_trim (by omega) ha (by omega) hZ hR]
    rfl
  | succ k ih =>
    intro f L Z hk hf hV hZ hs
    obtain ⟨f, rfl⟩ : ∃ g, f = g + 1 := ⟨f - 1, by omega⟩
    have nv := hV.2.1.1
    have hV' : nm_V L Z g v (v / 2 ^ (30 * k + 30) % g) := by rw [show 30 * k + 30 = 30 * (k + 1) by omega]; exact hV
    obtain ⟨L1, Z1, a1, a2, a3⟩ := nm_divB (M := M) (a := a) (r50 := pm_divide_b50 N f) hN hg hg2 (show k < nm_nd v by omega) 30 N 0 L Z (by omega) (by omega) (by rw [show 30 - 30 = 0 from rfl, Nat.pow_zero, Nat.mod_one]) hV'
    have sa := a2 a ha5
    obtain ⟨L', Z', b1, b2, b3⟩ := ih f (vp_updL L1 (64 * a + k) (lN (nm_dg (v / g) k))) Z1 (by omega) (by omega) ⟨nm_keep' (by omega) ha4 a1.1, nm_keep' (by omega) ha6 a1.2.1, nm_keep' (by omega) ha5 a1.2.2⟩ (sa.1.trans hZ) (fun j hj hj' => by
      unfold vp_updL
      by_cases e : j = k
      · subst e
        rw [if_pos rfl]
      · rw [if_neg (by omega), sa.2 j (by omega)]
        exact hs j (by omega) hj')
    refine ⟨L', Z', ?_, b2, fun t ht h5 => nm_same_tr (a2 t h5) (nm_same_tr ⟨rfl, fun j hj => by unfold vp_updL; rw [if_neg (by omega)]⟩ (b3 t ht h5))⟩
    rw [pm_divide_b50, pk_m1, if_neg (nI_pos (by omega))]
    simp only [sm_lt]
    rw [show (29 : Int32) = nI 30 + (-1) by decide, nm_l0, a3]
    obtain ⟨f', hf'⟩ : ∃ g, N - 30 = g + 1 := ⟨N - 31, by omega⟩
    rw [hf', pm_divide_b61, if_pos (by decide), nm_e64, sm_ite_t (sm_in_nI (by omega) (by decide)), nI_clamp (by omega), mm_sL]
    exact b1
