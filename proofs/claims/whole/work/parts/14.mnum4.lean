/-! add, take, halve, isEven -/
theorem nm_addL {M : sm_St} {Z : Nat → Int32} {N a b v w n : Nat} (hN : 64 ≤ N) (hab : a ≠ b) (ha : a < 124) (hb : b < 124) (hn : n ≤ 60) (h1 : nm_nd v ≤ n) (h2 : nm_nd w ≤ n) (hZ : Z a = nI (nm_nd v)) (hZ' : Z b = nI (nm_nd w)) : ∀ (d k f : Nat) (L : Nat → Int64), k + d = n → d < f → (∀ j, k ≤ j → j < nm_nd v → L (64 * a + j) = lN (nm_dg v j)) → (∀ j, j < k → L (64 * a + j) = lN (nm_dg (v + w) j)) → (∀ j, j < nm_nd w → L (64 * b + j) = lN (nm_dg w j)) → nm_to (pm_add_b37 N f (nI a) (nI b) (lN (nm_ac v w k)) (nI n) (nI k) (mm M L Z)) M L Z a (v + w) := by
  have top := nm_ac_top (nm_nd_le.mp h1) (nm_nd_le.mp h2)
  intro d
  induction d with
  | zero =>
    intro k f L hk hf hv hs hw
    obtain ⟨f, rfl⟩ : ∃ g, f = g + 1 := ⟨f - 1, by omega⟩
    obtain rfl : k = n := by omega
    rw [pm_add_b37, if_pos (nI_le (Nat.le_refl _) (by omega))]
    simp only [mm_Z, mm_L, mm_sL, mm_sI, nm_e64, nI_clamp (show a < 2 ^ 31 by omega), sm_ite_t (sm_in_nI ha (by decide)), sm_ite_t (sm_in_nI (show 64 * a + k < 7936 by omega) (by decide)), nI_clamp (show 64 * a + k < 2 ^ 31 by omega), sm_lt, nI_1]
    have hR : nm_R (vp_updL L (64 * a + k) (lN (nm_ac v w k))) a (k + 1) (v + w) := ⟨top.2, fun j hj => by
      unfold vp_updL
      by_cases e : j = k
      · subst e
        rw [if_pos rfl, top.1]
      · rw [if_neg (by omega)]
        exact hs j (by omega)⟩
    refine ⟨_, ?_, nm_fr_up (by omega), fun j hj => hR.2 j (Nat.lt_of_lt_of_le hj (nm_nd_le.mpr hR.1))⟩
    rw [nm_trim hN ha (by omega) (by simp [upd]) hR, nm_uu]
    rfl
  | succ d ih =>
    intro k f L hk hf hv hs hw
    obtain ⟨f, rfl⟩ : ∃ g, f = g + 1 := ⟨f - 1, by omega⟩
    have d1 := nm_dg_lt v k
    have d2 := nm_dg_lt w k
    have d3 := nm_ac_le v w k
    have hx : nm_dg v k + nm_dg w k + nm_ac v w k < 2 ^ 63 := by omega
    obtain ⟨L', e1, e2, e3⟩ := ih (k + 1) f (vp_updL L (64 * a + k) (lN (nm_dg (v + w) k))) (by omega) (by omega) (fun j hj hj' => by
      unfold vp_updL
      rw [if_neg (by omega)]
      exact hv j (by omega) hj') (fun j hj => by
      unfold vp_updL
      by_cases e : j = k
      · subst e
        rw [if_pos rfl]
      · rw [if_neg (by omega)]
        exact hs j (by omega)) (fun j hj => by
      unfold vp_updL
      rw [if_neg (by omega)]
      exact hw j hj)
    refine ⟨L', ?_, nm_fr_tr (nm_fr_up (by omega)) e2, e3⟩
    -- the two digits, 0 where there are none
    have fin : ∀ s0 s1 : Int64, s0 = lN (nm_dg v k) → s1 = lN (nm_dg w k) → pm_add_b98 N (pm_add_b37 N f) (nI a) (nI b) (lN (nm_ac v w k)) (nI n) (nI k) s0 s1 (mm M L Z) = some (mm M L' (upd Z a (nI (nm_nd (v + w))))) := by
      intro s0 s1 q0 q1
      subst q0 q1
      unfold pm_add_b98
      simp only [mm_L, mm_sL, nm_e64, sm_ite_t (sm_in_nI (show 64 * a + k < 7936 by omega) (by decide)), nI_clamp (show 64 * a + k < 2 ^ 31 by omega), sm_lt, nI_1, lN_add, nm_lB, lN_mul, pk_lDiv hx (show 0 < 1073741824 by decide) (show 1073741824 < 2 ^ 63 by decide), nm_rm]
      rw [← nm_ac_dg, ← nm_ac_succ]
      exact e1
    have mid : ∀ s0 : Int64, s0 = lN (nm_dg v k) → pm_add_b71 N (pm_add_b37 N f) (nI a) (nI b) (lN (nm_ac v w k)) (nI n) (nI k) s0 (mm M L Z) = some (mm M L' (upd Z a (nI (nm_nd (v + w))))) := by
      intro s0 q0
      unfold pm_add_b71
      simp only [mm_Z, mm_L, nm_e64, nI_clamp (show b < 2 ^ 31 by omega), hZ', sm_ite_t (sm_in_nI hb (by decide)), sm_ite_t (sm_in_nI (show 64 * b + k < 7936 by omega) (by decide)), nI_clamp (show 64 * b + k < 2 ^ 31 by omega)]
      by_cases l : nm_nd w ≤ k
      · rw [if_pos (nI_le l (by omega))]
        exact fin s0 _ q0 (by rw [nm_dg_hi (nm_lt_nd w) l]; rfl)
      · rw [if_neg (nI_ge (by omega) (by omega))]
        exact fin s0 _ q0 (hw k (by omega))
    rw [pm_add_b37, if_neg (nI_ge (by omega) (by omega))]
    simp only [mm_Z, mm_L, nm_e64, nI_clamp (show a < 2 ^ 31 by omega), hZ, sm_ite_t (sm_in_nI ha (by decide)), sm_ite_t (sm_in_nI (show 64 * a + k < 7936 by omega) (by decide)), nI_clamp (show 64 * a + k < 2 ^ 31 by omega)]
    by_cases l : nm_nd v ≤ k
    · rw [if_pos (nI_le l (by omega))]
      exact mid _ (by rw [nm_dg_hi (nm_lt_nd v) l]; rfl)
    · rw [if_neg (nI_ge (by omega) (by omega))]
      exact mid _ (hv k (Nat.le_refl k) (by omega))
theorem nm_add {M : sm_St} {L : Nat → Int64} {Z : Nat → Int32} {N a b v w : Nat} (hN : 64 ≤ N) (hab : a ≠ b) (ha : a < 124) (hb : b < 124) (h : nm_N L Z a v) (h' : nm_N L Z b w) : nm_to (pm_add N (mm M L Z) (nI a) (nI b)) M L Z a (v + w) := by
  have n1 := h.1
  have n2 := h'.1
  unfold pm_add
  simp only [mm_Z, nI_clamp (show a < 2 ^ 31 by omega), nI_clamp (show b < 2 ^ 31 by omega), h.2.1, h'.2.1, sm_ite_t (sm_in_nI ha (by decide)), sm_ite_t (sm_in_nI hb (by decide)), sm_lt]
  by_cases l : nm_nd v ≤ nm_nd w
  · rw [if_pos (nI_le l (by omega))]
    have e := nm_addL (M := M) (n := nm_nd w) hN hab ha hb n2 l (Nat.le_refl _) h.2.1 h'.2.1 (nm_nd w) 0 N L (by omega) (by omega) (fun j _ hj => h.2.2 j hj) (fun j hj => absurd hj (by omega)) h'.2.2
    rw [nm_ac_0] at e
    exact e
  · rw [if_neg (nI_ge (by omega) (by omega))]
    have e := nm_addL (M := M) (n := nm_nd v) hN hab ha hb n1 (Nat.le_refl _) (by omega) h.2.1 h'.2.1 (nm_nd v) 0 N L (by omega) (by omega) (fun j _ hj => h.2.2 j hj) (fun j hj => absurd hj (by omega)) h'.2.2
    rw [nm_ac_0] at e
    exact e
theorem nm_takeL {M : sm_St} {Z : Nat → Int32} {N a b v w : Nat} (hN : 64 ≤ N) (hab : a ≠ b) (ha : a < 124) (hb : b < 124) (hn : nm_nd v ≤ 60) (hwv : w ≤ v) (hZ : Z a = nI (nm_nd v)) (hZ' : Z b = nI (nm_nd w)) : ∀ (d k f : Nat) (L : Nat → Int64), k + d = nm_nd v → d < f → (∀ j, k ≤ j → j < nm_nd v → L (64 * a + j) = lN (nm_dg v j)) → (∀ j, j < k → L (64 * a + j) = lN (nm_dg (v - w) j)) → (∀ j, j < nm_nd w → L (64 * b + j) = lN (nm_dg w j)) → nm_to (pm_take_b5 N f (nI a) (nI b) (lN (nm_ob v w k)) (nI k) (mm M L Z)) M L Z a (v - w) := by
  have h2 : nm_nd w ≤ nm_nd v := nm_nd_mono hwv
  intro d
  induction d with
  | zero =>
    intro k f L hk hf hv hs hw
    obtain ⟨f, rfl⟩ : ∃ g, f = g + 1 := ⟨f - 1, by omega⟩
    obtain rfl : k = nm_nd v := by omega
    rw [pm_take_b5]
    simp only [mm_Z, nI_clamp (show a < 2 ^ 31 by omega), hZ, sm_ite_t (sm_in_nI ha (by decide))]
    rw [if_pos (nI_le (Nat.le_refl _) (by omega))]
    have hR : nm_R L a (nm_nd v) (v - w) := ⟨Nat.lt_of_le_of_lt (Nat.sub_le _ _) (nm_lt_nd v), hs⟩
    refine ⟨L, ?_, nm_fr_rf, fun j hj => hR.2 j (Nat.lt_of_lt_of_le hj (nm_nd_le.mpr hR.1))⟩
    rw [nm_trim hN ha (by omega) hZ hR]
    rfl
  | succ d ih =>
    intro k f L hk hf hv hs hw
    obtain ⟨f, rfl⟩ : ∃ g, f = g + 1 := ⟨f - 1, by omega⟩
    have d1 := nm_dg_lt v k
    have d2 := nm_dg_lt w k
    have d3 := nm_ob_le v w k
    have d4 := nm_dg_lt (v - w) k
    have key := nm_ob_dg hwv k
    have ks := nm_ob_succ v w k
    obtain ⟨L', e1, e2, e3⟩ := ih (k + 1) f (vp_updL L (64 * a + k) (lN (nm_dg (v - w) k))) (by omega) (by omega) (fun j hj hj' => by
      unfold vp_updL
      rw [if_neg (by omega)]
      exact hv j (by omega) hj') (fun j hj => by
      unfold vp_updL
      by_cases e : j = k
      · subst e
        rw [if_pos rfl]
      · rw [if_neg (by omega)]
        exact hs j (by omega)) (fun j hj => by
      unfold vp_updL
      rw [if_neg (by omega)]
      exact hw j hj)
    refine ⟨L', ?_, nm_fr_tr (nm_fr_up (by omega)) e2, e3⟩
    have fin : ∀ s1 : Int64, s1 = lN (nm_dg w k) → pm_take_b55 N (pm_take_b5 N f) (nI a) (nI b) (lN (nm_ob v w k)) (nI k) (lN (nm_dg v k)) s1 (mm M L Z) = some (mm M L' (upd Z a (nI (nm_nd (v - w))))) := by
      intro s1 q1
      subst q1
      unfold pm_take_b55
      have ex : lN (nm_dg v k) - lN (nm_dg w k) - lN (nm_ob v w k) = lN (nm_dg v k) - lN (nm_dg w k + nm_ob v w k) := by
        rw [← lN_add]
        simp only [nm_lI, ← Int64.ofInt_sub, ← Int64.ofInt_add]
        congr 1
        omega
      simp only [sm_lt, ex]
      by_cases l : nm_dg w k + nm_ob v w k ≤ nm_dg v k
      · rw [if_pos ((nm_suble (by omega) (by omega)).mpr l)]
        rw [if_neg (by omega)] at key ks
        unfold pm_take_b72
        have ey : lN (nm_dg v k) - lN (nm_dg w k + nm_ob v w k) + 0 * (1073741824 : Int64) = lN (nm_dg (v - w) k) := by
          rw [lN_sub l, nm_l0, nm_lB, lN_mul, lN_add]
          congr 1
          omega
        simp only [mm_sL, nm_e64, sm_ite_t (sm_in_nI (show 64 * a + k < 7936 by omega) (by decide)), nI_clamp (show 64 * a + k < 2 ^ 31 by omega), sm_lt, nI_1, ey]
        rw [ks] at e1
        exact e1
      · rw [if_neg (fun q => l ((nm_suble (by omega) (by omega)).mp q))]
        rw [if_pos (by omega)] at key ks
        unfold pm_take_b72
        have ey : lN (nm_dg v k) - lN (nm_dg w k + nm_ob v w k) + 1 * (1073741824 : Int64) = lN (nm_dg (v - w) k) := by
          rw [nm_l1, nm_lB, lN_mul]
          simp only [nm_lI, ← Int64.ofInt_sub, ← Int64.ofInt_add]
          congr 1
          have : nm_B = 1073741824 := rfl
          omega
        simp only [mm_sL, nm_e64, sm_ite_t (sm_in_nI (show 64 * a + k < 7936 by omega) (by decide)), nI_clamp (show 64 * a + k < 2 ^ 31 by omega), sm_lt, nI_1, ey]
        rw [ks] at e1
        exact e1
    rw [pm_take_b5]
    simp only [mm_Z, mm_L, nm_e64, nI_clamp (show a < 2 ^ 31 by omega), nI_clamp (show b < 2 ^ 31 by omega), hZ, hZ', sm_ite_t (sm_in_nI ha (by decide)), sm_ite_t (sm_in_nI hb (by decide)), sm_ite_t (sm_in_nI (show 64 * a + k < 7936 by omega) (by decide)), nI_clamp (show 64 * a + k < 2 ^ 31 by omega), sm_ite_t (sm_in_nI (show 64 * b + k < 7936 by omega) (by decide)), nI_clamp (show 64 * b + k < 2 ^ 31 by omega), hv k (Nat.le_refl k) (by omega)]
    rw [if_neg (nI_ge (by omega) (by omega))]
    by_cases l : nm_nd w ≤ k
    · rw [if_pos (nI_le l (by omega))]
      exact fin _ (by rw [nm_dg_hi (nm_lt_nd w) l]; rfl)
    · rw [if_neg (nI_ge (by omega) (by omega))]
      exact fin _ (hw k (by omega))
theorem nm_take {M : sm_St} {L : Nat → Int64} {Z : Nat → Int32} {N a b v w : Nat} (hN : 64 ≤ N) (hab : a ≠ b) (ha : a < 124) (hb : b < 124) (hwv : w ≤ v) (h : nm_N L Z a v) (h' : nm_N L Z b w) : nm_to (pm_take N (mm M L Z) (nI a) (nI b)) M L Z a (v - w) := by
  have n1 := h.1
  have e := nm_takeL (M := M) hN hab ha hb n1 hwv h.2.1 h'.2.1 (nm_nd v) 0 N L (by omega) (by omega) (fun j _ hj => h.2.2 j hj) (fun j hj => absurd hj (by omega)) h'.2.2
  rw [nm_ob_0] at e
  exact e
theorem nm_halveL {M : sm_St} {Z : Nat → Int32} {N a v : Nat} (hN : 64 ≤ N) (ha : a < 124) (hn : nm_nd v ≤ 60) (hZ : Z a = nI (nm_nd v)) : ∀ (k f : Nat) (L : Nat → Int64), k ≤ nm_nd v → k < f → (∀ j, j < k → L (64 * a + j) = lN (nm_dg v j)) → (∀ j, k ≤ j → j < nm_nd v → L (64 * a + j) = lN (nm_dg (v / 2) j)) → nm_to (pm_halve_b12 N f (nI a) (lN (v / nm_B ^ k % 2)) (nI k + (-1)) (mm M L Z)) M L Z a (v / 2) := by
  intro k
  induction k with
  | zero =>
    intro f L hk hf hv hs
    obtain ⟨f, rfl⟩ : ∃ g, f = g + 1 := ⟨f - 1, by omega⟩
    rw [pm_halve_b12, if_pos (by decide)]
    have hR : nm_R L a (nm_nd v) (v / 2) := ⟨Nat.lt_of_le_of_lt (Nat.div_le_self _ _) (nm_lt_nd v), fun j hj => hs j (by omega) hj⟩
    refine ⟨L, ?_, nm_fr_rf, fun j hj => hR.2 j (Nat.lt_of_lt_of_le hj (nm_nd_le.mpr hR.1))⟩
    rw [nm_trim hN ha (by omega) hZ hR]
    rfl
  | succ k ih =>
    intro f L hk hf hv hs
    obtain ⟨f, rfl⟩ : ∃ g, f = g + 1 := ⟨f - 1, by omega⟩
    have d1 := nm_dg_lt v k
    have dv := nm_dv v 2 k (by decide)
    have hr : v / nm_B ^ (k + 1) % 2 < 2 := Nat.mod_lt _ (by decide)
    have hx : nm_dg v k + v / nm_B ^ (k + 1) % 2 * 1073741824 < 2 ^ 63 := by omega
    obtain ⟨L', e1, e2, e3⟩ := ih f (vp_updL L (64 * a + k) (lN (nm_dg (v / 2) k))) (by omega) (by omega) (fun j hj => by
      unfold vp_updL
      rw [if_neg (by omega)]
      exact hv j (by omega)) (fun j hj hj' => by
      unfold vp_updL
      by_cases e : j = k
      · subst e
        rw [if_pos rfl]
      · rw [if_neg (by omega)]
        exact hs j (by omega) hj')
    refine ⟨L', ?_, nm_fr_tr (nm_fr_up (by omega)) e2, e3⟩
    rw [pm_halve_b12, pk_m1, if_neg (nI_pos (by omega))]
    simp only [mm_L, mm_sL, nm_e64, sm_ite_t (sm_in_nI (show 64 * a + k < 7936 by omega) (by decide)), nI_clamp (show 64 * a + k < 2 ^ 31 by omega), sm_lt, hv k (by omega), nm_lB, nm_l2, lN_mul, lN_add, pk_lDiv hx (show 0 < 2 by decide) (show 2 < 2 ^ 63 by decide), nm_rm]
    rw [show nm_dg v k + v / nm_B ^ (k + 1) % 2 * 1073741824 = v / nm_B ^ (k + 1) % 2 * nm_B + nm_dg v k by rw [Nat.add_comm], ← dv.1, ← dv.2]
    exact e1
theorem nm_halve {M : sm_St} {L : Nat → Int64} {Z : Nat → Int32} {N a v : Nat} (hN : 64 ≤ N) (ha : a < 124) (h : nm_N L Z a v) : nm_to (pm_halve N (mm M L Z) (nI a)) M L Z a (v / 2) := by
  have n1 := h.1
  have e := nm_halveL (M := M) hN ha n1 h.2.1 (nm_nd v) N L (Nat.le_refl _) (by omega) h.2.2 (fun j hj hj' => absurd hj (by omega))
  rw [nm_div_full (nm_lt_nd v)] at e
  unfold pm_halve
  simp only [mm_Z, nI_clamp (show a < 2 ^ 31 by omega), h.2.1, sm_ite_t (sm_in_nI ha (by decide)), sm_lt]
  rw [Int32.sub_eq_add_neg]
  exact e
theorem nm_isEven {M : sm_St} {L : Nat → Int64} {Z : Nat → Int32} {N a v : Nat} (ha : a < 124) (h : nm_N L Z a v) : pm_isEven N (mm M L Z) (nI a) = some (if v % 2 = 0 then 1 else 0, mm M L Z) := by
  have n1 := h.1
  unfold pm_isEven pm_isEven_b27
  have e64 : (64 : Int32) * nI a = nI (64 * a) := by rw [nm_c64, pk_mul]
  simp only [mm_Z, mm_L, nI_clamp (show a < 2 ^ 31 by omega), h.2.1, sm_ite_t (sm_in_nI ha (by decide)), e64, sm_ite_t (sm_in_nI (show 64 * a < 7936 by omega) (by decide)), nI_clamp (show 64 * a < 2 ^ 31 by omega)]
  rcases Nat.eq_zero_or_pos v with e | e
  · subst e
    rw [nm_nd_0, if_pos (by decide), if_pos (by decide)]
  · have hp := nm_nd_pos e
    have h0 := h.2.2 0 hp
    rw [Nat.add_zero] at h0
    have d0 := nm_dg_lt v 0
    have dd : nm_dg v 0 % 2 = v % 2 := by
      unfold nm_dg
      rw [Nat.pow_zero, Nat.div_one]
      have : nm_B = 2 * 536870912 := rfl
      rw [this]
      omega
    rw [if_neg (nI_ne0 hp (by omega)), h0, nm_l2, pk_lDiv (by omega) (by decide) (by decide), lN_mul, nm_rm, dd]
    by_cases q : v % 2 = 0
    · rw [if_pos (by rw [q]; rfl), if_pos q]
    · rw [if_neg (show ¬ lN (v % 2) = 0 from fun r => q ((pk_lEQ (by omega) (by decide)).mp r)), if_neg q]
