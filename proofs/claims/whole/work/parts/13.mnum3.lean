theorem nm_lI (n : Nat) : lN n = Int64.ofInt (n : Int) := (Int64.ofInt_eq_ofNat).symm
theorem nm_subT {x y : Nat} (hx : x < 2 ^ 62) (hy : y < 2 ^ 62) : (lN x - lN y).toInt = (x : Int) - y := by
  rw [nm_lI, nm_lI, ← Int64.ofInt_sub, Int64.toInt_ofInt_of_le (by omega) (by omega)]
theorem nm_sub0 {x y : Nat} (hx : x < 2 ^ 62) (hy : y < 2 ^ 62) : lN x - lN y = 0 ↔ x = y := by
  rw [← Int64.toInt_inj, nm_subT hx hy, show (0 : Int64).toInt = 0 from rfl]
  omega
theorem nm_suble {x y : Nat} (hx : x < 2 ^ 62) (hy : y < 2 ^ 62) : 0 ≤ lN x - lN y ↔ y ≤ x := by
  rw [Int64.le_iff_toInt_le, nm_subT hx hy, show (0 : Int64).toInt = 0 from rfl]
  omega
theorem nm_setL {M : sm_St} {N a x : Nat} (ha : a < 124) (hx : x < 2 ^ 60) : ∀ (d k f : Nat) (L : Nat → Int64) (Z : Nat → Int32), k + d = nm_nd x → d < f → Z a = nI k → (∀ j, j < k → L (64 * a + j) = lN (nm_dg x j)) → nm_to (pm_set_b10 N f (nI a) (lN (x / nm_B ^ k)) (mm M L Z)) M L Z a x := by
  have h2 : nm_nd x ≤ 2 := nm_nd_le.mpr (Nat.lt_of_lt_of_le hx (by decide))
  intro d
  induction d with
  | zero =>
    intro k f L Z hk hf hZ hj
    obtain ⟨f, rfl⟩ : ∃ g, f = g + 1 := ⟨f - 1, by omega⟩
    obtain rfl : k = nm_nd x := by omega
    refine ⟨L, ?_, nm_fr_rf, hj⟩
    rw [pm_set_b10, nm_div_full (nm_lt_nd x), if_pos (by decide), ← hZ, nm_us]
  | succ d ih =>
    intro k f L Z hk hf hZ hj
    obtain ⟨f, rfl⟩ : ∃ g, f = g + 1 := ⟨f - 1, by omega⟩
    have hlt : x / nm_B ^ k < 2 ^ 63 := Nat.lt_of_le_of_lt (Nat.div_le_self _ _) (by omega)
    have hne : ¬ x / nm_B ^ k = 0 := fun q => by
      have : x < nm_B ^ k := by
        rcases Nat.lt_or_ge x (nm_B ^ k) with r | r
        · exact r
        · have := Nat.div_pos r (nm_Bp k); omega
      have := nm_nd_le.mpr this
      omega
    obtain ⟨L', h1, h3, h4⟩ := ih (k + 1) f (vp_updL L (64 * a + k) (lN (nm_dg x k))) (upd Z a (nI (k + 1))) (by omega) (by omega) (by simp [upd]) (fun j hj' => by
      unfold vp_updL
      by_cases e : j = k
      · subst e
        rw [if_pos rfl]
      · rw [if_neg (by omega)]
        exact hj j (by omega))
    refine ⟨L', ?_, nm_fr_tr (nm_fr_up (by omega)) h3, h4⟩
    rw [pm_set_b10, if_neg (show ¬ lN (x / nm_B ^ k) ≤ 0 from fun q => hne (Nat.le_zero.mp ((pk_lLE hlt (show 0 < 2 ^ 63 by decide)).mp q)))]
    simp only [mm_Z, mm_L, mm_sL, mm_sI, nI_clamp (show a < 2 ^ 31 by omega), hZ, nm_e64, sm_ite_t (sm_in_nI ha (by decide)), sm_ite_t (sm_in_nI (show 64 * a + k < 7936 by omega) (by decide)), nI_clamp (show 64 * a + k < 2 ^ 31 by omega), sm_lt, nI_1, nm_lB, pk_lDiv hlt (show 0 < 1073741824 by decide) (show 1073741824 < 2 ^ 63 by decide), lN_mul, nm_rm]
    rw [← nm_div_succ]
    rw [nm_uu] at h1
    exact h1
theorem nm_set {M : sm_St} {L : Nat → Int64} {Z : Nat → Int32} {N a x : Nat} (hN : 64 ≤ N) (ha : a < 124) (hx : x < 2 ^ 60) : nm_to (pm_set N (mm M L Z) (nI a) (lN x)) M L Z a x := by
  have h2 : nm_nd x ≤ 2 := nm_nd_le.mpr (Nat.lt_of_lt_of_le hx (by decide))
  obtain ⟨L', h1, h3, h4⟩ := nm_setL (M := M) (N := N) ha hx (nm_nd x) 0 N L (upd Z a (nI 0)) (by omega) (by omega) (by simp [upd]) (fun j hj => absurd hj (by omega))
  refine ⟨L', ?_, h3, h4⟩
  unfold pm_set
  simp only [mm_sI, nI_clamp (show a < 2 ^ 31 by omega), sm_ite_t (sm_in_nI ha (by decide)), sm_lt]
  rw [nm_uu, Nat.pow_zero, Nat.div_one] at h1
  exact h1
def nm_cmp (v w : Nat) : Int32 := if v < w then -1 else if v = w then 0 else 1
theorem nm_cmpL {M : sm_St} {L : Nat → Int64} {Z : Nat → Int32} {N a b v w n : Nat} (ha : a < 124) (hb : b < 124) (hn : n ≤ 60) (hv : ∀ j, j < n → L (64 * a + j) = lN (nm_dg v j)) (hw : ∀ j, j < n → L (64 * b + j) = lN (nm_dg w j)) : ∀ (k f : Nat), k ≤ n → k < f → v / nm_B ^ k = w / nm_B ^ k → pm_compare_b45 N f (nI a) (nI b) (nI k + (-1)) (mm M L Z) = some (nm_cmp v w, mm M L Z) := by
  intro k
  induction k with
  | zero =>
    intro f hk hf h
    obtain ⟨f, rfl⟩ : ∃ g, f = g + 1 := ⟨f - 1, by omega⟩
    rw [Nat.pow_zero, Nat.div_one, Nat.div_one] at h
    rw [pm_compare_b45, if_pos (by decide)]
    unfold nm_cmp
    rw [if_neg (by omega), if_pos h]
  | succ k ih =>
    intro f hk hf h
    obtain ⟨f, rfl⟩ : ∃ g, f = g + 1 := ⟨f - 1, by omega⟩
    rw [pm_compare_b45, pk_m1, if_neg (nI_pos (by omega))]
    have d1 := nm_dg_lt v k
    have d2 := nm_dg_lt w k
    simp only [mm_L, nm_e64, sm_ite_t (sm_in_nI (show 64 * a + k < 7936 by omega) (by decide)), sm_ite_t (sm_in_nI (show 64 * b + k < 7936 by omega) (by decide)), nI_clamp (show 64 * a + k < 2 ^ 31 by omega), nI_clamp (show 64 * b + k < 2 ^ 31 by omega), hv k (by omega), hw k (by omega), sm_lt]
    have e1 := nm_div_dg v k
    have e2 := nm_div_dg w k
    by_cases e : nm_dg v k = nm_dg w k
    · rw [if_pos ((nm_sub0 (by omega) (by omega)).mpr e)]
      exact ih f (by omega) (by omega) (by rw [e1, e2, h, e])
    · rw [if_neg (fun q => e ((nm_sub0 (by omega) (by omega)).mp q))]
      have lt_of : ∀ x y : Nat, x / nm_B ^ k < y / nm_B ^ k → x < y := fun x y q => by
        rcases Nat.lt_or_ge x y with r | r
        · exact r
        · exact absurd (Nat.div_le_div_right (c := nm_B ^ k) r) (by omega)
      unfold nm_cmp
      by_cases l : nm_dg w k ≤ nm_dg v k
      · rw [if_pos ((nm_suble (by omega) (by omega)).mpr l)]
        have : w < v := lt_of w v (by rw [e1, e2, h]; omega)
        rw [if_neg (by omega), if_neg (by omega)]
      · rw [if_neg (fun q => l ((nm_suble (by omega) (by omega)).mp q))]
        have : v < w := lt_of v w (by rw [e1, e2, h]; omega)
        rw [if_pos this]
theorem nm_lt_of_nd {v w : Nat} (h : nm_nd v < nm_nd w) : v < w := by
  rcases Nat.lt_or_ge v w with q | q
  · exact q
  · have := nm_nd_mono q; omega
theorem nm_compare {M : sm_St} {L : Nat → Int64} {Z : Nat → Int32} {N a b v w : Nat} (hN : 64 ≤ N) (ha : a < 124) (hb : b < 124) (h : nm_N L Z a v) (h' : nm_N L Z b w) : pm_compare N (mm M L Z) (nI a) (nI b) = some (nm_cmp v w, mm M L Z) := by
  have n1 := h.1
  have n2 := h'.1
  unfold pm_compare
  simp only [mm_Z, nI_clamp (show a < 2 ^ 31 by omega), nI_clamp (show b < 2 ^ 31 by omega), h.2.1, h'.2.1, sm_ite_t (sm_in_nI ha (by decide)), sm_ite_t (sm_in_nI hb (by decide)), sm_lt]
  by_cases e : nm_nd v = nm_nd w
  · rw [if_pos (by rw [e]), Int32.sub_eq_add_neg]
    exact nm_cmpL ha hb n1 h.2.2 (by rw [e]; exact h'.2.2) (nm_nd v) N (Nat.le_refl _) (by omega) (by rw [nm_div_full (nm_lt_nd v), nm_div_full (by rw [e]; exact nm_lt_nd w)])
  · rw [if_neg (fun q => e ((nI_eq (by omega) (by omega)).mp q))]
    unfold nm_cmp
    by_cases l : nm_nd w ≤ nm_nd v
    · have : w < v := nm_lt_of_nd (by omega)
      rw [if_pos (nI_le l (by omega)), if_neg (by omega), if_neg (by omega)]
    · have : v < w := nm_lt_of_nd (by omega)
      rw [if_neg (nI_ge (by omega) (by omega)), if_pos this]
