theorem nm_e64 (a k : Nat) : (64 : Int32) * nI a + nI k = nI (64 * a + k) := by rw [nm_c64, pk_mul, nI_add]
def nm_fr (a : Nat) (L L' : Nat → Int64) : Prop := ∀ j, (j < 64 * a ∨ 64 * a + 64 ≤ j) → L' j = L j
theorem nm_fr_rf {a : Nat} {L : Nat → Int64} : nm_fr a L L := fun _ _ => rfl
theorem nm_fr_tr {a : Nat} {L L1 L2 : Nat → Int64} (h : nm_fr a L L1) (h' : nm_fr a L1 L2) : nm_fr a L L2 := fun j hj => (h' j hj).trans (h j hj)
theorem nm_fr_up {a k : Nat} {L : Nat → Int64} {v : Int64} (h : k < 64) : nm_fr a L (vp_updL L (64 * a + k) v) := fun j hj => by
  unfold vp_updL
  rw [if_neg (by omega)]
/-- number a becomes w, nothing else changes -/
def nm_to (o : Option sm_St) (M : sm_St) (L : Nat → Int64) (Z : Nat → Int32) (a w : Nat) : Prop := ∃ L', o = some (mm M L' (upd Z a (nI (nm_nd w)))) ∧ nm_fr a L L' ∧ ∀ k, k < nm_nd w → L' (64 * a + k) = lN (nm_dg w k)
theorem nm_keep {L L' : Nat → Int64} {Z : Nat → Int32} {a t u : Nat} {z : Int32} (h : nm_fr a L L') (ht : t ≠ a) (hN : nm_N L Z t u) : nm_N L' (upd Z a z) t u := by
  refine ⟨hN.1, by simp [upd, ht, hN.2.1], fun k hk => ?_⟩
  have := hN.1
  rw [h _ (by omega)]
  exact hN.2.2 k hk
theorem nm_new {L' : Nat → Int64} {Z : Nat → Int32} {a w : Nat} (hw : nm_nd w ≤ 60) (h : ∀ k, k < nm_nd w → L' (64 * a + k) = lN (nm_dg w k)) : nm_N L' (upd Z a (nI (nm_nd w))) a w := ⟨hw, by simp [upd], h⟩
theorem nm_copyL {M : sm_St} {Z : Nat → Int32} {N a b v : Nat} (hab : a ≠ b) (ha : a < 124) (hb : b < 124) (hv : nm_nd v ≤ 60) (hZ : Z b = nI (nm_nd v)) : ∀ (d k f : Nat) (L : Nat → Int64), k + d = nm_nd v → d < f → (∀ j, j < nm_nd v → L (64 * b + j) = lN (nm_dg v j)) → (∀ j, j < k → L (64 * a + j) = lN (nm_dg v j)) → ∃ L', pm_copy_b2 N f (nI a) (nI b) (nI k) (mm M L Z) = some (mm M L' (upd Z a (nI (nm_nd v)))) ∧ nm_fr a L L' ∧ ∀ j, j < nm_nd v → L' (64 * a + j) = lN (nm_dg v j) := by
  intro d
  induction d with
  | zero =>
    intro k f L hk hf hb' ha'
    obtain ⟨f, rfl⟩ : ∃ g, f = g + 1 := ⟨f - 1, by omega⟩
    refine ⟨L, ?_, nm_fr_rf, fun j hj => ha' j (by omega)⟩
    rw [pm_copy_b2]
    simp only [mm_Z, mm_sI, nI_clamp (show b < 2 ^ 31 by omega), nI_clamp (show a < 2 ^ 31 by omega), hZ, sm_ite_t (sm_in_nI hb (by decide)), sm_ite_t (sm_in_nI ha (by decide)), sm_lt]
    rw [if_pos (nI_le (by omega) (by omega))]
  | succ d ih =>
    intro k f L hk hf hb' ha'
    obtain ⟨f, rfl⟩ : ∃ g, f = g + 1 := ⟨f - 1, by omega⟩
    obtain ⟨L', h1, h2, h3⟩ := ih (k + 1) f (vp_updL L (64 * a + k) (L (64 * b + k))) (by omega) (by omega) (fun j hj => by
      unfold vp_updL
      rw [if_neg (by omega)]
      exact hb' j hj) (fun j hj => by
      unfold vp_updL
      by_cases e : j = k
      · subst e
        rw [if_pos rfl]
        exact hb' j (by omega)
      · rw [if_neg (by omega)]
        exact ha' j (by omega))
    refine ⟨L', ?_, nm_fr_tr (nm_fr_up (by omega)) h2, h3⟩
    rw [pm_copy_b2]
    simp only [mm_Z, mm_L, mm_sL, nm_e64, nI_clamp (show b < 2 ^ 31 by omega), hZ, sm_ite_t (sm_in_nI hb (by decide)), sm_ite_t (sm_in_nI (show 64 * b + k < 7936 by omega) (by decide)), sm_ite_t (sm_in_nI (show 64 * a + k < 7936 by omega) (by decide)), nI_clamp (show 64 * b + k < 2 ^ 31 by omega), nI_clamp (show 64 * a + k < 2 ^ 31 by omega), sm_lt, nI_1]
    rw [if_neg (nI_ge (by omega) (by omega))]
    exact h1
theorem nm_copy {M : sm_St} {L : Nat → Int64} {Z : Nat → Int32} {N a b v : Nat} (hN : 64 ≤ N) (hab : a ≠ b) (ha : a < 124) (hb : b < 124) (h : nm_N L Z b v) : nm_to (pm_copy N (mm M L Z) (nI a) (nI b)) M L Z a v := by
  have := h.1
  exact nm_copyL hab ha hb h.1 h.2.1 (nm_nd v) 0 N L (by omega) (by omega) h.2.2 (fun j hj => absurd hj (by omega))
theorem nm_timesE {M : sm_St} {L : Nat → Int64} {Z : Nat → Int32} {N a n w : Nat} (hN : 64 ≤ N) (ha : a < 124) (hn : n ≤ 62) (hZ : Z a = nI n) (hR : nm_R L a n w) : pm_times_b103 N (nI a) (mm M L Z) = some (mm M L (upd Z a (nI (nm_nd w)))) := by
  unfold pm_times_b103
  rw [nm_trim hN ha hn hZ hR]
  rfl
theorem nm_tc_ltB {v m k : Nat} (hm : m ≤ nm_B) : nm_tc v m k < 1073741824 := by
  rcases Nat.eq_zero_or_pos m with e | e
  · subst e; unfold nm_tc; rw [Nat.mul_zero, Nat.zero_div]; decide
  · exact Nat.lt_of_lt_of_le (nm_tc_lt e) hm
theorem nm_rm (x b : Nat) : lN x - lN (x / b * b) = lN (x % b) := by
  rw [lN_sub (Nat.div_mul_le_self x b)]
  congr 1
  have := Nat.div_add_mod x b
  rw [Nat.mul_comm] at this
  omega
theorem nm_timesL {M : sm_St} {Z : Nat → Int32} {N a v m : Nat} (hN : 64 ≤ N) (ha : a < 124) (hv : nm_nd v ≤ 60) (hm : m ≤ nm_B) (hZ : Z a = nI (nm_nd v)) : ∀ (d k f : Nat) (L : Nat → Int64), k + d = nm_nd v → d < f → (∀ j, k ≤ j → j < nm_nd v → L (64 * a + j) = lN (nm_dg v j)) → (∀ j, j < k → L (64 * a + j) = lN (nm_dg (v * m) j)) → nm_to (pm_times_b6 N f (nI a) (lN m) (lN (nm_tc v m k)) (nI k) (mm M L Z)) M L Z a (v * m) := by
  have top := nm_tc_top (nm_lt_nd v) hm
  intro d
  induction d with
  | zero =>
    intro k f L hk hf hv' hw
    obtain ⟨f, rfl⟩ : ∃ g, f = g + 1 := ⟨f - 1, by omega⟩
    obtain rfl : k = nm_nd v := by omega
    rw [pm_times_b6]
    simp only [mm_Z, nI_clamp (show a < 2 ^ 31 by omega), hZ, sm_ite_t (sm_in_nI ha (by decide))]
    rw [if_pos (nI_le (Nat.le_refl _) (by omega))]
    by_cases h0 : nm_tc v m (nm_nd v) = 0
    · rw [if_pos (by rw [h0]; decide)]
      have hlt : v * m < nm_B ^ nm_nd v := nm_top0 top.2 (by rw [← top.1, h0])
      exact ⟨L, nm_timesE hN ha (by omega) hZ ⟨hlt, hw⟩, nm_fr_rf, fun k hk => hw k (Nat.lt_of_lt_of_le hk (nm_nd_le.mpr hlt))⟩
    · have hc := nm_tc_ltB (v := v) (k := nm_nd v) hm
      rw [if_neg (fun q => h0 (by
        have := (pk_lLE (show nm_tc v m (nm_nd v) < 2 ^ 63 by omega) (show 0 < 2 ^ 63 by decide)).mp q
        omega))]
      simp only [mm_Z, mm_L, mm_sL, mm_sI, nm_e64, nI_clamp (show a < 2 ^ 31 by omega), hZ, sm_ite_t (sm_in_nI ha (by decide)), sm_ite_t (sm_in_nI (show 64 * a + nm_nd v < 7936 by omega) (by decide)), nI_clamp (show 64 * a + nm_nd v < 2 ^ 31 by omega), sm_lt, nI_1]
      have hR : nm_R (vp_updL L (64 * a + nm_nd v) (lN (nm_tc v m (nm_nd v)))) a (nm_nd v + 1) (v * m) := ⟨top.2, fun j hj => by
        unfold vp_updL
        by_cases e : j = nm_nd v
        · subst e
          rw [if_pos rfl, top.1]
        · rw [if_neg (by omega)]
          exact hw j (by omega)⟩
      refine ⟨_, ?_, nm_fr_up (by omega), fun j hj => hR.2 j (Nat.lt_of_lt_of_le hj (nm_nd_le.mpr hR.1))⟩
      rw [nm_timesE hN ha (by omega) (by simp [upd]) hR, nm_uu]
  | succ d ih =>
    intro k f L hk hf hv' hw
    obtain ⟨f, rfl⟩ : ∃ g, f = g + 1 := ⟨f - 1, by omega⟩
    have hd := nm_dg_lt v k
    have hc := nm_tc_ltB (v := v) (k := k) hm
    have hx : nm_dg v k * m + nm_tc v m k < 2 ^ 63 := by
      have : nm_dg v k * m ≤ 1073741824 * 1073741824 := Nat.mul_le_mul (Nat.le_of_lt hd) hm
      omega
    obtain ⟨L', h1, h2, h3⟩ := ih (k + 1) f (vp_updL L (64 * a + k) (lN (nm_dg (v * m) k))) (by omega) (by omega) (fun j hj hj' => by
      unfold vp_updL
      rw [if_neg (by omega)]
      exact hv' j (by omega) hj') (fun j hj => by
      unfold vp_updL
      by_cases e : j = k
      · subst e
        rw [if_pos rfl]
      · rw [if_neg (by omega)]
        exact hw j (by omega))
    refine ⟨L', ?_, nm_fr_tr (nm_fr_up (by omega)) h2, h3⟩
    rw [pm_times_b6]
    simp only [mm_Z, mm_L, mm_sL, nm_e64, nI_clamp (show a < 2 ^ 31 by omega), hZ, sm_ite_t (sm_in_nI ha (by decide)), sm_ite_t (sm_in_nI (show 64 * a + k < 7936 by omega) (by decide)), nI_clamp (show 64 * a + k < 2 ^ 31 by omega), sm_lt, nI_1, hv' k (Nat.le_refl k) (by omega), lN_mul, lN_add, nm_lB, nm_rm, pk_lDiv hx (show 0 < 1073741824 by decide) (show 1073741824 < 2 ^ 63 by decide)]
    rw [if_neg (nI_ge (by omega) (by omega)), ← nm_tc_dg, ← nm_tc_succ]
    exact h1
theorem nm_times {M : sm_St} {L : Nat → Int64} {Z : Nat → Int32} {N a v m : Nat} (hN : 64 ≤ N) (ha : a < 124) (hm : m ≤ nm_B) (h : nm_N L Z a v) : nm_to (pm_times N (mm M L Z) (nI a) (lN m)) M L Z a (v * m) := by
  have := h.1
  have e := nm_timesL (M := M) hN ha h.1 hm h.2.1 (nm_nd v) 0 N L (by omega) (by omega) (fun j _ hj => h.2.2 j hj) (fun j hj => absurd hj (by omega))
  rw [nm_tc_0] at e
  exact e
