theorem sm_b2s {α O : Type} {a : α} {S : sm_St} {g : α → sm_St → Option O} : sm_b2 (some (a, S)) g = g a S := rfl
theorem sm_b1s {O : Type} {S : sm_St} {g : sm_St → Option O} : sm_b1 (some S) g = g S := rfl
def nm_same (L : Nat → Int64) (Z : Nat → Int32) (L' : Nat → Int64) (Z' : Nat → Int32) (t : Nat) : Prop := Z' t = Z t ∧ ∀ k, k < 64 → L' (64 * t + k) = L (64 * t + k)
theorem nm_same_rf {L : Nat → Int64} {Z : Nat → Int32} {t : Nat} : nm_same L Z L Z t := ⟨rfl, fun _ _ => rfl⟩
theorem nm_same_tr {L L1 L2 : Nat → Int64} {Z Z1 Z2 : Nat → Int32} {t : Nat} (h : nm_same L Z L1 Z1 t) (h' : nm_same L1 Z1 L2 Z2 t) : nm_same L Z L2 Z2 t := ⟨h'.1.trans h.1, fun k hk => (h'.2 k hk).trans (h.2 k hk)⟩
theorem nm_same_N {L L' : Nat → Int64} {Z Z' : Nat → Int32} {t v : Nat} (h : nm_same L Z L' Z' t) (hN : nm_N L Z t v) : nm_N L' Z' t v := ⟨hN.1, h.1.trans hN.2.1, fun k hk => (h.2 k (by have := hN.1; omega)).trans (hN.2.2 k hk)⟩
theorem nm_same_fr {L L' : Nat → Int64} {Z : Nat → Int32} {a t : Nat} {z : Int32} (h : nm_fr a L L') (ht : t ≠ a) : nm_same L Z L' (upd Z a z) t := ⟨by simp [upd, ht], fun k hk => h _ (by omega)⟩
/-- a step that gives number a a new worth: what it comes to -/
theorem nm_use {o : Option sm_St} {M : sm_St} {L : Nat → Int64} {Z : Nat → Int32} {a w : Nat} (h : nm_to o M L Z a w) (hw : nm_nd w ≤ 60) : ∃ L' Z', o = some (mm M L' Z') ∧ nm_N L' Z' a w ∧ ∀ t, t ≠ a → nm_same L Z L' Z' t := by
  obtain ⟨L', h1, h2, h3⟩ := h
  exact ⟨L', _, h1, nm_new hw h3, fun t ht => nm_same_fr h2 ht⟩
theorem nm_gE {x y : Nat} (hx : x % 2 = 0) (ho : Nat.gcd x y % 2 = 1) : Nat.gcd (x / 2) y = Nat.gcd x y := by
  have hy : y % 2 = 1 := by
    rcases Nat.mod_two_eq_zero_or_one y with q | q
    · have h1 : 2 ∣ Nat.gcd x y := Nat.dvd_gcd (Nat.dvd_of_mod_eq_zero hx) (Nat.dvd_of_mod_eq_zero q)
      omega
    · exact q
  have hc : Nat.Coprime 2 y := by
    show Nat.gcd 2 y = 1
    rw [Nat.gcd_rec, hy]
    decide
  have e : x = 2 * (x / 2) := by omega
  conv => rhs; rw [e]
  exact (Nat.Coprime.gcd_mul_left_cancel (x / 2) hc).symm
theorem nm_gE' {x y : Nat} (hy : y % 2 = 0) (ho : Nat.gcd x y % 2 = 1) : Nat.gcd x (y / 2) = Nat.gcd x y := by
  rw [Nat.gcd_comm x (y / 2), Nat.gcd_comm x y]
  rw [Nat.gcd_comm] at ho
  exact nm_gE hy ho
def nm_Fr (L : Nat → Int64) (Z : Nat → Int32) (L' : Nat → Int64) (Z' : Nat → Int32) : Prop := ∀ t, t ≠ 4 → t ≠ 5 → t ≠ 6 → nm_same L Z L' Z' t
theorem nm_Fr_rf {L : Nat → Int64} {Z : Nat → Int32} : nm_Fr L Z L Z := fun _ _ _ _ => nm_same_rf
theorem nm_Fr_tr {L L1 L2 : Nat → Int64} {Z Z1 Z2 : Nat → Int32} (h : nm_Fr L Z L1 Z1) (h' : nm_Fr L1 Z1 L2 Z2) : nm_Fr L Z L2 Z2 := fun t a b c => nm_same_tr (h t a b c) (h' t a b c)
theorem nm_c4 : (4 : Int32) = nI 4 := by decide
theorem nm_c5 : (5 : Int32) = nI 5 := by decide
theorem nm_c6 : (6 : Int32) = nI 6 := by decide
/-- the last loop: twos come back -/
theorem nm_gcdT {M : sm_St} {N t : Nat} (hN : 64 ≤ N) (ht : t < 2 ^ 31) : ∀ (d i f g : Nat) (L : Nat → Int64) (Z : Nat → Int32), i + d = t → d < f → nm_nd (g * 2 ^ d) ≤ 60 → nm_N L Z 4 g → ∃ L' Z', pm_findDivisor_b128 N f (nI t) (nI i) (mm M L Z) = some (mm M L' Z') ∧ nm_N L' Z' 4 (g * 2 ^ d) ∧ nm_Fr L Z L' Z' := by
  intro d
  induction d with
  | zero =>
    intro i f g L Z hi hf hg hG
    obtain ⟨f, rfl⟩ : ∃ g, f = g + 1 := ⟨f - 1, by omega⟩
    refine ⟨L, Z, ?_, by simpa using hG, nm_Fr_rf⟩
    rw [pm_findDivisor_b128, if_pos (nI_le (by omega) (by omega))]
  | succ d ih =>
    intro i f g L Z hi hf hg hG
    obtain ⟨f, rfl⟩ : ∃ g, f = g + 1 := ⟨f - 1, by omega⟩
    have e : g * 2 ^ (d + 1) = g * 2 * 2 ^ d := by rw [Nat.pow_succ, Nat.mul_comm (2 ^ d), Nat.mul_assoc]
    have hg2 : nm_nd (g * 2) ≤ 60 := Nat.le_trans (nm_nd_mono (by rw [e]; exact Nat.le_mul_of_pos_right _ (Nat.pow_pos (by decide)))) hg
    obtain ⟨L1, Z1, a1, a2, a3⟩ := nm_use (nm_times (M := M) (m := 2) hN (by decide) (by decide) hG) hg2
    obtain ⟨L', Z', b1, b2, b3⟩ := ih (i + 1) f (g * 2) L1 Z1 (by omega) (by omega) (by rw [← e]; exact hg) a2
    refine ⟨L', Z', ?_, by rw [e]; exact b2, nm_Fr_tr (fun t h4 _ _ => a3 t h4) b3⟩
    rw [pm_findDivisor_b128, if_neg (nI_ge (by omega) (by omega)), nm_c4, nm_l2, a1]
    simp only [sm_b1, sm_lt, nI_1]
    exact b1
/-- halving number 4 as long as it is even -/
theorem nm_gcdG {M : sm_St} {N : Nat} {r46 : Int32 → sm_St → Option sm_St} {v3 : Int32} (hN : 64 ≤ N) : ∀ (j f x y : Nat) (L : Nat → Int64) (Z : Nat → Int32), 0 < x → x < 2 ^ j → j < f → Nat.gcd x y % 2 = 1 → nm_N L Z 4 x → nm_N L Z 5 y → ∃ x' L' Z', x' % 2 = 1 ∧ x' ≤ x ∧ Nat.gcd x' y = Nat.gcd x y ∧ nm_N L' Z' 4 x' ∧ nm_N L' Z' 5 y ∧ nm_Fr L Z L' Z' ∧ pm_findDivisor_b55 N r46 f v3 (mm M L Z) = pm_findDivisor_b71 N r46 N v3 (mm M L' Z') := by
  intro j
  induction j with
  | zero => intro f x y L Z h0 h1; simp at h1; omega
  | succ j ih =>
    intro f x y L Z h0 h1 hf ho hG hH
    obtain ⟨f, rfl⟩ : ∃ g, f = g + 1 := ⟨f - 1, by omega⟩
    rw [pm_findDivisor_b55, nm_c4, nm_isEven (by decide) hG]
    by_cases q : x % 2 = 0
    · rw [if_pos q]
      have hx2 : nm_nd (x / 2) ≤ 60 := Nat.le_trans (nm_nd_mono (Nat.div_le_self _ _)) hG.1
      obtain ⟨L1, Z1, a1, a2, a3⟩ := nm_use (nm_halve (M := M) hN (by decide) hG) hx2
      rw [Nat.pow_succ] at h1
      obtain ⟨x', L', Z', b1, b2, b3, b4, b5, b6, b7⟩ := ih f (x / 2) y L1 Z1 (by omega) (by omega) (by omega) (by rw [nm_gE q ho]; exact ho) a2 (nm_same_N (a3 5 (by decide)) hH)
      refine ⟨x', L', Z', b1, by omega, by rw [b3, nm_gE q ho], b4, b5, nm_Fr_tr (fun t h4 _ _ => a3 t h4) b6, ?_⟩
      rw [sm_b2s, if_neg (by decide), a1]
      exact b7
    · rw [if_neg q]
      refine ⟨x, L, Z, by omega, Nat.le_refl _, rfl, hG, hH, nm_Fr_rf, ?_⟩
      rw [sm_b2s, if_pos rfl]
/-- halving number 5 as long as it is even, then the difference -/
theorem nm_gcdH {M : sm_St} {N : Nat} {r46 : Int32 → sm_St → Option sm_St} {v3 : Int32} (hN : 64 ≤ N) : ∀ (j f x y : Nat) (L : Nat → Int64) (Z : Nat → Int32), x % 2 = 1 → 0 < y → y < 2 ^ j → j < f → Nat.gcd x y % 2 = 1 → nm_N L Z 4 x → nm_N L Z 5 y → ∃ x' y' L' Z', x' % 2 = 1 ∧ y' % 2 = 0 ∧ Nat.gcd x' y' = Nat.gcd x y ∧ (x' * y' < x * y ∧ (y % 2 = 0 → 2 * (x' * y') < x * y)) ∧ x' ≤ x ∧ nm_N L' Z' 4 x' ∧ nm_N L' Z' 5 y' ∧ nm_Fr L Z L' Z' ∧ pm_findDivisor_b71 N r46 f v3 (mm M L Z) = r46 v3 (mm M L' Z') := by
  intro j
  induction j with
  | zero => intro f x y L Z hx h0 h1; simp at h1; omega
  | succ j ih =>
    intro f x y L Z hx h0 h1 hf ho hG hH
    obtain ⟨f, rfl⟩ : ∃ g, f = g + 1 := ⟨f - 1, by omega⟩
    rw [pm_findDivisor_b71, nm_c5, nm_isEven (by decide) hH]
    by_cases q : y % 2 = 0
    · rw [if_pos q]
      have hy2 : nm_nd (y / 2) ≤ 60 := Nat.le_trans (nm_nd_mono (Nat.div_le_self _ _)) hH.1
      obtain ⟨L1, Z1, a1, a2, a3⟩ := nm_use (nm_halve (M := M) hN (by decide) hH) hy2
      rw [Nat.pow_succ] at h1
      obtain ⟨x', y', L', Z', b1, b2, b3, b4, b5, b6, b7, b8, b9⟩ := ih f x (y / 2) L1 Z1 hx (by omega) (by omega) (by omega) (by rw [nm_gE' q ho]; exact ho) (nm_same_N (a3 4 (by decide)) hG) a2
      have e : x * y = 2 * (x * (y / 2)) := by
        have : y = 2 * (y / 2) := by omega
        conv => lhs; rw [this]
        rw [Nat.mul_left_comm]
      refine ⟨x', y', L', Z', b1, b2, by rw [b3, nm_gE' q ho], ⟨by omega, fun _ => by omega⟩, b5, b6, b7, nm_Fr_tr (fun t _ h5 _ => a3 t h5) b8, ?_⟩
      rw [sm_b2s, if_neg (by decide), a1]
      exact b9
    · rw [if_neg q]
      rw [sm_b2s, if_pos rfl, nm_c4, nm_compare hN (by decide) (by decide) hG hH, sm_b2s]
      have hprod : ∀ p r : Nat, 0 < p → p ≤ r → p * (r - p) < p * r := fun p r hp hr => Nat.mul_lt_mul_of_pos_left (by omega) hp
      by_cases l : x ≤ y
      · have hc : nm_cmp x y ≤ 0 := by
          unfold nm_cmp
          by_cases c : x < y
          · rw [if_pos c]; decide
          · rw [if_neg c, if_pos (by omega)]; decide
        rw [if_pos hc]
        unfold pm_findDivisor_b116
        have hd : nm_nd (y - x) ≤ 60 := Nat.le_trans (nm_nd_mono (Nat.sub_le _ _)) hH.1
        obtain ⟨L1, Z1, a1, a2, a3⟩ := nm_use (nm_take (M := M) (a := 5) (b := 4) hN (by decide) (by decide) (by decide) l hH hG) hd
        refine ⟨x, y - x, L1, Z1, hx, by omega, ?_, ⟨hprod x y (by omega) l, fun z => absurd z q⟩, Nat.le_refl _, nm_same_N (a3 4 (by decide)) hG, a2, fun t _ h5 _ => a3 t h5, ?_⟩
        · rw [Nat.gcd_sub_self_right l]
        · rw [nm_c5, nm_c4, a1]
          rfl
      · have hc : ¬ nm_cmp x y ≤ 0 := by
          unfold nm_cmp
          rw [if_neg (by omega), if_neg (by omega)]; decide
        rw [if_neg hc]
        obtain ⟨L1, Z1, a1, a2, a3⟩ := nm_use (nm_copy (M := M) (a := 6) (b := 4) hN (by decide) (by decide) (by decide) hG) hG.1
        have hG1 := nm_same_N (a3 4 (by decide)) hG
        have hH1 := nm_same_N (a3 5 (by decide)) hH
        obtain ⟨L2, Z2, b1, b2, b3⟩ := nm_use (nm_copy (M := M) (a := 4) (b := 5) hN (by decide) (by decide) (by decide) hH1) hH.1
        have hT2 := nm_same_N (b3 6 (by decide)) a2
        obtain ⟨L3, Z3, c1, c2, c3⟩ := nm_use (nm_copy (M := M) (a := 5) (b := 6) hN (by decide) (by decide) (by decide) hT2) hG.1
        have hG3 := nm_same_N (c3 4 (by decide)) b2
        have hd : nm_nd (x - y) ≤ 60 := Nat.le_trans (nm_nd_mono (Nat.sub_le _ _)) hG.1
        obtain ⟨L4, Z4, d1, d2, d3⟩ := nm_use (nm_take (M := M) (a := 5) (b := 4) hN (by decide) (by decide) (by decide) (show y ≤ x by omega) c2 hG3) hd
        refine ⟨y, x - y, L4, Z4, by omega, by omega, ?_, ⟨by rw [Nat.mul_comm x y]; exact hprod y x h0 (by omega), fun z => absurd z q⟩, by omega, nm_same_N (d3 4 (by decide)) hG3, d2, fun t h4 h5 h6 => nm_same_tr (a3 t h6) (nm_same_tr (b3 t h4) (nm_same_tr (c3 t h5) (d3 t h5))), ?_⟩
        · rw [Nat.gcd_sub_self_right (by omega), Nat.gcd_comm]
        · rw [nm_c6, a1, sm_b1s, b1, sm_b1s, c1, sm_b1s]
          unfold pm_findDivisor_b116
          rw [nm_c5, nm_c4, d1]
          rfl
