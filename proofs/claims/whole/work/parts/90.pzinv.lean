/-! what the text can bring -/
theorem ph_at {t : Nat → Nat} {x y n k : Nat} : sp_ph t x y n k = if (x < 4 ∧ k = 8 * x + y) ∨ (y < 4 ∧ k = 8 * y + x) then n else t k := by
  unfold sp_ph sp_p1
  by_cases hx : x < 4
  · by_cases hy : y < 4
    · rw [if_pos hx, if_pos hy]
      by_cases e2 : k = 8 * y + x
      · rw [e2, ne_up_s, if_pos (Or.inr ⟨hy, rfl⟩)]
      · rw [ne_up_n e2]
        by_cases e1 : k = 8 * x + y
        · rw [e1, ne_up_s, if_pos (Or.inl ⟨hx, rfl⟩)]
        · rw [ne_up_n e1, if_neg (fun z => by omega)]
    · rw [if_pos hx, if_neg hy]
      by_cases e1 : k = 8 * x + y
      · rw [e1, ne_up_s, if_pos (Or.inl ⟨hx, rfl⟩)]
      · rw [ne_up_n e1, if_neg (fun z => by omega)]
  · by_cases hy : y < 4
    · rw [if_neg hx, if_pos hy]
      by_cases e2 : k = 8 * y + x
      · rw [e2, ne_up_s, if_pos (Or.inr ⟨hy, rfl⟩)]
      · rw [ne_up_n e2, if_neg (fun z => by omega)]
    · rw [if_neg hx, if_neg hy, if_neg (fun z => by omega)]
def pzJ (nc nt : Nat) (cl co hr : Nat → Nat) : Prop := (nc ≤ 4 ∧ nt ≤ 4) ∧ (∀ i, i < nc → cl (3 * i) ≤ 4 ∧ cl (3 * i + 1) ≤ 3 ∧ cl (3 * i + 2) ≤ 12) ∧ (∀ t, t < nt → co t ≤ 12) ∧ ∀ c x, c < 4 → x < 8 → hr (8 * c + x) ≤ 3 ∧ (¬ (c < nc ∧ (x < nc ∨ 4 ≤ x ∧ x < 4 + nt)) → hr (8 * c + x) = 0) ∧ (x < 4 → hr (8 * x + c) = hr (8 * c + x))
theorem pzJ_0 (cl co : Nat → Nat) : pzJ 0 0 cl co (fun _ => 0) := ⟨⟨Nat.zero_le _, Nat.zero_le _⟩, fun i hi => by omega, fun t ht => by omega, fun _ _ _ _ => ⟨Nat.zero_le _, fun _ => rfl, fun _ => rfl⟩⟩
theorem pzJ_c {nc nt x y z : Nat} {cl co hr : Nat → Nat} (h : pzJ nc nt cl co hr) (hc : nc < 4) (hx : x ≤ 4) (hy : y ≤ 3) (hz : z ≤ 12) : pzJ (nc + 1) nt (up3 cl nc x y z) co hr := by
  obtain ⟨⟨h1, h2⟩, h3, h4, h5⟩ := h
  refine ⟨⟨by omega, h2⟩, fun i hi => ?_, h4, fun c w hc hw => ?_⟩
  · obtain ⟨u0, u1, u2⟩ := up3_s (cl := cl) (n := nc) (x := x) (y := y) (z := z)
    by_cases e : i = nc
    · rw [e, u0, u1, u2]
      exact ⟨hx, hy, hz⟩
    · have v0 := up3_3 (cl := cl) (n := nc) (x := x) (y := y) (z := z) (i := i) 0 (by decide) e
      rw [Nat.add_zero] at v0
      rw [v0, up3_3 1 (by decide) e, up3_3 2 (by decide) e]
      exact h3 i (by omega)
  · obtain ⟨g1, g2, g3⟩ := h5 c w hc hw
    exact ⟨g1, fun q => g2 (by omega), g3⟩
theorem pzJ_t {nc nt x : Nat} {cl co hr : Nat → Nat} (h : pzJ nc nt cl co hr) (ht : nt < 4) (hx : x ≤ 12) : pzJ nc (nt + 1) cl (va_up co nt x) hr := by
  obtain ⟨⟨h1, h2⟩, h3, h4, h5⟩ := h
  refine ⟨⟨h1, by omega⟩, h3, fun t ht => ?_, fun c w hc hw => ?_⟩
  · by_cases e : t = nt
    · rw [e, ne_up_s]
      exact hx
    · rw [ne_up_n e]
      exact h4 t (by omega)
  · obtain ⟨g1, g2, g3⟩ := h5 c w hc hw
    exact ⟨g1, fun q => g2 (by omega), g3⟩
theorem pzJ_h {nc nt x y n : Nat} {cl co hr : Nat → Nat} (h : pzJ nc nt cl co hr) (hx : x < nc ∨ 4 ≤ x ∧ x < 4 + nt) (hy : y < nc ∨ 4 ≤ y ∧ y < 4 + nt) (hn : n ≤ 3) : pzJ nc nt cl co (sp_ph hr x y n) := by
  obtain ⟨⟨h1, h2⟩, h3, h4, h5⟩ := h
  refine ⟨⟨h1, h2⟩, h3, h4, fun c w hc hw => ?_⟩
  obtain ⟨g1, g2, g3⟩ := h5 c w hc hw
  rw [ph_at]
  by_cases hit : (x < 4 ∧ 8 * c + w = 8 * x + y) ∨ (y < 4 ∧ 8 * c + w = 8 * y + x)
  · rw [if_pos hit]
    have hit2 : (x < 4 ∧ c = x ∧ w = y) ∨ (y < 4 ∧ c = y ∧ w = x) := by
      rcases hit with ⟨z, e⟩ | ⟨z, e⟩
      · exact Or.inl ⟨z, mv_eq8 hw (by omega) e⟩
      · exact Or.inr ⟨z, mv_eq8 hw (by omega) e⟩
    refine ⟨hn, fun q => ?_, fun w4 => ?_⟩
    · exact absurd (show c < nc ∧ (w < nc ∨ 4 ≤ w ∧ w < 4 + nt) by omega) q
    · rw [ph_at, if_pos]
      rcases hit2 with ⟨z, e1, e2⟩ | ⟨z, e1, e2⟩
      · exact Or.inr ⟨by omega, by omega⟩
      · exact Or.inl ⟨by omega, by omega⟩
  · rw [if_neg hit]
    refine ⟨g1, g2, fun w4 => ?_⟩
    rw [ph_at, if_neg]
    · exact g3 w4
    · rintro (⟨z, e⟩ | ⟨z, e⟩)
      · obtain ⟨e1, e2⟩ := mv_eq8 (by omega) (by omega) e
        exact hit (Or.inr ⟨by omega, by omega⟩)
      · obtain ⟨e1, e2⟩ := mv_eq8 (by omega) (by omega) e
        exact hit (Or.inl ⟨by omega, by omega⟩)
section
variable {tx : Nat → Nat} {len q : Nat}
theorem itC_fl {f : Nat} (h : q ≤ len) (e : itC tx len q = .inl f) : f ≤ len := by
  have l1 := tk_e_le (tx := tx) h
  have l2 := tk_e_le (tx := tx) l1
  have l3 := tk_e_le (tx := tx) l2
  unfold itC at e
  split at e
  · split at e
    · split at e
      · split at e
        · cases e
        · cases e
          exact (tk_p_le l3).2
      · cases e
        exact (tk_p_le l2).2
    · cases e
      exact (tk_p_le l1).2
  · cases e
    exact (tk_p_le h).2
theorem itT_fl {f : Nat} (h : q ≤ len) (e : itT tx len q = .inl f) : f ≤ len := by
  have l1 := tk_e_le (tx := tx) h
  unfold itT at e
  split at e
  · split at e
    · cases e
    · cases e
      exact (tk_p_le l1).2
  · cases e
    exact (tk_p_le h).2
theorem itU_fl {f nc nt : Nat} (h : q ≤ len) (e : itU tx len nc nt q = .inl f) : f ≤ len := by
  have l1 := tk_e_le (tx := tx) h
  have l2 := tk_e_le (tx := tx) l1
  have l3 := tk_e_le (tx := tx) l2
  unfold itU at e
  split at e
  · split at e
    · split at e
      · split at e
        · cases e
        · cases e
          exact (tk_p_le l3).2
      · cases e
        exact (tk_p_le l2).2
    · cases e
      exact (tk_p_le l1).2
  · cases e
    exact (tk_p_le h).2
/-- what the text brings keeps its bounds; a fault lies in it -/
theorem pz_J : ∀ d q nc nt it cl co hr, it ≤ q → q ≤ len → pzJ nc nt cl co hr → (∀ fl, pz tx len d q nc nt it cl co hr = .inl fl → fl ≤ len) ∧ ∀ r, pz tx len d q nc nt it cl co hr = .inr r → r.1 ≤ len ∧ pzJ r.2.1 r.2.2.1 r.2.2.2.1 r.2.2.2.2.1 r.2.2.2.2.2 := by
  intro d
  induction d with
  | zero =>
    intro q nc nt it cl co hr _ _ _
    refine ⟨fun fl e => ?_, fun r e => ?_⟩
    · rw [pz] at e
      cases e
      exact Nat.zero_le _
    · rw [pz] at e
      cases e
  | succ d ih =>
    intro q nc nt it cl co hr hit hq hJ
    have hle := tk_e_le (tx := tx) hq
    have hp := (tk_p_le (tx := tx) hq).2
    have dead : ∀ (f : Nat), f ≤ len → (∀ fl, (Sum.inl f : Nat ⊕ (Nat × Nat × Nat × (Nat → Nat) × (Nat → Nat) × (Nat → Nat))) = .inl fl → fl ≤ len) ∧ ∀ r : Nat × Nat × Nat × (Nat → Nat) × (Nat → Nat) × (Nat → Nat), (Sum.inl f : Nat ⊕ (Nat × Nat × Nat × (Nat → Nat) × (Nat → Nat) × (Nat → Nat))) = .inr r → r.1 ≤ len ∧ pzJ r.2.1 r.2.2.1 r.2.2.2.1 r.2.2.2.2.1 r.2.2.2.2.2 := fun f hf => ⟨fun fl e => (by cases e; exact hf), fun r e => (by cases e)⟩
    rw [pz]
    by_cases k0 : tk_K tx len q = 0
    · rw [if_pos k0]
      exact ⟨fun fl e => (by cases e), fun r e => (by cases e; exact ⟨by omega, hJ⟩)⟩
    · have grow := tk_grow hq k0
      rw [if_neg k0]
      by_cases k1 : tk_K tx len q = 1
      · rw [if_pos k1]
        by_cases c4 : nc < 4
        · rw [if_pos c4]
          cases eC : itC tx len (tk_e tx len q) with
          | inl f => exact dead f (itC_fl hle eC)
          | inr q' =>
            obtain ⟨q1, q2, n1, n2, n3⟩ := itC_le hle eC
            exact ih q' _ _ _ _ _ _ (by omega) q2 (pzJ_c hJ c4 (of_decide_eq_true n1).2 (of_decide_eq_true n2).2 (of_decide_eq_true n3).2)
        · rw [if_neg c4]
          exact dead _ hp
      · rw [if_neg k1]
        by_cases k2 : tk_K tx len q = 2
        · rw [if_pos k2]
          by_cases t4 : nt < 4
          · rw [if_pos t4]
            cases eC : itT tx len (tk_e tx len q) with
            | inl f => exact dead f (itT_fl hle eC)
            | inr q' =>
              obtain ⟨q1, q2, n1⟩ := itT_le hle eC
              exact ih q' _ _ _ _ _ _ (by omega) q2 (pzJ_t hJ t4 (of_decide_eq_true n1).2)
          · rw [if_neg t4]
            exact dead _ hp
        · rw [if_neg k2]
          by_cases k3 : tk_K tx len q = 3
          · rw [if_pos k3]
            cases eC : itU tx len nc nt (tk_e tx len q) with
            | inl f => exact dead f (itU_fl hle eC)
            | inr q' =>
              obtain ⟨q1, q2, nA, nB, n3⟩ := itU_le hle eC
              unfold itA at nA
              unfold itB at nB
              rw [Bool.and_eq_true] at nA
              rw [Bool.and_eq_true, Bool.and_eq_true, Bool.and_eq_true] at nB
              exact ih q' _ _ _ _ _ _ (by omega) q2 (pzJ_h hJ (of_decide_eq_true nA.2) (of_decide_eq_true nB.1.1.2) (of_decide_eq_true n3).2)
          · rw [if_neg k3]
            exact dead _ hp
end
