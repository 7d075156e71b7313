/-! the whole text: items, cloths, things, what the cloths are, colours, hours; or where the fault is -/
def up3 (cl : Nat → Nat) (n x y z : Nat) : Nat → Nat := va_up (va_up (va_up cl (3 * n) x) (3 * n + 1) y) (3 * n + 2) z
def pz (tx : Nat → Nat) (len : Nat) : Nat → Nat → Nat → Nat → Nat → (Nat → Nat) → (Nat → Nat) → (Nat → Nat) → Nat ⊕ (Nat × Nat × Nat × (Nat → Nat) × (Nat → Nat) × (Nat → Nat))
  | 0, _, _, _, _, _, _, _ => .inl 0
  | d + 1, q, nc, nt, it, cl, co, hr =>
    if tk_K tx len q = 0 then .inr (it, nc, nt, cl, co, hr)
    else if tk_K tx len q = 1 then
      (if nc < 4 then
        (match itC tx len (tk_e tx len q) with
        | .inl f => .inl f
        | .inr q' => pz tx len d q' (nc + 1) nt (it + 1) (up3 cl nc (tk_v tx len (tk_e tx len q)) (tk_v tx len (tk_e tx len (tk_e tx len q))) (tk_v tx len (tk_e tx len (tk_e tx len (tk_e tx len q))))) co hr)
      else .inl (tk_p tx len q))
    else if tk_K tx len q = 2 then
      (if nt < 4 then
        (match itT tx len (tk_e tx len q) with
        | .inl f => .inl f
        | .inr q' => pz tx len d q' nc (nt + 1) (it + 1) cl (va_up co nt (tk_v tx len (tk_e tx len q))) hr)
      else .inl (tk_p tx len q))
    else if tk_K tx len q = 3 then
      (match itU tx len nc nt (tk_e tx len q) with
      | .inl f => .inl f
      | .inr q' => pz tx len d q' nc nt (it + 1) cl co (sp_ph hr (tk_v tx len (tk_e tx len q)) (tk_v tx len (tk_e tx len (tk_e tx len q))) (tk_v tx len (tk_e tx len (tk_e tx len (tk_e tx len q))))))
    else .inl (tk_p tx len q)
section
variable {tx : Nat → Nat} {len q : Nat}
theorem tk_e_ge (h : q ≤ len) : q ≤ tk_e tx len q := by
  have := (tk_p_le (tx := tx) h).1
  unfold tk_e
  omega
theorem tk_n_g (h : q ≤ len) {m : Nat} (hn : tk_n tx len q m = true) : q < tk_e tx len q ∧ tk_v tx len q ≤ m := by
  have := of_decide_eq_true hn
  exact ⟨tk_grow h (by omega), this.2⟩
theorem itC_le {q' : Nat} (h : q ≤ len) (e : itC tx len q = .inr q') : q ≤ q' ∧ q' ≤ len ∧ tk_n tx len q 4 = true ∧ tk_n tx len (tk_e tx len q) 3 = true ∧ tk_n tx len (tk_e tx len (tk_e tx len q)) 12 = true := by
  have g1 := tk_e_ge (tx := tx) h
  have l1 := tk_e_le (tx := tx) h
  have g2 := tk_e_ge (tx := tx) l1
  have l2 := tk_e_le (tx := tx) l1
  have g3 := tk_e_ge (tx := tx) l2
  have l3 := tk_e_le (tx := tx) l2
  have g4 := tk_e_ge (tx := tx) l3
  have l4 := tk_e_le (tx := tx) l3
  unfold itC at e
  split at e
  · split at e
    · split at e
      · split at e
        · cases e
          exact ⟨by omega, l4, by assumption, by assumption, by assumption⟩
        · cases e
      · cases e
    · cases e
  · cases e
theorem itT_le {q' : Nat} (h : q ≤ len) (e : itT tx len q = .inr q') : q ≤ q' ∧ q' ≤ len ∧ tk_n tx len q 12 = true := by
  have g1 := tk_e_ge (tx := tx) h
  have l1 := tk_e_le (tx := tx) h
  have g2 := tk_e_ge (tx := tx) l1
  have l2 := tk_e_le (tx := tx) l1
  unfold itT at e
  split at e
  · split at e
    · cases e
      exact ⟨by omega, l2, by assumption⟩
    · cases e
  · cases e
theorem itU_le {q' nc nt : Nat} (h : q ≤ len) (e : itU tx len nc nt q = .inr q') : q ≤ q' ∧ q' ≤ len ∧ itA tx len nc nt q = true ∧ itB tx len nc nt q (tk_e tx len q) = true ∧ tk_n tx len (tk_e tx len (tk_e tx len q)) 3 = true := by
  have g1 := tk_e_ge (tx := tx) h
  have l1 := tk_e_le (tx := tx) h
  have g2 := tk_e_ge (tx := tx) l1
  have l2 := tk_e_le (tx := tx) l1
  have g3 := tk_e_ge (tx := tx) l2
  have l3 := tk_e_le (tx := tx) l2
  have g4 := tk_e_ge (tx := tx) l3
  have l4 := tk_e_le (tx := tx) l3
  unfold itU at e
  split at e
  · split at e
    · split at e
      · split at e
        · cases e
          exact ⟨by omega, l4, by assumption, by assumption, by assumption⟩
        · cases e
      · cases e
    · cases e
  · cases e
end
section
variable {N : Nat} {X X0 s : sm_St} {tx : Nat → Nat} {len : Nat}
/-- what stays of the reader -/
def rdE (X s : sm_St) (len : Nat) : Prop := ∃ pl va nc nt, rdS X s len pl va nc nt
theorem tk_K_6 (tx : Nat → Nat) (len q : Nat) : tk_K tx len q ≤ 6 := by
  unfold tk_K tk_w
  repeat' split
  all_goals omega
theorem tk_Kn {k j : Nat} (hk : k ≤ 6) (hj : j ≤ 6) (h : k ≠ j) : ¬ nI k = nI j := fun z => h ((nI_eq (by omega) (by omega)).mp z)
/-- the built side looks alone -/
theorem xr_p1 (hN : 4000 ≤ N) (hT : rdT X tx len) : ∀ d q nc nt it cl co hr f s va, len - q < d → it ≤ q → q ≤ len → nc ≤ 4 → nt ≤ 4 → d ≤ f → rdS X s len q va nc nt → ∃ s', (match pz tx len d q nc nt it cl co hr with | .inl fl => px_Reader_readInto_N_b17 N f (nI it) s = some ((-10 : Int32) - nI fl, s') | .inr r => px_Reader_readInto_N_b17 N f (nI it) s = some (nI r.1, s')) ∧ rdE X s' len := by
  have hl := hT.1
  have z1 : ¬ (nI 1 = 0) := by decide
  intro d
  induction d with
  | zero => intro q nc nt it cl co hr f s va h1; omega
  | succ d ih =>
    intro q nc nt it cl co hr f s va h1 h2 hq hc ht hf h
    obtain ⟨f, rfl⟩ : ∃ g, f = g + 1 := ⟨f - 1, by omega⟩
    obtain ⟨s5, va5, e5, g5, p5, t5, _, _⟩ := xr_next (N := N) hN h hT hq
    have hK6 := tk_K_6 tx len q
    have l200 : ¬ (200 : Int32) < nI it := nI_nlt (a := 200) (by omega) (by decide)
    have hle := tk_e_le (tx := tx) hq
    rw [px_Reader_readInto_N_b17, if_neg l200, e5, sm_b1s, t5, pz]
    by_cases k0 : tk_K tx len q = 0
    · rw [if_pos k0, k0, if_pos (show nI 0 = 0 from rfl)]
      exact ⟨s5, rfl, _, _, _, _, g5⟩
    · have grow := tk_grow hq k0
      rw [if_neg k0, if_neg (show ¬ nI (tk_K tx len q) = 0 from tk_Kn hK6 (by decide) k0)]
      simp only [sm_lt]
      -- a refusal
      have bad : ∀ s' fl, s'.1 102 3 = nI fl → px_Reader_readInto_N_b85 N (px_Reader_readInto_N_b17 N f) (nI it) s' = some ((-10 : Int32) - nI fl, s') := fun s' fl hf => by
        unfold px_Reader_readInto_N_b85 px_Reader_readInto_N_b86 px_Reader_readInto_N_b102
        simp only [sm_lt]
        rw [if_pos trivial, hf]
      have good : ∀ s', px_Reader_readInto_N_b81 N (px_Reader_readInto_N_b17 N f) (nI it) s' = px_Reader_readInto_N_b17 N f (nI (it + 1)) s' := fun s' => by
        unfold px_Reader_readInto_N_b81 px_Reader_readInto_N_b86
        simp only [sm_lt]
        rw [if_neg (show ¬ (1 : Int32) = 0 by decide), nI_1]
      by_cases k1 : tk_K tx len q = 1
      · rw [if_pos k1, k1, if_pos (show nI 1 = (1 : Int32) from rfl)]
        have b1 : ∀ s' fl, s'.1 102 3 = nI fl → px_Reader_readInto_N_b55 N (px_Reader_readInto_N_b17 N f) (nI it) (nI 1) s' = some ((-10 : Int32) - nI fl, s') := fun s' fl hf => by
          unfold px_Reader_readInto_N_b55 px_Reader_readInto_N_b68
          rw [if_neg (show ¬ nI 1 = (2 : Int32) by decide), if_neg (show ¬ nI 1 = (3 : Int32) by decide), bad s' fl hf]
        by_cases c4 : nc < 4
        · rw [if_pos c4]
          obtain ⟨s', hC⟩ := xr_clothN (N := N) hN g5 hT hle c4
          cases eC : itC tx len (tk_e tx len q) with
          | inl fl =>
            rw [eC] at hC
            obtain ⟨c1, ⟨pl, va', c2⟩, c3⟩ := hC
            rw [c1, sm_b2s, if_pos (show nI 0 = 0 from rfl), b1 s' fl c3]
            exact ⟨s', rfl, _, _, _, _, c2⟩
          | inr q' =>
            rw [eC] at hC
            obtain ⟨⟨va', c1, c2⟩, _⟩ := hC
            obtain ⟨q1, q2, _⟩ := itC_le hle eC
            rw [c1, sm_b2s, if_neg z1, good]
            exact ih q' (nc + 1) nt (it + 1) _ co hr f s' va' (by omega) (by omega) q2 (by omega) ht (by omega) c2
        · rw [if_neg c4]
          have ec : px_Reader_clothItem_N N s5 = some (nI 0, s5) := by
            unfold px_Reader_clothItem_N
            rw [if_pos (show (4 : Int32) ≤ s5.1 102 6 by rw [g5.2.2.2.2.2.1]; exact nI_le (a := 4) (by omega) (by omega))]
            rfl
          rw [ec, sm_b2s, if_pos (show nI 0 = 0 from rfl), b1 s5 _ p5]
          exact ⟨s5, rfl, _, _, _, _, g5⟩
      · rw [if_neg k1, if_neg (show ¬ nI (tk_K tx len q) = (1 : Int32) from tk_Kn hK6 (by decide) k1)]
        unfold px_Reader_readInto_N_b55
        by_cases k2 : tk_K tx len q = 2
        · rw [if_pos k2, k2, if_pos (show nI 2 = (2 : Int32) from rfl)]
          have b2 : ∀ s' fl, s'.1 102 3 = nI fl → px_Reader_readInto_N_b68 N (px_Reader_readInto_N_b17 N f) (nI it) (nI 2) s' = some ((-10 : Int32) - nI fl, s') := fun s' fl hf => by
            unfold px_Reader_readInto_N_b68
            rw [if_neg (show ¬ nI 2 = (3 : Int32) by decide), bad s' fl hf]
          by_cases t4 : nt < 4
          · rw [if_pos t4]
            obtain ⟨s', hC⟩ := xr_thingN (N := N) hN g5 hT hle t4
            cases eC : itT tx len (tk_e tx len q) with
            | inl fl =>
              rw [eC] at hC
              obtain ⟨c1, ⟨pl, va', c2⟩, c3⟩ := hC
              rw [c1, sm_b2s, if_pos (show nI 0 = 0 from rfl), b2 s' fl c3]
              exact ⟨s', rfl, _, _, _, _, c2⟩
            | inr q' =>
              rw [eC] at hC
              obtain ⟨⟨va', c1, c2⟩, _⟩ := hC
              obtain ⟨q1, q2, _⟩ := itT_le hle eC
              rw [c1, sm_b2s, if_neg z1, good]
              exact ih q' nc (nt + 1) (it + 1) cl _ hr f s' va' (by omega) (by omega) q2 hc (by omega) (by omega) c2
          · rw [if_neg t4]
            have ec : px_Reader_thingItem_N N s5 = some (nI 0, s5) := by
              unfold px_Reader_thingItem_N
              rw [if_pos (show (4 : Int32) ≤ s5.1 102 7 by rw [g5.2.2.2.2.2.2]; exact nI_le (a := 4) (by omega) (by omega))]
              rfl
            rw [ec, sm_b2s, if_pos (show nI 0 = 0 from rfl), b2 s5 _ p5]
            exact ⟨s5, rfl, _, _, _, _, g5⟩
        · rw [if_neg k2, if_neg (show ¬ nI (tk_K tx len q) = (2 : Int32) from tk_Kn hK6 (by decide) k2)]
          unfold px_Reader_readInto_N_b68
          by_cases k3 : tk_K tx len q = 3
          · rw [if_pos k3, k3, if_pos (show nI 3 = (3 : Int32) from rfl)]
            obtain ⟨s', hC⟩ := xr_touchN (N := N) hN g5 hT hle hc ht
            cases eC : itU tx len nc nt (tk_e tx len q) with
            | inl fl =>
              rw [eC] at hC
              obtain ⟨c1, ⟨pl, va', c2⟩, c3⟩ := hC
              rw [c1, sm_b2s, if_pos (show nI 0 = 0 from rfl), bad s' fl c3]
              exact ⟨s', rfl, _, _, _, _, c2⟩
            | inr q' =>
              rw [eC] at hC
              obtain ⟨⟨va', c1, c2⟩, _⟩ := hC
              obtain ⟨q1, q2, _⟩ := itU_le hle eC
              rw [c1, sm_b2s, if_neg z1, good]
              exact ih q' nc nt (it + 1) cl co _ f s' va' (by omega) (by omega) q2 hc ht (by omega) c2
          · rw [if_neg k3, if_neg (show ¬ nI (tk_K tx len q) = (3 : Int32) from tk_Kn hK6 (by decide) k3), bad s5 _ p5]
            exact ⟨s5, rfl, _, _, _, _, g5⟩
/-- shades by what was read -/
def rw_ (cl : Nat → Nat) (c : Nat) : Nat := if c = 4 then 1 else cl (3 * c + 2)
/-- the house while it is read, the built side -/
def hp2 (X0 X : sm_St) (nc nt : Nat) (cl co hr : Nat → Nat) : Prop := (X.1 1 9 = nI nc ∧ X.1 1 10 = nI nt ∧ X.1 1 11 = nI 0 ∧ X.1 1 12 = nI 0 ∧ X.1 1 13 = X0.1 1 13) ∧ (∀ i, i < nc → X.1 2 i = nI (cl (3 * i)) ∧ X.1 3 i = nI (cl (3 * i + 1)) ∧ X.1 4 i = nI 0 ∧ X.1 5 i = nI 12) ∧ (∀ t, t < nt → X.1 6 t = nI (co t)) ∧ hrw X 7 hr ∧ xsh X 12 nc (rw_ cl) ∧ (∀ p, ¬ (1 ≤ p ∧ p ≤ 13) → p ≠ 102 → X.1 p = X0.1 p) ∧ X.2 = X0.2
theorem hp2_102 {X' : sm_St} {nc nt : Nat} {cl co hr : Nat → Nat} (h : hp2 X0 X nc nt cl co hr) (f : ∀ p, p ≠ 102 → X'.1 p = X.1 p) (f2 : X'.2 = X.2) : hp2 X0 X' nc nt cl co hr := by
  obtain ⟨h1, h2, h3, h4, h5, h6, h7⟩ := h
  refine ⟨by rw [f 1 (by decide)]; exact h1, fun i hi => by rw [f 2 (by decide), f 3 (by decide), f 4 (by decide), f 5 (by decide)]; exact h2 i hi, fun t ht => by rw [f 6 (by decide)]; exact h3 t ht, fun i z hi hz => by rw [f _ (by omega)]; exact h4 i z hi hz, xsh_fr (f 12 (by decide)) (f 13 (by decide)) h5, fun p p1 p2 => by rw [f p p2]; exact h6 p p1 p2, by rw [f2]; exact h7⟩
theorem rdS_self {pl nc nt : Nat} {va : Int32} {s' : sm_St} (h : rdS X s len pl va nc nt) (e : s'.1 102 = s.1 102) : rdS s' s' len pl va nc nt := by
  obtain ⟨h1, h2, h3, h4, h5, h6, h7⟩ := h
  exact ⟨fun _ _ => rfl, rfl, by rw [e]; exact h3, by rw [e]; exact h4, by rw [e]; exact h5, by rw [e]; exact h6, by rw [e]; exact h7⟩
theorem up3_3 {cl : Nat → Nat} {n x y z i : Nat} (k : Nat) (hk : k < 3) (hi : i ≠ n) : up3 cl n x y z (3 * i + k) = cl (3 * i + k) := by
  unfold up3
  rw [ne_up_n (by omega), ne_up_n (by omega), ne_up_n (by omega)]
theorem up3_s {cl : Nat → Nat} {n x y z : Nat} : up3 cl n x y z (3 * n) = x ∧ up3 cl n x y z (3 * n + 1) = y ∧ up3 cl n x y z (3 * n + 2) = z := by
  unfold up3
  refine ⟨by rw [ne_up_n (by omega), ne_up_n (by omega), ne_up_s], by rw [ne_up_n (by omega), ne_up_s], ne_up_s⟩
/-- and it reads into the house -/
theorem xr_p2 (hN : 4000 ≤ N) (hT : rdT X0 tx len) : ∀ d q nc nt it cl co hr f s va r, len - q < d → it ≤ q → q ≤ len → nc ≤ 4 → nt ≤ 4 → d ≤ f → rdS s s len q va nc nt → hp2 X0 s nc nt cl co hr → pz tx len d q nc nt it cl co hr = .inr r → ∃ s', px_Reader_readInto_b17 N 1 f (nI it) s = some (nI r.1, s') ∧ hp2 X0 s' r.2.1 r.2.2.1 r.2.2.2.1 r.2.2.2.2.1 r.2.2.2.2.2 ∧ s'.1 102 1 = nI len := by
  have hl := hT.1
  have z1 : ¬ (nI 1 = 0) := by decide
  intro d
  induction d with
  | zero => intro q nc nt it cl co hr f s va r h1; omega
  | succ d ih =>
    intro q nc nt it cl co hr f s va r h1 h2 hq hc ht hf h hp hz
    obtain ⟨f, rfl⟩ : ∃ g, f = g + 1 := ⟨f - 1, by omega⟩
    have hTs : rdT s tx len := ⟨hl, fun k hk => by rw [hp.2.2.2.2.2.1 103 (by omega) (by decide)]; exact hT.2 k hk⟩
    obtain ⟨s5, va5, e5, g5, p5, t5, _, _⟩ := xr_next (N := N) hN h hTs hq
    have hK6 := tk_K_6 tx len q
    have l200 : ¬ (200 : Int32) < nI it := nI_nlt (a := 200) (by omega) (by decide)
    have hle := tk_e_le (tx := tx) hq
    have hp5 := hp2_102 hp g5.1 g5.2.1
    rw [px_Reader_readInto_b17, if_neg l200, e5, sm_b1s, t5]
    rw [pz] at hz
    by_cases k0 : tk_K tx len q = 0
    · rw [if_pos k0] at hz
      cases hz
      rw [k0, if_pos (show nI 0 = 0 from rfl)]
      exact ⟨s5, rfl, hp5, g5.2.2.1⟩
    · have grow := tk_grow hq k0
      rw [if_neg k0] at hz
      rw [if_neg (show ¬ nI (tk_K tx len q) = 0 from tk_Kn hK6 (by decide) k0)]
      simp only [sm_lt]
      have good : ∀ s', px_Reader_readInto_b81 N 1 (px_Reader_readInto_b17 N 1 f) (nI it) s' = px_Reader_readInto_b17 N 1 f (nI (it + 1)) s' := fun s' => by
        unfold px_Reader_readInto_b81 px_Reader_readInto_b86
        simp only [sm_lt]
        rw [if_neg (show ¬ (1 : Int32) = 0 by decide), nI_1]
      by_cases k1 : tk_K tx len q = 1
      · rw [if_pos k1] at hz
        rw [k1, if_pos (show nI 1 = (1 : Int32) from rfl)]
        by_cases c4 : nc < 4
        · rw [if_pos c4] at hz
          obtain ⟨_, hC⟩ := xr_clothN (N := N) hN g5 hTs hle c4
          cases eC : itC tx len (tk_e tx len q) with
          | inl fl => rw [eC] at hz; cases hz
          | inr q' =>
            rw [eC] at hC hz
            obtain ⟨_, s2, va2, c1, c2⟩ := hC
            obtain ⟨q1, q2, n1, n2, n3⟩ := itC_le hle eC
            have hp6 := hp2_102 hp c2.1 c2.2.1
            have b3 := (of_decide_eq_true n3).2
            generalize tk_v tx len (tk_e tx len q) = x at *
            generalize tk_v tx len (tk_e tx len (tk_e tx len q)) = y at *
            generalize tk_v tx len (tk_e tx len (tk_e tx len (tk_e tx len q))) = z at *
            obtain ⟨⟨a1, a2, a3, a4, a5⟩, a6, a7, a8, a9, a10, a11⟩ := hp6
            obtain ⟨X', ex, x1, x2, x3, x4, x5, x6, x7, x8, x9, x10, x11⟩ := xq_addCloth (N := N) (X := s2) (kd := x) (hd := y) (sh := z) hN c4 b3 a1 a9
            have hp7 : hp2 X0 X' (nc + 1) nt (up3 cl nc x y z) co hr := by
              refine ⟨⟨x1, by rw [x3 10 (by decide) (by decide)]; exact a2, by rw [x3 11 (by decide) (by decide)]; exact a3, x2, by rw [x3 13 (by decide) (by decide)]; exact a5⟩, fun i hi => ?_, fun t ht => by rw [x10 6 (by omega) (by decide)]; exact a7 t ht, fun i z hi hz => by rw [x10 _ (by omega) (by omega)]; exact a8 i z hi hz, ?_, fun p p1 p2 => by rw [x10 p (by omega) (by omega)]; exact a10 p p1 p2, by rw [x11]; exact a11⟩
              · obtain ⟨u0, u1, u2⟩ := up3_s (cl := cl) (n := nc) (x := x) (y := y) (z := z)
                by_cases e : i = nc
                · rw [e, u0, u1]
                  exact ⟨x4, x5, x6, x7⟩
                · have v0 := up3_3 (cl := cl) (n := nc) (x := x) (y := y) (z := z) (i := i) 0 (by decide) e
                  have v1 := up3_3 (cl := cl) (n := nc) (x := x) (y := y) (z := z) (i := i) 1 (by decide) e
                  rw [Nat.add_zero] at v0
                  rw [v0, v1, x8 2 i (by omega) e, x8 3 i (by omega) e, x8 4 i (by omega) e, x8 5 i (by omega) e]
                  exact a6 i (by omega)
              · refine xsh_eq (by omega) (fun c hc => ?_) x9
                obtain ⟨u0, u1, u2⟩ := up3_s (cl := cl) (n := nc) (x := x) (y := y) (z := z)
                unfold rw_
                by_cases c4' : c = 4
                · rw [if_pos c4', ne_up_n (by omega), if_pos c4']
                · rw [if_neg c4']
                  by_cases e : c = nc
                  · rw [e, ne_up_s, if_pos rfl, Nat.one_mul, u2]
                  · rw [ne_up_n e, if_neg c4', up3_3 2 (by decide) e]
            have g7 : rdS X' X' len q' va2 (nc + 1) nt := rdS_self c2 (x10 102 (by omega) (by decide))
            rw [c1, ex, sm_b1s, sm_b2s, if_neg (show ¬ (1 : Int32) = 0 by decide), good]
            exact ih q' (nc + 1) nt (it + 1) _ co hr f X' va2 r (by omega) (by omega) q2 (by omega) ht (by omega) g7 hp7 hz
        · rw [if_neg c4] at hz; cases hz
      · rw [if_neg k1] at hz
        rw [if_neg (show ¬ nI (tk_K tx len q) = (1 : Int32) from tk_Kn hK6 (by decide) k1)]
        unfold px_Reader_readInto_b55
        by_cases k2 : tk_K tx len q = 2
        · rw [if_pos k2] at hz
          rw [k2, if_pos (show nI 2 = (2 : Int32) from rfl)]
          by_cases t4 : nt < 4
          · rw [if_pos t4] at hz
            obtain ⟨_, hC⟩ := xr_thingN (N := N) hN g5 hTs hle t4
            cases eC : itT tx len (tk_e tx len q) with
            | inl fl => rw [eC] at hz; cases hz
            | inr q' =>
              rw [eC] at hC hz
              obtain ⟨_, s2, va2, c1, c2⟩ := hC
              obtain ⟨q1, q2, n1⟩ := itT_le hle eC
              have hp6 := hp2_102 hp c2.1 c2.2.1
              generalize tk_v tx len (tk_e tx len q) = x at *
              obtain ⟨⟨a1, a2, a3, a4, a5⟩, a6, a7, a8, a9, a10, a11⟩ := hp6
              have ex : px_House_addThing N s2 1 (nI x) = some (sm_sI (sm_sI s2 6 nt (nI x)) 1 10 (nI (nt + 1))) := by
                unfold px_House_addThing
                simp (disch := omega) only [sm_lt, sm_b1s, sm_b2s, ↓reduceIte, sm_in_nI, nI_clamp, nI_add, pk_mul, pk_sub, ne_addneg, nI_l, ne_ltT, ne_ltF, ne_leT, ne_leF, ne_eqT, ne_eqF, ne_sI1s, ne_sI1n, ne_sI2, ne_sI3, ne_sL1, ne_sL2s, ne_sL2n, ne_sL3, pk_us, pk_un, pk_uLs, pk_uLn, mm_Z, mm_L, mm_1, mm_2, mm_3, ne_rz0, ne_rz1, not_true_eq_false, not_false_eq_true, ne_i0, ne_i1, ne_i2, ne_i3, ne_i4, ne_i5, ne_i6, ne_i7, ne_i8, ne_i9, ne_i10, ne_i12, ne_i14, ne_i16, ne_i18, ne_i19, ne_i20, ne_i23, ne_i24, ne_i27, ne_i29, ne_i30, ne_i31, ne_i32, ne_i35, ne_i48, ne_i52, ne_i54, ne_i57, ne_i59, ne_i63, ne_i64, ne_i76, ne_i77, ne_i78, ne_i79, ne_i80, ne_i81, ne_i97, ne_i99, ne_i100, ne_i101, ne_i104, ne_i105, ne_i108, ne_i110, ne_i111, ne_i116, ne_i117, ne_i122, ne_i103, ne_i200, ne_i255, ne_i256, ne_i320, ne_i384, ne_i1000, ne_l0, ne_l1, ne_l2, ne_l3, ne_l4, ne_l5, ne_l8, ne_l12, ne_l31, ne_l48, ne_l57, ne_l97, ne_l99, ne_l122, ne_l255, ne_l673, ne_l1073741823, ne_l1073741824, a2]
              have fX : ∀ p, p ≠ 1 → p ≠ 6 → (sm_sI (sm_sI s2 6 nt (nI x)) 1 10 (nI (nt + 1))).1 p = s2.1 p := fun p p1 p6 => by rw [ne_sI1n p1, ne_sI1n p6]
              have hp7 : hp2 X0 (sm_sI (sm_sI s2 6 nt (nI x)) 1 10 (nI (nt + 1))) nc (nt + 1) cl (va_up co nt x) hr := by
                refine ⟨?_, fun i hi => by rw [fX 2 (by decide) (by decide), fX 3 (by decide) (by decide), fX 4 (by decide) (by decide), fX 5 (by decide) (by decide)]; exact a6 i hi, fun t ht => ?_, fun i z hi hz => by rw [fX _ (by omega) (by omega)]; exact a8 i z hi hz, xsh_fr (fX 12 (by decide) (by decide)) (fX 13 (by decide) (by decide)) a9, fun p p1 p2 => by rw [fX p (by omega) (by omega)]; exact a10 p p1 p2, a11⟩
                · rw [ne_sI1s, ne_sI1n (by decide), pk_un (by decide), pk_us, pk_un (by decide), pk_un (by decide), pk_un (by decide)]
                  exact ⟨a1, rfl, a3, a4, a5⟩
                · rw [ne_sI1n (by decide), ne_sI1s]
                  by_cases e : t = nt
                  · rw [e, pk_us, ne_up_s]
                  · rw [pk_un e, ne_up_n e]
                    exact a7 t (by omega)
              generalize sm_sI (sm_sI s2 6 nt (nI x)) 1 10 (nI (nt + 1)) = X' at *
              have g7 : rdS X' X' len q' va2 nc (nt + 1) := rdS_self c2 (fX 102 (by decide) (by decide))
              rw [c1, ex, sm_b1s, sm_b2s, if_neg (show ¬ (1 : Int32) = 0 by decide), good]
              exact ih q' nc (nt + 1) (it + 1) cl _ hr f X' va2 r (by omega) (by omega) q2 hc (by omega) (by omega) g7 hp7 hz
          · rw [if_neg t4] at hz; cases hz
        · rw [if_neg k2] at hz
          rw [if_neg (show ¬ nI (tk_K tx len q) = (2 : Int32) from tk_Kn hK6 (by decide) k2)]
          unfold px_Reader_readInto_b68
          by_cases k3 : tk_K tx len q = 3
          · rw [if_pos k3] at hz
            rw [k3, if_pos (show nI 3 = (3 : Int32) from rfl)]
            obtain ⟨_, hC⟩ := xr_touchN (N := N) hN g5 hTs hle hc ht
            cases eC : itU tx len nc nt (tk_e tx len q) with
            | inl fl => rw [eC] at hz; cases hz
            | inr q' =>
              rw [eC] at hC hz
              obtain ⟨_, s2, va2, c1, c2⟩ := hC
              obtain ⟨q1, q2, nA, nB, n3⟩ := itU_le hle eC
              unfold itA at nA
              unfold itB at nB
              rw [Bool.and_eq_true] at nA
              rw [Bool.and_eq_true, Bool.and_eq_true, Bool.and_eq_true] at nB
              have bx := (of_decide_eq_true nA.1).2
              have by' := (of_decide_eq_true nB.1.1.1).2
              have hp6 := hp2_102 hp c2.1 c2.2.1
              generalize tk_v tx len (tk_e tx len q) = x at *
              generalize tk_v tx len (tk_e tx len (tk_e tx len q)) = y at *
              generalize tk_v tx len (tk_e tx len (tk_e tx len (tk_e tx len q))) = z at *
              obtain ⟨⟨a1, a2, a3, a4, a5⟩, a6, a7, a8, a9, a10, a11⟩ := hp6
              obtain ⟨X', ex, x1, x2, x3⟩ := xq_ph (N := N) (n := z) (q := 7) (Or.inl rfl) a8 (show x < 8 by omega) (show y < 8 by omega)
              have hp7 : hp2 X0 X' nc nt cl co (sp_ph hr x y z) := by
                refine ⟨?_, fun i hi => by rw [x2 2 (by omega), x2 3 (by omega), x2 4 (by omega), x2 5 (by omega)]; exact a6 i hi, fun t ht => by rw [x2 6 (by omega)]; exact a7 t ht, x1, xsh_fr (x2 12 (by omega)) (x2 13 (by omega)) a9, fun p p1 p2 => by rw [x2 p (by omega)]; exact a10 p p1 p2, by rw [x3]; exact a11⟩
                rw [x2 1 (by omega)]
                exact ⟨a1, a2, a3, a4, a5⟩
              have g7 : rdS X' X' len q' va2 nc nt := rdS_self c2 (x2 102 (by omega))
              rw [c1, ex, sm_b1s, sm_b2s, if_neg (show ¬ (1 : Int32) = 0 by decide), good]
              exact ih q' nc nt (it + 1) cl co _ f X' va2 r (by omega) (by omega) q2 hc ht (by omega) g7 hp7 hz
          · rw [if_neg k3] at hz; cases hz
end
