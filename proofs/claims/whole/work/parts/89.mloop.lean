section
variable {N : Nat} {M0 M S : sm_St} {v tx : Nat → Nat} {len q nc nt cn : Nat} {cl co hr : Nat → Nat}
/-- after an item, its stop -/
theorem md_end {it : Nat} {r : Int32 → sm_St → Option (Int32 × sm_St)} (hN : 4000 ≤ N) (hT : lkT M0 tx len) (hq : q ≤ len) (h : mdS M0 M S v tx len q nc nt cn cl co hr) : (tk_s tx len q = true → ∃ M' S', (if (S.1 0 24) = (3 : Int32) then (sm_b1 (pm_goOn N S) (fun (S_11 : sm_St) => sm_lt (nI it + (1 : Int32)) (fun (v1_12 : Int32) => r v1_12 S_11))) else (pm_read_b60 N S)) = r (nI (it + 1)) S' ∧ mdS M0 M' S' v tx len (tk_e tx len q) nc nt cn cl co hr) ∧ (tk_s tx len q = false → (if (S.1 0 24) = (3 : Int32) then (sm_b1 (pm_goOn N S) (fun (S_11 : sm_St) => sm_lt (nI it + (1 : Int32)) (fun (v1_12 : Int32) => r v1_12 S_11))) else (pm_read_b60 N S)) = some ((-10 : Int32) - nI (tk_p tx len q), S)) := by
  have s0 := (mdS_S h).1
  obtain ⟨k1, k2, k3, k4⟩ := tk_KM tx len q
  have m24 : S.1 0 24 = nI (tk_M tx len q) := by rw [s0]; exact h.2.1.2.2.1
  refine ⟨fun e => ?_, fun e => ?_⟩
  · have m3 := k3.mp (of_decide_eq_true e)
    rw [m24, m3, if_pos (show nI 3 = (3 : Int32) from rfl)]
    obtain ⟨M', S', e1, g1, _⟩ := md_goOn (N := N) hN hT hq h
    rw [e1, sm_b1s]
    simp only [sm_lt]
    rw [nI_1]
    exact ⟨M', S', rfl, g1⟩
  · have m3 : ¬ tk_M tx len q = 3 := fun z => of_decide_eq_false e (k3.mpr z)
    rw [m24, if_neg (show ¬ nI (tk_M tx len q) = (3 : Int32) from fun z => m3 ((nI_eq (b := 3) (by omega) (by decide)).mp z))]
    unfold pm_read_b60
    rw [s0, h.2.1.1]
/-- which item -/
theorem md_item (hN : 4000 ≤ N) (hT : lkT M0 tx len) (hq : q ≤ len) (h : mdS M0 M S v tx len q nc nt cn cl co hr) : (tk_K tx len q = 1 → ∀ b S', pm_readsCloth N S = some (nI (sp_b b), S') → pm_readsItem N S = some (nI (sp_b b), S')) ∧ (tk_K tx len q = 2 → ∀ b S', pm_readsThing N S = some (nI (sp_b b), S') → pm_readsItem N S = some (nI (sp_b b), S')) ∧ (tk_K tx len q = 3 → ∀ b S', pm_readsTouch N S = some (nI (sp_b b), S') → pm_readsItem N S = some (nI (sp_b b), S')) ∧ (¬ tk_K tx len q = 1 → ¬ tk_K tx len q = 2 → ¬ tk_K tx len q = 3 → pm_readsItem N S = some (nI 0, S)) := by
  obtain ⟨w1, w2, w3⟩ := tk_Kw tx len q
  have e1 : pm_isWord N S (99 : Int32) (108 : Int32) (111 : Int32) (116 : Int32) (104 : Int32) = _ := md_isWord (N := N) (w := 0) hN hT hq (by decide) h
  have e2 : pm_isWord N S (116 : Int32) (104 : Int32) (105 : Int32) (110 : Int32) (103 : Int32) = _ := md_isWord (N := N) (w := 1) hN hT hq (by decide) h
  have e3 : pm_isWord N S (116 : Int32) (111 : Int32) (117 : Int32) (99 : Int32) (104 : Int32) = _ := md_isWord (N := N) (w := 2) hN hT hq (by decide) h
  have z1 : ¬ (nI 1 = 0) := by decide
  have z0 : nI 0 = 0 := rfl
  have bT : nI (sp_b true) = nI 1 := rfl
  have bF : nI (sp_b false) = nI 0 := rfl
  generalize (decide (tk_M tx len q = 1 ∧ tk_l tx len q = 5) && tk_sp tx (tk_p tx len q) 0 5) = b1 at *
  generalize (decide (tk_M tx len q = 1 ∧ tk_l tx len q = 5) && tk_sp tx (tk_p tx len q) 1 5) = b2 at *
  generalize (decide (tk_M tx len q = 1 ∧ tk_l tx len q = 5) && tk_sp tx (tk_p tx len q) 2 5) = b3 at *
  have rz : ∀ (b : Bool) (S' : sm_St), sm_rz (nI (sp_b b)) S' = some (nI (sp_b b), S') := fun b S' => by cases b <;> rfl
  unfold pm_readsItem
  rw [e1, sm_b2s]
  refine ⟨fun k b S' e => ?_, fun k b S' e => ?_, fun k b S' e => ?_, fun n1 n2 n3 => ?_⟩
  · rw [w1.mp k, bT, if_neg z1, e, sm_b2s, rz]
  · obtain ⟨q1, q2⟩ := w2.mp k
    rw [q1, bF, if_pos z0, e2, sm_b2s, q2, bT, if_neg z1, e, sm_b2s, rz]
  · obtain ⟨q1, q2, q3⟩ := w3.mp k
    rw [q1, bF, if_pos z0, e2, sm_b2s, q2, bF, if_pos z0, e3, sm_b2s, q3, bT, if_neg z1, e, sm_b2s]
    cases b with
    | false => rw [bF, if_pos z0]; rfl
    | true => rw [bT, if_neg z1]; rfl
  · cases b1 with
    | true => exact absurd (w1.mpr rfl) n1
    | false =>
      cases b2 with
      | true => exact absurd (w2.mpr ⟨rfl, rfl⟩) n2
      | false =>
        cases b3 with
        | true => exact absurd (w3.mpr ⟨rfl, rfl, rfl⟩) n3
        | false => rw [bF, if_pos z0, e2, sm_b2s, bF, if_pos z0, e3, sm_b2s, bF, if_pos z0]; rfl
/-- the whole text, the reference -/
theorem md_loop (hN : 4000 ≤ N) (hT : lkT M0 tx len) : ∀ d q nc nt it cl co hr f M S, len - q < d → q ≤ len → nc ≤ 4 → nt ≤ 4 → d ≤ f → mdS M0 M S v tx len q nc nt (3 * nc) cl co hr → ∃ M' S', (match pz tx len d q nc nt it cl co hr with | .inl fl => pm_read_b38 N f (nI it) S = some ((-10 : Int32) - nI fl, S') ∧ mdE M0 M' S' v | .inr r => pm_read_b38 N f (nI it) S = sm_b1 (pm_putRead N S') (fun (S_8 : sm_St) => some (nI r.1, S_8)) ∧ ∃ q', mdS M0 M' S' v tx len q' r.2.1 r.2.2.1 (3 * r.2.1) r.2.2.2.1 r.2.2.2.2.1 r.2.2.2.2.2) := by
  have z1 : ¬ (nI 1 = 0) := by decide
  have z0 : nI 0 = 0 := rfl
  have bT : nI (sp_b true) = nI 1 := rfl
  intro d
  induction d with
  | zero => intro q nc nt it cl co hr f M S h1; omega
  | succ d ih =>
    intro q nc nt it cl co hr f M S h1 hq hc ht hf h
    obtain ⟨f, rfl⟩ : ∃ g, f = g + 1 := ⟨f - 1, by omega⟩
    have hle := tk_e_le (tx := tx) hq
    obtain ⟨i1, i2, i3, i4⟩ := md_item (N := N) hN hT hq h
    obtain ⟨k1, k2, k3, k4⟩ := tk_KM tx len q
    have s0 := (mdS_S h).1
    have m24 : S.1 0 24 = nI (tk_M tx len q) := by rw [s0]; exact h.2.1.2.2.1
    have m22 : S.1 0 22 = nI (tk_p tx len q) := by rw [s0]; exact h.2.1.1
    rw [pm_read_b38, m24, pz]
    by_cases k0 : tk_K tx len q = 0
    · rw [if_pos k0, k2.mp k0, if_pos z0]
      exact ⟨M, S, rfl, q, h⟩
    · have grow := tk_grow hq k0
      rw [if_neg k0, if_neg (show ¬ nI (tk_M tx len q) = 0 from fun z => k0 (k2.mpr ((nI_eq (b := 0) (by omega) (by decide)).mp z)))]
      -- a refusal
      have bad : ∀ S' fl, S'.1 0 22 = nI fl → pm_read_b60 N S' = some ((-10 : Int32) - nI fl, S') := fun S' fl hf => by
        unfold pm_read_b60
        rw [hf]
      by_cases c1 : tk_K tx len q = 1
      · rw [if_pos c1]
        by_cases c4 : nc < 4
        · rw [if_pos c4]
          obtain ⟨M1, S1, hC | hC⟩ := md_cloth (N := N) hN hT hq c4 h
          · obtain ⟨a1, a2, a3, e1, g1⟩ := hC
            rw [i1 c1 true S1 e1, sm_b2s, bT, if_neg z1]
            have l2 := tk_e_le (tx := tx) hle
            have l3 := tk_e_le (tx := tx) l2
            have l4 := tk_e_le (tx := tx) l3
            obtain ⟨y1, y2⟩ := md_end (N := N) (it := it) (r := pm_read_b38 N f) hN hT l4 g1
            cases eS : tk_s tx len (tk_e tx len (tk_e tx len (tk_e tx len (tk_e tx len q)))) with
            | true =>
              have eC : itC tx len (tk_e tx len q) = .inr (tk_e tx len (tk_e tx len (tk_e tx len (tk_e tx len (tk_e tx len q))))) := by unfold itC; rw [if_pos a1, if_pos a2, if_pos a3, if_pos eS]
              rw [eC]
              obtain ⟨M2, S2, e2, g2⟩ := y1 eS
              obtain ⟨q1, q2, _⟩ := itC_le hle eC
              rw [e2]
              exact ih _ (nc + 1) nt (it + 1) _ co hr f M2 S2 (by omega) q2 (by omega) ht (by omega) g2
            | false =>
              have eC : itC tx len (tk_e tx len q) = .inl (tk_p tx len (tk_e tx len (tk_e tx len (tk_e tx len (tk_e tx len q))))) := by unfold itC; rw [if_pos a1, if_pos a2, if_pos a3, eS, if_neg Bool.false_ne_true]
              rw [eC, y2 eS]
              exact ⟨M1, S1, rfl, g1.1⟩
          · obtain ⟨fl, eC, e1, g1, g2⟩ := hC
            rw [eC, i1 c1 false S1 e1, sm_b2s]
            exact ⟨M1, S1, by rw [if_pos (show nI (sp_b false) = 0 from rfl), bad S1 fl g2], g1⟩
        · rw [if_neg c4]
          have ec : pm_readsCloth N S = some (nI (sp_b false), S) := by
            unfold pm_readsCloth
            rw [s0, h.2.2.1, if_pos (show nI nc = (4 : Int32) by rw [show nc = 4 by omega]; rfl)]
            rfl
          rw [i1 c1 false S ec, sm_b2s]
          exact ⟨M, S, by rw [if_pos (show nI (sp_b false) = 0 from rfl), bad S _ m22], h.1⟩
      · rw [if_neg c1]
        by_cases c2 : tk_K tx len q = 2
        · rw [if_pos c2]
          by_cases t4 : nt < 4
          · rw [if_pos t4]
            obtain ⟨M1, S1, hC | hC⟩ := md_thing (N := N) hN hT hq t4 h
            · obtain ⟨a1, e1, g1⟩ := hC
              rw [i2 c2 true S1 e1, sm_b2s, bT, if_neg z1]
              have l2 := tk_e_le (tx := tx) hle
              obtain ⟨y1, y2⟩ := md_end (N := N) (it := it) (r := pm_read_b38 N f) hN hT l2 g1
              cases eS : tk_s tx len (tk_e tx len (tk_e tx len q)) with
              | true =>
                have eC : itT tx len (tk_e tx len q) = .inr (tk_e tx len (tk_e tx len (tk_e tx len q))) := by unfold itT; rw [if_pos a1, if_pos eS]
                rw [eC]
                obtain ⟨M2, S2, e2, g2⟩ := y1 eS
                obtain ⟨q1, q2, _⟩ := itT_le hle eC
                rw [e2]
                exact ih _ nc (nt + 1) (it + 1) cl _ hr f M2 S2 (by omega) q2 hc (by omega) (by omega) g2
              | false =>
                have eC : itT tx len (tk_e tx len q) = .inl (tk_p tx len (tk_e tx len (tk_e tx len q))) := by unfold itT; rw [if_pos a1, eS, if_neg Bool.false_ne_true]
                rw [eC, y2 eS]
                exact ⟨M1, S1, rfl, g1.1⟩
            · obtain ⟨fl, eC, e1, g1, g2⟩ := hC
              rw [eC, i2 c2 false S1 e1, sm_b2s]
              exact ⟨M1, S1, by rw [if_pos (show nI (sp_b false) = 0 from rfl), bad S1 fl g2], g1⟩
          · rw [if_neg t4]
            have ec : pm_readsThing N S = some (nI (sp_b false), S) := by
              unfold pm_readsThing
              rw [s0, h.2.2.2.1, if_pos (show nI nt = (4 : Int32) by rw [show nt = 4 by omega]; rfl)]
              rfl
            rw [i2 c2 false S ec, sm_b2s]
            exact ⟨M, S, by rw [if_pos (show nI (sp_b false) = 0 from rfl), bad S _ m22], h.1⟩
        · rw [if_neg c2]
          by_cases c3 : tk_K tx len q = 3
          · rw [if_pos c3]
            obtain ⟨M1, S1, hC | hC⟩ := md_touch (N := N) hN hT hq hc ht h
            · obtain ⟨a1, a2, a3, e1, g1⟩ := hC
              rw [i3 c3 true S1 e1, sm_b2s, bT, if_neg z1]
              have l2 := tk_e_le (tx := tx) hle
              have l3 := tk_e_le (tx := tx) l2
              have l4 := tk_e_le (tx := tx) l3
              obtain ⟨y1, y2⟩ := md_end (N := N) (it := it) (r := pm_read_b38 N f) hN hT l4 g1
              cases eS : tk_s tx len (tk_e tx len (tk_e tx len (tk_e tx len (tk_e tx len q)))) with
              | true =>
                have eC : itU tx len nc nt (tk_e tx len q) = .inr (tk_e tx len (tk_e tx len (tk_e tx len (tk_e tx len (tk_e tx len q))))) := by unfold itU; rw [if_pos a1, if_pos a2, if_pos a3, if_pos eS]
                rw [eC]
                obtain ⟨M2, S2, e2, g2⟩ := y1 eS
                obtain ⟨q1, q2, _⟩ := itU_le hle eC
                rw [e2]
                exact ih _ nc nt (it + 1) cl co _ f M2 S2 (by omega) q2 hc ht (by omega) g2
              | false =>
                have eC : itU tx len nc nt (tk_e tx len q) = .inl (tk_p tx len (tk_e tx len (tk_e tx len (tk_e tx len (tk_e tx len q))))) := by unfold itU; rw [if_pos a1, if_pos a2, if_pos a3, eS, if_neg Bool.false_ne_true]
                rw [eC, y2 eS]
                exact ⟨M1, S1, rfl, g1.1⟩
            · obtain ⟨fl, eC, e1, g1, g2⟩ := hC
              rw [eC, i3 c3 false S1 e1, sm_b2s]
              exact ⟨M1, S1, by rw [if_pos (show nI (sp_b false) = 0 from rfl), bad S1 fl g2], g1⟩
          · rw [if_neg c3, i4 c1 c2 c3, sm_b2s]
            exact ⟨M, S, by rw [if_pos z0, bad S _ m22], h.1⟩
end
