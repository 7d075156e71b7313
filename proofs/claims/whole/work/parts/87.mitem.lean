/-! items, the reference's side -/
theorem tk_KM (tx : Nat → Nat) (len q : Nat) : (tk_K tx len q = 4 ↔ tk_M tx len q = 2) ∧ (tk_K tx len q = 0 ↔ tk_M tx len q = 0) ∧ (tk_K tx len q = 5 ↔ tk_M tx len q = 3) ∧ tk_M tx len q ≤ 4 := by
  have ew : tk_w tx len q ≠ 4 ∧ tk_w tx len q ≠ 0 ∧ tk_w tx len q ≠ 5 := by
    unfold tk_w
    repeat' split
    all_goals omega
  unfold tk_K tk_M
  by_cases lp : tk_p tx len q < len
  · rw [if_pos lp, if_pos lp]
    cases tk_lt (tx (tk_p tx len q)) with
    | true => rw [if_pos rfl, if_pos rfl]; omega
    | false =>
      rw [if_neg Bool.false_ne_true, if_neg Bool.false_ne_true]
      cases tk_fg (tx (tk_p tx len q)) with
      | true =>
        rw [if_pos rfl, if_pos rfl]
        split <;> omega
      | false =>
        rw [if_neg Bool.false_ne_true, if_neg Bool.false_ne_true]
        split <;> omega
  · rw [if_neg lp, if_neg lp]
    omega
/-- the words by what the reference asks -/
theorem tk_Kw (tx : Nat → Nat) (len q : Nat) : (tk_K tx len q = 1 ↔ (decide (tk_M tx len q = 1 ∧ tk_l tx len q = 5) && tk_sp tx (tk_p tx len q) 0 5) = true) ∧ (tk_K tx len q = 2 ↔ (decide (tk_M tx len q = 1 ∧ tk_l tx len q = 5) && tk_sp tx (tk_p tx len q) 0 5) = false ∧ (decide (tk_M tx len q = 1 ∧ tk_l tx len q = 5) && tk_sp tx (tk_p tx len q) 1 5) = true) ∧ (tk_K tx len q = 3 ↔ (decide (tk_M tx len q = 1 ∧ tk_l tx len q = 5) && tk_sp tx (tk_p tx len q) 0 5) = false ∧ (decide (tk_M tx len q = 1 ∧ tk_l tx len q = 5) && tk_sp tx (tk_p tx len q) 1 5) = false ∧ (decide (tk_M tx len q = 1 ∧ tk_l tx len q = 5) && tk_sp tx (tk_p tx len q) 2 5) = true) := by
  unfold tk_K tk_M
  by_cases lp : tk_p tx len q < len
  · rw [if_pos lp, if_pos lp]
    cases tk_lt (tx (tk_p tx len q)) with
    | true =>
      rw [if_pos rfl, if_pos rfl]
      unfold tk_w
      by_cases l5 : tk_l tx len q = 5
      · rw [if_pos l5, decide_eq_true ⟨rfl, l5⟩, Bool.true_and, Bool.true_and, Bool.true_and]
        cases tk_sp tx (tk_p tx len q) 0 5 <;> cases tk_sp tx (tk_p tx len q) 1 5 <;> cases tk_sp tx (tk_p tx len q) 2 5 <;> simp
      · rw [if_neg l5, decide_eq_false (fun z => l5 z.2), Bool.false_and, Bool.false_and, Bool.false_and]
        simp
    | false =>
      rw [if_neg Bool.false_ne_true, if_neg Bool.false_ne_true]
      cases tk_fg (tx (tk_p tx len q)) with
      | true =>
        rw [if_pos rfl, if_pos rfl]
        split
        · rw [decide_eq_false (fun z => by omega), Bool.false_and, Bool.false_and, Bool.false_and]
          simp
        · rw [decide_eq_false (fun z => by omega), Bool.false_and, Bool.false_and, Bool.false_and]
          simp
      | false =>
        rw [if_neg Bool.false_ne_true, if_neg Bool.false_ne_true]
        split
        · rw [decide_eq_false (fun z => by omega), Bool.false_and, Bool.false_and, Bool.false_and]
          simp
        · rw [decide_eq_false (fun z => by omega), Bool.false_and, Bool.false_and, Bool.false_and]
          simp
  · rw [if_neg lp, if_neg lp, decide_eq_false (fun z => by omega), Bool.false_and, Bool.false_and, Bool.false_and]
    simp
/-- what else stays -/
def mdE (M0 M S : sm_St) (v : Nat → Nat) : Prop := nP M v S ∧ (∀ p, p ≠ 0 → p ≠ 18 → p ≠ 19 → p ≠ 20 → M.1 p = M0.1 p) ∧ ∀ k, k < 22 → M.1 0 k = M0.1 0 k
/-- the token at q, and what was read so far -/
def mdS (M0 M S : sm_St) (v tx : Nat → Nat) (len q nc nt cn : Nat) (cl co hr : Nat → Nat) : Prop := mdE M0 M S v ∧ (M.1 0 22 = nI (tk_p tx len q) ∧ M.1 0 23 = nI (tk_l tx len q) ∧ M.1 0 24 = nI (tk_M tx len q) ∧ (tk_M tx len q = 2 → M.1 0 25 = nI (tk_v tx len q))) ∧ M.1 0 29 = nI nc ∧ M.1 0 30 = nI nt ∧ (∀ k, k < cn → M.1 18 k = nI (cl k)) ∧ (∀ t, t < nt → M.1 20 t = nI (co t)) ∧ ∀ k, k < 32 → M.1 19 k = nI (hr k)
section
variable {N : Nat} {M0 M S : sm_St} {v tx : Nat → Nat} {len q nc nt cn : Nat} {cl co hr : Nat → Nat}
theorem mdS_S (h : mdS M0 M S v tx len q nc nt cn cl co hr) : S.1 0 = M.1 0 ∧ S.1 18 = M.1 18 ∧ S.1 19 = M.1 19 ∧ S.1 20 = M.1 20 := ⟨nP_1 h.1.1 (by decide), nP_1 h.1.1 (by decide), nP_1 h.1.1 (by decide), nP_1 h.1.1 (by decide)⟩
theorem mdS_T (h : mdE M0 M S v) (hT : lkT M0 tx len) : lkT M tx len := ⟨hT.1, by rw [h.2.2 21 (by decide)]; exact hT.2.1, fun k hk => by rw [h.2.1 17 (by decide) (by decide) (by decide) (by decide)]; exact hT.2.2 k hk⟩
/-- the token at r is looked up -/
theorem md_look {r : Nat} (hN : 4000 ≤ N) (hT : lkT M0 tx len) (hr' : r ≤ len) (h : mdE M0 M S v) (h29 : M.1 0 29 = nI nc) (h30 : M.1 0 30 = nI nt) (h18 : ∀ k, k < cn → M.1 18 k = nI (cl k)) (h20 : ∀ t, t < nt → M.1 20 t = nI (co t)) (h19 : ∀ k, k < 32 → M.1 19 k = nI (hr k)) : ∃ M' S', pm_look N S (nI r) = some S' ∧ mdS M0 M' S' v tx len r nc nt cn cl co hr ∧ M'.1 0 31 = M.1 0 31 := by
  obtain ⟨M', S', va, e, ⟨g1, g2, g3, g4, g5, g6, g7⟩, gv⟩ := ml_look (N := N) hN h.1 (mdS_T h hT) hr'
  refine ⟨M', S', e, ⟨⟨g1, fun p p0 p1 p2 p3 => by rw [g2 p p0]; exact h.2.1 p p0 p1 p2 p3, fun k hk => by rw [g3 k (by omega)]; exact h.2.2 k hk⟩, ⟨g4, g5, g6, fun z => by rw [g7]; exact gv z⟩, by rw [g3 29 (by omega)]; exact h29, by rw [g3 30 (by omega)]; exact h30, fun k hk => by rw [g2 18 (by decide)]; exact h18 k hk, fun t ht => by rw [g2 20 (by decide)]; exact h20 t ht, fun k hk => by rw [g2 19 (by decide)]; exact h19 k hk⟩, g3 31 (by omega)⟩
theorem md_goOn (hN : 4000 ≤ N) (hT : lkT M0 tx len) (hq : q ≤ len) (h : mdS M0 M S v tx len q nc nt cn cl co hr) : ∃ M' S', pm_goOn N S = some S' ∧ mdS M0 M' S' v tx len (tk_e tx len q) nc nt cn cl co hr ∧ M'.1 0 31 = M.1 0 31 := by
  obtain ⟨s0, _, _, _⟩ := mdS_S h
  obtain ⟨h1, ⟨h2, h3, h4, h5⟩, h6, h7, h8, h9, h10⟩ := h
  obtain ⟨M', S', e, g⟩ := md_look (N := N) hN hT (tk_e_le (tx := tx) hq) h1 h6 h7 h8 h9 h10
  refine ⟨M', S', ?_, g⟩
  unfold pm_goOn
  rw [s0, h2, h3, nI_add]
  have : tk_p tx len q + tk_l tx len q = tk_e tx len q := rfl
  rw [this, e, sm_b1s]
/-- a number is taken, or not -/
theorem md_takes {m : Nat} (hN : 4000 ≤ N) (hT : lkT M0 tx len) (hq : q ≤ len) (hm : m < 2 ^ 31) (h : mdS M0 M S v tx len q nc nt cn cl co hr) : ∃ M' S', pm_takesOne N S (nI 0) (nI m) = some (nI (sp_b (tk_n tx len q m)), S') ∧ (tk_n tx len q m = true → mdS M0 M' S' v tx len (tk_e tx len q) nc nt cn cl co hr ∧ M'.1 0 31 = nI (tk_v tx len q)) ∧ (tk_n tx len q m = false → mdS M0 M' S' v tx len q nc nt cn cl co hr) := by
  obtain ⟨s0, _, _, _⟩ := mdS_S h
  have hh := h
  obtain ⟨h1, ⟨h2, h3, h4, h5⟩, h6, h7, h8, h9, h10⟩ := h
  obtain ⟨k1, k2, k3, k4⟩ := tk_KM tx len q
  have z1 : ¬ (nI 1 = 0) := by decide
  unfold pm_takesOne tk_n
  rw [s0, h4]
  by_cases t2 : tk_M tx len q = 2
  · have v99 := tk_v_99 (k1.mpr t2)
    rw [if_pos (show nI (tk_M tx len q) = (2 : Int32) by rw [t2]; rfl), h5 t2, nI_l (show tk_v tx len q < 2 ^ 31 by omega), nI_l (show m < 2 ^ 31 from hm), nI_l (show 0 < 2 ^ 31 by decide)]
    by_cases l : tk_v tx len q ≤ m
    · rw [ne_inT (Nat.zero_le _) l hm, sm_b2s, if_neg z1, decide_eq_true ⟨k1.mpr t2, l⟩]
      simp only [sm_lt]
      rw [s0, h5 t2]
      have g1 : mdS M0 (sm_sI M 0 31 (nI (tk_v tx len q))) (sm_sI S 0 31 (nI (tk_v tx len q))) v tx len q nc nt cn cl co hr := ⟨⟨nP_sI h1.1 (by decide), fun p p0 p1 p2 p3 => by rw [ne_sI1n p0]; exact h1.2.1 p p0 p1 p2 p3, fun k hk => by rw [ne_sI1s, pk_un (by omega)]; exact h1.2.2 k hk⟩, ⟨by rw [ne_sI1s, pk_un (by decide)]; exact h2, by rw [ne_sI1s, pk_un (by decide)]; exact h3, by rw [ne_sI1s, pk_un (by decide)]; exact h4, fun z => by rw [ne_sI1s, pk_un (by decide)]; exact h5 z⟩, by rw [ne_sI1s, pk_un (by decide)]; exact h6, by rw [ne_sI1s, pk_un (by decide)]; exact h7, fun k hk => by rw [ne_sI1n (by decide)]; exact h8 k hk, fun t ht => by rw [ne_sI1n (by decide)]; exact h9 t ht, fun k hk => by rw [ne_sI1n (by decide)]; exact h10 k hk⟩
      obtain ⟨M', S', e, g2, g3⟩ := md_goOn (N := N) hN hT hq g1
      rw [e, sm_b1s]
      exact ⟨M', S', rfl, fun _ => ⟨g2, by rw [g3, ne_sI1s, pk_us]⟩, fun z => by cases z⟩
    · rw [ne_inF (Or.inr (by omega)) (by omega) (by decide) hm, sm_b2s, if_pos (show nI 0 = 0 from rfl), decide_eq_false (fun z => l z.2)]
      exact ⟨M, S, rfl, fun z => (by cases z), fun _ => hh⟩
  · rw [if_neg (show ¬ nI (tk_M tx len q) = (2 : Int32) from fun z => t2 ((nI_eq (b := 2) (by omega) (by decide)).mp z)), decide_eq_false (fun z => t2 (k1.mp z.1))]
    exact ⟨M, S, rfl, fun z => (by cases z), fun _ => hh⟩
/-- is it the word w? -/
theorem md_isWord {w : Nat} (hN : 4000 ≤ N) (hT : lkT M0 tx len) (hq : q ≤ len) (hw : w < 3) (h : mdS M0 M S v tx len q nc nt cn cl co hr) : pm_isWord N S (nI (tk_ch w 0)) (nI (tk_ch w 1)) (nI (tk_ch w 2)) (nI (tk_ch w 3)) (nI (tk_ch w 4)) = some (nI (sp_b (decide (tk_M tx len q = 1 ∧ tk_l tx len q = 5) && tk_sp tx (tk_p tx len q) w 5)), S) := by
  obtain ⟨s0, _, _, _⟩ := mdS_S h
  have hl := hT.1
  obtain ⟨h1, ⟨h2, h3, h4, h5⟩, h6, h7, h8, h9, h10⟩ := h
  have hle := (tk_l_le (tx := tx) hq).1
  have k4 := (tk_KM tx len q).2.2.2
  obtain ⟨p1, p2⟩ := tk_p_le (tx := tx) hq
  unfold tk_e at hle
  generalize tk_p tx len q = p at *
  generalize tk_l tx len q = l at *
  have b0 : pm_isWord_b20 N (nI (tk_ch w 0)) (nI (tk_ch w 1)) (nI (tk_ch w 2)) (nI (tk_ch w 3)) (nI (tk_ch w 4)) S = some (nI 0, S) := by
    obtain ⟨m, rfl⟩ : ∃ m, N = m + 1 := ⟨N - 1, by omega⟩
    unfold pm_isWord_b20 pm_isWord_b21
    simp only [sm_lt]
    rw [pm_isWord_b26, if_neg (show ¬ (5 : Int32) ≤ (0 : Int32) by decide), if_pos (show (0 : Int32) = 0 from rfl)]
    rfl
  unfold pm_isWord
  rw [s0, h4, h3]
  by_cases t1 : tk_M tx len q = 1
  · rw [if_pos (show nI (tk_M tx len q) = (1 : Int32) by rw [t1]; rfl)]
    by_cases l5 : l = 5
    · rw [if_pos (show nI l = (5 : Int32) by rw [l5]; rfl), decide_eq_true ⟨t1, l5⟩, Bool.true_and]
      unfold pm_isWord_b21
      simp only [sm_lt]
      have st : pm_isWord_b26 N N (nI (tk_ch w 0)) (nI (tk_ch w 1)) (nI (tk_ch w 2)) (nI (tk_ch w 3)) (nI (tk_ch w 4)) (1 : Int32) (0 : Int32) S = pm_isWord_b26 N N (nI (tk_ch w 0)) (nI (tk_ch w 1)) (nI (tk_ch w 2)) (nI (tk_ch w 3)) (nI (tk_ch w 4)) (nI (sp_b (tk_sp tx p w 0))) (nI 0) S := rfl
      rw [st]
      refine ne_loop (fun f k (_ : Unit) => pm_isWord_b26 N f (nI (tk_ch w 0)) (nI (tk_ch w 1)) (nI (tk_ch w 2)) (nI (tk_ch w 3)) (nI (tk_ch w 4)) (nI (sp_b (tk_sp tx p w k))) (nI k) S) (fun _ _ => True) 5 (fun r => r = some (nI (sp_b (tk_sp tx p w 5)), S)) ?_ ?_ N 0 () (by omega) (by omega) trivial
      · intro f k _ hk _
        show (∃ s', _ ∧ pm_isWord_b26 N (f + 1) _ _ _ _ _ _ _ _ = pm_isWord_b26 N f _ _ _ _ _ _ _ _) ∨ pm_isWord_b26 N (f + 1) _ _ _ _ _ _ _ _ = _
        have l5' : ¬ (5 : Int32) ≤ nI k := nI_ge (b := 5) hk (by decide)
        rw [pm_isWord_b26, if_neg l5']
        cases hs : tk_sp tx p w k with
        | false =>
          right
          have := tk_sp_no hs (5 - k)
          rw [show k + (5 - k) = 5 by omega] at this
          rw [this, if_pos (show nI (sp_b false) = 0 from rfl)]
          rfl
        | true =>
          left
          have etx : S.1 17 (p + k) = nI (tx (p + k)) := by
            rw [nP_1 h1.1 (by decide), h1.2.1 17 (by decide) (by decide) (by decide) (by decide)]
            exact (hT.2.2 _ (by omega)).2
          have c1 := (hT.2.2 (p + k) (by omega)).1
          have c2 := tk_ch_le w hw k hk
          refine ⟨(), trivial, ?_⟩
          have cmp : pm_isWord_b91 N (pm_isWord_b26 N f) (nI (tk_ch w 0)) (nI (tk_ch w 1)) (nI (tk_ch w 2)) (nI (tk_ch w 3)) (nI (tk_ch w 4)) (nI k) (nI (tx (p + k))) (nI (tk_ch w k)) S = pm_isWord_b26 N f (nI (tk_ch w 0)) (nI (tk_ch w 1)) (nI (tk_ch w 2)) (nI (tk_ch w 3)) (nI (tk_ch w 4)) (nI (sp_b (tk_sp tx p w (k + 1)))) (nI (k + 1)) S := by
            unfold pm_isWord_b91 pm_isWord_b99
            simp only [sm_lt]
            by_cases e : tx (p + k) = tk_ch w k
            · rw [if_pos (show nI (tx (p + k)) = nI (tk_ch w k) by rw [e]), nI_1, show tk_sp tx p w (k + 1) = true by rw [tk_sp, hs, decide_eq_true e]; rfl]
              rfl
            · rw [if_neg (fun z => e ((nI_eq (by omega) (by omega)).mp z)), nI_1, show tk_sp tx p w (k + 1) = false by rw [tk_sp, decide_eq_false e, Bool.and_false]]
              rfl
          rw [if_neg (show ¬ nI (sp_b true) = 0 by decide), s0, h2, nI_add, sm_ite_t (sm_in_nI (show p + k < 200 by omega) (by decide)), nI_clamp (show p + k < 2 ^ 31 by omega), etx]
          have k' : k = 0 ∨ k = 1 ∨ k = 2 ∨ k = 3 ∨ k = 4 := by omega
          rcases k' with rfl | rfl | rfl | rfl | rfl
          · rw [if_pos (show nI 0 = 0 from rfl)]
            exact cmp
          · rw [if_neg (show ¬ nI 1 = 0 by decide), if_pos (show nI 1 = (1 : Int32) from rfl)]
            exact cmp
          · rw [if_neg (show ¬ nI 2 = 0 by decide), if_neg (show ¬ nI 2 = (1 : Int32) by decide), if_pos (show nI 2 = (2 : Int32) from rfl)]
            exact cmp
          · rw [if_neg (show ¬ nI 3 = 0 by decide), if_neg (show ¬ nI 3 = (1 : Int32) by decide), if_neg (show ¬ nI 3 = (2 : Int32) by decide), if_pos (show nI 3 = (3 : Int32) from rfl)]
            exact cmp
          · rw [if_neg (show ¬ nI 4 = 0 by decide), if_neg (show ¬ nI 4 = (1 : Int32) by decide), if_neg (show ¬ nI 4 = (2 : Int32) by decide), if_neg (show ¬ nI 4 = (3 : Int32) by decide)]
            exact cmp
      · intro f _ _
        show pm_isWord_b26 N (f + 1) _ _ _ _ _ _ _ _ = _
        rw [pm_isWord_b26, if_pos (show (5 : Int32) ≤ nI 5 by decide)]
        cases tk_sp tx p w 5 <;> rfl
    · rw [if_neg (show ¬ nI l = (5 : Int32) from fun z => l5 ((nI_eq (b := 5) (by omega) (by decide)).mp z)), b0, decide_eq_false (fun z => l5 z.2), Bool.false_and]
      rfl
  · rw [if_neg (show ¬ nI (tk_M tx len q) = (1 : Int32) from fun z => t1 ((nI_eq (b := 1) (by omega) (by decide)).mp z)), b0, decide_eq_false (fun z => t1 z.1), Bool.false_and]
    rfl
end
