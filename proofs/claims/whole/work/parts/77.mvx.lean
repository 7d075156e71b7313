/-! moves, the built side -/
theorem mvl_a : ∀ m, m < 64 → ((nI m >>> ((4 : Int32) &&& 31)) &&& (3 : Int32)) = nI (mv_a m) := by decide +kernel
theorem mvl_b : ∀ m, m < 64 → ((nI m >>> ((1 : Int32) &&& 31)) &&& (7 : Int32)) = nI (mv_b m) := by decide +kernel
theorem mvl_h : ∀ m, m < 64 → (nI m &&& (1 : Int32)) = nI (m % 2) := by decide +kernel
theorem mvl_n : ∀ m, m < 64 → (nI m ||| (1 : Int32)) + (1 : Int32) = nI (mv_n m) := by decide +kernel
section
variable {N : Nat} {X s : sm_St} {a v t : Nat → Nat} {c A B n : Nat} {u : Int32}
theorem xv_a {m : Nat} (hm : m < 64) : px_Mover_lesser N s (nI m) = some (nI (mv_a m), s) := by
  unfold px_Mover_lesser
  rw [mvl_a m hm]
theorem xv_b {m : Nat} (hm : m < 64) : px_Mover_other N s (nI m) = some (nI (mv_b m), s) := by
  unfold px_Mover_other
  rw [mvl_b m hm]
theorem xv_h {m : Nat} (hm : m < 64) : px_Mover_hoursOf N s (nI m) = some (nI (mv_h m), s) := by
  unfold px_Mover_hoursOf mv_h
  rw [mvl_h m hm]
  by_cases p : m % 2 = 0
  · rw [p, if_pos (show nI 0 = 0 from rfl)]
    rfl
  · rw [show m % 2 = 1 by omega, if_neg (show ¬ nI 1 = 0 by decide)]
    rfl
/-- where the built side stands while it moves: X is the start, t the hours -/
def mvS (X s : sm_St) (t : Nat → Nat) (c A B n : Nat) (u : Int32) : Prop := (∀ p, p < 107 → s.1 p = X.1 p) ∧ s.2.2 = X.2.2 ∧ hrw s 133 t ∧ s.1 132 1 = nI c ∧ s.1 132 2 = nI A ∧ s.1 132 3 = nI B ∧ s.1 132 4 = nI n ∧ s.1 132 5 = u
/-- what the start is -/
def mvX (X : sm_St) (a v : Nat → Nat) : Prop := sp_ok a ∧ xhd X a (at_ a) (ac_ a) 7 6 ∧ xsh X 12 (a 76) (wn v) ∧ wv1 a (wn v) (a 78) ∧ (∀ i x, a 76 ≤ i → i < 4 → x < 8 → X.1 (8 + i) x = nI 0)
theorem mvX_h (h : mvX X a v) {i x : Nat} (hi : i < 4) (hx : x < 8) : X.1 (8 + i) x = nI (mv_0 a (8 * i + x)) := by
  obtain ⟨o, hd, _, _, hz⟩ := h
  unfold mv_0
  by_cases l : i < a 76
  · rw [if_pos (by omega)]
    exact hd.2.2.2.1 i x l hx
  · rw [if_neg (by omega)]
    exact hz i x (by omega) hi hx
theorem mvS_put {m k : Nat} (h : mvS X s t c A B n u) (hm : m < 64) : ∃ s', px_Mover_put N s (nI m) (nI k) = some s' ∧ mvS X s' (sp_ph t (mv_a m) (mv_b m) k) c A B n u := by
  obtain ⟨h1, h2, h3, h4, h5, h6, h7, h8⟩ := h
  obtain ⟨s', e, g1, g2, g3⟩ := xq_ph (N := N) (n := k) (q := 133) (Or.inr (Or.inl rfl)) h3 (show mv_a m < 8 by unfold mv_a; omega) (show mv_b m < 8 from Nat.mod_lt _ (by decide))
  refine ⟨s', ?_, fun p hp => by rw [g2 p (by omega)]; exact h1 p hp, by rw [g3]; exact h2, g1, by rw [g2 132 (by omega)]; exact h4, by rw [g2 132 (by omega)]; exact h5, by rw [g2 132 (by omega)]; exact h6, by rw [g2 132 (by omega)]; exact h7, by rw [g2 132 (by omega)]; exact h8⟩
  unfold px_Mover_put
  rw [xv_a hm, sm_b2s, xv_b hm, sm_b2s, e, sm_b1s]
theorem mvS_bk {m : Nat} (hX : mvX X a v) (h : mvS X s t c A B n u) (hm : m < 64) : ∃ s', px_Mover_putBack N s (nI m) 1 = some s' ∧ mvS X s' (sp_ph t (mv_a m) (mv_b m) (mv_0 a (8 * mv_a m + mv_b m))) c A B n u := by
  obtain ⟨s', e, g⟩ := mvS_put (N := N) (k := mv_0 a (8 * mv_a m + mv_b m)) h hm
  have ha : mv_a m < 4 := by unfold mv_a; omega
  have hb : mv_b m < 8 := Nat.mod_lt _ (by decide)
  have eh : s.1 (1 + 7 + mv_a m) (mv_b m) = nI (mv_0 a (8 * mv_a m + mv_b m)) := by
    rw [show 1 + 7 + mv_a m = 8 + mv_a m by omega, h.1 _ (by omega)]
    exact mvX_h hX ha hb
  refine ⟨s', ?_, g⟩
  unfold px_Mover_putBack
  rw [xv_a hm, sm_b2s, sm_ite_t (sm_in_nI ha (by decide)), xv_b hm, sm_b2s, sm_ite_t (sm_in_nI hb (by decide)), nI_clamp (show mv_a m < 2 ^ 31 by omega), nI_clamp (show mv_b m < 2 ^ 31 by omega), eh, e, sm_b1s]
theorem mvS_reach (hN : 4000 ≤ N) (hX : mvX X a v) (h : mvS X s t c A B n u) (ht : sc a t (ac_ a)) (hc : c < a 76) (hA : A ≤ 12) (hB : B ≤ 12) (hn : n ≤ 3) : ∃ s', px_Mover_reached N s 1 = some (nI (sp_b (mv_r a v c A B n t)), s') ∧ mvS X s' t c A B n u := by
  obtain ⟨o, hd, hnow, hwv, hz⟩ := hX
  obtain ⟨h1, h2, h3, h4, h5, h6, h7, h8⟩ := h
  have k4 := o.1
  have hxd : xhd s a t (ac_ a) 133 6 := by
    obtain ⟨d1, d2, d3, d4, d5⟩ := hd
    refine ⟨by rw [h1 1 (by decide)]; exact d1, by rw [h1 1 (by decide)]; exact d2, fun i hi => by rw [h1 2 (by decide), h1 3 (by decide)]; exact d3 i hi, fun i x hi hx => h3 i x (by omega) hx, fun x hx => by rw [h1 6 (by decide)]; exact d5 x hx⟩
  obtain ⟨X1, e1, x1, x2, x3⟩ := xq_reckon (N := N) hN ht ⟨Or.inr (Or.inl rfl), Or.inl rfl⟩ hxd
  have now1 : xsh X1 12 (a 76) (wn v) := xsh_fr (by rw [x2 12 (by omega)]; exact h1 12 (by decide)) (by rw [x2 13 (by omega)]; exact h1 13 (by decide)) hnow
  obtain ⟨q', X2, e3, y1, y2, y3, y4⟩ := xq_behind (N := N) (n := n) hN ht x1 now1 hwv.1 hwv.2.2.2 (by have := o.2.2.1; omega) (Or.inl rfl)
  have el := xsh_least (N := N) (t := A) hN y1 k4 hc hA
  have em := xsh_most (N := N) (t := B) hN y1 k4 hc hB
  have f1 : ∀ p, 126 ≤ p → X2.1 p = s.1 p := fun p hp => by rw [y3 p (by omega), x2 p (by omega)]
  have f132 : X2.1 132 = s.1 132 := f1 132 (by decide)
  have g132 : X1.1 132 = s.1 132 := x2 132 (by omega)
  refine ⟨X2, ?_, fun p hp => by rw [y3 p (by omega), x2 p (by omega)]; exact h1 p hp, by rw [y4, x3]; exact h2, fun i z hi hz => by rw [f1 _ (by omega)]; exact h3 i z hi hz, by rw [f132]; exact h4, by rw [f132]; exact h5, by rw [f132]; exact h6, by rw [f132]; exact h7, by rw [f132]; exact h8⟩
  unfold px_Mover_reached
  rw [e1, sm_b1s, g132, h7, e3, sm_b2s, if_pos (xq_16 y2), f132, h4, h5, el, sm_b2s]
  unfold mv_r
  by_cases d1 : sp_ns a t (ac_ a) (wn v) n 4 * A ≤ sp_ns a t (ac_ a) (wn v) n c
  · rw [if_pos d1, if_neg (show ¬ nI 1 = 0 by decide), f132, h4, h6, em, sm_b2s, decide_eq_true d1, Bool.true_and]
    by_cases d2 : sp_ns a t (ac_ a) (wn v) n c ≤ sp_ns a t (ac_ a) (wn v) n 4 * B
    · rw [if_pos d2, if_neg (show ¬ nI 1 = 0 by decide), decide_eq_true d2]
      rfl
    · rw [if_neg d2, if_pos (show nI 0 = 0 from rfl), decide_eq_false d2]
      rfl
  · rw [if_neg d1, if_pos (show nI 0 = 0 from rfl), decide_eq_false d1, Bool.false_and]
    rfl
theorem mvS_ch {m : Nat} (hX : mvX X a v) (h : mvS X s t c A B n u) (hc : c < a 76) (hm : m < 64) (hn : n ≤ 3) : px_Mover_changes N s 1 (nI m) = some (nI (sp_b (mv_c a c n m)), s) := by
  have hX2 := hX
  obtain ⟨o, hd, hnow, hwv, hz⟩ := hX2
  obtain ⟨h1, h2, h3, h4, h5, h6, h7, h8⟩ := h
  have k4 := o.1
  have t4 := o.2.1
  have ha : mv_a m < 4 := by unfold mv_a; omega
  have hb : mv_b m < 8 := Nat.mod_lt _ (by decide)
  have c9 : s.1 1 9 = nI (a 76) := by rw [h1 1 (by decide)]; exact hd.1
  have c10 : s.1 1 10 = nI (a 77) := by rw [h1 1 (by decide)]; exact hd.2.1
  have hh : mv_h m ≤ 3 := by unfold mv_h; omega
  have m0 : mv_0 a (8 * mv_a m + mv_b m) ≤ 3 := by
    unfold mv_0
    by_cases l : (8 * mv_a m + mv_b m) / 8 < a 76
    · rw [if_pos l]
      have := (o.2.2.2.2.2.2.2.1 (mv_a m) (mv_b m) (by omega) hb).1
      rw [← Nat.add_assoc]
      exact this
    · rw [if_neg l]
      omega
  have eh : s.1 (1 + 7 + mv_a m) (mv_b m) = nI (mv_0 a (8 * mv_a m + mv_b m)) := by
    rw [show 1 + 7 + mv_a m = 8 + mv_a m by omega, h1 _ (by omega)]
    exact mvX_h hX ha hb
  have z1 : ¬ (nI 1 = 0) := by decide
  have z0 : nI 0 = 0 := rfl
  have e0 : sp_b false = 0 := rfl
  have e1 : sp_b true = 1 := rfl
  have bad : mp_ok a (m / 2) = false → mv_c a c n m = false := fun h => by unfold mv_c; rw [h]; rfl
  have okF : ¬ (mv_a m < mv_b m ∧ mv_a m < a 76 ∧ (mv_b m < a 76 ∨ 4 ≤ mv_b m ∧ mv_b m < 4 + a 77)) → mp_ok a (m / 2) = false := fun q => by
    unfold mp_ok
    rw [show m / 2 / 8 = m / 16 by omega]
    exact decide_eq_false q
  have okT : (mv_a m < mv_b m ∧ mv_a m < a 76 ∧ (mv_b m < a 76 ∨ 4 ≤ mv_b m ∧ mv_b m < 4 + a 77)) → mp_ok a (m / 2) = true := fun q => by
    unfold mp_ok
    rw [show m / 2 / 8 = m / 16 by omega]
    exact decide_eq_true q
  unfold px_Mover_changes
  rw [xv_a hm, sm_b2s]
  simp only [sm_lt]
  rw [xv_b hm, sm_b2s]
  by_cases l1 : mv_b m ≤ mv_a m
  · rw [if_pos (nI_le l1 (by omega)), bad (okF (by omega)), e0]
    rfl
  · rw [if_neg (nI_ge (by omega) (by omega))]
    by_cases l2 : mv_a m < a 76
    · rw [xq_clT c9 l2 k4, sm_b2s, if_neg z1]
      by_cases l3 : mv_b m < a 76 ∨ 4 ≤ mv_b m ∧ mv_b m < 4 + a 77
      · rw [xq_numT c9 c10 l3 k4 t4, sm_b2s, if_neg z1, h4, h7]
        have hok := okT ⟨by omega, l2, l3⟩
        have fin : ¬ (n = 1 ∧ mv_a m ≠ c ∧ mv_b m ≠ c) → px_Mover_changes_b65 N 1 (nI m) (nI (mv_a m)) (nI (mv_b m)) s = some (nI (sp_b (mv_c a c n m)), s) := by
          intro q
          unfold px_Mover_changes_b65 px_Mover_changes_b66 mv_c
          simp only [sm_lt]
          rw [if_pos trivial, sm_ite_t (sm_in_nI ha (by decide)), sm_ite_t (sm_in_nI hb (by decide)), xv_h hm, sm_b2s, nI_clamp (show mv_a m < 2 ^ 31 by omega), nI_clamp (show mv_b m < 2 ^ 31 by omega), eh, hok, decide_eq_false q, Bool.not_false, Bool.true_and, Bool.true_and]
          by_cases e : mv_0 a (8 * mv_a m + mv_b m) = mv_h m
          · rw [e, if_pos rfl, decide_eq_true rfl]
            rfl
          · rw [if_neg (fun q => e ((nI_eq (by omega) (by omega)).mp q)), decide_eq_false e]
            rfl
        by_cases n1 : n = 1
        · rw [if_pos (show nI n = (1 : Int32) by rw [n1]; rfl)]
          by_cases ac : mv_a m = c
          · rw [if_pos (by rw [ac])]
            exact fin (fun q => q.2.1 ac)
          · rw [if_neg (fun q => ac ((nI_eq (by omega) (by omega)).mp q))]
            by_cases bc : mv_b m = c
            · rw [if_pos (by rw [bc])]
              exact fin (fun q => q.2.2 bc)
            · rw [if_neg (fun q => bc ((nI_eq (by omega) (by omega)).mp q))]
              unfold px_Mover_changes_b66 mv_c
              simp only [sm_lt]
              rw [if_neg (show ¬ (1 : Int32) = 0 by decide), decide_eq_true (show n = 1 ∧ mv_a m ≠ c ∧ mv_b m ≠ c from ⟨n1, ac, bc⟩), Bool.not_true, Bool.and_false, Bool.false_and]
              rfl
        · rw [if_neg (show ¬ nI n = (1 : Int32) from fun q => n1 ((nI_eq (b := 1) (by omega) (by decide)).mp q))]
          exact fin (fun q => n1 q.1)
      · rw [xq_numF c9 c10 (Or.inr (Or.inr ⟨mv_b m, by omega, rfl, l3⟩)) k4 t4, sm_b2s, if_pos z0, bad (okF (fun q => l3 q.2.2)), e0]
        rfl
    · rw [xq_clF (v := nI (mv_a m)) c9 (by rw [nI_toInt (by omega)]; omega) k4, sm_b2s, if_pos z0, bad (okF (fun q => l2 q.2.1)), e0]
      rfl
/-- one move more, from the number j on -/
theorem mvS_one (hN : 4000 ≤ N) (hX : mvX X a v) (ht : sc a t (ac_ a)) (hc : c < a 76) (hA : A ≤ 12) (hB : B ≤ 12) (hn : n ≤ 3) : ∀ d j f s, j + d = 64 → d < f → mvS X s t c A B n u → (∀ i, j ≤ i → i < 64 → mp_ok a (i / 2) = true → t (8 * mv_a i + mv_b i) = mv_0 a (8 * mv_a i + mv_b i) ∧ (mv_b i < 4 → t (8 * mv_b i + mv_a i) = mv_0 a (8 * mv_b i + mv_a i))) → ∃ s' t', (match mf (fun i => mv_c a c n i && mv_r a v c A B n (mv_t t i)) d j with | none => px_Mover_reachedByOneMore_b3 N 1 f (nI j) s = some (-nI 1, s') ∧ t' = t | some k => px_Mover_reachedByOneMore_b3 N 1 f (nI j) s = some (nI k, s')) ∧ mvS X s' t' c A B n u := by
  intro d
  induction d with
  | zero =>
    intro j f s hj hf hs _
    obtain ⟨f, rfl⟩ : ∃ g, f = g + 1 := ⟨f - 1, by omega⟩
    obtain rfl : j = 64 := by omega
    refine ⟨s, t, ?_, hs⟩
    rw [mf]
    refine ⟨?_, rfl⟩
    rw [px_Mover_reachedByOneMore_b3, if_pos (show (64 : Int32) ≤ nI 64 from of_eq_true (ne_leT (Nat.le_refl 64) (by decide)))]
    rfl
  | succ d ih =>
    intro j f s hj hf hs hI
    obtain ⟨f, rfl⟩ : ∃ g, f = g + 1 := ⟨f - 1, by omega⟩
    have hj64 : j < 64 := by omega
    have l64 : ¬ (64 : Int32) ≤ nI j := of_eq_false (ne_leF hj64 (by decide))
    have ech := mvS_ch (N := N) hX hs hc hj64 hn
    have z1 : ¬ (nI 1 = 0) := by decide
    have z0 : nI 0 = 0 := rfl
    rw [mf]
    cases hch : mv_c a c n j with
    | false =>
      rw [Bool.false_and, if_neg (by simp)]
      rw [hch] at ech
      obtain ⟨s', t', e, g⟩ := ih (j + 1) f s (by omega) (by omega) hs (fun i h1 h2 => hI i (by omega) h2)
      refine ⟨s', t', ?_, g⟩
      have st : px_Mover_reachedByOneMore_b3 N 1 (f + 1) (nI j) s = px_Mover_reachedByOneMore_b3 N 1 f (nI (j + 1)) s := by
        rw [px_Mover_reachedByOneMore_b3, if_neg l64, ech, sm_b2s, if_pos (show nI (sp_b false) = 0 from rfl)]
        unfold px_Mover_reachedByOneMore_b50
        simp only [sm_lt]
        rw [nI_1]
      rw [st]
      exact e
    | true =>
      rw [Bool.true_and]
      rw [hch] at ech
      have hok : mp_ok a (j / 2) = true := by
        cases q : mp_ok a (j / 2) with
        | true => rfl
        | false =>
          unfold mv_c at hch
          rw [q] at hch
          simp at hch
      obtain ⟨m1, m2, m3⟩ := mp_okT hok
      have k4 := hX.1.1
      obtain ⟨s1, e1, g1⟩ := mvS_put (N := N) (k := mv_h j) hs hj64
      obtain ⟨s2, e2, g2⟩ := mvS_reach (N := N) hN hX g1 (mv_t_sc (m := j) ht) hc hA hB hn
      have e2' : px_Mover_reached N s1 1 = some (nI (sp_b (mv_r a v c A B n (mv_t t j))), s2) := e2
      cases hr : mv_r a v c A B n (mv_t t j) with
      | true =>
        rw [if_pos rfl]
        rw [hr] at e2'
        refine ⟨s2, _, ?_, g2⟩
        show px_Mover_reachedByOneMore_b3 N 1 (f + 1) (nI j) s = some (nI j, s2)
        rw [px_Mover_reachedByOneMore_b3, if_neg l64, ech, sm_b2s, if_neg (show ¬ nI (sp_b true) = 0 from z1), xv_h hj64, sm_b2s, e1, sm_b1s, e2', sm_b2s, if_neg (show ¬ nI (sp_b true) = 0 from z1)]
      | false =>
        rw [if_neg (by simp)]
        rw [hr] at e2'
        obtain ⟨s3, e3, g3⟩ := mvS_bk (N := N) hX g2 hj64
        obtain ⟨i1, i2⟩ := hI j (Nat.le_refl _) hj64 hok
        have et : sp_ph (sp_ph t (mv_a j) (mv_b j) (mv_h j)) (mv_a j) (mv_b j) (mv_0 a (8 * mv_a j + mv_b j)) = t := by
          rw [← i1]
          refine sp_ph_bk (by omega) (fun hb => ?_)
          rw [i1, i2 hb]
          exact mv_0_sy hX.1 m2 (by omega)
        rw [et] at g3
        obtain ⟨s', t', e, g⟩ := ih (j + 1) f s3 (by omega) (by omega) g3 (fun i h1 h2 => hI i (by omega) h2)
        refine ⟨s', t', ?_, g⟩
        have st : px_Mover_reachedByOneMore_b3 N 1 (f + 1) (nI j) s = px_Mover_reachedByOneMore_b3 N 1 f (nI (j + 1)) s3 := by
          rw [px_Mover_reachedByOneMore_b3, if_neg l64, ech, sm_b2s, if_neg (show ¬ nI (sp_b true) = 0 from z1), xv_h hj64, sm_b2s, e1, sm_b1s, e2', sm_b2s, if_pos (show nI (sp_b false) = 0 from rfl), e3, sm_b1s]
          unfold px_Mover_reachedByOneMore_b50
          simp only [sm_lt]
          rw [nI_1]
        rw [st]
        exact e
end
