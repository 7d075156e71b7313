section
variable {N : Nat} {X S : sm_St} {a b v ik tx : Nat → Nat} {len : Nat}
theorem c_sleep (hN : 4000 ≤ N) (h : R X S) : OKr (px_L_sleep N X) (pm_sleep N S) := by
  obtain ⟨a, b, v, ik, tx, len, h⟩ := h
  have hR := RR_R h
  have hok := RR_ok h
  obtain ⟨o1, o2, o3, o4, o5, o6, o7, o8, o9, o10⟩ := hok
  obtain ⟨c1, k1, co, hh, hz, wi, now, past⟩ := RR_hs h
  have hw := h.1
  have hs := RR_sc h
  have hwv := RR_wv h
  have hpast := h.2.2.1.2.1.2
  have hP := h.2.2.2.2.2.2.2.1
  by_cases h78 : a 78 < 12
  · obtain ⟨⟨X1, e1, x1, x2, x3, x4⟩, _⟩ := RR_begin (N := N) hN h
    obtain ⟨q, X2, e2, y1, y2, y3, y4⟩ := xq_behind (N := N) (n := 1) hN hs x1 x2 hwv.1 hwv.2.2.2 (by omega) (Or.inl rfl)
    have eW : sp_ns a (at_ a) (ac_ a) (wn v) 1 = sp_nw a (at_ a) (ac_ a) (wn v) := rfl
    rw [eW] at y1
    have fX2 : ∀ p, p < 110 → X2.1 p = X.1 p := fun p hp => by rw [y3 p (by omega), x3 p (by omega)]
    have rX2 : X2.2.2 = X.2.2 := by rw [y4, x4]
    -- behind one night the shades lie in the first free rows
    have hq : q = 122 ∨ q = 124 := by
      rcases y2 with rfl | h | h
      · exfalso
        unfold px_Takings_behind at e2
        obtain ⟨m, rfl⟩ : ∃ m, N = m + 2 := ⟨N - 2, by omega⟩
        have em : xq 12 := Or.inl rfl
        obtain ⟨Y, en, _⟩ := xq_night (N := m + 2) (q1 := 12) (q2 := 122) hN hs x1 x2 hwv.1 hwv.2.2.2 (by omega) em (Or.inl rfl) (by decide)
        rw [show (m + 2) = (m + 1) + 1 from rfl] at e2
        simp only [sm_lt] at e2
        rw [px_Takings_behind_b5, if_neg (by decide), if_neg (by decide)] at e2
        unfold px_Takings_behind_b30 at e2
        rw [show m + 1 + 1 = m + 2 from rfl, en, sm_b1s] at e2
        simp only [sm_lt] at e2
        rw [px_Takings_behind_b5, if_pos (by decide)] at e2
        have := congrArg (fun o => o.map Prod.fst) e2
        simp at this
      · exact Or.inl h
      · exact Or.inr h
    have fin : ∀ (n' d : Nat) (XT T M : sm_St) (aT vT : Nat → Nat), n' < 6 → n' + d = a 79 → hpl XT 1 → XT.1 1 12 = nI n' → (∀ p, p ≠ 1 → XT.1 p = X2.1 p) → (∀ j, j ≠ 12 → XT.1 1 j = X.1 1 j) → (∀ p, p ≠ 14 → XT.2.2 p = X.2.2 p) → (∀ j, j < n' → xsh XT (XT.2.2 14 j) (a 76) (fun c => v (24 + 5 * (j + d) + c))) → nP M vT T → nw aT M → aT 79 = n' → (∀ k, k ≠ 79 → aT k = a k) → (∀ p, p ≠ 1 → M.1 p = S.1 p) → (∀ s, ¬ (24 ≤ s ∧ s < 54) → vT s = v s) → (∀ j c, j < n' → c < 5 → vT (24 + 5 * j + c) = v (24 + 5 * (j + d) + c)) → OKr (sm_b1 (px_House_wakeUpWith_b61 N 1 q XT) (fun S_5 => some (S_5.1 1 11, S_5))) (pm_sleep_b68 N T) := by
      intro n' d XT T M aT vT hn' hd hPT t12 fXT fX1 rXT pT pM wT a79 aTk fM vT1 vT2
      have xnow : xsh XT 12 (a 76) (wn v) := xsh_fr (by rw [fXT 12 (by decide)]; exact y3 12 (by decide)) (by rw [fXT 13 (by decide)]; exact y3 13 (by decide)) x2
      have xnext : xsh XT q (a 76) (sp_nw a (at_ a) (ac_ a) (wn v)) := xsh_fr (fXT _ (by omega)) (fXT _ (by omega)) y1
      obtain ⟨X', ew, z1, z2, z3, z4, z5, z6, z7, z8⟩ := xq_wake1 (N := N) hN hPT hn' o1 t12 xnow hq xnext pT
      -- the reference
      obtain ⟨S1, m1, p1⟩ := nP_cs (N := N) (to := 24 + 5 * n') (from' := 19) hN pM (by omega) (by omega) (by omega) (by omega) (by omega)
      generalize hv1 : (fun s => if 24 + 5 * n' ≤ s ∧ s < 24 + 5 * n' + 5 then vT (19 + (s - (24 + 5 * n'))) else vT s) = v1 at p1
      have w1 := nP_nw p1 wT
      have p2 := nP_sI (p := 1) (k := 79) (x := nI (n' + 1)) p1 (by decide)
      have w2 := nw_up (x := n' + 1) (k := 79) wT (by decide)
      have ea : ∀ k, k ≠ 79 → va_up aT 79 (n' + 1) k = a k := fun k hk => by rw [ne_up_n hk]; exact aTk k hk
      have ea9 : va_up aT 79 (n' + 1) 79 = n' + 1 := ne_up_s
      generalize va_up aT 79 (n' + 1) = a2 at w2 ea ea9
      obtain ⟨S3, m3, p3⟩ := np_takeNow (N := N) hN p2 w2
      have wn1 : (fun i => if i < 5 then v1 (19 + i) else v1 (14 + i)) = wn v1 := rfl
      rw [wn1] at p3
      have ewn : ∀ c, c ≤ 4 → wn v1 c = wn v c := fun c hc => by
        rw [wn_c hc, wn_c hc, ← hv1]
        show (if 24 + 5 * n' ≤ 19 + c ∧ 19 + c < 24 + 5 * n' + 5 then _ else vT (19 + c)) = _
        rw [if_neg (by omega)]
        exact vT1 _ (by omega)
      have hs2 : sc a2 (at_ a) (ac_ a) := sc_a hs (fun k hk => ea k (by omega))
      have nt2 : nt (at_ a) (ac_ a) (sm_tn a2 (sm_sI M 1 79 (nI (n' + 1)))) := by
        have q := tn_t (a := a2) (M := sm_sI M 1 79 (nI (n' + 1)))
        exact ⟨fun k hk => by rw [q.1 k hk]; show nI (a2 (16 + k)) = nI (a (16 + k)); rw [ea _ (by omega)], fun k hk => by rw [q.2 k hk]; show nI (a2 (48 + k)) = nI (a (48 + k)); rw [ea _ (by omega)]⟩
      have wv2 : sp_w a2 (wn v1) := fun c hc => by
        rw [ea 76 (by decide)] at hc
        rw [ewn c (by omega), ewn 4 (by omega)]
        exact hwv.1 c hc
      obtain ⟨S4, m4, p4⟩ := nW_night (N := N) hN p3 (tn_nw w2) nt2 hs2 wv2 (by rw [ewn 4 (by omega)]; exact sp_1000 hwv.2.2.2 (by omega))
      rw [sp_nw_a (a := a) o1 (fun k hk => ea k (by omega))] at p4
      obtain ⟨v4, r1, r2, r3⟩ := p4
      obtain ⟨S5, m5, p5⟩ := nP_cs (N := N) (to := 19) (from' := 14) hN r1 (by omega) (by omega) (by omega) (by omega) (by omega)
      generalize hv5 : (fun s => if 19 ≤ s ∧ s < 19 + 5 then v4 (14 + (s - 19)) else v4 s) = v5 at p5
      have w5 : nw a2 S5 := nP_nw p5 (tn_nw w2)
      have p6 := nP_own (nP_sI (p := 1) (k := 78) (x := nI (a 78 + 1)) p5 (by decide))
      have w6 := nw_up (x := a 78 + 1) (k := 78) w5 (by decide)
      have eb : ∀ k, k ≠ 79 → k ≠ 78 → va_up a2 78 (a 78 + 1) k = a k := fun k h1 h2 => by rw [ne_up_n h2]; exact ea k h1
      have eb9 : va_up a2 78 (a 78 + 1) 79 = n' + 1 := by rw [ne_up_n (by decide)]; exact ea9
      have eb8 : va_up a2 78 (a 78 + 1) 78 = a 78 + 1 := ne_up_s
      generalize va_up a2 78 (a 78 + 1) = a' at w6 eb eb9 eb8
      -- the numbers at the end
      have nw5 : ∀ c, c ≤ 4 → v5 (19 + c) = sp_nw a (at_ a) (ac_ a) (wn v) c := fun c hc => by
        rw [← hv5]
        show (if 19 ≤ 19 + c ∧ 19 + c < 19 + 5 then v4 (14 + (19 + c - 19)) else v4 (19 + c)) = _
        rw [if_pos (by omega), show 19 + c - 19 = c by omega]
        have := congrFun r2 c
        rw [this]
        unfold sp_nw sp_nt
        by_cases h4 : c = 4
        · rw [if_pos h4, if_pos h4, ewn 4 (by omega)]
        · rw [if_neg h4, if_neg h4]
          have egr : ∀ n, n ≤ 8 → ∀ c', c' < a 76 → sp_gr a (at_ a) (ac_ a) (wn v1) c' n = sp_gr a (at_ a) (ac_ a) (wn v) c' n := fun n => by
            induction n with
            | zero => intro _ _ _; rfl
            | succ n ih =>
              intro hn c' hc'
              have ev : sp_val (wn v1) (ac_ a) n = sp_val (wn v) (ac_ a) n := by
                unfold sp_val
                by_cases hn4 : n < 4
                · rw [if_pos hn4, if_pos hn4]; exact ewn n (by omega)
                · rw [if_neg hn4, if_neg hn4, ewn 4 (by omega)]
              rw [sp_gr, sp_gr, ih (by omega) c' hc', ev]
          have esm : ∀ n, n ≤ 8 → ∀ c', c' < a 76 → sp_sm a (at_ a) (ac_ a) (wn v1) c' n = sp_sm a (at_ a) (ac_ a) (wn v) c' n := fun n => by
            induction n with
            | zero => intro _ _ _; rfl
            | succ n ih =>
              intro hn c' hc'
              have ev : sp_val (wn v1) (ac_ a) n = sp_val (wn v) (ac_ a) n := by
                unfold sp_val
                by_cases hn4 : n < 4
                · rw [if_pos hn4, if_pos hn4]; exact ewn n (by omega)
                · rw [if_neg hn4, if_neg hn4, ewn 4 (by omega)]
              rw [sp_sm, sp_sm, ih (by omega) c' hc', ev]
          by_cases hc : c < a 76
          · rw [if_pos hc, if_pos hc, egr 8 (by omega) c hc, esm 8 (by omega) c hc, ewn c (by omega)]
          · rw [if_neg hc, if_neg hc, ewn c (by omega)]
      have hi5 : ∀ s, 24 ≤ s → v5 s = v1 s := fun s hs' => by
        rw [← hv5]
        show (if 19 ≤ s ∧ s < 19 + 5 then v4 (14 + (s - 19)) else v4 s) = _
        rw [if_neg (by omega)]
        have := congrFun r2 (s - 14)
        rw [show 14 + (s - 14) = s by omega] at this
        rw [this]
        unfold sp_nw
        rw [if_neg (by omega), if_neg (by omega), wn_hi (by omega), show 14 + (s - 14) = s by omega]
      have lo5 : ∀ s, s < 2 → v5 s = v s := fun s hs' => by
        rw [← hv5]
        show (if 19 ≤ s ∧ s < 19 + 5 then v4 (14 + (s - 19)) else v4 s) = _
        rw [if_neg (by omega), r3 s (by omega), ← hv1]
        show (if 24 + 5 * n' ≤ s ∧ s < 24 + 5 * n' + 5 then _ else vT s) = _
        rw [if_neg (by omega)]
        exact vT1 s (by omega)
      have p5n : ∀ c, c ≤ 4 → v5 (24 + 5 * n' + c) = wn v c := fun c hc => by
        rw [hi5 _ (by omega), ← hv1]
        show (if 24 + 5 * n' ≤ 24 + 5 * n' + c ∧ 24 + 5 * n' + c < 24 + 5 * n' + 5 then vT (19 + (24 + 5 * n' + c - (24 + 5 * n'))) else _) = _
        rw [if_pos (by omega), show 24 + 5 * n' + c - (24 + 5 * n') = c by omega, vT1 _ (by omega), wn_c hc]
      have p5j : ∀ j c, j < n' → c ≤ 4 → v5 (24 + 5 * j + c) = v (24 + 5 * (j + d) + c) := fun j c hj hc => by
        rw [hi5 _ (by omega), ← hv1]
        show (if 24 + 5 * n' ≤ 24 + 5 * j + c ∧ 24 + 5 * j + c < 24 + 5 * n' + 5 then _ else vT (24 + 5 * j + c)) = _
        rw [if_neg (by omega)]
        exact vT2 j c hj (by omega)
      have hi54 : ∀ s, 54 ≤ s → v5 s = v s := fun s hs' => by
        rw [hi5 s (by omega), ← hv1]
        show (if 24 + 5 * n' ≤ s ∧ s < 24 + 5 * n' + 5 then _ else vT s) = _
        rw [if_neg (by omega)]
        exact vT1 s (by omega)
      have fS5 : ∀ p, p ≠ 1 → p ≠ 6 → p ≠ 7 → p ≠ 8 → S5.1 p = S.1 p := fun p h1 h6 h7 h8 => by
        rw [nP_1 p5 h6, tn_1 h7 h8, ne_sI1n h1, fM p h1]
      have n79 : S1.1 1 79 = nI n' := by rw [w1 79 (by decide), a79]
      have n79T : T.1 1 79 = nI n' := by rw [nP_nw pM wT 79 (by decide), a79]
      have n78 : S5.1 1 78 = nI (a 78) := by rw [w5 78 (by decide), ea 78 (by decide)]
      refine ⟨nI (a 78 + 1), X', _, ?_, ?_, RR_R (RR_h (a' := a') (v' := v5) h w6 p6 ⟨?_, ⟨?_, fun j hj => ?_⟩, ?_⟩ (fun s hs' => ?_) (fun p hp => ?_) ?_ ?_ (fun p hp => ?_) ?_ (hpl_fr (by rw [z8]) hPT) (fun p hp => by rw [z8, rXT p (by omega)]))⟩
      · rw [ew, sm_b1s, z2, fX1 11 (by decide), c1.2.2.1, nI_add]
      · unfold pm_sleep_b68
        simp (disch := omega) only [sm_lt, sm_b1s, sm_b2s, ↓reduceIte, sm_in_nI, nI_clamp, nI_add, pk_mul, pk_sub, ne_addneg, nI_l, ne_ltT, ne_ltF, ne_leT, ne_leF, ne_eqT, ne_eqF, ne_sI1s, ne_sI1n, ne_sI2, ne_sI3, ne_sL1, ne_sL2s, ne_sL2n, ne_sL3, pk_us, pk_un, pk_uLs, pk_uLn, mm_Z, mm_L, mm_1, mm_2, mm_3, ne_rz0, ne_rz1, not_true_eq_false, not_false_eq_true, ne_i0, ne_i1, ne_i2, ne_i3, ne_i4, ne_i5, ne_i6, ne_i7, ne_i8, ne_i9, ne_i10, ne_i12, ne_i14, ne_i16, ne_i18, ne_i19, ne_i20, ne_i23, ne_i24, ne_i27, ne_i29, ne_i30, ne_i31, ne_i32, ne_i35, ne_i48, ne_i52, ne_i54, ne_i57, ne_i59, ne_i63, ne_i64, ne_i76, ne_i77, ne_i78, ne_i79, ne_i80, ne_i81, ne_i97, ne_i99, ne_i100, ne_i101, ne_i104, ne_i105, ne_i108, ne_i110, ne_i111, ne_i116, ne_i117, ne_i122, ne_i103, ne_i200, ne_i255, ne_i256, ne_i320, ne_i384, ne_i1000, ne_l0, ne_l1, ne_l2, ne_l3, ne_l4, ne_l5, ne_l8, ne_l12, ne_l31, ne_l48, ne_l57, ne_l97, ne_l99, ne_l122, ne_l255, ne_l673, ne_l1073741823, ne_l1073741824, n79T, m1, n79, m3, m4, m5, n78]
      · refine ⟨by rw [eb 76 (by decide) (by decide)]; exact o1, by rw [eb 77 (by decide) (by decide)]; exact o2, by omega, by omega, by omega, by rw [eb 80 (by decide) (by decide)]; exact o6, fun c hc => ?_, fun c x hc hx => ?_, fun t ht => ?_, fun k hk => ?_⟩
        · rw [eb 76 (by decide) (by decide)] at hc
          rw [eb _ (by omega) (by omega), eb _ (by omega) (by omega), eb _ (by omega) (by omega), eb _ (by omega) (by omega)]
          exact o7 c hc
        · exact sp_h8_eq o1 (eb 76 (by decide) (by decide)) (eb 77 (by decide) (by decide)) (fun k h1 h2 => eb k (by omega) (by omega)) o8 c x hc hx
        · rw [eb 77 (by decide) (by decide)] at ht
          rw [eb _ (by omega) (by omega)]
          exact o9 t ht
        · rw [eb 80 (by decide) (by decide)] at hk
          rw [eb _ (by omega) (by omega), eb _ (by omega) (by omega), eb _ (by omega) (by omega), eb _ (by omega) (by omega)]
          exact o10 k hk
      · have e4 := nw5 4 (by omega)
        refine ⟨fun c hc => ?_, ?_, ?_, ?_⟩
        · rw [eb 76 (by decide) (by decide)] at hc
          show v5 (19 + c) ≤ 12 * v5 (19 + 4)
          rw [nw5 c (by omega), e4]
          exact sp_nw_w hs hwv.1 c hc
        · show 0 < v5 (19 + 4)
          rw [e4]
          exact sp_nw_0 hs hwv.2.1
        · show sm0 (v5 (19 + 4))
          rw [e4]
          exact sm0_ns hs hwv.2.2.1 1
        · show v5 (19 + 4) ≤ _
          rw [e4, eb8]
          exact sp_nw_4 hs _ hwv.2.2.2
      · rw [eb9] at hj
        rw [eb8, eb9]
        by_cases q : j = n'
        · subst q
          have e4 := p5n 4 (by omega)
          refine ⟨fun c hc => ?_, ?_, ?_, ?_⟩
          · rw [eb 76 (by decide) (by decide)] at hc
            show v5 (24 + 5 * j + c) ≤ 12 * v5 (24 + 5 * j + 4)
            rw [p5n c (by omega), e4]
            exact hwv.1 c hc
          · show 0 < v5 (24 + 5 * j + 4)
            rw [e4]; exact hwv.2.1
          · show sm0 (v5 (24 + 5 * j + 4))
            rw [e4]; exact hwv.2.2.1
          · show v5 (24 + 5 * j + 4) ≤ _
            rw [e4, show a 78 + 1 - (j + 1) + j = a 78 by omega]
            exact hwv.2.2.2
        · have e4 := p5j j 4 (by omega) (by omega)
          obtain ⟨g1, g2, g3, g4⟩ := hpast (j + d) (by omega)
          refine ⟨fun c hc => ?_, ?_, ?_, ?_⟩
          · rw [eb 76 (by decide) (by decide)] at hc
            show v5 (24 + 5 * j + c) ≤ 12 * v5 (24 + 5 * j + 4)
            rw [p5j j c (by omega) (by omega), e4]
            exact g1 c hc
          · show 0 < v5 (24 + 5 * j + 4)
            rw [e4]; exact g2
          · show sm0 (v5 (24 + 5 * j + 4))
            rw [e4]; exact g3
          · show v5 (24 + 5 * j + 4) ≤ _
            rw [e4, show a 78 + 1 - (n' + 1) + j = a 78 - a 79 + (j + d) by omega]
            exact g4
      · refine ⟨?_, fun i hi => ?_, fun t ht => ?_, fun i x hi hx => ?_, fun i x hi hi4 hx => ?_, fun k f hk hf' => ?_, ?_, fun j hj => ?_⟩
        · rw [z3 9 (by decide) (by decide), z3 10 (by decide) (by decide), z2, z1, z3 13 (by decide) (by decide), fX1 9 (by decide), fX1 10 (by decide), fX1 11 (by decide), fX1 13 (by decide), eb8, eb9, eb 76 (by decide) (by decide), eb 77 (by decide) (by decide), eb 80 (by decide) (by decide)]
          exact ⟨c1.1, c1.2.1, by rw [c1.2.2.1, nI_add], rfl, c1.2.2.2.2⟩
        · rw [eb 76 (by decide) (by decide)] at hi
          rw [z7 _ (by omega) (by omega), z7 _ (by omega) (by omega), z7 _ (by omega) (by omega), z7 _ (by omega) (by omega), fXT _ (by omega), fXT _ (by omega), fXT _ (by omega), fXT _ (by omega), fX2 _ (by omega), fX2 _ (by omega), fX2 _ (by omega), fX2 _ (by omega), eb _ (by omega) (by omega), eb _ (by omega) (by omega), eb _ (by omega) (by omega), eb _ (by omega) (by omega)]
          exact k1 i hi
        · rw [eb 77 (by decide) (by decide)] at ht
          rw [z7 _ (by omega) (by omega), fXT _ (by omega), fX2 _ (by omega), eb _ (by omega) (by omega)]
          exact co t ht
        · rw [eb 76 (by decide) (by decide)] at hi
          rw [z7 _ (by omega) (by omega), fXT _ (by omega), fX2 _ (by omega), eb _ (by omega) (by omega)]
          exact hh i x hi hx
        · rw [eb 76 (by decide) (by decide)] at hi
          rw [z7 _ (by omega) (by omega), fXT _ (by omega), fX2 _ (by omega)]
          exact hz i x hi hi4 hx
        · rw [eb 80 (by decide) (by decide)] at hk
          rw [z7 _ (by omega) (by omega), fXT _ (by omega), fX2 _ (by omega), eb _ (by omega) (by omega)]
          exact wi k f hk hf'
        · rw [eb 76 (by decide) (by decide)]
          exact xsh_eq o1 nw5 z4
        · rw [eb9] at hj
          rw [eb 76 (by decide) (by decide)]
          have er : X'.2.2 (1 + 13) j = XT.2.2 14 j := by rw [z8]
          rw [er]
          by_cases q : j = n'
          · subst q
            exact xsh_eq o1 (fun c hc => p5n c hc) z5
          · exact xsh_eq o1 (fun c hc => p5j j c (by omega) hc) (z6 j (by omega))
      · rcases hs' with hs' | hs'
        · exact lo5 s hs'
        · exact hi54 s hs'
      · show (sm_sI S5 1 78 _).1 p = S.1 p
        rw [ne_sI1n (by omega)]
        exact fS5 p (by omega) (by omega) (by omega) (by omega)
      · show (sm_sI S5 1 78 _).1 0 6 = S.1 0 6
        rw [ne_sI1n (by omega), fS5 0 (by omega) (by omega) (by omega) (by omega)]
      · show (sm_sI S5 1 78 _).1 0 21 = S.1 0 21
        rw [ne_sI1n (by omega), fS5 0 (by omega) (by omega) (by omega) (by omega)]
      · rw [z7 p (by omega) (by omega), fXT p (by omega), fX2 p (by omega)]
      · rw [z7 102 (by omega) (by omega), fXT 102 (by omega), fX2 102 (by omega)]
    have b78 : S.1 1 78 = nI (a 78) := hw 78 (by decide)
    have b79 : S.1 1 79 = nI (a 79) := hw 79 (by decide)
    have x11 : X.1 1 11 = nI (a 78) := c1.2.2.1
    have x12 : X2.1 1 12 = nI (a 79) := by rw [fX2 1 (by omega)]; exact c1.2.2.2.1
    have d16 := xq_16 y2
    have hP2 : hpl X2 1 := hpl_fr (by rw [rX2]) hP
    unfold px_L_sleep pm_sleep px_House_wakeUpWith
    by_cases h6 : a 79 = 6
    · obtain ⟨g, er, g1, g2⟩ := xq_rot (N := N) (q := q) (X := X2) hN hP2
      obtain ⟨ST, em, pT⟩ := np_shift (N := N) hN h.2.1
      have dz := hpl_16 hP2 (show 0 < 6 by decide)
      have e14 : (1 + 13) = 14 := rfl
      have f12 : (sm_rF X2 14 g).1 1 12 - nI 1 = nI 5 := by rw [rF_1, x12, h6, pk_sub (by decide)]
      have := fin 5 1 (sm_sI (sm_rF X2 14 g) 1 12 (nI 5)) (sm_sI ST 1 79 (nI 5)) (sm_sI S 1 79 (nI 5)) (va_up a 79 5) (fun s => if 24 ≤ s ∧ s < 49 then v (s + 5) else v s) (by decide) (by omega) ?_ (by rw [ne_sI1s, pk_us]) (fun p hp => ne_sI1n hp) (fun j hj => by rw [ne_sI1s, pk_un hj, rF_1, fX2 1 (by omega)]) (fun p hp => ?_) (fun j hj => ?_) (nP_sI pT (by decide)) (nw_up hw (by decide)) ne_up_s (fun k hk => ne_up_n hk) (fun p hp => ne_sI1n hp) (fun s hs' => by rw [if_neg (by omega)]) (fun j c hj hc => ?_)
      · simp (disch := omega) only [sm_lt, sm_b1s, sm_b2s, ↓reduceIte, sm_in_nI, nI_clamp, nI_add, pk_mul, pk_sub, ne_addneg, nI_l, ne_ltT, ne_ltF, ne_leT, ne_leF, ne_eqT, ne_eqF, ne_sI1s, ne_sI1n, ne_sI2, ne_sI3, ne_sL1, ne_sL2s, ne_sL2n, ne_sL3, pk_us, pk_un, pk_uLs, pk_uLn, mm_Z, mm_L, mm_1, mm_2, mm_3, ne_rz0, ne_rz1, not_true_eq_false, not_false_eq_true, ne_i0, ne_i1, ne_i2, ne_i3, ne_i4, ne_i5, ne_i6, ne_i7, ne_i8, ne_i9, ne_i10, ne_i12, ne_i14, ne_i16, ne_i18, ne_i19, ne_i20, ne_i23, ne_i24, ne_i27, ne_i29, ne_i30, ne_i31, ne_i32, ne_i35, ne_i48, ne_i52, ne_i54, ne_i57, ne_i59, ne_i63, ne_i64, ne_i76, ne_i77, ne_i78, ne_i79, ne_i80, ne_i81, ne_i97, ne_i99, ne_i100, ne_i101, ne_i104, ne_i105, ne_i108, ne_i110, ne_i111, ne_i116, ne_i117, ne_i122, ne_i103, ne_i200, ne_i255, ne_i256, ne_i320, ne_i384, ne_i1000, ne_l0, ne_l1, ne_l2, ne_l3, ne_l4, ne_l5, ne_l8, ne_l12, ne_l31, ne_l48, ne_l57, ne_l97, ne_l99, ne_l122, ne_l255, ne_l673, ne_l1073741823, ne_l1073741824, x11, b78, b79, h6, e1, e2, d16, x12, e14, dz, er, f12, em]
        exact this
      · refine ⟨fun j hj => ?_, fun j k hj hk e => ?_⟩
        · show ∃ s, s < 6 ∧ (sm_rF X2 14 g).2.2 14 j = 1 + 14 + 2 * s
          rw [rF_s]
          by_cases q : j < 5
          · rw [g1 j q]
            exact hP2.1 (j + 1) (by omega)
          · rw [show j = 5 by omega, g2]
            exact hP2.1 0 (by omega)
        · have e' : (sm_rF X2 14 g).2.2 14 j = (sm_rF X2 14 g).2.2 14 k := e
          rw [rF_s] at e'
          have at' : ∀ j, j < 6 → g j = X2.2.2 14 (if j < 5 then j + 1 else 0) := fun j hj => by
            by_cases q : j < 5
            · rw [if_pos q]; exact g1 j q
            · rw [if_neg q, show j = 5 by omega]; exact g2
          rw [at' j hj, at' k hk] at e'
          have := hP2.2 _ _ (by split <;> omega) (by split <;> omega) e'
          split at this <;> split at this <;> omega
      · show (sm_rF X2 14 g).2.2 p = X.2.2 p
        rw [rF_n hp, rX2]
      · have er' : (sm_sI (sm_rF X2 14 g) 1 12 (nI 5)).2.2 14 j = X2.2.2 14 (j + 1) := by
          show (sm_rF X2 14 g).2.2 14 j = _
          rw [rF_s, g1 j hj]
        rw [er', rX2]
        have := past (j + 1) (by omega)
        obtain ⟨t, t1, t2⟩ := hP.1 (j + 1) (by omega)
        have t2 : X.2.2 14 (j + 1) = 1 + 14 + 2 * t := t2
        exact xsh_fr (by rw [ne_sI1n (by omega), rF_1, fX2 _ (by omega)]) (by rw [ne_sI1n (by omega), rF_1, fX2 _ (by omega)]) this
      · show (if 24 ≤ 24 + 5 * j + c ∧ 24 + 5 * j + c < 49 then v (24 + 5 * j + c + 5) else _) = _
        rw [if_pos (by omega)]
        congr 1
        omega
    · have := fin (a 79) 0 X2 S S a v (by omega) (by omega) hP2 x12 (fun _ _ => rfl) (fun j _ => by rw [fX2 1 (by omega)]) (fun p _ => by rw [rX2]) (fun j hj => ?_) h.2.1 hw rfl (fun _ _ => rfl) (fun _ _ => rfl) (fun _ _ => rfl) (fun _ _ _ _ => rfl)
      · simp (disch := omega) only [sm_lt, sm_b1s, sm_b2s, ↓reduceIte, sm_in_nI, nI_clamp, nI_add, pk_mul, pk_sub, ne_addneg, nI_l, ne_ltT, ne_ltF, ne_leT, ne_leF, ne_eqT, ne_eqF, ne_sI1s, ne_sI1n, ne_sI2, ne_sI3, ne_sL1, ne_sL2s, ne_sL2n, ne_sL3, pk_us, pk_un, pk_uLs, pk_uLn, mm_Z, mm_L, mm_1, mm_2, mm_3, ne_rz0, ne_rz1, not_true_eq_false, not_false_eq_true, ne_i0, ne_i1, ne_i2, ne_i3, ne_i4, ne_i5, ne_i6, ne_i7, ne_i8, ne_i9, ne_i10, ne_i12, ne_i14, ne_i16, ne_i18, ne_i19, ne_i20, ne_i23, ne_i24, ne_i27, ne_i29, ne_i30, ne_i31, ne_i32, ne_i35, ne_i48, ne_i52, ne_i54, ne_i57, ne_i59, ne_i63, ne_i64, ne_i76, ne_i77, ne_i78, ne_i79, ne_i80, ne_i81, ne_i97, ne_i99, ne_i100, ne_i101, ne_i104, ne_i105, ne_i108, ne_i110, ne_i111, ne_i116, ne_i117, ne_i122, ne_i103, ne_i200, ne_i255, ne_i256, ne_i320, ne_i384, ne_i1000, ne_l0, ne_l1, ne_l2, ne_l3, ne_l4, ne_l5, ne_l8, ne_l12, ne_l31, ne_l48, ne_l57, ne_l97, ne_l99, ne_l122, ne_l255, ne_l673, ne_l1073741823, ne_l1073741824, x11, b78, b79, e1, e2, d16, x12]
        exact this
      · rw [rX2]
        obtain ⟨t, t1, t2⟩ := hP.1 j (by omega)
        have t2 : X.2.2 14 j = 1 + 14 + 2 * t := t2
        exact xsh_fr (fX2 _ (by omega)) (fX2 _ (by omega)) (past j hj)
  · have b78 : S.1 1 78 = nI (a 78) := hw 78 (by decide)
    have x11 : X.1 1 11 = nI (a 78) := c1.2.2.1
    unfold px_L_sleep pm_sleep
    simp (disch := omega) only [sm_lt, sm_b1s, sm_b2s, ↓reduceIte, sm_in_nI, nI_clamp, nI_add, pk_mul, pk_sub, ne_addneg, nI_l, ne_ltT, ne_ltF, ne_leT, ne_leF, ne_eqT, ne_eqF, ne_sI1s, ne_sI1n, ne_sI2, ne_sI3, ne_sL1, ne_sL2s, ne_sL2n, ne_sL3, pk_us, pk_un, pk_uLs, pk_uLn, mm_Z, mm_L, mm_1, mm_2, mm_3, ne_rz0, ne_rz1, not_true_eq_false, not_false_eq_true, ne_i0, ne_i1, ne_i2, ne_i3, ne_i4, ne_i5, ne_i6, ne_i7, ne_i8, ne_i9, ne_i10, ne_i12, ne_i14, ne_i16, ne_i18, ne_i19, ne_i20, ne_i23, ne_i24, ne_i27, ne_i29, ne_i30, ne_i31, ne_i32, ne_i35, ne_i48, ne_i52, ne_i54, ne_i57, ne_i59, ne_i63, ne_i64, ne_i76, ne_i77, ne_i78, ne_i79, ne_i80, ne_i81, ne_i97, ne_i99, ne_i100, ne_i101, ne_i104, ne_i105, ne_i108, ne_i110, ne_i111, ne_i116, ne_i117, ne_i122, ne_i103, ne_i200, ne_i255, ne_i256, ne_i320, ne_i384, ne_i1000, ne_l0, ne_l1, ne_l2, ne_l3, ne_l4, ne_l5, ne_l8, ne_l12, ne_l31, ne_l48, ne_l57, ne_l97, ne_l99, ne_l122, ne_l255, ne_l673, ne_l1073741823, ne_l1073741824, x11, b78, xq_no, np_no]
    exact ⟨_, _, _, rfl, rfl, R_no hR⟩
end
