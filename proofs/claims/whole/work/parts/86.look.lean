/-! the reference's tokens -/
/-- 0 the end, 1 a word, 2 a number, 3 a stop, 4 else -/
def tk_M (tx : Nat → Nat) (len q : Nat) : Nat := if tk_p tx len q < len then (if tk_lt (tx (tk_p tx len q)) = true then 1 else if tk_fg (tx (tk_p tx len q)) = true then (if tk_l tx len q ≤ 2 then 2 else 4) else if tx (tk_p tx len q) = 59 then 3 else 4) else 0
def lkI (M0 M S : sm_St) (v : Nat → Nat) (p : Nat) (l kd va : Int32) : Prop := nP M v S ∧ (∀ q, q ≠ 0 → M.1 q = M0.1 q) ∧ (∀ k, ¬ (22 ≤ k ∧ k ≤ 25) → M.1 0 k = M0.1 0 k) ∧ M.1 0 22 = nI p ∧ M.1 0 23 = l ∧ M.1 0 24 = kd ∧ M.1 0 25 = va
def lkT (M0 : sm_St) (tx : Nat → Nat) (len : Nat) : Prop := len ≤ 200 ∧ M0.1 0 21 = nI len ∧ ∀ k, k < len → tx k ≤ 255 ∧ M0.1 17 k = nI (tx k)
section
variable {N : Nat} {M0 M S : sm_St} {v tx : Nat → Nat} {len p q : Nat} {l kd va : Int32}
theorem lkI_22 {x : Nat} (h : lkI M0 M S v p l kd va) : lkI M0 (sm_sI M 0 22 (nI x)) (sm_sI S 0 22 (nI x)) v x l kd va := by
  obtain ⟨h1, h2, h3, h4, h5, h6, h7⟩ := h
  exact ⟨nP_sI h1 (by decide), fun q hq => by rw [ne_sI1n hq]; exact h2 q hq, fun k hk => by rw [ne_sI1s, pk_un (by omega)]; exact h3 k hk, by rw [ne_sI1s, pk_us], by rw [ne_sI1s, pk_un (by decide)]; exact h5, by rw [ne_sI1s, pk_un (by decide)]; exact h6, by rw [ne_sI1s, pk_un (by decide)]; exact h7⟩
theorem lkI_23 {x : Int32} (h : lkI M0 M S v p l kd va) : lkI M0 (sm_sI M 0 23 x) (sm_sI S 0 23 x) v p x kd va := by
  obtain ⟨h1, h2, h3, h4, h5, h6, h7⟩ := h
  exact ⟨nP_sI h1 (by decide), fun q hq => by rw [ne_sI1n hq]; exact h2 q hq, fun k hk => by rw [ne_sI1s, pk_un (by omega)]; exact h3 k hk, by rw [ne_sI1s, pk_un (by decide)]; exact h4, by rw [ne_sI1s, pk_us], by rw [ne_sI1s, pk_un (by decide)]; exact h6, by rw [ne_sI1s, pk_un (by decide)]; exact h7⟩
theorem lkI_24 {x : Int32} (h : lkI M0 M S v p l kd va) : lkI M0 (sm_sI M 0 24 x) (sm_sI S 0 24 x) v p l x va := by
  obtain ⟨h1, h2, h3, h4, h5, h6, h7⟩ := h
  exact ⟨nP_sI h1 (by decide), fun q hq => by rw [ne_sI1n hq]; exact h2 q hq, fun k hk => by rw [ne_sI1s, pk_un (by omega)]; exact h3 k hk, by rw [ne_sI1s, pk_un (by decide)]; exact h4, by rw [ne_sI1s, pk_un (by decide)]; exact h5, by rw [ne_sI1s, pk_us], by rw [ne_sI1s, pk_un (by decide)]; exact h7⟩
theorem lkI_25 {x : Int32} (h : lkI M0 M S v p l kd va) : lkI M0 (sm_sI M 0 25 x) (sm_sI S 0 25 x) v p l kd x := by
  obtain ⟨h1, h2, h3, h4, h5, h6, h7⟩ := h
  exact ⟨nP_sI h1 (by decide), fun q hq => by rw [ne_sI1n hq]; exact h2 q hq, fun k hk => by rw [ne_sI1s, pk_un (by omega)]; exact h3 k hk, by rw [ne_sI1s, pk_un (by decide)]; exact h4, by rw [ne_sI1s, pk_un (by decide)]; exact h5, by rw [ne_sI1s, pk_un (by decide)]; exact h6, by rw [ne_sI1s, pk_us]⟩
/-- what stands in the memory -/
theorem lkI_S (h : lkI M0 M S v p l kd va) : S.1 0 22 = nI p ∧ S.1 0 23 = l ∧ S.1 0 24 = kd ∧ S.1 0 25 = va := by
  obtain ⟨h1, h2, h3, h4, h5, h6, h7⟩ := h
  rw [nP_1 h1 (by decide)]
  exact ⟨h4, h5, h6, h7⟩
theorem lkI_T {k : Nat} (h : lkI M0 M S v p l kd va) (hT : lkT M0 tx len) (hk : k < len) : S.1 17 k = nI (tx k) := by
  rw [nP_1 h.1 (by decide), h.2.1 17 (by decide)]
  exact (hT.2.2 k hk).2
theorem lkI_L (h : lkI M0 M S v p l kd va) (hT : lkT M0 tx len) : S.1 0 21 = nI len := by
  rw [nP_1 h.1 (by decide), h.2.2.1 21 (by decide)]
  exact hT.2.1
theorem ml_lt {c : Nat} (hc : c ≤ 255) : pm_isSmall N S (nI c) = some (nI (sp_b (tk_lt c)), S) := by
  unfold pm_isSmall
  rw [nI_l (show c < 2 ^ 31 by omega)]
  by_cases h : 97 ≤ c ∧ c ≤ 122
  · rw [show pm_in N S (lN c) (97 : Int64) (122 : Int64) = some (nI 1, S) from ne_inT (a := 97) (b := 122) h.1 h.2 (by decide), sm_b2s, show tk_lt c = true from decide_eq_true h]
    rfl
  · rw [show pm_in N S (lN c) (97 : Int64) (122 : Int64) = some (nI 0, S) from ne_inF (a := 97) (b := 122) (by omega) (by omega) (by decide) (by decide), sm_b2s, show tk_lt c = false from decide_eq_false h]
    rfl
theorem ml_fg {c : Nat} (hc : c ≤ 255) : pm_isFigure N S (nI c) = some (nI (sp_b (tk_fg c)), S) := by
  unfold pm_isFigure
  rw [nI_l (show c < 2 ^ 31 by omega)]
  by_cases h : 48 ≤ c ∧ c ≤ 57
  · rw [show pm_in N S (lN c) (48 : Int64) (57 : Int64) = some (nI 1, S) from ne_inT (a := 48) (b := 57) h.1 h.2 (by decide), sm_b2s, show tk_fg c = true from decide_eq_true h]
    rfl
  · rw [show pm_in N S (lN c) (48 : Int64) (57 : Int64) = some (nI 0, S) from ne_inF (a := 48) (b := 57) (by omega) (by omega) (by decide) (by decide), sm_b2s, show tk_fg c = false from decide_eq_false h]
    rfl
/-- the worth -/
theorem ml_val {L k : Nat} (hN : 4000 ≤ N) (h : lkI M0 M S v p (nI L) (nI k) (nI 0)) (hT : lkT M0 tx len) (hL : p + L ≤ len) (hL1 : 1 ≤ L) (hk : k ≤ 4) (hf : k = 2 → ∀ i, i < L → tk_fg (tx (p + i)) = true) : ∃ M' S', pm_look_b215 N S = some S' ∧ lkI M0 M' S' v p (nI L) (nI (if k = 2 ∧ 2 < L then 4 else k)) (nI (if k = 2 then tk_vl tx p L else 0)) := by
  have hl := hT.1
  have z2 : ∀ k, k ≤ 4 → (nI k = (2 : Int32) ↔ k = 2) := fun k hk => nI_eq (b := 2) (by omega) (by decide)
  -- behind the figures
  have fin : ∀ M1 S1 va, lkI M0 M1 S1 v p (nI L) (nI k) va → ∃ M' S', pm_look_b274 N S1 = some S' ∧ lkI M0 M' S' v p (nI L) (nI (if k = 2 ∧ 2 < L then 4 else k)) va := by
    intro M1 S1 va h1
    obtain ⟨f1, f2, f3, f4⟩ := lkI_S h1
    unfold pm_look_b274 pm_look_b295 pm_look_b299
    rw [f3, f2]
    by_cases k2 : k = 2
    · rw [if_pos ((z2 k hk).mpr k2)]
      by_cases l2 : 2 < L
      · rw [if_neg (show ¬ nI L ≤ (2 : Int32) from nI_ge (a := 2) l2 (by omega)), if_pos ⟨k2, l2⟩]
        exact ⟨_, _, rfl, lkI_24 h1⟩
      · rw [if_pos (show nI L ≤ (2 : Int32) from nI_le (b := 2) (by omega) (by decide)), if_neg (fun z => l2 z.2)]
        exact ⟨_, _, rfl, lkI_24 h1⟩
    · rw [if_neg (fun z => k2 ((z2 k hk).mp z)), if_neg (fun z => k2 z.1)]
      exact ⟨_, _, rfl, lkI_24 h1⟩
  unfold pm_look_b215
  simp only [sm_lt]
  by_cases k2 : k = 2
  · rw [if_pos k2]
    have hff := hf k2
    have st : tk_vl tx p 0 = 0 := if_pos rfl
    have h' : lkI M0 M S v p (nI L) (nI k) (nI (tk_vl tx p 0)) := by rw [st]; exact h
    have res := ne_loop (fun f i (s : sm_St × sm_St) => pm_look_b218 N f (nI i) s.2) (fun i s => lkI M0 s.1 s.2 v p (nI L) (nI k) (nI (tk_vl tx p i))) (min L 2) (fun r => ∃ M' S', r = some S' ∧ lkI M0 M' S' v p (nI L) (nI (if k = 2 ∧ 2 < L then 4 else k)) (nI (tk_vl tx p L))) ?_ ?_ N 0 (M, S) (by omega) (by omega) h'
    · exact res
    · rintro f i ⟨M1, S1⟩ hi hI
      simp only at hI
      left
      obtain ⟨f1, f2, f3, f4⟩ := lkI_S hI
      have hb := of_decide_eq_true (hff i (by omega))
      have etx := lkI_T hI hT (show p + i < len by omega)
      have vb := tk_vl_b (i := i) (fun k hk => hff k (by omega))
      have ev : tk_vl tx p (i + 1) = 10 * tk_vl tx p i + tx (p + i) - 48 := by
        unfold tk_vl
        have i' : i = 0 ∨ i = 1 := by omega
        rcases i' with rfl | rfl
        · rw [if_neg (by omega), if_pos rfl, if_pos rfl]
          simp
        · rw [if_neg (by omega), if_neg (by omega), if_neg (by omega), if_pos rfl]
          omega
      have hv : ((10 : Int32) * nI (tk_vl tx p i) + nI (tx (p + i))) - (48 : Int32) = nI (tk_vl tx p (i + 1)) := by
        rw [show (10 : Int32) = nI 10 from rfl, show (48 : Int32) = nI 48 from rfl, pk_mul, nI_add, pk_sub (by omega), ev]
      refine ⟨(sm_sI M1 0 25 (nI (tk_vl tx p (i + 1))), sm_sI S1 0 25 (nI (tk_vl tx p (i + 1)))), lkI_25 hI, ?_⟩
      show pm_look_b218 N (f + 1) (nI i) S1 = pm_look_b218 N f (nI (i + 1)) _
      rw [pm_look_b218, f2, if_neg (nI_ge (show i < L by omega) (by omega)), if_neg (show ¬ (2 : Int32) ≤ nI i from nI_ge (b := 2) (by omega) (by decide)), f3, if_pos ((z2 k hk).mpr k2), f1, nI_add, sm_ite_t (sm_in_nI (show p + i < 200 by omega) (by decide)), nI_clamp (show p + i < 2 ^ 31 by omega), etx, f4, hv]
      simp only [sm_lt]
      rw [nI_1]
    · rintro f ⟨M1, S1⟩ hI
      simp only at hI
      show ∃ M' S', pm_look_b218 N (f + 1) (nI (min L 2)) S1 = _ ∧ _
      obtain ⟨f1, f2, f3, f4⟩ := lkI_S hI
      have ev : tk_vl tx p (min L 2) = tk_vl tx p L := by
        by_cases l2 : L ≤ 2
        · rw [Nat.min_eq_left l2]
        · rw [Nat.min_eq_right (by omega)]
          unfold tk_vl
          rw [if_neg (by decide), if_neg (by decide), if_neg (by omega), if_neg (by omega)]
      rw [ev] at hI
      have e : pm_look_b218 N (f + 1) (nI (min L 2)) S1 = pm_look_b274 N S1 := by
        rw [pm_look_b218, f2]
        by_cases l2 : L ≤ 2
        · rw [Nat.min_eq_left l2, if_pos (nI_le (Nat.le_refl _) (by omega))]
        · rw [Nat.min_eq_right (by omega), if_neg (nI_ge (by omega) (by omega)), if_pos (show (2 : Int32) ≤ nI 2 by decide)]
      rw [e]
      exact fin M1 S1 _ hI
  · rw [if_neg k2]
    obtain ⟨f1, f2, f3, f4⟩ := lkI_S h
    obtain ⟨m, rfl⟩ : ∃ m, N = m + 1 := ⟨N - 1, by omega⟩
    have e : pm_look_b218 (m + 1) (m + 1) (0 : Int32) S = pm_look_b274 (m + 1) S := by
      rw [pm_look_b218, f2, if_neg (show ¬ nI L ≤ (0 : Int32) from nI_ge (a := 0) (by omega) (by omega)), if_neg (show ¬ (2 : Int32) ≤ (0 : Int32) by decide), f3, if_neg (fun z => k2 ((z2 k hk).mp z))]
    rw [e]
    exact fin M S _ h
/-- a run of letters or of figures -/
theorem ml_run {k : Nat} {P : Nat → Bool} (hN : 4000 ≤ N) (hkP : (k = 1 ∧ P = tk_lt) ∨ (k = 2 ∧ P = tk_fg)) (h : lkI M0 M S v p (nI 1) (nI k) (nI 0)) (hT : lkT M0 tx len) (hp : p < len) (h0 : P (tx p) = true) : ∃ M' S', pm_look_b136 N N (nI 1) S = pm_look_b215 N S' ∧ lkI M0 M' S' v p (nI (rn P tx (len - p) p)) (nI k) (nI 0) ∧ 1 ≤ rn P tx (len - p) p ∧ p + rn P tx (len - p) p ≤ len ∧ ∀ i, i < rn P tx (len - p) p → P (tx (p + i)) = true := by
  obtain ⟨r1, r2, r3⟩ := rn_is P tx (len - p) p
  have hl := hT.1
  have L1 : 1 ≤ rn P tx (len - p) p := by
    rcases Nat.eq_zero_or_pos (rn P tx (len - p) p) with e | e
    · rw [e, Nat.add_zero, h0] at r3
      have := r3 (by omega)
      cases this
    · exact e
  generalize rn P tx (len - p) p = L at *
  have z1 : ¬ (nI 1 = 0) := by decide
  have hk : k ≤ 2 := by omega
  -- one byte is looked at
  have one : ∀ (f : Nat) (M1 S1 : sm_St) (j : Nat), lkI M0 M1 S1 v p (nI j) (nI k) (nI 0) → p + j < len → pm_look_b136 N (f + 1) (nI 1) S1 = pm_look_b193 N (pm_look_b136 N f) (nI (sp_b (P (tx (p + j))))) S1 := by
    intro f M1 S1 j hI hj
    obtain ⟨f1, f2, f3, f4⟩ := lkI_S hI
    have f21 := lkI_L hI hT
    have etx := lkI_T hI hT hj
    have c1 := (hT.2.2 (p + j) hj).1
    rw [pm_look_b136, if_neg z1, f21, f1, f2, nI_add, if_neg (nI_ge hj (by omega)), sm_ite_t (sm_in_nI (show p + j < 200 by omega) (by decide)), nI_clamp (show p + j < 2 ^ 31 by omega), etx]
    simp only [sm_lt]
    rw [f3]
    rcases hkP with ⟨rfl, rfl⟩ | ⟨rfl, rfl⟩
    · rw [if_pos (show nI 1 = (1 : Int32) from rfl), ml_lt c1, sm_b2s]
    · rw [if_neg (show ¬ nI 2 = (1 : Int32) by decide), ml_fg c1, sm_b2s]
  have res := ne_loop (fun f j (s : sm_St × sm_St) => pm_look_b136 N f (nI (if j ≤ L then 1 else 0)) s.2) (fun j s => 1 ≤ j ∧ lkI M0 s.1 s.2 v p (nI (min j L)) (nI k) (nI 0)) (L + 1) (fun r => ∃ M' S', r = pm_look_b215 N S' ∧ lkI M0 M' S' v p (nI L) (nI k) (nI 0)) ?_ ?_ N 1 (M, S) (by omega) (by omega) ⟨Nat.le_refl _, by rw [Nat.min_eq_left L1]; exact h⟩
  · obtain ⟨M', S', e, g⟩ := res
    rw [if_pos L1] at e
    exact ⟨M', S', e, g, L1, by omega, r2⟩
  · rintro f j ⟨M1, S1⟩ hj ⟨j1, hI⟩
    simp only at j1 hI
    rw [Nat.min_eq_left (by omega)] at hI
    obtain ⟨f1, f2, f3, f4⟩ := lkI_S hI
    show (∃ s', _ ∧ pm_look_b136 N (f + 1) (nI (if j ≤ L then 1 else 0)) S1 = pm_look_b136 N f _ _) ∨ ∃ M' S', pm_look_b136 N (f + 1) (nI (if j ≤ L then 1 else 0)) S1 = _ ∧ _
    rw [if_pos (show j ≤ L by omega)]
    by_cases e : j = L
    · by_cases l : p + L = len
      · right
        have f21 := lkI_L hI hT
        refine ⟨M1, S1, ?_, by rw [← e]; exact hI⟩
        rw [pm_look_b136, if_neg z1, f21, f1, f2, nI_add, if_pos (nI_le (by omega) (by omega))]
      · left
        have hb := r3 (by omega)
        rw [← e] at hb
        refine ⟨(sm_sI M1 0 23 (nI j), sm_sI S1 0 23 (nI j)), ⟨by omega, by rw [Nat.min_eq_right (by omega), ← e]; exact lkI_23 hI⟩, ?_⟩
        rw [one f M1 S1 j hI (by omega), hb, if_neg (show ¬ j + 1 ≤ L by omega)]
        unfold pm_look_b193 pm_look_b208
        simp only [sm_lt]
        rw [if_pos (show nI (sp_b false) = 0 from rfl), f2, show (0 : Int32) = nI 0 from rfl, nI_add, Nat.add_zero]
        rfl
    · left
      have hb := r2 j (by omega)
      refine ⟨(sm_sI M1 0 23 (nI (j + 1)), sm_sI S1 0 23 (nI (j + 1))), ⟨by omega, by rw [Nat.min_eq_left (by omega)]; exact lkI_23 hI⟩, ?_⟩
      rw [one f M1 S1 j hI (by omega), hb, if_pos (show j + 1 ≤ L by omega)]
      unfold pm_look_b193 pm_look_b208
      simp only [sm_lt]
      rw [if_neg (show ¬ nI (sp_b true) = 0 from z1), f2, nI_1]
      rfl
  · rintro f ⟨M1, S1⟩ ⟨j1, hI⟩
    simp only at j1 hI
    rw [Nat.min_eq_right (by omega)] at hI
    refine ⟨M1, S1, ?_, hI⟩
    show pm_look_b136 N (f + 1) (nI (if L + 1 ≤ L then 1 else 0)) S1 = _
    rw [if_neg (show ¬ L + 1 ≤ L by omega), pm_look_b136, if_pos (show nI 0 = 0 from rfl)]
theorem ml_skip (hN : 4000 ≤ N) (h : lkI M0 M S v q l kd va) (hT : lkT M0 tx len) (hq : q ≤ len) : ∃ M' S', pm_look_b5 N N S = pm_look_b43 N S' ∧ lkI M0 M' S' v (tk_p tx len q) l kd va := by
  obtain ⟨r1, r2, r3⟩ := rn_is tk_bl tx (len - q) q
  have hl := hT.1
  unfold tk_p
  refine ne_loop (fun f _ (s : sm_St × sm_St) => pm_look_b5 N f s.2) (fun i s => lkI M0 s.1 s.2 v (q + i) l kd va) (rn tk_bl tx (len - q) q) (fun r => ∃ M' S', r = pm_look_b43 N S' ∧ lkI M0 M' S' v (q + rn tk_bl tx (len - q) q) l kd va) ?_ ?_ N 0 (M, S) (by omega) (by omega) h
  · rintro f i ⟨M1, S1⟩ hi hI
    simp only at hI
    left
    obtain ⟨f1, f2, f3, f4⟩ := lkI_S hI
    have f21 := lkI_L hI hT
    have hb := of_decide_eq_true (r2 i hi)
    have etx := lkI_T hI hT (show q + i < len by omega)
    refine ⟨(sm_sI M1 0 22 (nI (q + (i + 1))), sm_sI S1 0 22 (nI (q + (i + 1)))), lkI_22 hI, ?_⟩
    show pm_look_b5 N (f + 1) S1 = pm_look_b5 N f _
    rw [pm_look_b5, f21, f1, if_neg (nI_ge (show q + i < len by omega) (by omega)), sm_ite_t (sm_in_nI (show q + i < 200 by omega) (by decide)), nI_clamp (show q + i < 2 ^ 31 by omega), etx, hb, if_pos (show nI 32 = (32 : Int32) from rfl)]
    simp only [sm_lt]
    rw [nI_1, Nat.add_assoc]
  · rintro f ⟨M1, S1⟩ hI
    simp only at hI
    refine ⟨M1, S1, ?_, hI⟩
    obtain ⟨f1, f2, f3, f4⟩ := lkI_S hI
    have f21 := lkI_L hI hT
    show pm_look_b5 N (f + 1) S1 = _
    rw [pm_look_b5, f21, f1]
    by_cases e : q + rn tk_bl tx (len - q) q = len
    · rw [if_pos (nI_le (by omega) (by omega))]
    · have hlt : q + rn tk_bl tx (len - q) q < len := by omega
      have hb := of_decide_eq_false (r3 (by omega))
      have etx := lkI_T hI hT hlt
      have c1 := (hT.2.2 _ hlt).1
      rw [if_neg (nI_ge hlt (by omega)), sm_ite_t (sm_in_nI (show q + rn tk_bl tx (len - q) q < 200 by omega) (by decide)), nI_clamp (show q + rn tk_bl tx (len - q) q < 2 ^ 31 by omega), etx, if_neg (show ¬ nI (tx (q + rn tk_bl tx (len - q) q)) = (32 : Int32) from fun z => hb ((nI_eq (b := 32) (by omega) (by decide)).mp z))]
/-- the token at q, the reference's side -/
theorem ml_look (hN : 4000 ≤ N) (h : nP M v S) (hT : lkT M tx len) (hq : q ≤ len) : ∃ M' S' va, pm_look N S (nI q) = some S' ∧ lkI M M' S' v (tk_p tx len q) (nI (tk_l tx len q)) (nI (tk_M tx len q)) va ∧ (tk_M tx len q = 2 → va = nI (tk_v tx len q)) := by
  have hl := hT.1
  have z1 : ¬ (nI 1 = 0) := by decide
  have st : lkI M (sm_sI M 0 22 (nI q)) (sm_sI S 0 22 (nI q)) v q (M.1 0 23) (M.1 0 24) (M.1 0 25) := ⟨nP_sI h (by decide), fun p hp => by rw [ne_sI1n hp], fun k hk => by rw [ne_sI1s, pk_un (by omega)], by rw [ne_sI1s, pk_us], by rw [ne_sI1s, pk_un (by decide)], by rw [ne_sI1s, pk_un (by decide)], by rw [ne_sI1s, pk_un (by decide)]⟩
  obtain ⟨M1, S1, e1, g1⟩ := ml_skip (N := N) hN st hT hq
  obtain ⟨p1, p2⟩ := tk_p_le (tx := tx) hq
  have ge := (tk_l_le (tx := tx) hq)
  have eM : tk_M tx len q = if tk_p tx len q < len then (if tk_lt (tx (tk_p tx len q)) = true then 1 else if tk_fg (tx (tk_p tx len q)) = true then (if tk_l tx len q ≤ 2 then 2 else 4) else if tx (tk_p tx len q) = 59 then 3 else 4) else 0 := rfl
  have eL : tk_l tx len q = if tk_p tx len q < len then (if tk_lt (tx (tk_p tx len q)) = true then rn tk_lt tx (len - tk_p tx len q) (tk_p tx len q) else if tk_fg (tx (tk_p tx len q)) = true then rn tk_fg tx (len - tk_p tx len q) (tk_p tx len q) else 1) else 0 := rfl
  have ev : tk_v tx len q = if tk_l tx len q = 1 then tx (tk_p tx len q) - 48 else 10 * (tx (tk_p tx len q) - 48) + (tx (tk_p tx len q + 1) - 48) := rfl
  unfold tk_e at ge
  generalize tk_p tx len q = p at *
  unfold pm_look
  simp only [sm_lt]
  rw [e1]
  unfold pm_look_b43
  simp only [sm_lt]
  have g2 := lkI_25 (x := (0 : Int32)) (lkI_24 (x := (0 : Int32)) (lkI_23 (x := (0 : Int32)) g1))
  generalize sm_sI (sm_sI (sm_sI M1 0 23 (0 : Int32)) 0 24 (0 : Int32)) 0 25 (0 : Int32) = M2 at *
  generalize sm_sI (sm_sI (sm_sI S1 0 23 (0 : Int32)) 0 24 (0 : Int32)) 0 25 (0 : Int32) = S2 at *
  obtain ⟨f1, f2, f3, f4⟩ := lkI_S g2
  have f21 := lkI_L g2 hT
  rw [f1, f21]
  by_cases lp : p < len
  · rw [if_pos lp] at eM eL
    have etx := lkI_T g2 hT lp
    have c1 := (hT.2.2 p lp).1
    rw [if_neg (fun z => by have := (nI_eq (by omega) (by omega)).mp z; omega), sm_ite_t (sm_in_nI (show p < 200 by omega) (by decide)), nI_clamp (show p < 2 ^ 31 by omega), etx, ml_lt c1, sm_b2s]
    -- of one kind
    have head : ∀ k, k ≤ 4 → lkI M (sm_sI (sm_sI M2 0 24 (nI k)) 0 23 (nI 1)) (sm_sI (sm_sI S2 0 24 (nI k)) 0 23 (nI 1)) v p (nI 1) (nI k) (nI 0) ∧ pm_look_b114 N (nI k) S2 = pm_look_b136 N N (nI (if k < 3 then 1 else 0)) (sm_sI (sm_sI S2 0 24 (nI k)) 0 23 (nI 1)) := by
      intro k hk
      have g3 : lkI M (sm_sI (sm_sI M2 0 24 (nI k)) 0 23 (nI 1)) (sm_sI (sm_sI S2 0 24 (nI k)) 0 23 (nI 1)) v p (nI 1) (nI k) (nI 0) := lkI_23 (lkI_24 g2)
      refine ⟨g3, ?_⟩
      have f24 := (lkI_S g3).2.2.1
      unfold pm_look_b114 pm_look_b135
      simp only [sm_lt]
      have e1 : sm_sI (sm_sI S2 0 24 (nI k)) 0 23 (1 : Int32) = sm_sI (sm_sI S2 0 24 (nI k)) 0 23 (nI 1) := rfl
      rw [e1, f24]
      by_cases k3 : k < 3
      · rw [if_neg (show ¬ (3 : Int32) ≤ nI k from nI_ge (b := 3) k3 (by decide)), if_pos k3]
        rfl
      · rw [if_pos (show (3 : Int32) ≤ nI k from nI_le (a := 3) (by omega) (by omega)), if_neg k3]
        rfl
    have one : ∀ k, (k = 3 ∨ k = 4) → ∃ M' S', pm_look_b114 N (nI k) S2 = some S' ∧ lkI M M' S' v p (nI 1) (nI k) (nI 0) := by
      intro k hk
      obtain ⟨g3, e3⟩ := head k (by omega)
      rw [if_neg (by omega)] at e3
      obtain ⟨M', S', e4, g4⟩ := ml_val (N := N) hN g3 hT (by omega) (Nat.le_refl 1) (by omega) (fun z => by omega)
      rw [if_neg (fun z => by omega), if_neg (by omega)] at g4
      refine ⟨M', S', ?_, g4⟩
      obtain ⟨m, hm⟩ : ∃ m, N = m + 1 := ⟨N - 1, by omega⟩
      rw [e3]
      have : pm_look_b136 N N (nI 0) (sm_sI (sm_sI S2 0 24 (nI k)) 0 23 (nI 1)) = pm_look_b215 N (sm_sI (sm_sI S2 0 24 (nI k)) 0 23 (nI 1)) := by
        subst hm
        rw [pm_look_b136, if_pos (show nI 0 = 0 from rfl)]
      rw [this, e4]
    cases hlt : tk_lt (tx p) with
    | true =>
      rw [hlt, if_pos rfl] at eM eL
      rw [if_neg (show ¬ nI (sp_b true) = 0 from z1)]
      obtain ⟨g3, e3⟩ := head 1 (by decide)
      rw [if_pos (by decide)] at e3
      obtain ⟨M4, S4, e4, g4, L1, L2, L3⟩ := ml_run (N := N) (k := 1) hN (Or.inl ⟨rfl, rfl⟩) g3 hT lp hlt
      obtain ⟨M', S', e5, g5⟩ := ml_val (N := N) hN g4 hT L2 L1 (by decide) (fun z => by omega)
      rw [if_neg (fun z => by omega), if_neg (by omega), ← eL, ← eM] at g5
      have e3' : pm_look_b114 N (1 : Int32) S2 = pm_look_b136 N N (nI 1) (sm_sI (sm_sI S2 0 24 (nI 1)) 0 23 (nI 1)) := e3
      refine ⟨M', S', nI 0, ?_, g5, fun z => by omega⟩
      rw [e3', e4, e5]
    | false =>
      rw [hlt, if_neg Bool.false_ne_true] at eM eL
      rw [if_pos (show nI (sp_b false) = 0 from rfl), ml_fg c1, sm_b2s]
      cases hfg : tk_fg (tx p) with
      | true =>
        rw [hfg, if_pos rfl] at eM eL
        rw [if_neg (show ¬ nI (sp_b true) = 0 from z1)]
        obtain ⟨g3, e3⟩ := head 2 (by decide)
        rw [if_pos (by decide)] at e3
        obtain ⟨M4, S4, e4, g4, L1, L2, L3⟩ := ml_run (N := N) (k := 2) hN (Or.inr ⟨rfl, rfl⟩) g3 hT lp hfg
        obtain ⟨M', S', e5, g5⟩ := ml_val (N := N) hN g4 hT L2 L1 (by decide) (fun _ => L3)
        rw [← eL] at g5 L1
        have e24 : (if 2 = 2 ∧ 2 < tk_l tx len q then 4 else 2) = tk_M tx len q := by
          rw [eM]
          by_cases l2 : 2 < tk_l tx len q
          · rw [if_pos ⟨rfl, l2⟩, if_neg (by omega)]
          · rw [if_neg (fun z => l2 z.2), if_pos (by omega)]
        rw [e24, if_pos rfl] at g5
        have e3' : pm_look_b114 N (2 : Int32) S2 = pm_look_b136 N N (nI 1) (sm_sI (sm_sI S2 0 24 (nI 2)) 0 23 (nI 1)) := e3
        refine ⟨M', S', _, ?_, g5, fun z => ?_⟩
        · rw [e3', e4, e5]
        · rw [ev]
          unfold tk_vl
          rw [if_neg (by omega)]
      | false =>
        rw [hfg, if_neg Bool.false_ne_true] at eM eL
        rw [if_pos (show nI (sp_b false) = 0 from rfl)]
        by_cases c59 : tx p = 59
        · rw [if_pos c59] at eM
          obtain ⟨M', S', e, g⟩ := one 3 (Or.inl rfl)
          rw [← eL, ← eM] at g
          refine ⟨M', S', nI 0, ?_, g, fun z => by omega⟩
          rw [if_pos (show nI (tx p) = (59 : Int32) by rw [c59]; rfl)]
          exact e
        · rw [if_neg c59] at eM
          obtain ⟨M', S', e, g⟩ := one 4 (Or.inr rfl)
          rw [← eL, ← eM] at g
          refine ⟨M', S', nI 0, ?_, g, fun z => by omega⟩
          rw [if_neg (show ¬ nI (tx p) = (59 : Int32) from fun z => c59 ((nI_eq (b := 59) (by omega) (by decide)).mp z))]
          exact e
  · rw [if_neg lp] at eM eL
    have pl : p = len := by omega
    rw [if_pos (by rw [pl])]
    refine ⟨M2, S2, nI 0, rfl, by rw [eL, eM]; exact g2, fun z => by omega⟩
end
