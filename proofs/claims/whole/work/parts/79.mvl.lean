/-! moves: the searches of both sides -/
def mf2 (p : Nat → Option Nat) : Nat → Nat → Option (Nat × Nat)
  | 0, _ => none
  | d + 1, m => match p m with
    | some k => some (m, k)
    | none => mf2 p d (m + 1)
theorem mf2_cg {p q : Nat → Option Nat} : ∀ d j, (∀ i, j ≤ i → i < j + d → p i = q i) → mf2 p d j = mf2 q d j
  | 0, _, _ => rfl
  | d + 1, j, h => by
    rw [mf2, mf2, h j (Nat.le_refl _) (by omega), mf2_cg d (j + 1) (fun i h1 h2 => h i (by omega) (by omega))]
def mvG1 (a v : Nat → Nat) (c A B n : Nat) (i : Nat) : Bool := mp_ok a (i / 2) && mv_r a v c A B n (mv_t (at_ a) i)
def mvC1 (a v : Nat → Nat) (c A B n : Nat) (i : Nat) : Bool := mv_c a c n i && mv_r a v c A B n (mv_t (mv_0 a) i)
def mvG2 (a v : Nat → Nat) (c A B n m : Nat) (i : Nat) : Bool := mp_ok a (i / 2) && mv_r a v c A B n (mv_t (mv_t (at_ a) m) i)
def mvC2 (a v : Nat → Nat) (c A B n m : Nat) (i : Nat) : Bool := mv_c a c n i && mv_r a v c A B n (mv_t (mv_t (mv_0 a) m) i)
def mvG (a v : Nat → Nat) (c A B n m : Nat) : Option Nat := if mp_ok a (m / 2) = true then mf (mvG2 a v c A B n m) (64 - mv_n m) (mv_n m) else none
def mvC (a v : Nat → Nat) (c A B n m : Nat) : Option Nat := if mv_c a c n m = true then mf (mvC2 a v c A B n m) (64 - mv_n m) (mv_n m) else none
theorem mv_0_sc {a : Nat → Nat} (o : sp_ok a) : sc a (mv_0 a) (ac_ a) := by
  obtain ⟨h1, h2, h3, h4, h5⟩ := sp_ok_sc o
  exact ⟨h1, h2, h3, fun c x hc hx => by rw [mv_0_ag a c x hc hx]; exact h4 c x hc hx, h5⟩
theorem mv_c_ok {a : Nat → Nat} {c n m : Nat} (h : mv_c a c n m = true) : mp_ok a (m / 2) = true := by
  cases q : mp_ok a (m / 2) with
  | true => rfl
  | false =>
    unfold mv_c at h
    rw [q] at h
    simp at h
theorem sp_p1_cg {t t' : Nat → Nat} {x y n z : Nat} (h : t z = t' z) : sp_p1 t x y n z = sp_p1 t' x y n z := by
  by_cases q : x < 4 ∧ z = 8 * x + y
  · rw [q.2, sp_p1_s q.1, sp_p1_s q.1]
  · rw [sp_p1_n q, sp_p1_n q, h]
theorem mv_t_cg {t t' : Nat → Nat} {m z : Nat} (h : t z = t' z) : mv_t t m z = mv_t t' m z := sp_p1_cg (sp_p1_cg h)
section
variable {a v : Nat → Nat} {c A B n : Nat}
/-- a move that is not tried makes no difference ahead of another one -/
theorem mv_idle2 {m i : Nat} (o : sp_ok a) (hc : c < a 76) (hm : mp_ok a (m / 2) = true) (hn : mv_c a c n m = false) : mv_r a v c A B n (mv_t (mv_t (mv_0 a) m) i) = mv_r a v c A B n (mv_t (mv_0 a) i) := by
  obtain ⟨m1, m2, m3⟩ := mp_okT hm
  have mb : mv_b m < 8 := Nat.mod_lt _ (by decide)
  have k4 := o.1
  have hs := mv_0_sc o
  unfold mv_c at hn
  rw [hm, Bool.true_and] at hn
  by_cases q : n = 1 ∧ mv_a m ≠ c ∧ mv_b m ≠ c
  · obtain ⟨rfl, q2, q3⟩ := q
    refine mv_r_1 (mv_t_sc (mv_t_sc hs)) (mv_t_sc hs) hc (fun x hx => mv_t_cg ?_)
    exact sp_ph_n (fun z => by omega) (fun z => by omega)
  · rw [decide_eq_false q, Bool.not_false, Bool.true_and] at hn
    have e : mv_0 a (8 * mv_a m + mv_b m) = mv_h m := by
      by_cases z : mv_0 a (8 * mv_a m + mv_b m) = mv_h m
      · exact z
      · rw [decide_eq_false z] at hn
        simp at hn
    refine mv_r_ag (fun c x _ _ => mv_t_cg ?_)
    exact sp_ph_same e (fun hb => mv_0_sy o m2 (by omega)) _
theorem mv_at (m : Nat) : mv_r a v c A B n (mv_t (at_ a) m) = mv_r a v c A B n (mv_t (mv_0 a) m) := mv_r_ag (mv_t_ag (ag_sy (mv_0_ag a)))
theorem mv_at2 (m i : Nat) : mv_r a v c A B n (mv_t (mv_t (at_ a) m) i) = mv_r a v c A B n (mv_t (mv_t (mv_0 a) m) i) := mv_r_ag (mv_t_ag (mv_t_ag (ag_sy (mv_0_ag a))))
theorem mv_one_eq (o : sp_ok a) (hc : c < a 76) (h0 : mv_r a v c A B n (mv_0 a) = false) (i : Nat) : mvC1 a v c A B n i = mvG1 a v c A B n i := by
  unfold mvC1 mvG1
  rw [mv_at]
  cases hch : mv_c a c n i with
  | true => rw [mv_c_ok hch]
  | false =>
    cases hok : mp_ok a (i / 2) with
    | false => rfl
    | true =>
      rw [mv_idle o (mv_0_sc o) hc hok hch rfl (fun _ => rfl), h0]
      rfl
theorem mv_two_eq (o : sp_ok a) (hc : c < a 76) (h1 : ∀ i, i < 64 → mvG1 a v c A B n i = false) {m : Nat} (hm : m < 64) : mvC a v c A B n m = mvG a v c A B n m := by
  have k4 := o.1
  have g1 : ∀ i, i < 64 → mp_ok a (i / 2) = true → mv_r a v c A B n (mv_t (mv_0 a) i) = false := fun i hi hok => by
    have := h1 i hi
    unfold mvG1 at this
    rw [hok, Bool.true_and, mv_at] at this
    exact this
  unfold mvC mvG
  cases hch : mv_c a c n m with
  | true =>
    have hok := mv_c_ok hch
    rw [hok, if_pos rfl, if_pos rfl]
    refine mf_cg _ _ (fun i h2 h3 => ?_)
    have hi : i < 64 := by unfold mv_n at *; omega
    unfold mvC2 mvG2
    rw [mv_at2]
    cases hci : mv_c a c n i with
    | true => rw [mv_c_ok hci]
    | false =>
      cases hoi : mp_ok a (i / 2) with
      | false => rfl
      | true =>
        obtain ⟨e1, e2⟩ := mv_else (t := mv_0 a) hok hoi (by unfold mv_n at h2; omega) k4
        rw [mv_idle o (mv_t_sc (mv_0_sc o)) hc hoi hci e1 e2, g1 m hm hok]
        rfl
  | false =>
    rw [if_neg (by simp)]
    cases hok : mp_ok a (m / 2) with
    | false => rw [if_neg (by simp)]
    | true =>
      rw [if_pos rfl]
      refine (mf_no _ _ (fun i h2 h3 => ?_)).symm
      have hi : i < 64 := by unfold mv_n at *; omega
      unfold mvG2
      rw [mv_at2, mv_idle2 o hc hok hch]
      cases hoi : mp_ok a (i / 2) with
      | false => rfl
      | true => rw [g1 i hi hoi]; rfl
end
section
variable {N : Nat} {X s : sm_St} {a v : Nat → Nat} {c A B n : Nat} {u : Int32}
theorem mvS_132 {t : Nat → Nat} {k : Nat} {x : Int32} (h : mvS X s t c A B n u) (hk : 6 ≤ k) : mvS X (sm_sI s 132 k x) t c A B n u := by
  obtain ⟨h1, h2, h3, h4, h5, h6, h7, h8⟩ := h
  refine ⟨fun p hp => by rw [ne_sI1n (by omega)]; exact h1 p hp, h2, fun i z hi hz => by rw [ne_sI1n (by omega)]; exact h3 i z hi hz, ?_, ?_, ?_, ?_, ?_⟩
  · rw [ne_sI1s, pk_un (by omega)]; exact h4
  · rw [ne_sI1s, pk_un (by omega)]; exact h5
  · rw [ne_sI1s, pk_un (by omega)]; exact h6
  · rw [ne_sI1s, pk_un (by omega)]; exact h7
  · rw [ne_sI1s, pk_un (by omega)]; exact h8
theorem mvS_5 {t : Nat → Nat} {x : Int32} (h : mvS X s t c A B n u) : mvS X (sm_sI s 132 5 x) t c A B n x := by
  obtain ⟨h1, h2, h3, h4, h5, h6, h7, h8⟩ := h
  refine ⟨fun p hp => by rw [ne_sI1n (by omega)]; exact h1 p hp, h2, fun i z hi hz => by rw [ne_sI1n (by omega)]; exact h3 i z hi hz, ?_, ?_, ?_, ?_, ?_⟩
  · rw [ne_sI1s, pk_un (by omega)]; exact h4
  · rw [ne_sI1s, pk_un (by omega)]; exact h5
  · rw [ne_sI1s, pk_un (by omega)]; exact h6
  · rw [ne_sI1s, pk_un (by omega)]; exact h7
  · rw [ne_sI1s, pk_us]
def mvF (X s : sm_St) : Prop := (∀ p, p < 107 → s.1 p = X.1 p) ∧ s.2.2 = X.2.2
/-- two moves, the built side -/
theorem mvS_two (hN : 4000 ≤ N) (hX : mvX X a v) (hc : c < a 76) (hA : A ≤ 12) (hB : B ≤ 12) (hn : n ≤ 3) : ∀ d m f s (u : Int32), m + d = 64 → d < f → mvS X s (mv_0 a) c A B n u → ∃ s', (match mf2 (mvC a v c A B n) d m with | none => px_Mover_search_b66 N 1 f (nI m) s = some (-nI 1, s') | some (m1, k1) => px_Mover_search_b66 N 1 f (nI m) s = some (nI 2, s') ∧ s'.1 132 5 = nI m1 ∧ s'.1 132 6 = nI k1 ∧ m1 < 64 ∧ k1 < 64) ∧ mvF X s' := by
  have z1 : ¬ (nI 1 = 0) := by decide
  have o := hX.1
  have k4 := o.1
  have h0 := mv_0_sc o
  intro d
  induction d with
  | zero =>
    intro m f s u hm hf hs
    obtain ⟨f, rfl⟩ : ∃ g, f = g + 1 := ⟨f - 1, by omega⟩
    obtain rfl : m = 64 := by omega
    refine ⟨s, ?_, hs.1, hs.2.1⟩
    rw [mf2]
    show px_Mover_search_b66 N 1 (f + 1) (nI 64) s = _
    rw [px_Mover_search_b66, if_pos (show (64 : Int32) ≤ nI 64 from of_eq_true (ne_leT (Nat.le_refl 64) (by decide)))]
    rfl
  | succ d ih =>
    intro m f s u hm hf hs
    obtain ⟨f, rfl⟩ : ∃ g, f = g + 1 := ⟨f - 1, by omega⟩
    have hm64 : m < 64 := by omega
    have l64 : ¬ (64 : Int32) ≤ nI m := of_eq_false (ne_leF hm64 (by decide))
    have ech := mvS_ch (N := N) hX hs hc hm64 hn
    have hnn : mv_n m ≤ 64 := by unfold mv_n; omega
    rw [mf2]
    unfold mvC
    cases hch : mv_c a c n m with
    | false =>
      rw [if_neg (by simp)]
      rw [hch] at ech
      obtain ⟨s', e, g⟩ := ih (m + 1) f s u (by omega) (by omega) hs
      refine ⟨s', ?_, g⟩
      have st : px_Mover_search_b66 N 1 (f + 1) (nI m) s = px_Mover_search_b66 N 1 f (nI (m + 1)) s := by
        rw [px_Mover_search_b66, if_neg l64, ech, sm_b2s, if_pos (show nI (sp_b false) = 0 from rfl)]
        unfold px_Mover_search_b126
        simp only [sm_lt]
        rw [nI_1]
      rw [st]
      exact e
    | true =>
      rw [if_pos rfl]
      rw [hch] at ech
      have hok := mv_c_ok hch
      obtain ⟨m1, m2, m3⟩ := mp_okT hok
      obtain ⟨s1, e1, g1⟩ := mvS_put (N := N) (k := mv_h m) hs hm64
      have g1' : mvS X (sm_sI s1 132 5 (nI m)) (mv_t (mv_0 a) m) c A B n (nI m) := mvS_5 g1
      obtain ⟨s2, t2, e2, g2⟩ := mvS_one (N := N) hN hX (mv_t_sc (m := m) h0) hc hA hB hn (64 - mv_n m) (mv_n m) N _ (by omega) (by omega) g1' (fun i h1 h2 hoi => mv_else hok hoi (by unfold mv_n at h1; omega) k4)
      have e126 : (nI m ||| (1 : Int32)) + (1 : Int32) = nI (mv_n m) := mvl_n m hm64
      have eC : (fun i => mv_c a c n i && mv_r a v c A B n (mv_t (mv_t (mv_0 a) m) i)) = mvC2 a v c A B n m := rfl
      rw [eC] at e2
      have head : px_Mover_search_b66 N 1 (f + 1) (nI m) s = sm_b2 (px_Mover_reachedByOneMore_b3 N 1 N (nI (mv_n m)) (sm_sI s1 132 5 (nI m))) (fun (r_19 : Int32) (S_18 : sm_St) => sm_lt (sm_sI S_18 132 6 r_19) (fun (S_20 : sm_St) => if (S_20.1 132 6) = (-1 : Int32) then (sm_b1 (px_Mover_putBack N S_20 (nI m) 1) (fun (S_21 : sm_St) => px_Mover_search_b126 N 1 (px_Mover_search_b66 N 1 f) (nI m) S_21)) else (some ((2 : Int32), S_20)))) := by
        rw [px_Mover_search_b66, if_neg l64, ech, sm_b2s, if_neg (show ¬ nI (sp_b true) = 0 from z1), xv_h hm64, sm_b2s, e1, sm_b1s, e126]
        rfl
      rw [head]
      cases hr : mf (mvC2 a v c A B n m) (64 - mv_n m) (mv_n m) with
      | some k =>
        rw [hr] at e2
        have hk := mf_some _ _ _ hr
        have e2' : px_Mover_reachedByOneMore_b3 N 1 N (nI (mv_n m)) (sm_sI s1 132 5 (nI m)) = some (nI k, s2) := e2
        have s5 : s2.1 132 5 = nI m := g2.2.2.2.2.2.2.2
        refine ⟨sm_sI s2 132 6 (nI k), ?_, fun p hp => by rw [ne_sI1n (by omega)]; exact g2.1 p hp, g2.2.1⟩
        rw [e2', sm_b2s]
        simp only [sm_lt]
        have e6 : (sm_sI s2 132 6 (nI k)).1 132 6 = nI k := by rw [ne_sI1s, pk_us]
        rw [e6, if_neg (show ¬ nI k = (-1 : Int32) from of_eq_false (ne_neqm (show k < 2 ^ 31 by omega)))]
        exact ⟨rfl, by rw [ne_sI1s, pk_un (by decide)]; exact s5, rfl, hm64, by omega⟩
      | none =>
        rw [hr] at e2
        obtain ⟨e2', rfl⟩ := e2
        have g3 := mvS_132 (k := 6) (x := -nI 1) g2 (by decide)
        obtain ⟨s4, e4, g4⟩ := mvS_bk (N := N) hX g3 hm64
        have et : sp_ph (mv_t (mv_0 a) m) (mv_a m) (mv_b m) (mv_0 a (8 * mv_a m + mv_b m)) = mv_0 a := sp_ph_bk (by omega) (fun hb => mv_0_sy o m2 (by omega))
        rw [et] at g4
        obtain ⟨s', e, g⟩ := ih (m + 1) f s4 _ (by omega) (by omega) g4
        refine ⟨s', ?_, g⟩
        have st : sm_b2 (px_Mover_reachedByOneMore_b3 N 1 N (nI (mv_n m)) (sm_sI s1 132 5 (nI m))) (fun (r_19 : Int32) (S_18 : sm_St) => sm_lt (sm_sI S_18 132 6 r_19) (fun (S_20 : sm_St) => if (S_20.1 132 6) = (-1 : Int32) then (sm_b1 (px_Mover_putBack N S_20 (nI m) 1) (fun (S_21 : sm_St) => px_Mover_search_b126 N 1 (px_Mover_search_b66 N 1 f) (nI m) S_21)) else (some ((2 : Int32), S_20)))) = px_Mover_search_b66 N 1 f (nI (m + 1)) s4 := by
          rw [e2', sm_b2s]
          simp only [sm_lt]
          have e6 : (sm_sI s2 132 6 (-nI 1)).1 132 6 = -nI 1 := by rw [ne_sI1s, pk_us]
          rw [e6, if_pos mvO_m1, e4, sm_b1s]
          unfold px_Mover_search_b126
          simp only [sm_lt]
          rw [nI_1]
        rw [st]
        exact e
end
