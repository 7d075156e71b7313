/-! moves: the reference's searches -/
theorem mv_k_64 (a : Nat → Nat) : mv_k a 64 = 2 * mp_k a 32 := by
  unfold mv_k
  show 2 * mp_k a 32 + (if mp_ok a 32 = true then 0 else 0) = _
  split <;> rfl
theorem mp_k_22' (a : Nat → Nat) : mp_k a 32 ≤ 22 := by
  have := mp_k_m a 32
  rw [mp_m_32] at this
  exact this
section
variable {N : Nat} {M S S0 : sm_St} {a v w : Nat → Nat} {c A B n : Nat}
/-- where the reference stands while it moves -/
def mvJ (M S0 S : sm_St) (a v : Nat → Nat) : Prop := (∃ w, mvI M S0 S a v w) ∧ mvPq M a 32
theorem mvJ_13 (h : mvJ M S0 S a v) : S.1 0 13 = nI (mp_k a 32) := by
  obtain ⟨⟨w, h1, _, _⟩, h2⟩ := h
  rw [nW_1 h1 (by decide)]
  exact h2.1
theorem mvJ_so {o1 o2 : Option Nat} (hN : 4000 ≤ N) (ok : sp_ok a) (hwv : wv1 a (wn v) (a 78)) (hn0 : nw a S0) (h : mvJ M S0 S a v) (hc : c < a 76) (hA : A ≤ 12) (hB : B ≤ 12) (hn : n ≤ 3) (h1 : ∀ m, o1 = some m → m < 64 ∧ mp_ok a (m / 2) = true) (h2 : ∀ m, o2 = some m → m < 64 ∧ mp_ok a (m / 2) = true) : ∃ M' S', pm_comesSo N S (nI c) (nI A) (nI B) (nI n) (mvO a o1) (mvO a o2) = some (nI (sp_b (mv_r a v c A B n (mvT (mvT (at_ a) o1) o2))), S') ∧ mvJ M' S0 S' a v ∧ M'.1 0 = M.1 0 := by
  obtain ⟨⟨w, hI⟩, hP⟩ := h
  obtain ⟨M', S', w', e, g1, g2⟩ := np_so (N := N) (c := c) (A := A) (B := B) (n := n) (o1 := o1) (o2 := o2) hN ok hwv hn0 hI hc hA hB hn (fun m hm => ⟨(h1 m hm).1, (h1 m hm).2, hP⟩) (fun m hm => ⟨(h2 m hm).1, (h2 m hm).2, hP⟩)
  exact ⟨M', S', e, ⟨⟨w', g1⟩, mvPq_fr hP g2⟩, g2 0 (by decide) (by decide)⟩
theorem mvJ_set {k : Nat} {x : Int32} (h : mvJ M S0 S a v) (hk : k = 16 ∨ k = 17) : mvJ (sm_sI M 0 k x) S0 (sm_sI S 0 k x) a v := by
  obtain ⟨⟨w, h1, h2, m1, m2, m3⟩, p1, p2⟩ := h
  refine ⟨⟨w, nW_sI h1 (by decide), h2, fun p p0 p7 p8 p13 p14 => by rw [ne_sI1n p0]; exact m1 p p0 p7 p8 p13 p14, by rw [ne_sI1s, pk_un (by omega)]; exact m2, by rw [ne_sI1s, pk_un (by omega)]; exact m3⟩, by rw [ne_sI1s, pk_un (by omega)]; exact p1, fun r hr hok => ?_⟩
  rw [ne_sI1n (by decide), ne_sI1n (by decide)]
  exact p2 r hr hok
/-- one move -/
theorem mvJ_one (hN : 4000 ≤ N) (ok : sp_ok a) (hwv : wv1 a (wn v) (a 78)) (hn0 : nw a S0) (hc : c < a 76) (hA : A ≤ 12) (hB : B ≤ 12) (hn : n ≤ 3) : ∀ d m f M S, m + d = 64 → d < f → mvJ M S0 S a v → ∃ M' S', (match mf (mvG1 a v c A B n) d m with | none => pm_findMoves_b33 N f (nI c) (nI A) (nI B) (nI n) (nI (mv_k a m)) S = pm_findMoves_b76 N N (nI c) (nI A) (nI B) (nI n) (nI 0) S' ∧ M'.1 0 = M.1 0 | some k => pm_findMoves_b33 N f (nI c) (nI A) (nI B) (nI n) (nI (mv_k a m)) S = some (nI 1, S') ∧ M'.1 0 16 = nI (mv_k a k) ∧ M'.1 0 17 = M.1 0 17) ∧ mvJ M' S0 S' a v := by
  have b22 := mp_k_22' a
  have e22 : (2 : Int32) = nI 2 := rfl
  intro d
  induction d with
  | zero =>
    intro m f M S hm hf hJ
    obtain ⟨f, rfl⟩ : ∃ g, f = g + 1 := ⟨f - 1, by omega⟩
    obtain rfl : m = 64 := by omega
    refine ⟨M, S, ?_, hJ⟩
    rw [mf]
    refine ⟨?_, rfl⟩
    rw [pm_findMoves_b33, mvJ_13 hJ, mv_k_64, e22, pk_mul, if_pos (nI_le (Nat.le_refl _) (by omega))]
    rfl
  | succ d ih =>
    intro m f M S hm hf hJ
    obtain ⟨f, rfl⟩ : ∃ g, f = g + 1 := ⟨f - 1, by omega⟩
    rw [mf]
    unfold mvG1
    cases hok : mp_ok a (m / 2) with
    | false =>
      rw [Bool.false_and, if_neg (by simp)]
      have := ih (m + 1) (f + 1) M S (by omega) (by omega) hJ
      rw [mv_k_no hok] at this
      exact this
    | true =>
      rw [Bool.true_and]
      have hk := mv_k_lt hok (show m < 64 by omega)
      have l : ¬ (2 : Int32) * S.1 0 13 ≤ nI (mv_k a m) := by
        rw [mvJ_13 hJ, e22, pk_mul]
        exact nI_ge hk (by omega)
      obtain ⟨M1, S1, e1, g1, g2⟩ := mvJ_so (N := N) (c := c) (A := A) (B := B) (n := n) (o1 := some m) (o2 := none) hN ok hwv hn0 hJ hc hA hB hn (fun m' hm' => by cases hm'; exact ⟨by omega, hok⟩) (fun m' hm' => by cases hm')
      rw [show mvO a none = (-1 : Int32) from mvO_m1, show mvO a (some m) = nI (mv_k a m) from rfl, show mvT (mvT (at_ a) (some m)) none = mv_t (at_ a) m from rfl] at e1
      cases hr : mv_r a v c A B n (mv_t (at_ a) m) with
      | true =>
        rw [if_pos rfl]
        rw [hr] at e1
        refine ⟨sm_sI M1 0 16 (nI (mv_k a m)), sm_sI S1 0 16 (nI (mv_k a m)), ?_, mvJ_set g1 (Or.inl rfl)⟩
        refine ⟨?_, by rw [ne_sI1s, pk_us], by rw [ne_sI1s, pk_un (by decide), g2]⟩
        rw [pm_findMoves_b33, if_neg l, e1, sm_b2s, if_neg (show ¬ nI (sp_b true) = 0 by decide)]
        rfl
      | false =>
        rw [if_neg (by simp)]
        rw [hr] at e1
        obtain ⟨M', S', e, g⟩ := ih (m + 1) f M1 S1 (by omega) (by omega) g1
        rw [(mv_k_ok hok).2] at e
        refine ⟨M', S', ?_, g⟩
        have st : pm_findMoves_b33 N (f + 1) (nI c) (nI A) (nI B) (nI n) (nI (mv_k a m)) S = pm_findMoves_b33 N f (nI c) (nI A) (nI B) (nI n) (nI (mv_k a m + 1)) S1 := by
          rw [pm_findMoves_b33, if_neg l, e1, sm_b2s, if_pos (show nI (sp_b false) = 0 from rfl)]
          simp only [sm_lt]
          rw [nI_1]
        rw [st, ← g2]
        exact e
/-- a second move -/
theorem mvJ_in {m : Nat} {r : Int32 → Int32 → Int32 → Int32 → Int32 → sm_St → Option (Int32 × sm_St)} (hN : 4000 ≤ N) (ok : sp_ok a) (hwv : wv1 a (wn v) (a 78)) (hn0 : nw a S0) (hc : c < a 76) (hA : A ≤ 12) (hB : B ≤ 12) (hn : n ≤ 3) (hm : m < 64) (hokm : mp_ok a (m / 2) = true) : ∀ d j f M S, j + d = 64 → d < f → mvJ M S0 S a v → ∃ M' S', (match mf (mvG2 a v c A B n m) d j with | none => pm_findMoves_b97 N r f (nI c) (nI A) (nI B) (nI n) (nI (mv_k a m)) (nI (mv_k a j)) S = r (nI c) (nI A) (nI B) (nI n) (nI (mv_k a m + 1)) S' | some k => pm_findMoves_b97 N r f (nI c) (nI A) (nI B) (nI n) (nI (mv_k a m)) (nI (mv_k a j)) S = some (nI 2, S') ∧ M'.1 0 16 = nI (mv_k a m) ∧ M'.1 0 17 = nI (mv_k a k)) ∧ mvJ M' S0 S' a v := by
  have b22 := mp_k_22' a
  have e22 : (2 : Int32) = nI 2 := rfl
  intro d
  induction d with
  | zero =>
    intro j f M S hj hf hJ
    obtain ⟨f, rfl⟩ : ∃ g, f = g + 1 := ⟨f - 1, by omega⟩
    obtain rfl : j = 64 := by omega
    refine ⟨M, S, ?_, hJ⟩
    rw [mf]
    show pm_findMoves_b97 N r (f + 1) _ _ _ _ _ _ _ = _
    rw [pm_findMoves_b97, mvJ_13 hJ, mv_k_64, e22, pk_mul, if_pos (nI_le (Nat.le_refl _) (by omega))]
    simp only [sm_lt]
    rw [nI_1]
  | succ d ih =>
    intro j f M S hj hf hJ
    obtain ⟨f, rfl⟩ : ∃ g, f = g + 1 := ⟨f - 1, by omega⟩
    rw [mf]
    unfold mvG2
    cases hok : mp_ok a (j / 2) with
    | false =>
      rw [Bool.false_and, if_neg (by simp)]
      have := ih (j + 1) (f + 1) M S (by omega) (by omega) hJ
      rw [mv_k_no hok] at this
      exact this
    | true =>
      rw [Bool.true_and]
      have hk := mv_k_lt hok (show j < 64 by omega)
      have l : ¬ (2 : Int32) * S.1 0 13 ≤ nI (mv_k a j) := by
        rw [mvJ_13 hJ, e22, pk_mul]
        exact nI_ge hk (by omega)
      obtain ⟨M1, S1, e1, g1, g2⟩ := mvJ_so (N := N) (c := c) (A := A) (B := B) (n := n) (o1 := some m) (o2 := some j) hN ok hwv hn0 hJ hc hA hB hn (fun m' hm' => by cases hm'; exact ⟨hm, hokm⟩) (fun m' hm' => by cases hm'; exact ⟨by omega, hok⟩)
      rw [show mvO a (some j) = nI (mv_k a j) from rfl, show mvO a (some m) = nI (mv_k a m) from rfl, show mvT (mvT (at_ a) (some m)) (some j) = mv_t (mv_t (at_ a) m) j from rfl] at e1
      cases hr : mv_r a v c A B n (mv_t (mv_t (at_ a) m) j) with
      | true =>
        rw [if_pos rfl]
        rw [hr] at e1
        refine ⟨sm_sI (sm_sI M1 0 16 (nI (mv_k a m))) 0 17 (nI (mv_k a j)), sm_sI (sm_sI S1 0 16 (nI (mv_k a m))) 0 17 (nI (mv_k a j)), ?_, mvJ_set (mvJ_set g1 (Or.inl rfl)) (Or.inr rfl)⟩
        refine ⟨?_, by rw [ne_sI1s, pk_un (by decide), ne_sI1s, pk_us], by rw [ne_sI1s, pk_us]⟩
        rw [pm_findMoves_b97, if_neg l, e1, sm_b2s, if_neg (show ¬ nI (sp_b true) = 0 by decide)]
        rfl
      | false =>
        rw [if_neg (by simp)]
        rw [hr] at e1
        obtain ⟨M', S', e, g⟩ := ih (j + 1) f M1 S1 (by omega) (by omega) g1
        rw [(mv_k_ok hok).2] at e
        refine ⟨M', S', ?_, g⟩
        have st : pm_findMoves_b97 N r (f + 1) (nI c) (nI A) (nI B) (nI n) (nI (mv_k a m)) (nI (mv_k a j)) S = pm_findMoves_b97 N r f (nI c) (nI A) (nI B) (nI n) (nI (mv_k a m)) (nI (mv_k a j + 1)) S1 := by
          rw [pm_findMoves_b97, if_neg l, e1, sm_b2s, if_pos (show nI (sp_b false) = 0 from rfl)]
          simp only [sm_lt]
          rw [nI_1]
        rw [st]
        exact e
theorem mvJ_two (hN : 4000 ≤ N) (ok : sp_ok a) (hwv : wv1 a (wn v) (a 78)) (hn0 : nw a S0) (hc : c < a 76) (hA : A ≤ 12) (hB : B ≤ 12) (hn : n ≤ 3) : ∀ d m f M S, m + d = 64 → d < f → mvJ M S0 S a v → ∃ M' S', (match mf2 (mvG a v c A B n) d m with | none => pm_findMoves_b76 N f (nI c) (nI A) (nI B) (nI n) (nI (mv_k a m)) S = some (-nI 1, S') | some (m1, k1) => pm_findMoves_b76 N f (nI c) (nI A) (nI B) (nI n) (nI (mv_k a m)) S = some (nI 2, S') ∧ M'.1 0 16 = nI (mv_k a m1) ∧ M'.1 0 17 = nI (mv_k a k1) ∧ mp_ok a (m1 / 2) = true ∧ mp_ok a (k1 / 2) = true) ∧ mvJ M' S0 S' a v := by
  have b22 := mp_k_22' a
  have e22 : (2 : Int32) = nI 2 := rfl
  intro d
  induction d with
  | zero =>
    intro m f M S hm hf hJ
    obtain ⟨f, rfl⟩ : ∃ g, f = g + 1 := ⟨f - 1, by omega⟩
    obtain rfl : m = 64 := by omega
    refine ⟨M, S, ?_, hJ⟩
    rw [mf2]
    show pm_findMoves_b76 N (f + 1) _ _ _ _ _ _ = _
    rw [pm_findMoves_b76, mvJ_13 hJ, mv_k_64, e22, pk_mul, if_pos (nI_le (Nat.le_refl _) (by omega))]
    rfl
  | succ d ih =>
    intro m f M S hm hf hJ
    obtain ⟨f, rfl⟩ : ∃ g, f = g + 1 := ⟨f - 1, by omega⟩
    rw [mf2]
    unfold mvG
    cases hok : mp_ok a (m / 2) with
    | false =>
      rw [if_neg (by simp)]
      have := ih (m + 1) (f + 1) M S (by omega) (by omega) hJ
      rw [mv_k_no hok] at this
      exact this
    | true =>
      rw [if_pos rfl]
      have hm64 : m < 64 := by omega
      have hk := mv_k_lt hok hm64
      have l : ¬ (2 : Int32) * S.1 0 13 ≤ nI (mv_k a m) := by
        rw [mvJ_13 hJ, e22, pk_mul]
        exact nI_ge hk (by omega)
      have e6 : nI (mv_k a m) / (2 : Int32) * (2 : Int32) + (2 : Int32) = nI (mv_k a (mv_n m)) := by
        rw [e22, pk_div (by omega) (by decide) (by decide), pk_mul, nI_add, mv_k_n hok]
      have head : pm_findMoves_b76 N (f + 1) (nI c) (nI A) (nI B) (nI n) (nI (mv_k a m)) S = pm_findMoves_b97 N (pm_findMoves_b76 N f) N (nI c) (nI A) (nI B) (nI n) (nI (mv_k a m)) (nI (mv_k a (mv_n m))) S := by
        rw [pm_findMoves_b76, if_neg l]
        simp only [sm_lt]
        rw [e6]
      rw [head]
      obtain ⟨M1, S1, e1, g1⟩ := mvJ_in (N := N) (r := pm_findMoves_b76 N f) hN ok hwv hn0 hc hA hB hn hm64 hok (64 - mv_n m) (mv_n m) N M S (by unfold mv_n; omega) (by omega) hJ
      cases hr : mf (mvG2 a v c A B n m) (64 - mv_n m) (mv_n m) with
      | some k =>
        rw [hr] at e1
        obtain ⟨q1, q2, q3⟩ := e1
        have hkk := (mf_some _ _ _ hr).1
        unfold mvG2 at hkk
        have hok2 : mp_ok a (k / 2) = true := by
          cases z : mp_ok a (k / 2) with
          | true => rfl
          | false => rw [z] at hkk; simp at hkk
        exact ⟨M1, S1, ⟨q1, q2, q3, hok, hok2⟩, g1⟩
      | none =>
        rw [hr] at e1
        have e1' : pm_findMoves_b97 N (pm_findMoves_b76 N f) N (nI c) (nI A) (nI B) (nI n) (nI (mv_k a m)) (nI (mv_k a (mv_n m))) S = pm_findMoves_b76 N f (nI c) (nI A) (nI B) (nI n) (nI (mv_k a m + 1)) S1 := e1
        rw [e1']
        have := ih (m + 1) f M1 S1 (by omega) (by omega) g1
        rw [(mv_k_ok hok).2] at this
        exact this
/-- what a move is told as -/
def mvW (m : Nat) : Nat := 1000 * mv_a m + 100 * mv_b m + mv_h m
theorem np_tell {m : Nat} (hJ : mvJ M S0 S a v) (hm : m < 64) (hok : mp_ok a (m / 2) = true) : pm_tellMove N S (nI (mv_k a m)) = some (nI (mvW m), S) := by
  obtain ⟨⟨w, hI⟩, hP⟩ := hJ
  obtain ⟨p1, p2, p3, p4, p5, p6⟩ := np_pair hP hI.1 hm hok
  unfold pm_tellMove
  rw [if_neg (show ¬ nI (mv_k a m) = (-1 : Int32) from of_eq_false (ne_neqm (by omega))), p2, sm_ite_t (sm_in_nI p3 (by decide)), sm_ite_t (sm_in_nI p3 (by decide)), nI_clamp (show mp_k a (m / 2) < 2 ^ 31 by omega), p4, p5, p6, show (1000 : Int32) = nI 1000 from rfl, show (100 : Int32) = nI 100 from rfl, show (3 : Int32) = nI 3 from rfl, pk_mul, pk_mul, pk_mul, nI_add, nI_add]
  unfold mvW mv_h
  rw [Nat.mul_comm 3]
theorem np_tellN : pm_tellMove N S (-nI 1) = some (-nI 5, S) := by
  unfold pm_tellMove
  rw [if_pos mvO_m1]
  rfl
theorem xv_told {s : sm_St} {m : Nat} (hm : m < 64) : px_Mover_told N s (nI m) = some (nI (mvW m), s) := by
  unfold px_Mover_told
  rw [xv_a hm, sm_b2s, xv_b hm, sm_b2s, xv_h hm, sm_b2s, show (1000 : Int32) = nI 1000 from rfl, show (100 : Int32) = nI 100 from rfl, pk_mul, pk_mul, nI_add, nI_add]
  rfl
end
