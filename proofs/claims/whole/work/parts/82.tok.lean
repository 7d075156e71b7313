/-! the text, token by token -/
def rn (P : Nat → Bool) (tx : Nat → Nat) : Nat → Nat → Nat
  | 0, _ => 0
  | d + 1, p => if P (tx p) = true then rn P tx d (p + 1) + 1 else 0
theorem rn_is (P : Nat → Bool) (tx : Nat → Nat) : ∀ d p, rn P tx d p ≤ d ∧ (∀ i, i < rn P tx d p → P (tx (p + i)) = true) ∧ (rn P tx d p < d → P (tx (p + rn P tx d p)) = false)
  | 0, p => ⟨Nat.le_refl _, fun i hi => by simp [rn] at hi, fun h => by simp [rn] at h⟩
  | d + 1, p => by
    obtain ⟨h1, h2, h3⟩ := rn_is P tx d (p + 1)
    rw [rn]
    cases e : P (tx p) with
    | false =>
      rw [if_neg (by simp)]
      exact ⟨by omega, fun i hi => by omega, fun _ => e⟩
    | true =>
      rw [if_pos rfl]
      refine ⟨by omega, fun i hi => ?_, fun h => ?_⟩
      · by_cases q : i = 0
        · rw [q]; exact e
        · have := h2 (i - 1) (by omega)
          rwa [show p + 1 + (i - 1) = p + i by omega] at this
      · have := h3 (by omega)
        rwa [show p + 1 + rn P tx d (p + 1) = p + (rn P tx d (p + 1) + 1) by omega] at this
def tk_bl (c : Nat) : Bool := decide (c = 32)
def tk_lt (c : Nat) : Bool := decide (97 ≤ c ∧ c ≤ 122)
def tk_fg (c : Nat) : Bool := decide (48 ≤ c ∧ c ≤ 57)
def tk_ch (w k : Nat) : Nat := ([[99, 108, 111, 116, 104], [116, 104, 105, 110, 103], [116, 111, 117, 99, 104]].getD w []).getD k 0
/-- how many letters of the word w stand at p, of the first d -/
def tk_sp (tx : Nat → Nat) (p w : Nat) : Nat → Bool
  | 0 => true
  | k + 1 => tk_sp tx p w k && decide (tx (p + k) = tk_ch w k)
section
variable (tx : Nat → Nat) (len q : Nat)
/-- where the token begins, how long it is, where it ends -/
def tk_p : Nat := q + rn tk_bl tx (len - q) q
def tk_l : Nat := if tk_p tx len q < len then (if tk_lt (tx (tk_p tx len q)) = true then rn tk_lt tx (len - tk_p tx len q) (tk_p tx len q) else if tk_fg (tx (tk_p tx len q)) = true then rn tk_fg tx (len - tk_p tx len q) (tk_p tx len q) else 1) else 0
def tk_e : Nat := tk_p tx len q + tk_l tx len q
def tk_v : Nat := if tk_l tx len q = 1 then tx (tk_p tx len q) - 48 else 10 * (tx (tk_p tx len q) - 48) + (tx (tk_p tx len q + 1) - 48)
def tk_w : Nat := if tk_l tx len q = 5 then (if tk_sp tx (tk_p tx len q) 0 5 = true then 1 else if tk_sp tx (tk_p tx len q) 1 5 = true then 2 else if tk_sp tx (tk_p tx len q) 2 5 = true then 3 else 6) else 6
/-- its kind: 0 the end, 1 to 3 the words, 4 a number, 5 a stop, 6 else -/
def tk_K : Nat := if tk_p tx len q < len then (if tk_lt (tx (tk_p tx len q)) = true then tk_w tx len q else if tk_fg (tx (tk_p tx len q)) = true then (if tk_l tx len q ≤ 2 then 4 else 6) else if tx (tk_p tx len q) = 59 then 5 else 6) else 0
end
theorem tk_ltfg {c : Nat} (h : tk_lt c = true) : tk_fg c = false ∧ c ≠ 59 := by
  have := of_decide_eq_true h
  exact ⟨decide_eq_false (by omega), by omega⟩
section
variable {tx : Nat → Nat} {len q : Nat}
theorem tk_p_le (h : q ≤ len) : q ≤ tk_p tx len q ∧ tk_p tx len q ≤ len := by
  have := (rn_is tk_bl tx (len - q) q).1
  unfold tk_p
  omega
theorem tk_l_le (h : q ≤ len) : tk_e tx len q ≤ len ∧ (tk_p tx len q < len → 1 ≤ tk_l tx len q) := by
  obtain ⟨h1, h2⟩ := tk_p_le (tx := tx) h
  unfold tk_e tk_l
  by_cases l : tk_p tx len q < len
  · rw [if_pos l]
    cases el : tk_lt (tx (tk_p tx len q)) with
    | true =>
      rw [if_pos rfl]
      obtain ⟨g1, g2, g3⟩ := rn_is tk_lt tx (len - tk_p tx len q) (tk_p tx len q)
      refine ⟨by omega, fun _ => ?_⟩
      rcases Nat.eq_zero_or_pos (rn tk_lt tx (len - tk_p tx len q) (tk_p tx len q)) with e | e
      · rw [e] at g3
        have := g3 (by omega)
        rw [Nat.add_zero, el] at this
        cases this
      · exact e
    | false =>
      rw [if_neg (by simp)]
      cases ef : tk_fg (tx (tk_p tx len q)) with
      | true =>
        rw [if_pos rfl]
        obtain ⟨g1, g2, g3⟩ := rn_is tk_fg tx (len - tk_p tx len q) (tk_p tx len q)
        refine ⟨by omega, fun _ => ?_⟩
        rcases Nat.eq_zero_or_pos (rn tk_fg tx (len - tk_p tx len q) (tk_p tx len q)) with e | e
        · rw [e] at g3
          have := g3 (by omega)
          rw [Nat.add_zero, ef] at this
          cases this
        · exact e
      | false =>
        rw [if_neg (by simp)]
        omega
  · rw [if_neg l]
    omega
theorem tk_K_0 (h : q ≤ len) : tk_K tx len q = 0 ↔ tk_p tx len q = len := by
  obtain ⟨h1, h2⟩ := tk_p_le (tx := tx) h
  unfold tk_K tk_w
  constructor
  · intro e
    by_cases l : tk_p tx len q < len
    · rw [if_pos l] at e
      repeat' split at e
      all_goals omega
    · omega
  · intro e
    rw [if_neg (by omega)]
theorem tk_grow (h : q ≤ len) (hk : tk_K tx len q ≠ 0) : q < tk_e tx len q := by
  obtain ⟨h1, h2⟩ := tk_p_le (tx := tx) h
  have h3 := (tk_l_le (tx := tx) h).2
  have : tk_p tx len q ≠ len := fun e => hk ((tk_K_0 h).mpr e)
  unfold tk_e
  have := h3 (by omega)
  omega
end
/-! the built side's tokens -/
/-- the reader: where it stands, where its token began, its number, how many cloths and things -/
def rdS (X s : sm_St) (len pl : Nat) (va : Int32) (nc nt : Nat) : Prop := (∀ p, p ≠ 102 → s.1 p = X.1 p) ∧ s.2 = X.2 ∧ s.1 102 1 = nI len ∧ s.1 102 2 = nI pl ∧ s.1 102 5 = va ∧ s.1 102 6 = nI nc ∧ s.1 102 7 = nI nt
def rdT (X : sm_St) (tx : Nat → Nat) (len : Nat) : Prop := len ≤ 200 ∧ ∀ k, k < len → tx k ≤ 255 ∧ X.1 103 k = nI (tx k)
section
variable {N : Nat} {X s : sm_St} {tx : Nat → Nat} {len pl nc nt : Nat} {va : Int32}
theorem rdS_2 {x : Nat} (h : rdS X s len pl va nc nt) : rdS X (sm_sI s 102 2 (nI x)) len x va nc nt := by
  obtain ⟨h1, h2, h3, h4, h5, h6, h7⟩ := h
  exact ⟨fun p hp => by rw [ne_sI1n hp]; exact h1 p hp, h2, by rw [ne_sI1s, pk_un (by decide)]; exact h3, by rw [ne_sI1s, pk_us], by rw [ne_sI1s, pk_un (by decide)]; exact h5, by rw [ne_sI1s, pk_un (by decide)]; exact h6, by rw [ne_sI1s, pk_un (by decide)]; exact h7⟩
theorem rdS_34 {k : Nat} {x : Int32} (h : rdS X s len pl va nc nt) (hk : k = 3 ∨ k = 4) : rdS X (sm_sI s 102 k x) len pl va nc nt := by
  obtain ⟨h1, h2, h3, h4, h5, h6, h7⟩ := h
  exact ⟨fun p hp => by rw [ne_sI1n hp]; exact h1 p hp, h2, by rw [ne_sI1s, pk_un (by omega)]; exact h3, by rw [ne_sI1s, pk_un (by omega)]; exact h4, by rw [ne_sI1s, pk_un (by omega)]; exact h5, by rw [ne_sI1s, pk_un (by omega)]; exact h6, by rw [ne_sI1s, pk_un (by omega)]; exact h7⟩
theorem rdS_5 {x : Int32} (h : rdS X s len pl va nc nt) : rdS X (sm_sI s 102 5 x) len pl x nc nt := by
  obtain ⟨h1, h2, h3, h4, h5, h6, h7⟩ := h
  exact ⟨fun p hp => by rw [ne_sI1n hp]; exact h1 p hp, h2, by rw [ne_sI1s, pk_un (by decide)]; exact h3, by rw [ne_sI1s, pk_un (by decide)]; exact h4, by rw [ne_sI1s, pk_us], by rw [ne_sI1s, pk_un (by decide)]; exact h6, by rw [ne_sI1s, pk_un (by decide)]; exact h7⟩
theorem rdS_6 {x : Nat} (h : rdS X s len pl va nc nt) : rdS X (sm_sI s 102 6 (nI x)) len pl va x nt := by
  obtain ⟨h1, h2, h3, h4, h5, h6, h7⟩ := h
  exact ⟨fun p hp => by rw [ne_sI1n hp]; exact h1 p hp, h2, by rw [ne_sI1s, pk_un (by decide)]; exact h3, by rw [ne_sI1s, pk_un (by decide)]; exact h4, by rw [ne_sI1s, pk_un (by decide)]; exact h5, by rw [ne_sI1s, pk_us], by rw [ne_sI1s, pk_un (by decide)]; exact h7⟩
theorem rdS_7 {x : Nat} (h : rdS X s len pl va nc nt) : rdS X (sm_sI s 102 7 (nI x)) len pl va nc x := by
  obtain ⟨h1, h2, h3, h4, h5, h6, h7⟩ := h
  exact ⟨fun p hp => by rw [ne_sI1n hp]; exact h1 p hp, h2, by rw [ne_sI1s, pk_un (by decide)]; exact h3, by rw [ne_sI1s, pk_un (by decide)]; exact h4, by rw [ne_sI1s, pk_un (by decide)]; exact h5, by rw [ne_sI1s, pk_un (by decide)]; exact h6, by rw [ne_sI1s, pk_us]⟩
theorem rdS_tx {k : Nat} (h : rdS X s len pl va nc nt) (hT : rdT X tx len) (hk : k < len) : s.1 103 k = nI (tx k) := by
  rw [h.1 103 (by decide)]
  exact (hT.2 k hk).2
theorem xr_lt {c : Nat} (hc : c ≤ 255) : px_Reader_isLetter N s (nI c) = some (nI (sp_b (tk_lt c)), s) := by
  unfold px_Reader_isLetter
  by_cases h1 : c < 97
  · rw [if_pos (show nI c < (97 : Int32) from nI_lt (b := 97) h1 (by decide)), show tk_lt c = false from decide_eq_false (by omega)]
    rfl
  · rw [if_neg (show ¬ nI c < (97 : Int32) from nI_nlt (b := 97) (by omega) (by omega))]
    by_cases h2 : 122 < c
    · rw [if_pos (show (122 : Int32) < nI c from nI_lt (a := 122) h2 (by omega)), show tk_lt c = false from decide_eq_false (by omega)]
      rfl
    · rw [if_neg (show ¬ (122 : Int32) < nI c from nI_nlt (a := 122) (by omega) (by decide)), show tk_lt c = true from decide_eq_true (by omega)]
      rfl
theorem xr_fg {c : Nat} (hc : c ≤ 255) : px_Reader_isFigure N s (nI c) = some (nI (sp_b (tk_fg c)), s) := by
  unfold px_Reader_isFigure
  by_cases h1 : c < 48
  · rw [if_pos (show nI c < (48 : Int32) from nI_lt (b := 48) h1 (by decide)), show tk_fg c = false from decide_eq_false (by omega)]
    rfl
  · rw [if_neg (show ¬ nI c < (48 : Int32) from nI_nlt (b := 48) (by omega) (by omega))]
    by_cases h2 : 57 < c
    · rw [if_pos (show (57 : Int32) < nI c from nI_lt (a := 57) h2 (by omega)), show tk_fg c = false from decide_eq_false (by omega)]
      rfl
    · rw [if_neg (show ¬ (57 : Int32) < nI c from nI_nlt (a := 57) (by omega) (by decide)), show tk_fg c = true from decide_eq_true (by omega)]
      rfl
theorem xr_cod (w : Nat) : px_JString_coder N s w = some ((0 : Int32), s) := by
  unfold px_JString_coder sm_rn
  rw [if_neg (show ¬ (1 : Int32) = 0 by decide), if_pos (show vp_nar .byte (0 : Int32) = 0 by decide)]
theorem xr_len (w : Nat) : px_JString_length N s w = some (nI 5, s) := by
  unfold px_JString_length
  rw [xr_cod, sm_b2s, show (5 : Int32) >>> ((0 : Int32) &&& 31) = nI 5 by decide]
theorem xr_cv : ∀ w, w < 3 → ∀ k, k < 5 → ((((zx_by.getD w []).getD k 0) &&& (255 : Int32)).toUInt32 % 65536).toInt32 = nI (tk_ch w k) ∧ vp_nar .char (nI (tk_ch w k)) = nI (tk_ch w k) := by decide
theorem xr_ch {w k : Nat} (hw : w < 3) (hk : k < 5) : px_JString_charAt N s w (nI k) = some (nI (tk_ch w k), s) := by
  obtain ⟨c1, c2⟩ := xr_cv w hw k hk
  unfold px_JString_charAt px_JString_isLatin1 px_JStringLatin1_charAt px_JString_checkIndex px_JPreconditions_checkIndex
  rw [if_neg (show ¬ (1 : Int32) = 0 by decide), if_pos (show (0 : Int32) = 0 from rfl), sm_b2s, if_neg (show ¬ (1 : Int32) = 0 by decide), if_neg (show ¬ nI k < 0 from nI_pos (by omega)), if_pos (show nI k < (5 : Int32) from nI_lt (b := 5) hk (by decide)), sm_b2s, sm_b1s, sm_ite_t (sm_in_nI hk (by decide)), nI_clamp (show k < 2 ^ 31 by omega), c1]
  unfold sm_rn
  rw [if_pos c2, sm_b2s, if_pos c2]
theorem tk_ch_le : ∀ w, w < 3 → ∀ k, k < 5 → tk_ch w k ≤ 255 := by decide
theorem tk_sp_no {p w k : Nat} (h : tk_sp tx p w k = false) : ∀ d, tk_sp tx p w (k + d) = false
  | 0 => h
  | d + 1 => by rw [← Nat.add_assoc, tk_sp, tk_sp_no h d, Bool.false_and]
/-- does the token spell the word w? -/
theorem xr_spells {w p l : Nat} (hN : 4000 ≤ N) (h : rdS X s len (p + l) va nc nt) (hT : rdT X tx len) (hp : s.1 102 3 = nI p) (hl : p + l ≤ len) (hw : w < 3) : px_Reader_spells N s w = some (nI (sp_b (decide (l = 5) && tk_sp tx p w 5)), s) := by
  have hT1 := hT.1
  have h2 := h.2.2.2.1
  have es : s.1 102 2 - s.1 102 3 = nI l := by rw [h2, hp, pk_sub (by omega), show p + l - p = l by omega]
  unfold px_Reader_spells
  rw [xr_len, sm_b2s, es]
  by_cases e : l = 5
  · rw [if_pos (by rw [e]), decide_eq_true e, Bool.true_and]
    simp only [sm_lt]
    refine ne_loop (fun f k (_ : Unit) => px_Reader_spells_b20 N w f (nI k) s) (fun k _ => tk_sp tx p w k = true) 5 (fun r => r = some (nI (sp_b (tk_sp tx p w 5)), s)) ?_ ?_ N 0 () (by omega) (by omega) rfl
    · intro f k _ hk hI
      show (∃ s', _ ∧ px_Reader_spells_b20 N w (f + 1) _ _ = px_Reader_spells_b20 N w f _ _) ∨ px_Reader_spells_b20 N w (f + 1) _ _ = _
      have l5 : ¬ nI 5 ≤ nI k := nI_ge hk (by decide)
      have etx := rdS_tx h hT (show p + k < len by omega)
      have c1 := (hT.2 (p + k) (by omega)).1
      have c2 := tk_ch_le w hw k hk
      rw [px_Reader_spells_b20, xr_len, sm_b2s, if_neg l5, hp, nI_add, sm_ite_t (sm_in_nI (show p + k < 200 by omega) (by decide)), xr_ch hw hk, sm_b2s, nI_clamp (show p + k < 2 ^ 31 by omega), etx]
      by_cases q : tx (p + k) = tk_ch w k
      · left
        refine ⟨(), ?_, ?_⟩
        · rw [tk_sp, hI, decide_eq_true q]
          rfl
        · rw [if_pos (by rw [q])]
          simp only [sm_lt]
          rw [nI_1]
      · right
        rw [if_neg (fun z => q ((nI_eq (by omega) (by omega)).mp z))]
        have hn : tk_sp tx p w (k + 1) = false := by rw [tk_sp, decide_eq_false q, Bool.and_false]
        have := tk_sp_no hn (5 - (k + 1))
        rw [show k + 1 + (5 - (k + 1)) = 5 by omega] at this
        rw [this]
        rfl
    · intro f _ hI
      show px_Reader_spells_b20 N w (f + 1) _ _ = _
      rw [px_Reader_spells_b20, xr_len, sm_b2s, if_pos (show nI 5 ≤ nI 5 by decide), hI]
      rfl
  · rw [if_neg (fun z => e ((nI_eq (by omega) (by decide)).mp z)), decide_eq_false e, Bool.false_and]
    rfl
end
