section
variable {N : Nat} {X s : sm_St} {tx : Nat → Nat} {len q nc nt : Nat} {va : Int32}
theorem xr_skip (hN : 4000 ≤ N) (h : rdS X s len q va nc nt) (hT : rdT X tx len) (hq : q ≤ len) : ∃ s1, px_Reader_next N s = px_Reader_next_b38 N s1 ∧ rdS X s1 len (tk_p tx len q) va nc nt := by
  obtain ⟨r1, r2, r3⟩ := rn_is tk_bl tx (len - q) q
  have hl := hT.1
  unfold px_Reader_next tk_p
  refine ne_loop (fun f _ (st : sm_St) => px_Reader_next_b0 N f st) (fun i st => rdS X st len (q + i) va nc nt) (rn tk_bl tx (len - q) q) (fun r => ∃ s1, r = px_Reader_next_b38 N s1 ∧ rdS X s1 len (q + rn tk_bl tx (len - q) q) va nc nt) ?_ ?_ N 0 s (by omega) (by omega) h
  · intro f i st hi hI
    left
    have hb := of_decide_eq_true (r2 i hi)
    have etx := rdS_tx hI hT (show q + i < len by omega)
    refine ⟨sm_sI st 102 2 (nI (q + (i + 1))), rdS_2 hI, ?_⟩
    show px_Reader_next_b0 N (f + 1) st = px_Reader_next_b0 N f _
    rw [px_Reader_next_b0, hI.2.2.1, hI.2.2.2.1, if_neg (nI_ge (show q + i < len by omega) (by omega)), sm_ite_t (sm_in_nI (show q + i < 200 by omega) (by decide)), nI_clamp (show q + i < 2 ^ 31 by omega), etx, hb, if_pos (show nI 32 = (32 : Int32) from rfl)]
    simp only [sm_lt]
    rw [nI_1, Nat.add_assoc]
  · intro f st hI
    refine ⟨st, ?_, hI⟩
    show px_Reader_next_b0 N (f + 1) st = _
    rw [px_Reader_next_b0, hI.2.2.1, hI.2.2.2.1]
    by_cases l : q + rn tk_bl tx (len - q) q = len
    · rw [l, if_pos (nI_le (Nat.le_refl _) (by omega))]
    · have hlt : q + rn tk_bl tx (len - q) q < len := by omega
      have hb := of_decide_eq_false (r3 (by omega))
      have etx := rdS_tx hI hT hlt
      have c1 := (hT.2 _ hlt).1
      rw [if_neg (nI_ge hlt (by omega)), sm_ite_t (sm_in_nI (show q + rn tk_bl tx (len - q) q < 200 by omega) (by decide)), nI_clamp (show q + rn tk_bl tx (len - q) q < 2 ^ 31 by omega), etx, if_neg (show ¬ nI (tx (q + rn tk_bl tx (len - q) q)) = (32 : Int32) from fun z => hb ((nI_eq (b := 32) (by omega) (by decide)).mp z))]
/-- a word -/
theorem xr_word {p : Nat} (hN : 4000 ≤ N) (h : rdS X s len p va nc nt) (hs : s.1 102 3 = nI p) (hT : rdT X tx len) (hp : p < len) : ∃ s', px_Reader_nextWord N s = some s' ∧ rdS X s' len (p + rn tk_lt tx (len - p) p) va nc nt ∧ s'.1 102 3 = nI p ∧ s'.1 102 4 = nI (if rn tk_lt tx (len - p) p = 5 then (if tk_sp tx p 0 5 = true then 1 else if tk_sp tx p 1 5 = true then 2 else if tk_sp tx p 2 5 = true then 3 else 6) else 6) := by
  obtain ⟨r1, r2, r3⟩ := rn_is tk_lt tx (len - p) p
  have hl := hT.1
  generalize rn tk_lt tx (len - p) p = L at *
  have z1 : ¬ (nI 1 = 0) := by decide
  have fin : ∀ st, rdS X st len (p + L) va nc nt → st.1 102 3 = nI p → ∃ s', px_Reader_nextWord_b39 N st = some s' ∧ rdS X s' len (p + L) va nc nt ∧ s'.1 102 3 = nI p ∧ s'.1 102 4 = nI (if L = 5 then (if tk_sp tx p 0 5 = true then 1 else if tk_sp tx p 1 5 = true then 2 else if tk_sp tx p 2 5 = true then 3 else 6) else 6) := by
    intro st hI hst
    have e0 := xr_spells (N := N) (w := 0) hN hI hT hst (by omega) (by decide)
    have e1 := xr_spells (N := N) (w := 1) hN hI hT hst (by omega) (by decide)
    have e2 := xr_spells (N := N) (w := 2) hN hI hT hst (by omega) (by decide)
    have put : ∀ k : Int32, rdS X (sm_sI st 102 4 k) len (p + L) va nc nt ∧ (sm_sI st 102 4 k).1 102 3 = nI p ∧ (sm_sI st 102 4 k).1 102 4 = k := fun k => ⟨rdS_34 hI (Or.inr rfl), by rw [ne_sI1s, pk_un (by decide)]; exact hst, by rw [ne_sI1s, pk_us]⟩
    unfold px_Reader_nextWord_b39 px_Reader_nextWord_b89
    rw [e0, sm_b2s]
    by_cases l5 : L = 5
    · rw [decide_eq_true l5, Bool.true_and] at *
      rw [if_pos l5]
      cases h0 : tk_sp tx p 0 5 with
      | true =>
        rw [if_neg (show ¬ nI (sp_b true) = 0 from z1), if_pos (show true = true from rfl)]
        exact ⟨_, rfl, put 1⟩
      | false =>
        rw [if_pos (show nI (sp_b false) = 0 from rfl), e1, sm_b2s, if_neg Bool.false_ne_true]
        cases h1 : tk_sp tx p 1 5 with
        | true =>
          rw [if_neg (show ¬ nI (sp_b true) = 0 from z1), if_pos (show true = true from rfl)]
          exact ⟨_, rfl, put 2⟩
        | false =>
          rw [if_pos (show nI (sp_b false) = 0 from rfl), e2, sm_b2s, if_neg Bool.false_ne_true]
          cases h2 : tk_sp tx p 2 5 with
          | true =>
            rw [if_neg (show ¬ nI (sp_b true) = 0 from z1), if_pos (show true = true from rfl)]
            exact ⟨_, rfl, put 3⟩
          | false =>
            rw [if_pos (show nI (sp_b false) = 0 from rfl), if_neg Bool.false_ne_true]
            exact ⟨_, rfl, put 6⟩
    · rw [decide_eq_false l5, Bool.false_and] at *
      rw [if_pos (show nI (sp_b false) = 0 from rfl), e1, sm_b2s, if_pos (show nI (sp_b false) = 0 from rfl), e2, sm_b2s, if_pos (show nI (sp_b false) = 0 from rfl), if_neg l5]
      exact ⟨_, rfl, put 6⟩
  unfold px_Reader_nextWord
  refine ne_loop (fun f _ (st : sm_St) => px_Reader_nextWord_b0 N f st) (fun i st => rdS X st len (p + i) va nc nt ∧ st.1 102 3 = nI p) L (fun r => ∃ s', r = some s' ∧ rdS X s' len (p + L) va nc nt ∧ s'.1 102 3 = nI p ∧ s'.1 102 4 = nI (if L = 5 then (if tk_sp tx p 0 5 = true then 1 else if tk_sp tx p 1 5 = true then 2 else if tk_sp tx p 2 5 = true then 3 else 6) else 6)) ?_ ?_ N 0 s (by omega) (by omega) ⟨h, hs⟩
  · rintro f i st hi ⟨hI, hst⟩
    left
    have hb := r2 i hi
    have etx := rdS_tx hI hT (show p + i < len by omega)
    have c1 := (hT.2 (p + i) (by omega)).1
    refine ⟨sm_sI st 102 2 (nI (p + (i + 1))), ⟨rdS_2 hI, by rw [ne_sI1s, pk_un (by decide)]; exact hst⟩, ?_⟩
    show px_Reader_nextWord_b0 N (f + 1) st = px_Reader_nextWord_b0 N f _
    rw [px_Reader_nextWord_b0, hI.2.2.1, hI.2.2.2.1, if_neg (nI_ge (show p + i < len by omega) (by omega)), sm_ite_t (sm_in_nI (show p + i < 200 by omega) (by decide)), nI_clamp (show p + i < 2 ^ 31 by omega), etx, xr_lt c1, sm_b2s, hb, if_neg (show ¬ nI (sp_b true) = 0 from z1)]
    simp only [sm_lt]
    rw [hI.2.2.2.1, nI_1, Nat.add_assoc]
  · rintro f st ⟨hI, hst⟩
    show ∃ s', px_Reader_nextWord_b0 N (f + 1) st = _ ∧ _
    rw [px_Reader_nextWord_b0, hI.2.2.1, hI.2.2.2.1]
    by_cases l : p + L = len
    · rw [if_pos (show nI len ≤ nI (p + L) from nI_le (by omega) (by omega))]
      exact fin st hI hst
    · have hlt : p + L < len := by omega
      have hb := r3 (by omega)
      have etx := rdS_tx hI hT hlt
      have c1 := (hT.2 _ hlt).1
      rw [if_neg (nI_ge hlt (by omega)), sm_ite_t (sm_in_nI (show p + L < 200 by omega) (by decide)), nI_clamp (show p + L < 2 ^ 31 by omega), etx, xr_lt c1, sm_b2s, hb, if_pos (show nI (sp_b false) = 0 from rfl)]
      exact fin st hI hst
/-- the worth of the first figures -/
def tk_vl (tx : Nat → Nat) (p i : Nat) : Nat := if i = 0 then 0 else if i = 1 then tx p - 48 else 10 * (tx p - 48) + (tx (p + 1) - 48)
theorem tk_vl_b {p i : Nat} (h : ∀ k, k < i → tk_fg (tx (p + k)) = true) : tk_vl tx p i ≤ 99 := by
  unfold tk_vl
  by_cases i0 : i = 0
  · rw [if_pos i0]; omega
  · have h0 := of_decide_eq_true (h 0 (by omega))
    rw [Nat.add_zero] at h0
    rw [if_neg i0]
    by_cases i1 : i = 1
    · rw [if_pos i1]; omega
    · have h1 := of_decide_eq_true (h 1 (by omega))
      rw [if_neg i1]; omega
/-- a number -/
theorem xr_num {p : Nat} (hN : 4000 ≤ N) (h : rdS X s len p va nc nt) (hs : s.1 102 3 = nI p) (hT : rdT X tx len) (hp : p < len) : ∃ s', px_Reader_nextNumber N s = some s' ∧ rdS X s' len (p + rn tk_fg tx (len - p) p) (nI (tk_vl tx p (rn tk_fg tx (len - p) p))) nc nt ∧ s'.1 102 3 = nI p ∧ s'.1 102 4 = nI (if rn tk_fg tx (len - p) p ≤ 2 then 4 else 6) := by
  obtain ⟨r1, r2, r3⟩ := rn_is tk_fg tx (len - p) p
  have hl := hT.1
  generalize rn tk_fg tx (len - p) p = L at *
  have z1 : ¬ (nI 1 = 0) := by decide
  have fin : ∀ st, rdS X st len (p + L) (nI (tk_vl tx p L)) nc nt → st.1 102 3 = nI p → ∃ s', px_Reader_nextNumber_b81 N st = some s' ∧ rdS X s' len (p + L) (nI (tk_vl tx p L)) nc nt ∧ s'.1 102 3 = nI p ∧ s'.1 102 4 = nI (if L ≤ 2 then 4 else 6) := by
    intro st hI hst
    have es : st.1 102 2 - st.1 102 3 = nI L := by rw [hI.2.2.2.1, hst, pk_sub (by omega), show p + L - p = L by omega]
    have put : ∀ k : Int32, rdS X (sm_sI st 102 4 k) len (p + L) (nI (tk_vl tx p L)) nc nt ∧ (sm_sI st 102 4 k).1 102 3 = nI p ∧ (sm_sI st 102 4 k).1 102 4 = k := fun k => ⟨rdS_34 hI (Or.inr rfl), by rw [ne_sI1s, pk_un (by decide)]; exact hst, by rw [ne_sI1s, pk_us]⟩
    unfold px_Reader_nextNumber_b81 px_Reader_nextNumber_b101
    rw [es]
    by_cases l2 : L ≤ 2
    · rw [if_neg (show ¬ (2 : Int32) < nI L from nI_nlt (a := 2) l2 (by decide)), if_pos l2]
      exact ⟨_, rfl, put 4⟩
    · rw [if_pos (show (2 : Int32) < nI L from nI_lt (a := 2) (by omega) (by omega)), if_neg l2]
      exact ⟨_, rfl, put 6⟩
  unfold px_Reader_nextNumber
  simp only [sm_lt]
  refine ne_loop (fun f _ (st : sm_St) => px_Reader_nextNumber_b5 N f st) (fun i st => rdS X st len (p + i) (nI (tk_vl tx p i)) nc nt ∧ st.1 102 3 = nI p) L (fun r => ∃ s', r = some s' ∧ rdS X s' len (p + L) (nI (tk_vl tx p L)) nc nt ∧ s'.1 102 3 = nI p ∧ s'.1 102 4 = nI (if L ≤ 2 then 4 else 6)) ?_ ?_ N 0 _ (by omega) (by omega) ⟨rdS_5 h, by rw [ne_sI1s, pk_un (by decide)]; exact hs⟩
  · rintro f i st hi ⟨hI, hst⟩
    left
    have hb := r2 i hi
    have hb' := of_decide_eq_true hb
    have etx := rdS_tx hI hT (show p + i < len by omega)
    have c1 := (hT.2 (p + i) (by omega)).1
    have es : st.1 102 2 - st.1 102 3 = nI i := by rw [hI.2.2.2.1, hst, pk_sub (by omega), show p + i - p = i by omega]
    have vb := tk_vl_b (i := i) (fun k hk => r2 k (by omega))
    show ∃ s', _ ∧ px_Reader_nextNumber_b5 N (f + 1) st = px_Reader_nextNumber_b5 N f _
    rw [px_Reader_nextNumber_b5, hI.2.2.1, hI.2.2.2.1, if_neg (nI_ge (show p + i < len by omega) (by omega)), sm_ite_t (sm_in_nI (show p + i < 200 by omega) (by decide)), nI_clamp (show p + i < 2 ^ 31 by omega), etx, xr_fg c1, sm_b2s, hb, if_neg (show ¬ nI (sp_b true) = 0 from z1)]
    unfold px_Reader_nextNumber_b68
    rw [es]
    by_cases i2 : 2 ≤ i
    · have ev : tk_vl tx p (i + 1) = tk_vl tx p i := by
        unfold tk_vl
        rw [if_neg (by omega), if_neg (by omega), if_neg (by omega), if_neg (by omega)]
      refine ⟨sm_sI st 102 2 (nI (p + (i + 1))), ⟨by rw [ev]; exact rdS_2 hI, by rw [ne_sI1s, pk_un (by decide)]; exact hst⟩, ?_⟩
      rw [if_pos (show (2 : Int32) ≤ nI i from nI_le (a := 2) i2 (by omega))]
      simp only [sm_lt]
      rw [hI.2.2.2.1, nI_1, Nat.add_assoc]
    · have ev : tk_vl tx p (i + 1) = 10 * tk_vl tx p i + tx (p + i) - 48 := by
        unfold tk_vl
        have i' : i = 0 ∨ i = 1 := by omega
        rcases i' with rfl | rfl
        · rw [if_neg (by omega), if_pos rfl, if_pos rfl]
          simp
        · rw [if_neg (by omega), if_neg (by omega), if_neg (by omega), if_pos rfl]
          omega
      have hv : ((10 : Int32) * nI (tk_vl tx p i) + nI (tx (p + i))) - (48 : Int32) = nI (tk_vl tx p (i + 1)) := by
        rw [show (10 : Int32) = nI 10 from rfl, show (48 : Int32) = nI 48 from rfl, pk_mul, nI_add, pk_sub (by omega), ev]
      have h5 := rdS_5 (x := nI (tk_vl tx p (i + 1))) hI
      refine ⟨sm_sI (sm_sI st 102 5 (nI (tk_vl tx p (i + 1)))) 102 2 (nI (p + (i + 1))), ⟨rdS_2 h5, by rw [ne_sI1s, pk_un (by decide), ne_sI1s, pk_un (by decide)]; exact hst⟩, ?_⟩
      rw [if_neg (show ¬ (2 : Int32) ≤ nI i from nI_ge (b := 2) (by omega) (by decide)), hI.2.2.2.1, sm_ite_t (sm_in_nI (show p + i < 200 by omega) (by decide)), nI_clamp (show p + i < 2 ^ 31 by omega), etx, hI.2.2.2.2.1]
      simp only [sm_lt]
      rw [hv, h5.2.2.2.1, nI_1, Nat.add_assoc]
  · rintro f st ⟨hI, hst⟩
    show ∃ s', px_Reader_nextNumber_b5 N (f + 1) st = _ ∧ _
    rw [px_Reader_nextNumber_b5, hI.2.2.1, hI.2.2.2.1]
    by_cases l : p + L = len
    · rw [if_pos (show nI len ≤ nI (p + L) from nI_le (by omega) (by omega))]
      exact fin st hI hst
    · have hlt : p + L < len := by omega
      have hb := r3 (by omega)
      have etx := rdS_tx hI hT hlt
      have c1 := (hT.2 _ hlt).1
      rw [if_neg (nI_ge hlt (by omega)), sm_ite_t (sm_in_nI (show p + L < 200 by omega) (by decide)), nI_clamp (show p + L < 2 ^ 31 by omega), etx, xr_fg c1, sm_b2s, hb, if_pos (show nI (sp_b false) = 0 from rfl)]
      exact fin st hI hst
/-- the next token, the built side -/
theorem xr_next (hN : 4000 ≤ N) (h : rdS X s len q va nc nt) (hT : rdT X tx len) (hq : q ≤ len) : ∃ s' va', px_Reader_next N s = some s' ∧ rdS X s' len (tk_e tx len q) va' nc nt ∧ s'.1 102 3 = nI (tk_p tx len q) ∧ s'.1 102 4 = nI (tk_K tx len q) ∧ (tk_K tx len q = 4 → va' = nI (tk_v tx len q)) ∧ (tk_K tx len q = 5 → va' = va) := by
  obtain ⟨s1, e1, g1⟩ := xr_skip (N := N) hN h hT hq
  obtain ⟨p1, p2⟩ := tk_p_le (tx := tx) hq
  have hl := hT.1
  have z1 : ¬ (nI 1 = 0) := by decide
  have ge := (tk_l_le (tx := tx) hq)
  unfold tk_e at *
  have eK : tk_K tx len q = if tk_p tx len q < len then (if tk_lt (tx (tk_p tx len q)) = true then tk_w tx len q else if tk_fg (tx (tk_p tx len q)) = true then (if tk_l tx len q ≤ 2 then 4 else 6) else if tx (tk_p tx len q) = 59 then 5 else 6) else 0 := rfl
  have eL : tk_l tx len q = if tk_p tx len q < len then (if tk_lt (tx (tk_p tx len q)) = true then rn tk_lt tx (len - tk_p tx len q) (tk_p tx len q) else if tk_fg (tx (tk_p tx len q)) = true then rn tk_fg tx (len - tk_p tx len q) (tk_p tx len q) else 1) else 0 := rfl
  have ev : tk_v tx len q = if tk_l tx len q = 1 then tx (tk_p tx len q) - 48 else 10 * (tx (tk_p tx len q) - 48) + (tx (tk_p tx len q + 1) - 48) := rfl
  have ew : tk_w tx len q = if tk_l tx len q = 5 then (if tk_sp tx (tk_p tx len q) 0 5 = true then 1 else if tk_sp tx (tk_p tx len q) 1 5 = true then 2 else if tk_sp tx (tk_p tx len q) 2 5 = true then 3 else 6) else 6 := rfl
  generalize tk_p tx len q = p at *
  rw [e1]
  unfold px_Reader_next_b38
  simp only [sm_lt]
  rw [g1.2.2.2.1]
  have g2 : rdS X (sm_sI s1 102 3 (nI p)) len p va nc nt := rdS_34 g1 (Or.inl rfl)
  have s3 : (sm_sI s1 102 3 (nI p)).1 102 3 = nI p := by rw [ne_sI1s, pk_us]
  generalize sm_sI s1 102 3 (nI p) = s2 at *
  rw [g2.2.2.1, g2.2.2.2.1]
  by_cases lp : p < len
  · rw [if_pos lp] at eK eL
    have etx := rdS_tx g2 hT lp
    have c1 := (hT.2 p lp).1
    rw [if_pos (nI_lt lp (by omega)), sm_ite_t (sm_in_nI (show p < 200 by omega) (by decide)), nI_clamp (show p < 2 ^ 31 by omega), etx, xr_lt c1, sm_b2s]
    cases hlt : tk_lt (tx p) with
    | true =>
      rw [hlt, if_pos rfl] at eK eL
      rw [if_neg (show ¬ nI (sp_b true) = 0 from z1)]
      obtain ⟨s', e, j1, j2, j3⟩ := xr_word (N := N) hN g2 s3 hT lp
      rw [← eL, ← ew] at j3
      rw [← eL] at j1
      rw [e, sm_b1s]
      refine ⟨s', va, rfl, j1, j2, by rw [eK]; exact j3, fun h4 => ?_, fun _ => rfl⟩
      rw [eK, ew] at h4
      repeat' split at h4
      all_goals omega
    | false =>
      rw [hlt, if_neg (by simp)] at eK eL
      rw [if_pos (show nI (sp_b false) = 0 from rfl), g2.2.2.2.1, sm_ite_t (sm_in_nI (show p < 200 by omega) (by decide)), nI_clamp (show p < 2 ^ 31 by omega), etx, xr_fg c1, sm_b2s]
      cases hfg : tk_fg (tx p) with
      | true =>
        rw [hfg, if_pos rfl] at eK eL
        rw [if_neg (show ¬ nI (sp_b true) = 0 from z1)]
        obtain ⟨s', e, j1, j2, j3⟩ := xr_num (N := N) hN g2 s3 hT lp
        rw [← eL, ← eK] at j3
        rw [← eL] at j1
        have l1 := ge.2 lp
        have hv : tk_K tx len q = 4 → tk_vl tx p (tk_l tx len q) = tk_v tx len q := by
          intro _
          rw [ev]
          unfold tk_vl
          rw [if_neg (by omega)]
        rw [e, sm_b1s]
        refine ⟨s', _, rfl, j1, j2, j3, fun h4 => by rw [hv h4], fun h5 => ?_⟩
        rw [eK] at h5
        split at h5 <;> omega
      | false =>
        rw [hfg, if_neg (by simp)] at eK eL
        rw [if_pos (show nI (sp_b false) = 0 from rfl), g2.2.2.2.1, sm_ite_t (sm_in_nI (show p < 200 by omega) (by decide)), nI_clamp (show p < 2 ^ 31 by omega), etx]
        have fin : ∀ k : Int32, ∃ s', px_Reader_next_b130 N k s2 = some s' ∧ rdS X s' len (p + tk_l tx len q) va nc nt ∧ s'.1 102 3 = nI p ∧ s'.1 102 4 = k := by
          intro k
          have h4 : rdS X (sm_sI s2 102 4 k) len p va nc nt := rdS_34 g2 (Or.inr rfl)
          refine ⟨sm_sI (sm_sI s2 102 4 k) 102 2 (nI (p + 1)), ?_, by rw [eL]; exact rdS_2 h4, by rw [ne_sI1s, pk_un (by decide), ne_sI1s, pk_un (by decide)]; exact s3, by rw [ne_sI1s, pk_un (by decide), ne_sI1s, pk_us]⟩
          unfold px_Reader_next_b130
          simp only [sm_lt]
          rw [h4.2.2.2.1, nI_1]
        by_cases c59 : tx p = 59
        · rw [if_pos c59] at eK
          obtain ⟨s', e, j1, j2, j3⟩ := fin 5
          rw [if_pos (show nI (tx p) = (59 : Int32) by rw [c59]; rfl), e]
          exact ⟨s', va, rfl, j1, j2, by rw [eK]; exact j3, fun h4 => by omega, fun _ => rfl⟩
        · rw [if_neg c59] at eK
          obtain ⟨s', e, j1, j2, j3⟩ := fin 6
          rw [if_neg (show ¬ nI (tx p) = (59 : Int32) from fun z => c59 ((nI_eq (b := 59) (by omega) (by decide)).mp z)), e]
          exact ⟨s', va, rfl, j1, j2, by rw [eK]; exact j3, fun h4 => by omega, fun _ => rfl⟩
  · rw [if_neg lp] at eK eL
    rw [if_neg (nI_nlt (show len ≤ p by omega) (by omega))]
    refine ⟨sm_sI s2 102 4 (0 : Int32), va, rfl, by rw [eL]; exact rdS_34 g2 (Or.inr rfl), by rw [ne_sI1s, pk_un (by decide)]; exact s3, by rw [ne_sI1s, pk_us, eK]; rfl, fun h4 => by omega, fun h5 => by omega⟩
end
