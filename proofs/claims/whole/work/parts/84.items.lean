/-! items of the text -/
section
variable (tx : Nat → Nat) (len : Nat)
def tk_n (q m : Nat) : Bool := decide (tk_K tx len q = 4 ∧ tk_v tx len q ≤ m)
def tk_s (q : Nat) : Bool := decide (tk_K tx len q = 5)
def tk_th (nc nt n : Nat) : Bool := decide (n < nc ∨ 4 ≤ n ∧ n < 4 + nt)
def itC (q : Nat) : Nat ⊕ Nat := if tk_n tx len q 4 = true then (if tk_n tx len (tk_e tx len q) 3 = true then (if tk_n tx len (tk_e tx len (tk_e tx len q)) 12 = true then (if tk_s tx len (tk_e tx len (tk_e tx len (tk_e tx len q))) = true then .inr (tk_e tx len (tk_e tx len (tk_e tx len (tk_e tx len q)))) else .inl (tk_p tx len (tk_e tx len (tk_e tx len (tk_e tx len q))))) else .inl (tk_p tx len (tk_e tx len (tk_e tx len q)))) else .inl (tk_p tx len (tk_e tx len q))) else .inl (tk_p tx len q)
def itT (q : Nat) : Nat ⊕ Nat := if tk_n tx len q 12 = true then (if tk_s tx len (tk_e tx len q) = true then .inr (tk_e tx len (tk_e tx len q)) else .inl (tk_p tx len (tk_e tx len q))) else .inl (tk_p tx len q)
def itA (nc nt q : Nat) : Bool := tk_n tx len q 7 && tk_th nc nt (tk_v tx len q)
def itB (nc nt q r : Nat) : Bool := tk_n tx len r 7 && tk_th nc nt (tk_v tx len r) && !decide (tk_v tx len r = tk_v tx len q) && decide (tk_v tx len q < 4 ∨ tk_v tx len r < 4)
def itU (nc nt q : Nat) : Nat ⊕ Nat := if itA tx len nc nt q = true then (if itB tx len nc nt q (tk_e tx len q) = true then (if tk_n tx len (tk_e tx len (tk_e tx len q)) 3 = true then (if tk_s tx len (tk_e tx len (tk_e tx len (tk_e tx len q))) = true then .inr (tk_e tx len (tk_e tx len (tk_e tx len (tk_e tx len q)))) else .inl (tk_p tx len (tk_e tx len (tk_e tx len (tk_e tx len q))))) else .inl (tk_p tx len (tk_e tx len (tk_e tx len q)))) else .inl (tk_p tx len (tk_e tx len q))) else .inl (tk_p tx len q)
end
theorem tk_v_99 {tx : Nat → Nat} {len q : Nat} (h : tk_K tx len q = 4) : tk_v tx len q ≤ 99 := by
  have eK : tk_K tx len q = if tk_p tx len q < len then (if tk_lt (tx (tk_p tx len q)) = true then tk_w tx len q else if tk_fg (tx (tk_p tx len q)) = true then (if tk_l tx len q ≤ 2 then 4 else 6) else if tx (tk_p tx len q) = 59 then 5 else 6) else 0 := rfl
  have eL : tk_l tx len q = if tk_p tx len q < len then (if tk_lt (tx (tk_p tx len q)) = true then rn tk_lt tx (len - tk_p tx len q) (tk_p tx len q) else if tk_fg (tx (tk_p tx len q)) = true then rn tk_fg tx (len - tk_p tx len q) (tk_p tx len q) else 1) else 0 := rfl
  have ew : tk_w tx len q ≠ 4 := by
    unfold tk_w
    repeat' split
    all_goals omega
  rw [h] at eK
  by_cases lp : tk_p tx len q < len
  · rw [if_pos lp] at eK eL
    cases hlt : tk_lt (tx (tk_p tx len q)) with
    | true => rw [hlt, if_pos rfl] at eK; exact absurd eK.symm ew
    | false =>
      rw [hlt, if_neg Bool.false_ne_true] at eK eL
      cases hfg : tk_fg (tx (tk_p tx len q)) with
      | true =>
        rw [hfg, if_pos rfl] at eL
        obtain ⟨r1, r2, r3⟩ := rn_is tk_fg tx (len - tk_p tx len q) (tk_p tx len q)
        have b := tk_vl_b r2
        rw [← eL] at b r3
        have l1 : tk_l tx len q ≠ 0 := fun e => by
          rw [e, Nat.add_zero, hfg] at r3
          have := r3 (by omega)
          cases this
        unfold tk_v
        unfold tk_vl at b
        rw [if_neg l1] at b
        exact b
      | false =>
        rw [hfg, if_neg Bool.false_ne_true] at eK
        split at eK <;> omega
  · rw [if_neg lp] at eK
    cases eK
section
variable {N : Nat} {X s : sm_St} {tx : Nat → Nat} {len q nc nt : Nat} {va : Int32}
theorem xr_number {m : Nat} (hN : 4000 ≤ N) (h : rdS X s len q va nc nt) (hT : rdT X tx len) (hq : q ≤ len) (hm : m < 2 ^ 31) : ∃ s' va', px_Reader_number N s (nI m) = some (nI (sp_b (tk_n tx len q m)), s') ∧ rdS X s' len (tk_e tx len q) va' nc nt ∧ s'.1 102 3 = nI (tk_p tx len q) ∧ (tk_n tx len q m = true → va' = nI (tk_v tx len q)) := by
  obtain ⟨s', va', e, g1, g2, g3, g4, g5⟩ := xr_next (N := N) hN h hT hq
  have hK : tk_K tx len q ≤ 6 := by
    unfold tk_K tk_w
    repeat' split
    all_goals omega
  unfold px_Reader_number tk_n
  rw [e, sm_b1s, g3]
  by_cases k4 : tk_K tx len q = 4
  · have v99 := tk_v_99 k4
    have v5 : s'.1 102 5 = nI (tk_v tx len q) := by rw [g1.2.2.2.2.1]; exact g4 k4
    rw [if_pos (show nI (tk_K tx len q) = (4 : Int32) by rw [k4]; rfl), v5]
    by_cases l : m < tk_v tx len q
    · rw [if_pos (nI_lt l (by omega)), decide_eq_false (fun z => by omega)]
      exact ⟨s', va', rfl, g1, g2, fun z => by cases z⟩
    · rw [if_neg (nI_nlt (by omega) hm), decide_eq_true ⟨k4, by omega⟩]
      exact ⟨s', va', rfl, g1, g2, fun _ => g4 k4⟩
  · rw [if_neg (show ¬ nI (tk_K tx len q) = (4 : Int32) from fun z => k4 ((nI_eq (b := 4) (by omega) (by decide)).mp z)), decide_eq_false (fun z => k4 z.1)]
    exact ⟨s', va', rfl, g1, g2, fun z => by cases z⟩
theorem xr_stop (hN : 4000 ≤ N) (h : rdS X s len q va nc nt) (hT : rdT X tx len) (hq : q ≤ len) : ∃ s' va', px_Reader_stop N s = some (nI (sp_b (tk_s tx len q)), s') ∧ rdS X s' len (tk_e tx len q) va' nc nt ∧ s'.1 102 3 = nI (tk_p tx len q) ∧ (tk_s tx len q = true → va' = va) := by
  obtain ⟨s', va', e, g1, g2, g3, g4, g5⟩ := xr_next (N := N) hN h hT hq
  have hK : tk_K tx len q ≤ 6 := by
    unfold tk_K tk_w
    repeat' split
    all_goals omega
  unfold px_Reader_stop tk_s
  rw [e, sm_b1s, g3]
  by_cases k5 : tk_K tx len q = 5
  · rw [if_pos (show nI (tk_K tx len q) = (5 : Int32) by rw [k5]; rfl), decide_eq_true k5]
    exact ⟨s', va', rfl, g1, g2, fun _ => g5 k5⟩
  · rw [if_neg (show ¬ nI (tk_K tx len q) = (5 : Int32) from fun z => k5 ((nI_eq (b := 5) (by omega) (by decide)).mp z)), decide_eq_false k5]
    exact ⟨s', va', rfl, g1, g2, fun z => by cases z⟩
theorem tk_e_le (h : q ≤ len) : tk_e tx len q ≤ len := (tk_l_le h).1
/-- a refused item: where its token began -/
def rdF (X s : sm_St) (len nc nt f : Nat) : Prop := (∃ pl va, rdS X s len pl va nc nt) ∧ s.1 102 3 = nI f
theorem xr_clothN (hN : 4000 ≤ N) (h : rdS X s len q va nc nt) (hT : rdT X tx len) (hq : q ≤ len) (hc : nc < 4) : ∃ s', match itC tx len q with | .inl f => px_Reader_clothItem_N N s = some (nI 0, s') ∧ rdF X s' len nc nt f | .inr q' => (∃ va', px_Reader_clothItem_N N s = some (nI 1, s') ∧ rdS X s' len q' va' (nc + 1) nt) ∧ ∃ s2 va2, px_Reader_clothItem N s 1 = sm_b1 (px_House_addCloth N s2 1 (nI (tk_v tx len q)) (nI (tk_v tx len (tk_e tx len q))) (nI (tk_v tx len (tk_e tx len (tk_e tx len q))))) (fun S_12 => some ((1 : Int32), S_12)) ∧ rdS X s2 len q' va2 (nc + 1) nt := by
  have z1 : ¬ (nI 1 = 0) := by decide
  have hl := hT.1
  have l4 : ¬ (4 : Int32) ≤ s.1 102 6 := by rw [h.2.2.2.2.2.1]; exact nI_ge (b := 4) hc (by decide)
  obtain ⟨s1, v1, e1, g1, p1, u1⟩ := xr_number (N := N) (m := 4) hN h hT hq (by decide)
  have e1' : px_Reader_number N s (4 : Int32) = some (nI (sp_b (tk_n tx len q 4)), s1) := e1
  unfold itC px_Reader_clothItem_N px_Reader_clothItem
  rw [if_neg l4, if_neg l4, e1', sm_b2s]
  cases t1 : tk_n tx len q 4 with
  | false =>
    rw [if_pos (show nI (sp_b false) = 0 from rfl), if_neg Bool.false_ne_true]
    exact ⟨s1, rfl, ⟨_, _, g1⟩, p1⟩
  | true =>
    obtain ⟨s2, v2, e2, g2, p2, u2⟩ := xr_number (N := N) (m := 3) hN g1 hT (tk_e_le hq) (by decide)
    have e2' : px_Reader_number N s1 (3 : Int32) = some (nI (sp_b (tk_n tx len (tk_e tx len q) 3)), s2) := e2
    have w1 : s1.1 102 5 = nI (tk_v tx len q) := by rw [g1.2.2.2.2.1]; exact u1 t1
    rw [sm_b2s, if_neg (show ¬ nI (sp_b true) = 0 from z1), if_neg (show ¬ nI (sp_b true) = 0 from z1), if_pos (show true = true from rfl)]
    simp only [sm_lt]
    rw [w1, e2', sm_b2s, sm_b2s]
    cases t2 : tk_n tx len (tk_e tx len q) 3 with
    | false =>
      rw [if_pos (show nI (sp_b false) = 0 from rfl), if_neg Bool.false_ne_true]
      exact ⟨s2, rfl, ⟨_, _, g2⟩, p2⟩
    | true =>
      obtain ⟨s3, v3, e3, g3, p3, u3⟩ := xr_number (N := N) (m := 12) hN g2 hT (tk_e_le (tk_e_le hq)) (by decide)
      have e3' : px_Reader_number N s2 (12 : Int32) = some (nI (sp_b (tk_n tx len (tk_e tx len (tk_e tx len q)) 12)), s3) := e3
      have w2 : s2.1 102 5 = nI (tk_v tx len (tk_e tx len q)) := by rw [g2.2.2.2.2.1]; exact u2 t2
      rw [if_neg (show ¬ nI (sp_b true) = 0 from z1), if_neg (show ¬ nI (sp_b true) = 0 from z1), if_pos (show true = true from rfl), w2, e3', sm_b2s, sm_b2s]
      cases t3 : tk_n tx len (tk_e tx len (tk_e tx len q)) 12 with
      | false =>
        rw [if_pos (show nI (sp_b false) = 0 from rfl), if_neg Bool.false_ne_true]
        exact ⟨s3, rfl, ⟨_, _, g3⟩, p3⟩
      | true =>
        obtain ⟨s4, v4, e4, g4, p4, u4⟩ := xr_stop (N := N) hN g3 hT (tk_e_le (tk_e_le (tk_e_le hq)))
        rw [if_neg (show ¬ nI (sp_b true) = 0 from z1), if_neg (show ¬ nI (sp_b true) = 0 from z1), if_pos (show true = true from rfl), e4, sm_b2s, sm_b2s]
        cases t4 : tk_s tx len (tk_e tx len (tk_e tx len (tk_e tx len q))) with
        | false =>
          rw [if_pos (show nI (sp_b false) = 0 from rfl), if_neg Bool.false_ne_true]
          exact ⟨s4, rfl, ⟨_, _, g4⟩, p4⟩
        | true =>
          have c6 := g4.2.2.2.2.2.1
          have g5 : rdS X (sm_sI s4 102 6 (nI (nc + 1))) len _ _ (nc + 1) nt := rdS_6 g4
          have w3 : (sm_sI s4 102 6 (nI (nc + 1))).1 102 5 = nI (tk_v tx len (tk_e tx len (tk_e tx len q))) := by rw [g5.2.2.2.2.1, u4 t4, u3 t3]
          rw [if_neg (show ¬ nI (sp_b true) = 0 from z1), if_neg (show ¬ nI (sp_b true) = 0 from z1), if_pos (show true = true from rfl), c6, nI_1, w3]
          exact ⟨_, ⟨_, rfl, g5⟩, _, _, rfl, g5⟩
theorem xr_thingN (hN : 4000 ≤ N) (h : rdS X s len q va nc nt) (hT : rdT X tx len) (hq : q ≤ len) (hc : nt < 4) : ∃ s', match itT tx len q with | .inl f => px_Reader_thingItem_N N s = some (nI 0, s') ∧ rdF X s' len nc nt f | .inr q' => (∃ va', px_Reader_thingItem_N N s = some (nI 1, s') ∧ rdS X s' len q' va' nc (nt + 1)) ∧ ∃ s2 va2, px_Reader_thingItem N s 1 = sm_b1 (px_House_addThing N s2 1 (nI (tk_v tx len q))) (fun S_6 => some ((1 : Int32), S_6)) ∧ rdS X s2 len q' va2 nc (nt + 1) := by
  have z1 : ¬ (nI 1 = 0) := by decide
  have l4 : ¬ (4 : Int32) ≤ s.1 102 7 := by rw [h.2.2.2.2.2.2]; exact nI_ge (b := 4) hc (by decide)
  obtain ⟨s1, v1, e1, g1, p1, u1⟩ := xr_number (N := N) (m := 12) hN h hT hq (by decide)
  have e1' : px_Reader_number N s (12 : Int32) = some (nI (sp_b (tk_n tx len q 12)), s1) := e1
  unfold itT px_Reader_thingItem_N px_Reader_thingItem
  rw [if_neg l4, if_neg l4, e1', sm_b2s]
  cases t1 : tk_n tx len q 12 with
  | false =>
    rw [if_pos (show nI (sp_b false) = 0 from rfl), if_neg Bool.false_ne_true]
    exact ⟨s1, rfl, ⟨_, _, g1⟩, p1⟩
  | true =>
    obtain ⟨s4, v4, e4, g4, p4, u4⟩ := xr_stop (N := N) hN g1 hT (tk_e_le hq)
    rw [sm_b2s, if_neg (show ¬ nI (sp_b true) = 0 from z1), if_neg (show ¬ nI (sp_b true) = 0 from z1), if_pos (show true = true from rfl), e4, sm_b2s, sm_b2s]
    cases t4 : tk_s tx len (tk_e tx len q) with
    | false =>
      rw [if_pos (show nI (sp_b false) = 0 from rfl), if_neg Bool.false_ne_true]
      exact ⟨s4, rfl, ⟨_, _, g4⟩, p4⟩
    | true =>
      have c7 := g4.2.2.2.2.2.2
      have g5 : rdS X (sm_sI s4 102 7 (nI (nt + 1))) len _ _ nc (nt + 1) := rdS_7 g4
      have w3 : (sm_sI s4 102 7 (nI (nt + 1))).1 102 5 = nI (tk_v tx len q) := by rw [g5.2.2.2.2.1, u4 t4, u1 t1]
      simp only [sm_lt]
      rw [if_neg (show ¬ nI (sp_b true) = 0 from z1), if_neg (show ¬ nI (sp_b true) = 0 from z1), if_pos trivial, c7, nI_1, w3]
      exact ⟨_, ⟨_, rfl, g5⟩, _, _, rfl, g5⟩
theorem xr_there {n : Nat} (h : rdS X s len q va nc nt) (hc : nc ≤ 4) (ht : nt ≤ 4) (hn : n ≤ 99) : px_Reader_isThere N s (nI n) = some (nI (sp_b (tk_th nc nt n)), s) := by
  unfold px_Reader_isThere tk_th
  rw [h.2.2.2.2.2.2, h.2.2.2.2.2.1]
  by_cases l : 4 ≤ n
  · rw [if_pos (show (4 : Int32) ≤ nI n from nI_le (a := 4) l (by omega)), show (4 : Int32) = nI 4 from rfl, pk_sub l]
    by_cases q : n < 4 + nt
    · rw [if_neg (nI_ge (by omega) (by omega)), decide_eq_true (Or.inr ⟨l, q⟩)]
      rfl
    · rw [if_pos (nI_le (by omega) (by omega)), decide_eq_false (by omega)]
      rfl
  · rw [if_neg (show ¬ (4 : Int32) ≤ nI n from nI_ge (b := 4) (by omega) (by decide))]
    by_cases q : n < nc
    · rw [if_neg (nI_ge q (by omega)), decide_eq_true (Or.inl q)]
      rfl
    · rw [if_pos (nI_le (by omega) (by omega)), decide_eq_false (by omega)]
      rfl
theorem xr_touchN (hN : 4000 ≤ N) (h : rdS X s len q va nc nt) (hT : rdT X tx len) (hq : q ≤ len) (hc : nc ≤ 4) (ht : nt ≤ 4) : ∃ s', match itU tx len nc nt q with | .inl f => px_Reader_touchItem_N N s = some (nI 0, s') ∧ rdF X s' len nc nt f | .inr q' => (∃ va', px_Reader_touchItem_N N s = some (nI 1, s') ∧ rdS X s' len q' va' nc nt) ∧ ∃ s2 va2, px_Reader_touchItem N s 1 = sm_b1 (px_L_putHours N s2 7 (nI (tk_v tx len q)) (nI (tk_v tx len (tk_e tx len q))) (nI (tk_v tx len (tk_e tx len (tk_e tx len q))))) (fun S_15 => some ((1 : Int32), S_15)) ∧ rdS X s2 len q' va2 nc nt := by
  have z1 : ¬ (nI 1 = 0) := by decide
  obtain ⟨s1, v1, e1, g1, p1, u1⟩ := xr_number (N := N) (m := 7) hN h hT hq (by decide)
  have e1' : px_Reader_number N s (7 : Int32) = some (nI (sp_b (tk_n tx len q 7)), s1) := e1
  unfold itU itA px_Reader_touchItem_N px_Reader_touchItem
  rw [e1', sm_b2s]
  cases t1 : tk_n tx len q 7 with
  | false =>
    rw [if_pos (show nI (sp_b false) = 0 from rfl), Bool.false_and, if_neg Bool.false_ne_true]
    exact ⟨s1, rfl, ⟨_, _, g1⟩, p1⟩
  | true =>
    have w1 : s1.1 102 5 = nI (tk_v tx len q) := by rw [g1.2.2.2.2.1]; exact u1 t1
    have b1 := (of_decide_eq_true t1).2
    have i1 := xr_there (N := N) g1 hc ht (show tk_v tx len q ≤ 99 by omega)
    rw [sm_b2s, if_neg (show ¬ nI (sp_b true) = 0 from z1), if_neg (show ¬ nI (sp_b true) = 0 from z1), Bool.true_and, w1, i1, sm_b2s, sm_b2s]
    cases t2 : tk_th nc nt (tk_v tx len q) with
    | false =>
      rw [if_pos (show nI (sp_b false) = 0 from rfl), if_neg Bool.false_ne_true]
      exact ⟨s1, rfl, ⟨_, _, g1⟩, p1⟩
    | true =>
      obtain ⟨s2, v2, e2, g2, p2, u2⟩ := xr_number (N := N) (m := 7) hN g1 hT (tk_e_le hq) (by decide)
      have e2' : px_Reader_number N s1 (7 : Int32) = some (nI (sp_b (tk_n tx len (tk_e tx len q) 7)), s2) := e2
      unfold itB
      rw [if_neg (show ¬ nI (sp_b true) = 0 from z1), if_neg (show ¬ nI (sp_b true) = 0 from z1), if_pos (show true = true from rfl)]
      simp only [sm_lt]
      rw [w1, e2', sm_b2s, sm_b2s]
      cases t3 : tk_n tx len (tk_e tx len q) 7 with
      | false =>
        rw [if_pos (show nI (sp_b false) = 0 from rfl), Bool.false_and, Bool.false_and, Bool.false_and, if_neg Bool.false_ne_true]
        exact ⟨s2, rfl, ⟨_, _, g2⟩, p2⟩
      | true =>
        have w2 : s2.1 102 5 = nI (tk_v tx len (tk_e tx len q)) := by rw [g2.2.2.2.2.1]; exact u2 t3
        have b2 := (of_decide_eq_true t3).2
        have i2 := xr_there (N := N) g2 hc ht (show tk_v tx len (tk_e tx len q) ≤ 99 by omega)
        rw [if_neg (show ¬ nI (sp_b true) = 0 from z1), if_neg (show ¬ nI (sp_b true) = 0 from z1), Bool.true_and, w2, i2, sm_b2s, sm_b2s]
        cases t4 : tk_th nc nt (tk_v tx len (tk_e tx len q)) with
        | false =>
          rw [if_pos (show nI (sp_b false) = 0 from rfl), Bool.false_and, Bool.false_and, if_neg Bool.false_ne_true]
          exact ⟨s2, rfl, ⟨_, _, g2⟩, p2⟩
        | true =>
          rw [if_neg (show ¬ nI (sp_b true) = 0 from z1), if_neg (show ¬ nI (sp_b true) = 0 from z1), Bool.true_and, w2]
          generalize hx : tk_v tx len q = x at *
          generalize hy : tk_v tx len (tk_e tx len q) = y at *
          by_cases e : y = x
          · rw [if_pos (show nI y = nI x by rw [e]), if_pos (show nI y = nI x by rw [e]), decide_eq_true e, Bool.not_true, Bool.false_and, if_neg Bool.false_ne_true]
            exact ⟨s2, rfl, ⟨_, _, g2⟩, p2⟩
          · have ne : ¬ nI y = nI x := fun z => e ((nI_eq (by omega) (by omega)).mp z)
            rw [if_neg ne, if_neg ne, decide_eq_false e, Bool.not_false, Bool.true_and]
            obtain ⟨s3, v3, e3, g3, p3, u3⟩ := xr_number (N := N) (m := 3) hN g2 hT (tk_e_le (tk_e_le hq)) (by decide)
            have e3' : px_Reader_number N s2 (3 : Int32) = some (nI (sp_b (tk_n tx len (tk_e tx len (tk_e tx len q)) 3)), s3) := e3
            -- behind both numbers
            have fin : ∃ s', match (if tk_n tx len (tk_e tx len (tk_e tx len q)) 3 = true then (if tk_s tx len (tk_e tx len (tk_e tx len (tk_e tx len q))) = true then (.inr (tk_e tx len (tk_e tx len (tk_e tx len (tk_e tx len q)))) : Nat ⊕ Nat) else .inl (tk_p tx len (tk_e tx len (tk_e tx len (tk_e tx len q))))) else .inl (tk_p tx len (tk_e tx len (tk_e tx len q)))) with | .inl f => px_Reader_touchItem_N_b72 N (nI x) (nI y) s2 = some (nI 0, s') ∧ rdF X s' len nc nt f | .inr q' => (∃ va', px_Reader_touchItem_N_b72 N (nI x) (nI y) s2 = some (nI 1, s') ∧ rdS X s' len q' va' nc nt) ∧ ∃ s2' va2, px_Reader_touchItem_b72 N 1 (nI x) (nI y) s2 = sm_b1 (px_L_putHours N s2' 7 (nI x) (nI y) (nI (tk_v tx len (tk_e tx len (tk_e tx len q))))) (fun S_15 => some ((1 : Int32), S_15)) ∧ rdS X s2' len q' va2 nc nt := by
              unfold px_Reader_touchItem_N_b72 px_Reader_touchItem_b72
              rw [e3', sm_b2s, sm_b2s]
              cases t5 : tk_n tx len (tk_e tx len (tk_e tx len q)) 3 with
              | false =>
                rw [if_pos (show nI (sp_b false) = 0 from rfl), if_neg Bool.false_ne_true]
                exact ⟨s3, rfl, ⟨_, _, g3⟩, p3⟩
              | true =>
                obtain ⟨s4, v4, e4, g4, p4, u4⟩ := xr_stop (N := N) hN g3 hT (tk_e_le (tk_e_le (tk_e_le hq)))
                rw [if_neg (show ¬ nI (sp_b true) = 0 from z1), if_neg (show ¬ nI (sp_b true) = 0 from z1), if_pos (show true = true from rfl), e4, sm_b2s, sm_b2s]
                cases t6 : tk_s tx len (tk_e tx len (tk_e tx len (tk_e tx len q))) with
                | false =>
                  rw [if_pos (show nI (sp_b false) = 0 from rfl), if_neg Bool.false_ne_true]
                  exact ⟨s4, rfl, ⟨_, _, g4⟩, p4⟩
                | true =>
                  have w3 : s4.1 102 5 = nI (tk_v tx len (tk_e tx len (tk_e tx len q))) := by rw [g4.2.2.2.2.1, u4 t6, u3 t5]
                  rw [if_neg (show ¬ nI (sp_b true) = 0 from z1), if_neg (show ¬ nI (sp_b true) = 0 from z1), if_pos (show true = true from rfl), w3]
                  exact ⟨_, ⟨_, rfl, g4⟩, _, _, rfl, g4⟩
            by_cases lx : x < 4
            · have l4 : nI x < (4 : Int32) := nI_lt (b := 4) lx (by decide)
              rw [if_pos l4, if_pos l4, decide_eq_true (Or.inl lx), if_pos (show true = true from rfl)]
              exact fin
            · have l4 : ¬ nI x < (4 : Int32) := nI_nlt (b := 4) (by omega) (by omega)
              rw [if_neg l4, if_neg l4]
              by_cases ly : y < 4
              · have l5 : ¬ (4 : Int32) ≤ nI y := nI_ge (b := 4) ly (by decide)
                rw [if_neg l5, if_neg l5, decide_eq_true (Or.inr ly), if_pos (show true = true from rfl)]
                exact fin
              · have l5 : (4 : Int32) ≤ nI y := nI_le (a := 4) (by omega) (by omega)
                rw [if_pos l5, if_pos l5, decide_eq_false (by omega), if_neg Bool.false_ne_true]
                exact ⟨s2, rfl, ⟨_, _, g2⟩, p2⟩
end
