/-! the call moves -/
section
variable {N : Nat} {X X1 S : sm_St} {a b v ik tx : Nat → Nat} {len c A B n : Nat}
def mv_end (N : Nat) (s : sm_St) : Option (Int32 × sm_St) := sm_b2 (px_Mover_reached N s 1) (fun (r_3 : Int32) (S_2 : sm_St) => if r_3 = 0 then (sm_b2 (px_Mover_reachedByOneMore N S_2 1 (0 : Int32)) (fun (r_5 : Int32) (S_4 : sm_St) => sm_lt (sm_sI S_4 132 5 r_5) (fun (S_6 : sm_St) => if (S_6.1 132 5) = (-1 : Int32) then (sm_lt (0 : Int32) (fun (v3_7 : Int32) => px_Mover_search_b66 N 1 N v3_7 S_6)) else (some ((1 : Int32), S_6))))) else (some ((0 : Int32), S_2)))
theorem zs134 {i : Nat} (hi : i < 4) : (zx_sh (134 + i)).2 = 8 := by
  have i' : i = 0 ∨ i = 1 ∨ i = 2 ∨ i = 3 := by omega
  rcases i' with rfl | rfl | rfl | rfl <;> rfl
/-- the hours are copied -/
theorem mvX_copy (hN : 4000 ≤ N) (hX : mvX X a v) (f1 : ∀ p, p < 107 → X1.1 p = X.1 p) (f2 : X1.2.2 = X.2.2) : ∃ s, px_Mover_search N X1 1 = mv_end N s ∧ hrw s 133 (mv_0 a) ∧ (∀ p, p < 134 ∨ 138 ≤ p → s.1 p = X1.1 p) ∧ s.2.2 = X.2.2 := by
  unfold px_Mover_search
  simp only [sm_lt]
  refine ne_loop (fun f i (s : sm_St) => px_Mover_search_b2 N 1 f (nI i) s) (fun i s => (∀ r z, r < i → z < 8 → s.1 (134 + r) z = nI (mv_0 a (8 * r + z))) ∧ (∀ p, p < 134 ∨ 138 ≤ p → s.1 p = X1.1 p) ∧ s.2.2 = X.2.2) 4 (fun o => ∃ s, o = mv_end N s ∧ hrw s 133 (mv_0 a) ∧ (∀ p, p < 134 ∨ 138 ≤ p → s.1 p = X1.1 p) ∧ s.2.2 = X.2.2) ?_ ?_ N 0 X1 (by omega) (by omega) ⟨fun r z hr => by omega, fun p _ => rfl, f2⟩
  · rintro f i s hi ⟨i1, i2, i3⟩
    left
    have l4 : ¬ (4 : Int32) ≤ nI i := of_eq_false (ne_leF hi (by decide))
    refine ⟨sm_sF s (134 + i) (va_cpy (s.1 (1 + 7 + i)) (s.1 (134 + i)) 0 0 8), ⟨fun r z hr hz => ?_, fun p hp => by rw [sF_n (by omega)]; exact i2 p hp, i3⟩, ?_⟩
    · by_cases e : r = i
      · have hh := mvX_h hX hi hz
        rw [e, sF_s, pk_cpy_in (Nat.zero_le _) (by omega), Nat.zero_add, Nat.sub_zero, show 1 + 7 + i = 8 + i by omega, i2 _ (by omega), f1 _ (by omega)]
        exact hh
      · rw [sF_n (by omega)]
        exact i1 r z (by omega) hz
    · show px_Mover_search_b2 N 1 (f + 1) _ _ = px_Mover_search_b2 N 1 f _ _
      have z := zs134 hi
      have cp := ne_cpk 8 (Or.inr (Or.inl rfl))
      rw [px_Mover_search_b2, if_neg l4]
      simp (disch := omega) only [sm_lt, sm_b1s, sm_b2s, ↓reduceIte, sm_in_nI, nI_clamp, nI_add, pk_mul, pk_sub, ne_addneg, nI_l, ne_ltT, ne_ltF, ne_leT, ne_leF, ne_eqT, ne_eqF, ne_sI1s, ne_sI1n, ne_sI2, ne_sI3, ne_sL1, ne_sL2s, ne_sL2n, ne_sL3, pk_us, pk_un, pk_uLs, pk_uLn, mm_Z, mm_L, mm_1, mm_2, mm_3, ne_rz0, ne_rz1, not_true_eq_false, not_false_eq_true, ne_i0, ne_i1, ne_i2, ne_i3, ne_i4, ne_i5, ne_i6, ne_i7, ne_i8, ne_i9, ne_i10, ne_i12, ne_i14, ne_i16, ne_i18, ne_i19, ne_i20, ne_i23, ne_i24, ne_i27, ne_i29, ne_i30, ne_i31, ne_i32, ne_i35, ne_i48, ne_i52, ne_i54, ne_i57, ne_i59, ne_i63, ne_i64, ne_i76, ne_i77, ne_i78, ne_i79, ne_i80, ne_i81, ne_i97, ne_i99, ne_i100, ne_i101, ne_i104, ne_i105, ne_i108, ne_i110, ne_i111, ne_i116, ne_i117, ne_i122, ne_i103, ne_i200, ne_i255, ne_i256, ne_i320, ne_i384, ne_i1000, ne_l0, ne_l1, ne_l2, ne_l3, ne_l4, ne_l5, ne_l8, ne_l12, ne_l31, ne_l48, ne_l57, ne_l97, ne_l99, ne_l122, ne_l255, ne_l673, ne_l1073741823, ne_l1073741824, z, cp]
  · rintro f s ⟨i1, i2, i3⟩
    refine ⟨s, ?_, fun i z hi hz => ?_, i2, i3⟩
    · show px_Mover_search_b2 N 1 (f + 1) _ _ = _
      rw [px_Mover_search_b2, if_pos (show (4 : Int32) ≤ nI 4 from of_eq_true (ne_leT (Nat.le_refl 4) (by decide)))]
      rfl
    · rw [show 133 + 1 + i = 134 + i by omega]
      exact i1 i z hi hz
/-- the search of the built side -/
theorem mvX_search (hN : 4000 ≤ N) (hX : mvX X a v) (hc : c < a 76) (hA : A ≤ 12) (hB : B ≤ 12) (hn : n ≤ 3) : ∃ X1 s' res, px_Mover_aim N X (nI c) (nI A) (nI B) (nI n) = some X1 ∧ px_Mover_search N X1 1 = some (res, s') ∧ mvF X s' ∧ ((mv_r a v c A B n (mv_0 a) = true ∧ res = nI 0) ∨ (mv_r a v c A B n (mv_0 a) = false ∧ ∃ k, mf (mvC1 a v c A B n) 64 0 = some k ∧ res = nI 1 ∧ s'.1 132 5 = nI k ∧ k < 64) ∨ (mv_r a v c A B n (mv_0 a) = false ∧ mf (mvC1 a v c A B n) 64 0 = none ∧ ((mf2 (mvC a v c A B n) 64 0 = none ∧ res = -nI 1) ∨ ∃ m1 k1, mf2 (mvC a v c A B n) 64 0 = some (m1, k1) ∧ res = nI 2 ∧ s'.1 132 5 = nI m1 ∧ s'.1 132 6 = nI k1 ∧ m1 < 64 ∧ k1 < 64))) := by
  have z1 : ¬ (nI 1 = 0) := by decide
  have h0 := mv_0_sc hX.1
  generalize hX1 : sm_sI (sm_sI (sm_sI (sm_sI X 132 1 (nI c)) 132 2 (nI A)) 132 3 (nI B)) 132 4 (nI n) = X1
  have fX : ∀ p, p ≠ 132 → X1.1 p = X.1 p := fun p hp => by rw [← hX1, ne_sI1n hp, ne_sI1n hp, ne_sI1n hp, ne_sI1n hp]
  obtain ⟨s, e1, g1, g2, g3⟩ := mvX_copy (N := N) hN hX (X1 := X1) (fun p hp => fX p (by omega)) (by rw [← hX1]; rfl)
  have hs : mvS X s (mv_0 a) c A B n (X1.1 132 5) := by
    refine ⟨fun p hp => by rw [g2 p (by omega)]; exact fX p (by omega), g3, g1, ?_, ?_, ?_, ?_, by rw [g2 132 (by omega)]⟩
    · rw [g2 132 (by omega), ← hX1, ne_sI1s, pk_un (by decide), ne_sI1s, pk_un (by decide), ne_sI1s, pk_un (by decide), ne_sI1s, pk_us]
    · rw [g2 132 (by omega), ← hX1, ne_sI1s, pk_un (by decide), ne_sI1s, pk_un (by decide), ne_sI1s, pk_us]
    · rw [g2 132 (by omega), ← hX1, ne_sI1s, pk_un (by decide), ne_sI1s, pk_us]
    · rw [g2 132 (by omega), ← hX1, ne_sI1s, pk_us]
  have ea : px_Mover_aim N X (nI c) (nI A) (nI B) (nI n) = some X1 := by
    rw [← hX1]
    rfl
  obtain ⟨s2, e2, j2⟩ := mvS_reach (N := N) hN hX hs h0 hc hA hB hn
  refine ⟨X1, ?_⟩
  rw [ea, e1]
  unfold mv_end
  rw [e2, sm_b2s]
  cases hr : mv_r a v c A B n (mv_0 a) with
  | true =>
    rw [if_neg (show ¬ nI (sp_b true) = 0 from z1)]
    exact ⟨s2, nI 0, rfl, rfl, ⟨j2.1, j2.2.1⟩, Or.inl ⟨rfl, rfl⟩⟩
  | false =>
    rw [if_pos (show nI (sp_b false) = 0 from rfl)]
    obtain ⟨s3, t3, e3, j3⟩ := mvS_one (N := N) hN hX h0 hc hA hB hn 64 0 N s2 (by omega) (by omega) j2 (fun i _ _ _ => ⟨rfl, fun _ => rfl⟩)
    have eC : (fun i => mv_c a c n i && mv_r a v c A B n (mv_t (mv_0 a) i)) = mvC1 a v c A B n := rfl
    have eb : px_Mover_reachedByOneMore N s2 1 (0 : Int32) = px_Mover_reachedByOneMore_b3 N 1 N (nI 0) s2 := rfl
    rw [eC] at e3
    rw [eb]
    cases hm : mf (mvC1 a v c A B n) 64 0 with
    | some k =>
      rw [hm] at e3
      have e3' : px_Mover_reachedByOneMore_b3 N 1 N (nI 0) s2 = some (nI k, s3) := e3
      have hk := (mf_some _ _ _ hm).2.2
      have e5 : (sm_sI s3 132 5 (nI k)).1 132 5 = nI k := by rw [ne_sI1s, pk_us]
      rw [e3', sm_b2s]
      simp only [sm_lt]
      rw [e5, if_neg (show ¬ nI k = (-1 : Int32) from of_eq_false (ne_neqm (by omega)))]
      refine ⟨sm_sI s3 132 5 (nI k), nI 1, (by first | exact rfl | exact trivial), (by first | exact rfl | exact trivial), ⟨fun p hp => by rw [ne_sI1n (by omega)]; exact j3.1 p hp, j3.2.1⟩, Or.inr (Or.inl ⟨(by first | exact rfl | exact trivial), k, (by first | exact rfl | exact trivial), (by first | exact rfl | exact trivial), e5, by omega⟩)⟩
    | none =>
      rw [hm] at e3
      obtain ⟨e3', rfl⟩ := e3
      have j5 : mvS X (sm_sI s3 132 5 (-nI 1)) (mv_0 a) c A B n (-nI 1) := mvS_5 j3
      have e5 : (sm_sI s3 132 5 (-nI 1)).1 132 5 = -nI 1 := by rw [ne_sI1s, pk_us]
      obtain ⟨s4, e4, j4⟩ := mvS_two (N := N) hN hX hc hA hB hn 64 0 N _ _ (by omega) (by omega) j5
      rw [e3', sm_b2s]
      simp only [sm_lt]
      rw [e5, if_pos mvO_m1]
      have e0 : px_Mover_search_b66 N 1 N (0 : Int32) (sm_sI s3 132 5 (-nI 1)) = px_Mover_search_b66 N 1 N (nI 0) (sm_sI s3 132 5 (-nI 1)) := rfl
      rw [e0]
      cases hm2 : mf2 (mvC a v c A B n) 64 0 with
      | none =>
        rw [hm2] at e4
        have e4' : px_Mover_search_b66 N 1 N (nI 0) (sm_sI s3 132 5 (-nI 1)) = some (-nI 1, s4) := e4
        exact ⟨s4, -nI 1, (by first | exact rfl | exact trivial), e4', j4, Or.inr (Or.inr ⟨(by first | exact rfl | exact trivial), (by first | exact rfl | exact trivial), Or.inl ⟨(by first | exact rfl | exact trivial), (by first | exact rfl | exact trivial)⟩⟩)⟩
      | some q =>
        obtain ⟨m1, k1⟩ := q
        rw [hm2] at e4
        obtain ⟨q1, q2, q3, q4, q5⟩ := e4
        exact ⟨s4, nI 2, (by first | exact rfl | exact trivial), q1, j4, Or.inr (Or.inr ⟨(by first | exact rfl | exact trivial), (by first | exact rfl | exact trivial), Or.inr ⟨m1, k1, (by first | exact rfl | exact trivial), (by first | exact rfl | exact trivial), q2, q3, q4, q5⟩⟩)⟩
/-- the search of the reference -/
theorem np_find (hN : 4000 ≤ N) (ok : sp_ok a) (hwv : wv1 a (wn v) (a 78)) (hP : nP S v S) (hn0 : nw a S) (hc : c < a 76) (hA : A ≤ 12) (hB : B ≤ 12) (hn : n ≤ 3) : ∃ M' S' w' res, pm_findMoves N S (nI c) (nI A) (nI B) (nI n) = some (res, S') ∧ mvI M' S S' a v w' ∧ ((mv_r a v c A B n (at_ a) = true ∧ res = nI 0 ∧ S'.1 0 16 = -nI 1 ∧ S'.1 0 17 = -nI 1) ∨ (mv_r a v c A B n (at_ a) = false ∧ mvJ M' S S' a v ∧ ((∃ k, mf (mvG1 a v c A B n) 64 0 = some k ∧ res = nI 1 ∧ S'.1 0 16 = nI (mv_k a k) ∧ S'.1 0 17 = -nI 1) ∨ (mf (mvG1 a v c A B n) 64 0 = none ∧ ((mf2 (mvG a v c A B n) 64 0 = none ∧ res = -nI 1) ∨ ∃ m1 k1, mf2 (mvG a v c A B n) 64 0 = some (m1, k1) ∧ res = nI 2 ∧ S'.1 0 16 = nI (mv_k a m1) ∧ S'.1 0 17 = nI (mv_k a k1) ∧ mp_ok a (m1 / 2) = true ∧ mp_ok a (k1 / 2) = true))))) := by
  have z1 : ¬ (nI 1 = 0) := by decide
  have k4 := ok.1
  have t4 := ok.2.1
  have em : (-1 : Int32) = -nI 1 := mvO_m1.symm
  -- nothing is told yet
  have W0 : nW (sm_sI (sm_sI S 0 16 (-nI 1)) 0 17 (-nI 1)) v (fun i => v (14 + i)) (sm_sI (sm_sI S 0 16 (-nI 1)) 0 17 (-nI 1)) := nW_sI (nW_sI ⟨v, hP, rfl, fun _ _ => rfl⟩ (by decide)) (by decide)
  have I0 : mvI (sm_sI (sm_sI S 0 16 (-nI 1)) 0 17 (-nI 1)) S (sm_sI (sm_sI S 0 16 (-nI 1)) 0 17 (-nI 1)) a v (fun i => v (14 + i)) := ⟨W0, fun _ _ => rfl, fun p p0 _ _ _ _ => by rw [ne_sI1n p0, ne_sI1n p0], by rw [ne_sI1s, pk_un (by decide), ne_sI1s, pk_un (by decide)], by rw [ne_sI1s, pk_un (by decide), ne_sI1s, pk_un (by decide)]⟩
  obtain ⟨M1, S1, w1, e1, g1, g2⟩ := np_so (N := N) (c := c) (A := A) (B := B) (n := n) (o1 := none) (o2 := none) hN ok hwv hn0 I0 hc hA hB hn (fun m hm => by cases hm) (fun m hm => by cases hm)
  rw [show mvO a none = -nI 1 from rfl, show mvT (mvT (at_ a) none) none = at_ a from rfl] at e1
  have s16 : M1.1 0 16 = -nI 1 := by rw [g2 0 (by decide) (by decide), ne_sI1s, pk_un (by decide), ne_sI1s, pk_us]
  have s17 : M1.1 0 17 = -nI 1 := by rw [g2 0 (by decide) (by decide), ne_sI1s, pk_us]
  unfold pm_findMoves
  simp only [sm_lt]
  rw [em, e1, sm_b2s]
  cases hr : mv_r a v c A B n (at_ a) with
  | true =>
    rw [if_neg (show ¬ nI (sp_b true) = 0 from z1)]
    exact ⟨M1, S1, w1, nI 0, rfl, g1, Or.inl ⟨rfl, rfl, by rw [nW_1 g1.1 (by decide)]; exact s16, by rw [nW_1 g1.1 (by decide)]; exact s17⟩⟩
  | false =>
    rw [if_pos (show nI (sp_b false) = 0 from rfl)]
    obtain ⟨M2, S2, e2, j1, j2, j3, j4⟩ := np_fp (N := N) hN k4 t4 g1.1 (mvM_nw g1.2.2 hn0)
    have J2 : mvJ M2 S S2 a v := by
      obtain ⟨m1, m2, m3⟩ := g1.2.2
      exact ⟨⟨w1, j1, g1.2.1, fun p p0 p7 p8 p13 p14 => by rw [j3 p p0 p13 p14]; exact m1 p p0 p7 p8 p13 p14, by rw [j4 6 (by decide)]; exact m2, by rw [j4 21 (by decide)]; exact m3⟩, j2⟩
    have k0 : mv_k a 0 = 0 := by
      unfold mv_k
      show 2 * mp_k a 0 + (if mp_ok a 0 = true then 0 else 0) = 0
      rw [mp_k]
      split <;> rfl
    obtain ⟨M3, S3, e3, J3⟩ := mvJ_one (N := N) hN ok hwv hn0 hc hA hB hn 64 0 N M2 S2 (by omega) (by omega) J2
    rw [k0] at e3
    rw [e2, sm_b1s]
    have e0 : pm_findMoves_b33 N N (nI c) (nI A) (nI B) (nI n) (0 : Int32) S2 = pm_findMoves_b33 N N (nI c) (nI A) (nI B) (nI n) (nI 0) S2 := rfl
    rw [e0]
    cases hm : mf (mvG1 a v c A B n) 64 0 with
    | some k =>
      rw [hm] at e3
      obtain ⟨q1, q2, q3⟩ := e3
      have J3' := J3
      obtain ⟨⟨w3, I3⟩, P3⟩ := J3'
      exact ⟨M3, S3, w3, nI 1, q1, I3, Or.inr ⟨rfl, J3, Or.inl ⟨k, rfl, rfl, by rw [nW_1 I3.1 (by decide)]; exact q2, by rw [nW_1 I3.1 (by decide), q3, j4 17 (by decide)]; exact s17⟩⟩⟩
    | none =>
      rw [hm] at e3
      obtain ⟨q1, q2⟩ := e3
      rw [q1]
      obtain ⟨M4, S4, e4, J4⟩ := mvJ_two (N := N) hN ok hwv hn0 hc hA hB hn 64 0 N M3 S3 (by omega) (by omega) J3
      rw [k0] at e4
      have J4' := J4
      obtain ⟨⟨w4, I4⟩, P4⟩ := J4'
      cases hm2 : mf2 (mvG a v c A B n) 64 0 with
      | none =>
        rw [hm2] at e4
        exact ⟨M4, S4, w4, -nI 1, e4, I4, Or.inr ⟨rfl, J4, Or.inr ⟨rfl, Or.inl ⟨rfl, rfl⟩⟩⟩⟩
      | some q =>
        obtain ⟨m1, k1⟩ := q
        rw [hm2] at e4
        obtain ⟨r1, r2, r3, r4, r5⟩ := e4
        exact ⟨M4, S4, w4, nI 2, r1, I4, Or.inr ⟨rfl, J4, Or.inr ⟨rfl, Or.inr ⟨m1, k1, rfl, rfl, by rw [nW_1 I4.1 (by decide)]; exact r2, by rw [nW_1 I4.1 (by decide)]; exact r3, r4, r5⟩⟩⟩⟩
theorem RR_mvX (h : RR X S a b v ik tx len) : mvX X a v := ⟨RR_ok h, RR_xhd h, RR_now h, RR_wv h, fun i x hi hi4 hx => by
  have := (RR_hs h).2.2.2.2.1 i x hi hi4 hx
  rwa [show 1 + 7 + i = 8 + i by omega] at this⟩
theorem ne_n5m : (-nI 5 : Int32) = (-5 : Int32) := by decide
/-- both searches, and what is told -/
theorem mv_both {w : Nat} (hN : 4000 ≤ N) (h : RR X S a b v ik tx len) (hc : c < a 76) (hA : A ≤ 12) (hB : B ≤ 12) (hn : n ≤ 3) (hw : w ≤ 2) : ∃ X1 X' S' rx rm r, px_Mover_aim N X (nI c) (nI A) (nI B) (nI n) = some X1 ∧ px_Mover_search N X1 1 = some (rx, X') ∧ pm_findMoves N S (nI c) (nI A) (nI B) (nI n) = some (rm, S') ∧ R X' S' ∧ (if rx = (-1 : Int32) then some (rx, X') else if nI w = 0 then some (rx, X') else if nI w ≤ rx then (if nI w = (1 : Int32) then sm_b2 (px_Mover_told N X' (X'.1 132 5)) (fun r_13 S_12 => some (r_13, S_12)) else sm_b2 (px_Mover_told N X' (X'.1 132 6)) (fun r_11 S_10 => some (r_11, S_10))) else some ((-5 : Int32), X')) = some (r, X') ∧ (if nI w = 0 then some (rm, S') else if rm = (-1 : Int32) then some (rm, S') else if nI w = (1 : Int32) then pm_moves_b107 N (S'.1 0 16) S' else pm_moves_b107 N (S'.1 0 17) S') = some (r, S') := by
  have ok := RR_ok h
  have hwv := RR_wv h
  have hX := RR_mvX h
  obtain ⟨X1, X', rx, e1, e2, fX, cx⟩ := mvX_search (N := N) hN hX hc hA hB hn
  obtain ⟨M', S', w', rm, e3, I, cm⟩ := np_find (N := N) hN ok hwv h.2.1 h.1 hc hA hB hn
  have hR : R X' S' := by
    obtain ⟨i1, i2, m1, m2, m3⟩ := I
    exact RR_end h i1 i2 (fun p hp => m1 p (by omega) (by omega) (by omega) (by omega) (by omega)) m2 m3 (fun p hp => fX.1 p (by omega)) (by rw [fX.1 102 (by decide)]) fX.2
  have r0 : mv_r a v c A B n (at_ a) = mv_r a v c A B n (mv_0 a) := mv_r_ag (ag_sy (mv_0_ag a))
  rw [r0] at cm
  have n1 : ∀ k, k < 2 ^ 31 → ¬ nI k = (-1 : Int32) := fun k hk => of_eq_false (ne_neqm hk)
  have m1e : (-nI 1 : Int32) = (-1 : Int32) := mvO_m1
  have w' : w = 0 ∨ w = 1 ∨ w = 2 := by omega
  have w0 : nI 0 = (0 : Int32) := rfl
  have w1 : ¬ nI 1 = (0 : Int32) := by decide
  have w2 : ¬ nI 2 = (0 : Int32) := by decide
  have w11 : nI 1 = (1 : Int32) := rfl
  have w21 : ¬ nI 2 = (1 : Int32) := by decide
  have l10 : ¬ nI 1 ≤ nI 0 := by decide
  have l20 : ¬ nI 2 ≤ nI 0 := by decide
  have l11 : nI 1 ≤ nI 1 := by decide
  have l21 : ¬ nI 2 ≤ nI 1 := by decide
  have l12 : nI 1 ≤ nI 2 := by decide
  have l22 : nI 2 ≤ nI 2 := by decide
  have tN : ∀ T, pm_moves_b107 N (-nI 1) T = some ((-5 : Int32), T) := fun T => by
    unfold pm_moves_b107
    rw [np_tellN, sm_b2s, ne_n5m]
  refine ⟨X1, X', S', rx, rm, ?_⟩
  cases hr : mv_r a v c A B n (mv_0 a) with
  | true =>
    rw [hr] at cx cm
    have cx' : rx = nI 0 := by
      rcases cx with ⟨_, q⟩ | ⟨q, _⟩ | ⟨q, _⟩
      · exact q
      · cases q
      · cases q
    have cm' : rm = nI 0 ∧ S'.1 0 16 = -nI 1 ∧ S'.1 0 17 = -nI 1 := by
      rcases cm with ⟨_, q⟩ | ⟨q, _⟩
      · exact q
      · cases q
    obtain ⟨c1, c2, c3⟩ := cm'
    subst cx' c1
    rcases w' with rfl | rfl | rfl
    · refine ⟨nI 0, e1, e2, e3, hR, ?_, ?_⟩
      · rw [if_neg (n1 0 (by decide)), if_pos w0]
      · rw [if_pos w0]
    · refine ⟨(-5 : Int32), e1, e2, e3, hR, ?_, ?_⟩
      · rw [if_neg (n1 0 (by decide)), if_neg w1, if_neg l10]
      · rw [if_neg w1, if_neg (n1 0 (by decide)), if_pos w11, c2, tN]
    · refine ⟨(-5 : Int32), e1, e2, e3, hR, ?_, ?_⟩
      · rw [if_neg (n1 0 (by decide)), if_neg w2, if_neg l20]
      · rw [if_neg w2, if_neg (n1 0 (by decide)), if_neg w21, c3, tN]
  | false =>
    rw [hr] at cx cm
    have one := mf_cg (p := mvC1 a v c A B n) (q := mvG1 a v c A B n) 64 0 (fun i _ _ => mv_one_eq ok hc hr i)
    rcases cm with ⟨q, _⟩ | ⟨_, J, cm⟩
    · cases q
    rcases cx with ⟨q, _⟩ | ⟨_, k, x1, x2, x3, x4⟩ | ⟨_, x1, cx⟩
    · cases q
    · rw [one] at x1
      rcases cm with ⟨k', y1, y2, y3, y4⟩ | ⟨y1, _⟩
      · rw [x1] at y1
        cases y1
        have hok : mp_ok a (k / 2) = true := by
          have := (mf_some _ _ _ x1).1
          unfold mvG1 at this
          cases z : mp_ok a (k / 2) with
          | true => rfl
          | false => rw [z] at this; simp at this
        subst x2 y2
        rcases w' with rfl | rfl | rfl
        · refine ⟨nI 1, e1, e2, e3, hR, ?_, ?_⟩
          · rw [if_neg (n1 1 (by decide)), if_pos w0]
          · rw [if_pos w0]
        · refine ⟨nI (mvW k), e1, e2, e3, hR, ?_, ?_⟩
          · rw [if_neg (n1 1 (by decide)), if_neg w1, if_pos l11, if_pos w11, x3, xv_told x4, sm_b2s]
          · rw [if_neg w1, if_neg (n1 1 (by decide)), if_pos w11, y3]
            unfold pm_moves_b107
            rw [np_tell J x4 hok, sm_b2s]
        · refine ⟨(-5 : Int32), e1, e2, e3, hR, ?_, ?_⟩
          · rw [if_neg (n1 1 (by decide)), if_neg w2, if_neg l21]
          · rw [if_neg w2, if_neg (n1 1 (by decide)), if_neg w21, y4, tN]
      · rw [x1] at y1; cases y1
    · rw [one] at x1
      have none1 : ∀ i, i < 64 → mvG1 a v c A B n i = false := fun i hi => mf_none _ _ x1 i (Nat.zero_le _) (by omega)
      have two := mf2_cg (p := mvC a v c A B n) (q := mvG a v c A B n) 64 0 (fun i _ hi => mv_two_eq ok hc none1 (by omega))
      rw [two] at cx
      rcases cm with ⟨k', y1, _⟩ | ⟨_, cm⟩
      · rw [x1] at y1; cases y1
      rcases cx with ⟨x2, x3⟩ | ⟨m1, k1, x2, x3, x4, x5, x6, x7⟩
      · rcases cm with ⟨y2, y3⟩ | ⟨m1, k1, y2, _⟩
        · subst x3 y3
          refine ⟨-nI 1, e1, e2, e3, hR, ?_, ?_⟩
          · rw [if_pos m1e]
          · rw [if_pos m1e]
            split <;> rfl
        · rw [x2] at y2; cases y2
      · rcases cm with ⟨y2, y3⟩ | ⟨m1', k1', y2, y3, y4, y5, y6, y7⟩
        · rw [x2] at y2; cases y2
        · rw [x2] at y2
          cases y2
          subst x3 y3
          rcases w' with rfl | rfl | rfl
          · refine ⟨nI 2, e1, e2, e3, hR, ?_, ?_⟩
            · rw [if_neg (n1 2 (by decide)), if_pos w0]
            · rw [if_pos w0]
          · refine ⟨nI (mvW m1), e1, e2, e3, hR, ?_, ?_⟩
            · rw [if_neg (n1 2 (by decide)), if_neg w1, if_pos l12, if_pos w11, x4, xv_told x6, sm_b2s]
            · rw [if_neg w1, if_neg (n1 2 (by decide)), if_pos w11, y4]
              unfold pm_moves_b107
              rw [np_tell J x6 y6, sm_b2s]
          · refine ⟨nI (mvW k1), e1, e2, e3, hR, ?_, ?_⟩
            · rw [if_neg (n1 2 (by decide)), if_neg w2, if_pos l22, if_neg w21, x5, xv_told x7, sm_b2s]
            · rw [if_neg w2, if_neg (n1 2 (by decide)), if_neg w21, y5]
              unfold pm_moves_b107
              rw [np_tell J x7 y7, sm_b2s]
end
section
variable {N : Nat} {X S : sm_St}
theorem c_moves {v1 v2 v3 v4 v5 : Int32} (hN : 4000 ≤ N) (h : R X S) : OKr (px_L_moves N X v1 v2 v3 v4 v5) (pm_moves N S v1 v2 v3 v4 v5) := by
  obtain ⟨a, b, v, ik, tx, len, h⟩ := h
  have hR := RR_R h
  have k4 := (RR_ok h).1
  obtain ⟨q1, q2⟩ := RR_cl h
  have hw := h.1
  have z1 : ¬ (nI 1 = 0) := by decide
  have z0 : nI 0 = 0 := rfl
  have fin : ∀ {o1 o2 : Option (Int32 × sm_St)}, o1 = some (-nI 10, sm_sI X 0 11 (X.1 0 11 + nI 1)) → o2 = some (-nI 10, sm_sI S 4 0 (S.1 4 0 + nI 1)) → OKr o1 o2 := fun e1 e2 => ⟨_, _, _, e1, e2, R_bad hR⟩
  have bx : px_L_moves_b59 N X = some (-nI 10, sm_sI X 0 11 (X.1 0 11 + nI 1)) := by
    unfold px_L_moves_b59
    simp (disch := omega) only [sm_lt, sm_b1s, sm_b2s, ↓reduceIte, sm_in_nI, nI_clamp, nI_add, pk_mul, pk_sub, ne_addneg, nI_l, ne_ltT, ne_ltF, ne_leT, ne_leF, ne_eqT, ne_eqF, ne_sI1s, ne_sI1n, ne_sI2, ne_sI3, ne_sL1, ne_sL2s, ne_sL2n, ne_sL3, pk_us, pk_un, pk_uLs, pk_uLn, mm_Z, mm_L, mm_1, mm_2, mm_3, ne_rz0, ne_rz1, not_true_eq_false, not_false_eq_true, ne_i0, ne_i1, ne_i2, ne_i3, ne_i4, ne_i5, ne_i6, ne_i7, ne_i8, ne_i9, ne_i10, ne_i12, ne_i14, ne_i16, ne_i18, ne_i19, ne_i20, ne_i23, ne_i24, ne_i27, ne_i29, ne_i30, ne_i31, ne_i32, ne_i35, ne_i48, ne_i52, ne_i54, ne_i57, ne_i59, ne_i63, ne_i64, ne_i76, ne_i77, ne_i78, ne_i79, ne_i80, ne_i81, ne_i97, ne_i99, ne_i100, ne_i101, ne_i104, ne_i105, ne_i108, ne_i110, ne_i111, ne_i116, ne_i117, ne_i122, ne_i103, ne_i200, ne_i255, ne_i256, ne_i320, ne_i384, ne_i1000, ne_l0, ne_l1, ne_l2, ne_l3, ne_l4, ne_l5, ne_l8, ne_l12, ne_l31, ne_l48, ne_l57, ne_l97, ne_l99, ne_l122, ne_l255, ne_l673, ne_l1073741823, ne_l1073741824, xq_bad]
  have bx0 : px_L_moves_b30 N v1 v2 v3 v4 v5 X = some (-nI 10, sm_sI X 0 11 (X.1 0 11 + nI 1)) := by
    unfold px_L_moves_b30 px_L_moves_b31
    simp (disch := omega) only [sm_lt, sm_b1s, sm_b2s, ↓reduceIte, sm_in_nI, nI_clamp, nI_add, pk_mul, pk_sub, ne_addneg, nI_l, ne_ltT, ne_ltF, ne_leT, ne_leF, ne_eqT, ne_eqF, ne_sI1s, ne_sI1n, ne_sI2, ne_sI3, ne_sL1, ne_sL2s, ne_sL2n, ne_sL3, pk_us, pk_un, pk_uLs, pk_uLn, mm_Z, mm_L, mm_1, mm_2, mm_3, ne_rz0, ne_rz1, not_true_eq_false, not_false_eq_true, ne_i0, ne_i1, ne_i2, ne_i3, ne_i4, ne_i5, ne_i6, ne_i7, ne_i8, ne_i9, ne_i10, ne_i12, ne_i14, ne_i16, ne_i18, ne_i19, ne_i20, ne_i23, ne_i24, ne_i27, ne_i29, ne_i30, ne_i31, ne_i32, ne_i35, ne_i48, ne_i52, ne_i54, ne_i57, ne_i59, ne_i63, ne_i64, ne_i76, ne_i77, ne_i78, ne_i79, ne_i80, ne_i81, ne_i97, ne_i99, ne_i100, ne_i101, ne_i104, ne_i105, ne_i108, ne_i110, ne_i111, ne_i116, ne_i117, ne_i122, ne_i103, ne_i200, ne_i255, ne_i256, ne_i320, ne_i384, ne_i1000, ne_l0, ne_l1, ne_l2, ne_l3, ne_l4, ne_l5, ne_l8, ne_l12, ne_l31, ne_l48, ne_l57, ne_l97, ne_l99, ne_l122, ne_l255, ne_l673, ne_l1073741823, ne_l1073741824, bx]
  have bm : pm_moves_b57 N S = some (-nI 10, sm_sI S 4 0 (S.1 4 0 + nI 1)) := by
    unfold pm_moves_b57
    simp (disch := omega) only [sm_lt, sm_b1s, sm_b2s, ↓reduceIte, sm_in_nI, nI_clamp, nI_add, pk_mul, pk_sub, ne_addneg, nI_l, ne_ltT, ne_ltF, ne_leT, ne_leF, ne_eqT, ne_eqF, ne_sI1s, ne_sI1n, ne_sI2, ne_sI3, ne_sL1, ne_sL2s, ne_sL2n, ne_sL3, pk_us, pk_un, pk_uLs, pk_uLn, mm_Z, mm_L, mm_1, mm_2, mm_3, ne_rz0, ne_rz1, not_true_eq_false, not_false_eq_true, ne_i0, ne_i1, ne_i2, ne_i3, ne_i4, ne_i5, ne_i6, ne_i7, ne_i8, ne_i9, ne_i10, ne_i12, ne_i14, ne_i16, ne_i18, ne_i19, ne_i20, ne_i23, ne_i24, ne_i27, ne_i29, ne_i30, ne_i31, ne_i32, ne_i35, ne_i48, ne_i52, ne_i54, ne_i57, ne_i59, ne_i63, ne_i64, ne_i76, ne_i77, ne_i78, ne_i79, ne_i80, ne_i81, ne_i97, ne_i99, ne_i100, ne_i101, ne_i104, ne_i105, ne_i108, ne_i110, ne_i111, ne_i116, ne_i117, ne_i122, ne_i103, ne_i200, ne_i255, ne_i256, ne_i320, ne_i384, ne_i1000, ne_l0, ne_l1, ne_l2, ne_l3, ne_l4, ne_l5, ne_l8, ne_l12, ne_l31, ne_l48, ne_l57, ne_l97, ne_l99, ne_l122, ne_l255, ne_l673, ne_l1073741823, ne_l1073741824, np_bad]
  unfold px_L_moves pm_moves
  rcases cl_or (N := N) h v1 with ⟨c, rfl, hc⟩ | ⟨e1, e2⟩
  · have n1 := xq_clT (N := N) q1 hc k4
    have n2 := np_clT (N := N) hw k4 hc
    rw [n1, sm_b2s, if_neg z1, n2, sm_b2s, if_neg z1]
    rcases ne_arg v3 12 (by decide) with ⟨B, hB, rfl⟩ | hb3
    · have m3 : pm_in N S (nI B).toInt64 (0 : Int64) (12 : Int64) = some (nI 1, S) := by rw [nI_l (show B < 2 ^ 31 by omega)]; exact ne_inT (x := B) (a := 0) (b := 12) (by omega) hB (by omega)
      rw [m3, sm_b2s, if_neg z1]
      rcases ne_arg v2 B (by omega) with ⟨A, hA, rfl⟩ | hb2
      · have m2 : pm_in N S (nI A).toInt64 (0 : Int64) (nI B).toInt64 = some (nI 1, S) := by rw [nI_l (show B < 2 ^ 31 by omega), nI_l (show A < 2 ^ 31 by omega)]; exact ne_inT (x := A) (a := 0) (b := B) (by omega) hA (by omega)
        rw [m2, sm_b2s, if_neg z1, if_neg (show ¬ nI A < 0 from nI_pos (by omega)), if_neg (nI_nlt hA (by omega)), if_neg (show ¬ (12 : Int32) < nI B from nI_nlt (a := 12) hB (by decide))]
        unfold px_L_moves_b31
        simp only [sm_lt]
        rw [if_neg (show ¬ (1 : Int32) = 0 by decide)]
        by_cases hb4 : v4.toInt < 1 ∨ 3 < v4.toInt
        · refine fin ?_ ?_
          · by_cases l : v4.toInt < 1
            · rw [if_pos (show v4 < (1 : Int32) by rw [Int32.lt_iff_toInt_lt]; exact l), bx]
            · rw [if_neg (show ¬ v4 < (1 : Int32) by rw [Int32.lt_iff_toInt_lt]; exact l), if_pos (show (3 : Int32) < v4 by rw [Int32.lt_iff_toInt_lt]; show (3 : Int) < v4.toInt; omega), bx]
          · have e : pm_in N S v4.toInt64 (1 : Int64) (3 : Int64) = some (nI 0, S) := ne_inBa (a := 1) (b := 3) hb4 (by decide) (by decide)
            rw [e, sm_b2s, if_pos z0, bm]
        · obtain ⟨n, hn, rfl⟩ : ∃ n, n ≤ 3 ∧ v4 = nI n := by
            rcases ne_arg v4 3 (by decide) with ⟨j, hj, rfl⟩ | q
            · exact ⟨j, hj, rfl⟩
            · omega
          rw [nI_toInt (by omega)] at hb4
          have m4 : pm_in N S (nI n).toInt64 (1 : Int64) (3 : Int64) = some (nI 1, S) := by rw [nI_l (show n < 2 ^ 31 by omega)]; exact ne_inT (x := n) (a := 1) (b := 3) (by omega) hn (by omega)
          rw [m4, sm_b2s, if_neg z1, if_neg (show ¬ nI n < (1 : Int32) from nI_nlt (b := 1) (by omega) (by omega)), if_neg (show ¬ (3 : Int32) < nI n from nI_nlt (a := 3) hn (by decide))]
          rcases w_or (N := N) (X := X) (S := S) v5 (show 2 < 2 ^ 31 by decide) with ⟨w, rfl, hwl⟩ | ⟨e1, e2⟩
          · obtain ⟨X1, X', S', rx, rm, r, f1, f2, f3, f4, f5, f6⟩ := mv_both (N := N) (c := c) (A := A) (B := B) (n := n) (w := w) hN h hc (by omega) hB hn hwl
            have m5 : pm_in N S (nI w).toInt64 (0 : Int64) (2 : Int64) = some (nI 1, S) := by rw [nI_l (show w < 2 ^ 31 by omega)]; exact ne_inT (x := w) (a := 0) (b := 2) (by omega) hwl (by omega)
            have m6 : px_L_within N X (nI w) (2 : Int32) = some (nI 1, X) := xq_wT hwl (by decide)
            refine ⟨r, X', S', ?_, ?_, f4⟩
            · rw [m6, sm_b2s, if_neg z1, f1, sm_b1s, f2, sm_b2s]
              exact f5
            · rw [m5, sm_b2s, if_neg z1, f3, sm_b2s]
              exact f6
          · refine fin ?_ ?_
            · rw [show px_L_within N X v5 (2 : Int32) = _ from e1, sm_b2s, if_pos z0, bx]
            · rw [show pm_in N S v5.toInt64 (0 : Int64) (2 : Int64) = _ from e2, sm_b2s, if_pos z0, bm]
      · refine fin ?_ ?_
        · by_cases l0 : v2.toInt < 0
          · rw [if_pos (show v2 < 0 by rw [Int32.lt_iff_toInt_lt, Int32.toInt_zero]; exact l0), bx0]
          · rw [if_neg (show ¬ v2 < 0 by rw [Int32.lt_iff_toInt_lt, Int32.toInt_zero]; exact l0), if_pos (show nI B < v2 by rw [Int32.lt_iff_toInt_lt, nI_toInt (by omega)]; omega), bx0]
        · have e : pm_in N S v2.toInt64 (0 : Int64) (nI B).toInt64 = some (nI 0, S) := by rw [nI_l (show B < 2 ^ 31 by omega)]; exact ne_inB (b := B) hb2 (by omega)
          rw [e, sm_b2s, if_pos z0, bm]
    · refine fin ?_ ?_
      · by_cases l0 : v2.toInt < 0
        · rw [if_pos (show v2 < 0 by rw [Int32.lt_iff_toInt_lt, Int32.toInt_zero]; exact l0), bx0]
        · rw [if_neg (show ¬ v2 < 0 by rw [Int32.lt_iff_toInt_lt, Int32.toInt_zero]; exact l0)]
          by_cases l1 : v3.toInt < v2.toInt
          · rw [if_pos (show v3 < v2 by rw [Int32.lt_iff_toInt_lt]; exact l1), bx0]
          · rw [if_neg (show ¬ v3 < v2 by rw [Int32.lt_iff_toInt_lt]; exact l1), if_pos (show (12 : Int32) < v3 by rw [Int32.lt_iff_toInt_lt]; show (12 : Int) < v3.toInt; omega), bx0]
      · have e : pm_in N S v3.toInt64 (0 : Int64) (12 : Int64) = some (nI 0, S) := ne_inB (b := 12) hb3 (by omega)
        rw [e, sm_b2s, if_pos z0, bm]
  · refine fin ?_ ?_
    · rw [e1, sm_b2s, if_pos z0, bx0]
    · rw [e2, sm_b2s, if_pos z0, bm]
end
