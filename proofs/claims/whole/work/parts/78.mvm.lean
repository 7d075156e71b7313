/-! moves, the reference's side -/
/-- how many pairs at most -/
def mp_m : Nat → Nat
  | 0 => 0
  | q + 1 => if q / 8 < q % 8 then mp_m q + 1 else mp_m q
theorem mp_m_22 : ∀ q, q < 32 → q / 8 < q % 8 → mp_m q < 22 := by decide +kernel
theorem mp_m_32 : mp_m 32 = 22 := by decide +kernel
theorem mp_okL {a : Nat → Nat} {q : Nat} (h : mp_ok a q = true) : q / 8 < q % 8 ∧ q / 8 < a 76 ∧ (q % 8 < a 76 ∨ 4 ≤ q % 8 ∧ q % 8 < 4 + a 77) := of_decide_eq_true h
theorem mp_k_m (a : Nat → Nat) : ∀ q, mp_k a q ≤ mp_m q
  | 0 => Nat.le_refl _
  | q + 1 => by
    have ih := mp_k_m a q
    rw [mp_k, mp_m]
    cases h : mp_ok a q with
    | true =>
      rw [if_pos rfl, if_pos (mp_okL h).1]
      omega
    | false =>
      rw [if_neg (by simp)]
      split <;> omega
theorem mp_k_22 {a : Nat → Nat} {q : Nat} (h : mp_ok a q = true) (hq : q < 32) : mp_k a q < 22 := Nat.lt_of_le_of_lt (mp_k_m a q) (mp_m_22 q hq (mp_okL h).1)
def mvPq (M : sm_St) (a : Nat → Nat) (q : Nat) : Prop := M.1 0 13 = nI (mp_k a q) ∧ ∀ r, r < q → mp_ok a r = true → M.1 13 (mp_k a r) = nI (r / 8) ∧ M.1 14 (mp_k a r) = nI (r % 8)
def mvM (M S0 : sm_St) : Prop := (∀ p, p ≠ 0 → p ≠ 7 → p ≠ 8 → p ≠ 13 → p ≠ 14 → M.1 p = S0.1 p) ∧ M.1 0 6 = S0.1 0 6 ∧ M.1 0 21 = S0.1 0 21
theorem mvPq_skip {M : sm_St} {a : Nat → Nat} {q : Nat} : ∀ d, (∀ r, q ≤ r → r < q + d → mp_ok a r = false) → mvPq M a q → mvPq M a (q + d)
  | 0, _, h => h
  | d + 1, hn, h => by
    have ih := mvPq_skip d (fun r h1 h2 => hn r h1 (by omega)) h
    have hq := hn (q + d) (by omega) (by omega)
    rw [← Nat.add_assoc]
    refine ⟨?_, fun r hr hok => ?_⟩
    · rw [mp_k, hq, if_neg (by simp)]
      exact ih.1
    · by_cases e : r = q + d
      · rw [e, hq] at hok; cases hok
      · exact ih.2 r (by omega) hok
section
variable {N : Nat} {M S S0 : sm_St} {a v w t : Nat → Nat} {c A B n : Nat}
theorem zm13 : (zm_sh 13).2 = 22 := rfl
theorem zm14 : (zm_sh 14).2 = 22 := rfl
theorem np_fp (hN : 4000 ≤ N) (k4 : a 76 ≤ 4) (t4 : a 77 ≤ 4) (hW : nW M v w S) (hw : nw a M) : ∃ M' S', pm_findPairs N S = some S' ∧ nW M' v w S' ∧ mvPq M' a 32 ∧ (∀ p, p ≠ 0 → p ≠ 13 → p ≠ 14 → M'.1 p = M.1 p) ∧ ∀ k, k ≠ 13 → M'.1 0 k = M.1 0 k := by
  unfold pm_findPairs
  simp only [sm_lt]
  have z0 : nI 0 = 0 := rfl
  have z1 : ¬ (nI 1 = 0) := by decide
  refine ne_loop (fun f i (s : sm_St × sm_St) => pm_findPairs_b7 N f (nI i) s.2) (fun i s => nW s.1 v w s.2 ∧ mvPq s.1 a (8 * i) ∧ (∀ p, p ≠ 0 → p ≠ 13 → p ≠ 14 → s.1.1 p = M.1 p) ∧ ∀ k, k ≠ 13 → s.1.1 0 k = M.1 0 k) 4 (fun r => ∃ M' S', r = some S' ∧ nW M' v w S' ∧ mvPq M' a 32 ∧ (∀ p, p ≠ 0 → p ≠ 13 → p ≠ 14 → M'.1 p = M.1 p) ∧ ∀ k, k ≠ 13 → M'.1 0 k = M.1 0 k) ?_ ?_ N 0 (sm_sI M 0 13 (nI 0), sm_sI S 0 13 (nI 0)) (by omega) (by omega) ⟨nW_sI hW (by decide), ⟨by show (sm_sI M 0 13 (nI 0)).1 0 13 = _; rw [ne_sI1s, pk_us]; rfl, fun r hr => by omega⟩, fun p p0 _ _ => by show (sm_sI M 0 13 (nI 0)).1 p = _; rw [ne_sI1n p0], fun k hk => by show (sm_sI M 0 13 (nI 0)).1 0 k = _; rw [ne_sI1s, pk_un hk]⟩
  · rintro f i ⟨M1, S1⟩ hi ⟨i1, i2, i3, i4⟩
    simp only at i1 i2 i3 i4
    left
    have start : mvPq M1 a (8 * i + (i + 1)) := mvPq_skip (i + 1) (fun r h1 h2 => decide_eq_false (fun q => by omega)) i2
    have row : ∃ s' : sm_St × sm_St, (nW s'.1 v w s'.2 ∧ mvPq s'.1 a (8 * (i + 1)) ∧ (∀ p, p ≠ 0 → p ≠ 13 → p ≠ 14 → s'.1.1 p = M.1 p) ∧ ∀ k, k ≠ 13 → s'.1.1 0 k = M.1 0 k) ∧ pm_findPairs_b16 N (pm_findPairs_b7 N f) N (nI i) (nI (i + 1)) S1 = pm_findPairs_b7 N f (nI (i + 1)) s'.2 := by
      refine ne_loop (fun f' b (s : sm_St × sm_St) => pm_findPairs_b16 N (pm_findPairs_b7 N f) f' (nI i) (nI b) s.2) (fun b s => i < b ∧ nW s.1 v w s.2 ∧ mvPq s.1 a (8 * i + b) ∧ (∀ p, p ≠ 0 → p ≠ 13 → p ≠ 14 → s.1.1 p = M.1 p) ∧ ∀ k, k ≠ 13 → s.1.1 0 k = M.1 0 k) 8 (fun r => ∃ s' : sm_St × sm_St, (nW s'.1 v w s'.2 ∧ mvPq s'.1 a (8 * (i + 1)) ∧ (∀ p, p ≠ 0 → p ≠ 13 → p ≠ 14 → s'.1.1 p = M.1 p) ∧ ∀ k, k ≠ 13 → s'.1.1 0 k = M.1 0 k) ∧ r = pm_findPairs_b7 N f (nI (i + 1)) s'.2) ?_ ?_ N (i + 1) (M1, S1) (by omega) (by omega) ⟨by omega, i1, start, i3, i4⟩
      · rintro f' b ⟨M2, S2⟩ hb ⟨j0, j1, j2, j3, j4⟩
        simp only at j0 j1 j2 j3 j4
        left
        have hw2 : nw a M2 := fun k hk => by rw [j3 1 (by decide) (by decide) (by decide)]; exact hw k hk
        have hwS := nW_nw j1 hw2
        have l8 : ¬ (8 : Int32) ≤ nI b := of_eq_false (ne_leF hb (by decide))
        have qd : (8 * i + b) / 8 = i := by omega
        have qm : (8 * i + b) % 8 = b := by omega
        have skip : mp_ok a (8 * i + b) = false → ∃ s' : sm_St × sm_St, (i < b + 1 ∧ nW s'.1 v w s'.2 ∧ mvPq s'.1 a (8 * i + (b + 1)) ∧ (∀ p, p ≠ 0 → p ≠ 13 → p ≠ 14 → s'.1.1 p = M.1 p) ∧ ∀ k, k ≠ 13 → s'.1.1 0 k = M.1 0 k) ∧ pm_findPairs_b68 N (pm_findPairs_b7 N f) (pm_findPairs_b16 N (pm_findPairs_b7 N f) f') (nI i) (nI b) S2 = pm_findPairs_b16 N (pm_findPairs_b7 N f) f' (nI i) (nI (b + 1)) s'.2 := by
          intro hq
          have sk := mvPq_skip (q := 8 * i + b) 1 (fun r h1 h2 => by rw [show r = 8 * i + b by omega]; exact hq) j2
          refine ⟨(M2, S2), ⟨by omega, j1, sk, j3, j4⟩, ?_⟩
          unfold pm_findPairs_b68
          simp (disch := omega) only [sm_lt, sm_b1s, sm_b2s, ↓reduceIte, sm_in_nI, nI_clamp, nI_add, pk_mul, pk_sub, ne_addneg, nI_l, ne_ltT, ne_ltF, ne_leT, ne_leF, ne_eqT, ne_eqF, ne_sI1s, ne_sI1n, ne_sI2, ne_sI3, ne_sL1, ne_sL2s, ne_sL2n, ne_sL3, pk_us, pk_un, pk_uLs, pk_uLn, mm_Z, mm_L, mm_1, mm_2, mm_3, ne_rz0, ne_rz1, not_true_eq_false, not_false_eq_true, ne_i0, ne_i1, ne_i2, ne_i3, ne_i4, ne_i5, ne_i6, ne_i7, ne_i8, ne_i9, ne_i10, ne_i12, ne_i14, ne_i16, ne_i18, ne_i19, ne_i20, ne_i23, ne_i24, ne_i27, ne_i29, ne_i30, ne_i31, ne_i32, ne_i35, ne_i48, ne_i52, ne_i54, ne_i57, ne_i59, ne_i63, ne_i64, ne_i76, ne_i77, ne_i78, ne_i79, ne_i80, ne_i81, ne_i97, ne_i99, ne_i100, ne_i101, ne_i104, ne_i105, ne_i108, ne_i110, ne_i111, ne_i116, ne_i117, ne_i122, ne_i103, ne_i200, ne_i255, ne_i256, ne_i320, ne_i384, ne_i1000, ne_l0, ne_l1, ne_l2, ne_l3, ne_l4, ne_l5, ne_l8, ne_l12, ne_l31, ne_l48, ne_l57, ne_l97, ne_l99, ne_l122, ne_l255, ne_l673, ne_l1073741823, ne_l1073741824]
        show ∃ s', _ ∧ pm_findPairs_b16 N _ (f' + 1) _ _ _ = pm_findPairs_b16 N _ f' _ _ _
        rw [pm_findPairs_b16, if_neg l8]
        by_cases li : i < a 76
        · rw [np_numT (N := N) hwS k4 t4 (Or.inl li), sm_b2s, if_neg z1]
          by_cases lb : b < a 76 ∨ 4 ≤ b ∧ b < 4 + a 77
          · rw [np_numT (N := N) hwS k4 t4 lb, sm_b2s, if_neg z1]
            have hq : mp_ok a (8 * i + b) = true := decide_eq_true (by rw [qd, qm]; exact ⟨j0, li, lb⟩)
            have hk := mp_k_22 hq (by omega)
            have c13 : S2.1 0 13 = nI (mp_k a (8 * i + b)) := by rw [nW_1 j1 (by decide)]; exact j2.1
            refine ⟨(sm_sI (sm_sI (sm_sI M2 13 (mp_k a (8 * i + b)) (nI i)) 14 (mp_k a (8 * i + b)) (nI b)) 0 13 (nI (mp_k a (8 * i + b) + 1)), sm_sI (sm_sI (sm_sI S2 13 (mp_k a (8 * i + b)) (nI i)) 14 (mp_k a (8 * i + b)) (nI b)) 0 13 (nI (mp_k a (8 * i + b) + 1))), ⟨by omega, nW_sI (nW_sI (nW_sI j1 (by decide)) (by decide)) (by decide), ⟨?_, fun r hr hok => ?_⟩, fun p p0 p13 p14 => ?_, fun k hk => ?_⟩, ?_⟩
            · show (sm_sI (sm_sI (sm_sI M2 13 _ _) 14 _ _) 0 13 _).1 0 13 = _
              rw [ne_sI1s, pk_us, ← Nat.add_assoc, mp_k, if_pos hq]
            · show (sm_sI (sm_sI (sm_sI M2 13 _ _) 14 _ _) 0 13 _).1 13 _ = _ ∧ (sm_sI (sm_sI (sm_sI M2 13 _ _) 14 _ _) 0 13 _).1 14 _ = _
              rw [ne_sI1n (by decide), ne_sI1n (by decide), ne_sI1s, ne_sI1n (by decide), ne_sI1s, ne_sI1n (by decide)]
              by_cases e : r = 8 * i + b
              · rw [e, pk_us, pk_us, qd, qm]
                exact ⟨rfl, rfl⟩
              · have hl := mp_k_lt (r := 8 * i + b) hok (by omega)
                rw [pk_un (by omega), pk_un (by omega)]
                exact j2.2 r (by omega) hok
            · show (sm_sI (sm_sI (sm_sI M2 13 _ _) 14 _ _) 0 13 _).1 p = _
              rw [ne_sI1n p0, ne_sI1n p14, ne_sI1n p13]
              exact j3 p p0 p13 p14
            · show (sm_sI (sm_sI (sm_sI M2 13 _ _) 14 _ _) 0 13 _).1 0 k = _
              rw [ne_sI1s, pk_un hk, ne_sI1n (by decide), ne_sI1n (by decide)]
              exact j4 k hk
            · unfold pm_findPairs_b68
              simp (disch := omega) only [sm_lt, sm_b1s, sm_b2s, ↓reduceIte, sm_in_nI, nI_clamp, nI_add, pk_mul, pk_sub, ne_addneg, nI_l, ne_ltT, ne_ltF, ne_leT, ne_leF, ne_eqT, ne_eqF, ne_sI1s, ne_sI1n, ne_sI2, ne_sI3, ne_sL1, ne_sL2s, ne_sL2n, ne_sL3, pk_us, pk_un, pk_uLs, pk_uLn, mm_Z, mm_L, mm_1, mm_2, mm_3, ne_rz0, ne_rz1, not_true_eq_false, not_false_eq_true, ne_i0, ne_i1, ne_i2, ne_i3, ne_i4, ne_i5, ne_i6, ne_i7, ne_i8, ne_i9, ne_i10, ne_i12, ne_i14, ne_i16, ne_i18, ne_i19, ne_i20, ne_i23, ne_i24, ne_i27, ne_i29, ne_i30, ne_i31, ne_i32, ne_i35, ne_i48, ne_i52, ne_i54, ne_i57, ne_i59, ne_i63, ne_i64, ne_i76, ne_i77, ne_i78, ne_i79, ne_i80, ne_i81, ne_i97, ne_i99, ne_i100, ne_i101, ne_i104, ne_i105, ne_i108, ne_i110, ne_i111, ne_i116, ne_i117, ne_i122, ne_i103, ne_i200, ne_i255, ne_i256, ne_i320, ne_i384, ne_i1000, ne_l0, ne_l1, ne_l2, ne_l3, ne_l4, ne_l5, ne_l8, ne_l12, ne_l31, ne_l48, ne_l57, ne_l97, ne_l99, ne_l122, ne_l255, ne_l673, ne_l1073741823, ne_l1073741824, c13]
          · have hq : mp_ok a (8 * i + b) = false := decide_eq_false (by rw [qd, qm]; exact fun q => lb q.2.2)
            obtain ⟨s', g1, g2⟩ := skip hq
            rw [np_numF (N := N) hwS k4 t4 lb (by omega), sm_b2s, if_pos z0]
            exact ⟨s', g1, g2⟩
        · have hq : mp_ok a (8 * i + b) = false := decide_eq_false (by rw [qd, qm]; exact fun q => li q.2.1)
          obtain ⟨s', g1, g2⟩ := skip hq
          rw [np_numF (N := N) hwS k4 t4 (by omega) (by omega), sm_b2s, if_pos z0]
          exact ⟨s', g1, g2⟩
      · rintro f' ⟨M2, S2⟩ ⟨j0, j1, j2, j3, j4⟩
        simp only at j0 j1 j2 j3 j4
        refine ⟨(M2, S2), ⟨j1, j2, j3, j4⟩, ?_⟩
        show pm_findPairs_b16 N _ (f' + 1) _ _ _ = _
        rw [pm_findPairs_b16]
        simp (disch := omega) only [sm_lt, sm_b1s, sm_b2s, ↓reduceIte, sm_in_nI, nI_clamp, nI_add, pk_mul, pk_sub, ne_addneg, nI_l, ne_ltT, ne_ltF, ne_leT, ne_leF, ne_eqT, ne_eqF, ne_sI1s, ne_sI1n, ne_sI2, ne_sI3, ne_sL1, ne_sL2s, ne_sL2n, ne_sL3, pk_us, pk_un, pk_uLs, pk_uLn, mm_Z, mm_L, mm_1, mm_2, mm_3, ne_rz0, ne_rz1, not_true_eq_false, not_false_eq_true, ne_i0, ne_i1, ne_i2, ne_i3, ne_i4, ne_i5, ne_i6, ne_i7, ne_i8, ne_i9, ne_i10, ne_i12, ne_i14, ne_i16, ne_i18, ne_i19, ne_i20, ne_i23, ne_i24, ne_i27, ne_i29, ne_i30, ne_i31, ne_i32, ne_i35, ne_i48, ne_i52, ne_i54, ne_i57, ne_i59, ne_i63, ne_i64, ne_i76, ne_i77, ne_i78, ne_i79, ne_i80, ne_i81, ne_i97, ne_i99, ne_i100, ne_i101, ne_i104, ne_i105, ne_i108, ne_i110, ne_i111, ne_i116, ne_i117, ne_i122, ne_i103, ne_i200, ne_i255, ne_i256, ne_i320, ne_i384, ne_i1000, ne_l0, ne_l1, ne_l2, ne_l3, ne_l4, ne_l5, ne_l8, ne_l12, ne_l31, ne_l48, ne_l57, ne_l97, ne_l99, ne_l122, ne_l255, ne_l673, ne_l1073741823, ne_l1073741824]
    obtain ⟨s', g1, g2⟩ := row
    refine ⟨s', g1, ?_⟩
    show pm_findPairs_b7 N (f + 1) _ _ = _
    rw [pm_findPairs_b7]
    simp (disch := omega) only [sm_lt, sm_b1s, sm_b2s, ↓reduceIte, sm_in_nI, nI_clamp, nI_add, pk_mul, pk_sub, ne_addneg, nI_l, ne_ltT, ne_ltF, ne_leT, ne_leF, ne_eqT, ne_eqF, ne_sI1s, ne_sI1n, ne_sI2, ne_sI3, ne_sL1, ne_sL2s, ne_sL2n, ne_sL3, pk_us, pk_un, pk_uLs, pk_uLn, mm_Z, mm_L, mm_1, mm_2, mm_3, ne_rz0, ne_rz1, not_true_eq_false, not_false_eq_true, ne_i0, ne_i1, ne_i2, ne_i3, ne_i4, ne_i5, ne_i6, ne_i7, ne_i8, ne_i9, ne_i10, ne_i12, ne_i14, ne_i16, ne_i18, ne_i19, ne_i20, ne_i23, ne_i24, ne_i27, ne_i29, ne_i30, ne_i31, ne_i32, ne_i35, ne_i48, ne_i52, ne_i54, ne_i57, ne_i59, ne_i63, ne_i64, ne_i76, ne_i77, ne_i78, ne_i79, ne_i80, ne_i81, ne_i97, ne_i99, ne_i100, ne_i101, ne_i104, ne_i105, ne_i108, ne_i110, ne_i111, ne_i116, ne_i117, ne_i122, ne_i103, ne_i200, ne_i255, ne_i256, ne_i320, ne_i384, ne_i1000, ne_l0, ne_l1, ne_l2, ne_l3, ne_l4, ne_l5, ne_l8, ne_l12, ne_l31, ne_l48, ne_l57, ne_l97, ne_l99, ne_l122, ne_l255, ne_l673, ne_l1073741823, ne_l1073741824]
    exact g2
  · rintro f ⟨M1, S1⟩ ⟨i1, i2, i3, i4⟩
    simp only at i1 i2 i3 i4
    show ∃ M' S', pm_findPairs_b7 N (f + 1) _ _ = _ ∧ _
    rw [pm_findPairs_b7]
    refine ⟨M1, S1, ?_, i1, i2, i3, i4⟩
    simp (disch := omega) only [sm_lt, sm_b1s, sm_b2s, ↓reduceIte, sm_in_nI, nI_clamp, nI_add, pk_mul, pk_sub, ne_addneg, nI_l, ne_ltT, ne_ltF, ne_leT, ne_leF, ne_eqT, ne_eqF, ne_sI1s, ne_sI1n, ne_sI2, ne_sI3, ne_sL1, ne_sL2s, ne_sL2n, ne_sL3, pk_us, pk_un, pk_uLs, pk_uLn, mm_Z, mm_L, mm_1, mm_2, mm_3, ne_rz0, ne_rz1, not_true_eq_false, not_false_eq_true, ne_i0, ne_i1, ne_i2, ne_i3, ne_i4, ne_i5, ne_i6, ne_i7, ne_i8, ne_i9, ne_i10, ne_i12, ne_i14, ne_i16, ne_i18, ne_i19, ne_i20, ne_i23, ne_i24, ne_i27, ne_i29, ne_i30, ne_i31, ne_i32, ne_i35, ne_i48, ne_i52, ne_i54, ne_i57, ne_i59, ne_i63, ne_i64, ne_i76, ne_i77, ne_i78, ne_i79, ne_i80, ne_i81, ne_i97, ne_i99, ne_i100, ne_i101, ne_i104, ne_i105, ne_i108, ne_i110, ne_i111, ne_i116, ne_i117, ne_i122, ne_i103, ne_i200, ne_i255, ne_i256, ne_i320, ne_i384, ne_i1000, ne_l0, ne_l1, ne_l2, ne_l3, ne_l4, ne_l5, ne_l8, ne_l12, ne_l31, ne_l48, ne_l57, ne_l97, ne_l99, ne_l122, ne_l255, ne_l673, ne_l1073741823, ne_l1073741824]
/-- behind the moves: nights, and what comes out -/
theorem np_so80 (hN : 4000 ≤ N) (o : sp_ok a) (hwv : wv1 a (wn v) (a 78)) (hW : nW M v (wn v) S) (hw : nw a M) (ht : nt t (ac_ a) M) (hs : sc a t (ac_ a)) (hc : c < a 76) (hA : A ≤ 12) (hB : B ≤ 12) (hn : n ≤ 3) : ∃ S' w', pm_comesSo_b80 N (nI c) (nI A) (nI B) (nI n) S = some (nI (sp_b (mv_r a v c A B n t)), S') ∧ nW M v w' S' ∧ ∀ i, 5 ≤ i → w' i = v (14 + i) := by
  have k4 := o.1
  have n12 := o.2.2.1
  obtain ⟨S1, e1, g1⟩ := nW_nights (N := N) (n := n) hN hW hw ht hs hwv.1 hwv.2.2.2 n12 (by omega)
  have b4 := sp_ns_4 (m := a 78) hs hwv.2.2.2 n
  have hb := sp_1000 b4 (by omega)
  obtain ⟨S2, e2, g2⟩ := nW_least (N := N) (c := c) (p := A) hN g1 (by omega) hA hb
  have hhi : ∀ i, 5 ≤ i → sp_ns a t (ac_ a) (wn v) n i = v (14 + i) := fun i hi => by rw [sp_ns_hi k4 hi, wn_hi hi]
  unfold pm_comesSo_b80 mv_r
  rw [e1, sm_b1s, e2, sm_b2s]
  by_cases d1 : sp_ns a t (ac_ a) (wn v) n 4 * A ≤ sp_ns a t (ac_ a) (wn v) n c
  · rw [if_pos d1, if_neg (show ¬ nI 1 = 0 by decide), decide_eq_true d1, Bool.true_and]
    obtain ⟨S3, e3, g3⟩ := nW_most (N := N) (c := c) (p := B) hN g2 (by omega) hB hb
    rw [e3, sm_b2s]
    by_cases d2 : sp_ns a t (ac_ a) (wn v) n c ≤ sp_ns a t (ac_ a) (wn v) n 4 * B
    · rw [if_pos d2, if_neg (show ¬ nI 1 = 0 by decide), decide_eq_true d2]
      exact ⟨S3, _, rfl, g3, hhi⟩
    · rw [if_neg d2, if_pos (show nI 0 = 0 from rfl), decide_eq_false d2]
      exact ⟨S3, _, rfl, g3, hhi⟩
  · rw [if_neg d1, if_pos (show nI 0 = 0 from rfl), decide_eq_false d1, Bool.false_and]
    exact ⟨S2, _, rfl, g2, hhi⟩
/-- a move by its number among those that can be -/
theorem np_pair {m : Nat} (hP : mvPq M a 32) (hW : nW M v w S) (hm : m < 64) (hok : mp_ok a (m / 2) = true) : mv_k a m < 44 ∧ nI (mv_k a m) / (2 : Int32) = nI (mp_k a (m / 2)) ∧ mp_k a (m / 2) < 22 ∧ S.1 13 (mp_k a (m / 2)) = nI (mv_a m) ∧ S.1 14 (mp_k a (m / 2)) = nI (mv_b m) ∧ (nI (mv_k a m) - nI (mp_k a (m / 2)) * (2 : Int32)) = nI (m % 2) := by
  have h1 := (mv_k_ok hok).1
  have h2 := mp_k_22 hok (by omega)
  have e2 : (2 : Int32) = nI 2 := rfl
  have ek : mv_k a m / 2 = mp_k a (m / 2) := by omega
  obtain ⟨p1, p2⟩ := hP.2 (m / 2) (by omega) hok
  refine ⟨by omega, ?_, h2, ?_, ?_, ?_⟩
  · rw [e2, pk_div (by omega) (by decide) (by decide), ek]
  · rw [nW_1 hW (by decide), p1, show m / 2 / 8 = m / 16 by omega]
    rfl
  · rw [nW_1 hW (by decide), p2]
    rfl
  · rw [e2, pk_mul, pk_sub (by omega)]
    congr 1
    omega
/-- one move is put -/
theorem np_put1 {m : Nat} (hN : 4000 ≤ N) (hP : mvPq M a 32) (hW : nW M v w S) (ht : tbl M t) (hm : m < 64) (hok : mp_ok a (m / 2) = true) : ∃ M' S', pm_putHours N S 7 (nI 0) (nI (mv_a m)) (nI (mv_b m)) (nI (m % 2) * (3 : Int32)) = some S' ∧ nW M' v w S' ∧ tbl M' (mv_t t m) ∧ ∀ p, p ≠ 7 → M'.1 p = M.1 p := by
  have e3 : nI (m % 2) * (3 : Int32) = nI (mv_h m) := by
    rw [show (3 : Int32) = nI 3 from rfl, pk_mul]
    rfl
  rw [e3]
  exact np_ph hW ht (show mv_a m < 8 by unfold mv_a; omega) (show mv_b m < 8 from Nat.mod_lt _ (by decide))
def mvI (M S0 S : sm_St) (a v w : Nat → Nat) : Prop := nW M v w S ∧ (∀ i, 5 ≤ i → w i = v (14 + i)) ∧ mvM M S0
theorem mvM_nw (h : mvM M S0) (hn : nw a S0) : nw a M := fun k hk => by rw [h.1 1 (by decide) (by decide) (by decide) (by decide) (by decide)]; exact hn k hk
theorem mvPq_fr {M' : sm_St} {q : Nat} (h : mvPq M a q) (f : ∀ p, p ≠ 7 → p ≠ 8 → M'.1 p = M.1 p) : mvPq M' a q := by
  unfold mvPq
  rw [f 0 (by decide) (by decide), f 13 (by decide) (by decide), f 14 (by decide) (by decide)]
  exact h
theorem mvM_fr {M' : sm_St} (h : mvM M S0) (f : ∀ p, p ≠ 7 → p ≠ 8 → M'.1 p = M.1 p) : mvM M' S0 := by
  obtain ⟨h1, h2, h3⟩ := h
  exact ⟨fun p p0 p7 p8 p13 p14 => by rw [f p p7 p8]; exact h1 p p0 p7 p8 p13 p14, by rw [f 0 (by decide) (by decide)]; exact h2, by rw [f 0 (by decide) (by decide)]; exact h3⟩
/-- does it come so, by the table t? o1, o2: no move, or its number -/
def mvO (a : Nat → Nat) (o : Option Nat) : Int32 := match o with
  | none => -nI 1
  | some m => nI (mv_k a m)
theorem mvO_m1 : -nI 1 = (-1 : Int32) := by decide
def mvT (t : Nat → Nat) (o : Option Nat) : Nat → Nat := match o with
  | none => t
  | some m => mv_t t m
def mvK (M : sm_St) (a : Nat → Nat) (o : Option Nat) : Prop := ∀ m, o = some m → m < 64 ∧ mp_ok a (m / 2) = true ∧ mvPq M a 32
theorem np_so42 {o : Option Nat} (hN : 4000 ≤ N) (ok : sp_ok a) (hwv : wv1 a (wn v) (a 78)) (hW : nW M v (wn v) S) (hw : nw a M) (ht : nt t (ac_ a) M) (hs : sc a t (ac_ a)) (hc : c < a 76) (hA : A ≤ 12) (hB : B ≤ 12) (hn : n ≤ 3) (ho : mvK M a o) : ∃ M' S' w', pm_comesSo_b42 N (nI c) (nI A) (nI B) (nI n) (mvO a o) S = some (nI (sp_b (mv_r a v c A B n (mvT t o))), S') ∧ nW M' v w' S' ∧ (∀ i, 5 ≤ i → w' i = v (14 + i)) ∧ ∀ p, p ≠ 7 → M'.1 p = M.1 p := by
  unfold pm_comesSo_b42
  cases o with
  | none =>
    obtain ⟨S', w', e, g1, g2⟩ := np_so80 (N := N) (c := c) (A := A) (B := B) (n := n) hN ok hwv hW hw ht hs hc hA hB hn
    rw [if_pos (show mvO a none = (-1 : Int32) from mvO_m1), e]
    exact ⟨M, S', w', rfl, g1, g2, fun _ _ => rfl⟩
  | some m =>
    obtain ⟨hm, hok, hP⟩ := ho m rfl
    obtain ⟨p1, p2, p3, p4, p5, p6⟩ := np_pair hP hW hm hok
    obtain ⟨M1, S1, e1, g1, g2, g3⟩ := np_put1 (N := N) hN hP hW ht.1 hm hok
    obtain ⟨S', w', e, g4, g5⟩ := np_so80 (N := N) (t := mv_t t m) (c := c) (A := A) (B := B) (n := n) hN ok hwv g1 (fun k hk => by rw [g3 1 (by decide)]; exact hw k hk) ⟨g2, fun k hk => by rw [g3 8 (by decide)]; exact ht.2 k hk⟩ (mv_t_sc hs) hc hA hB hn
    have nm : ¬ (mvO a (some m) = (-1 : Int32)) := of_eq_false (ne_neqm (show mv_k a m < 2 ^ 31 by omega))
    rw [if_neg nm]
    unfold mvO mvT
    simp only
    rw [p2, sm_ite_t (sm_in_nI p3 (by decide)), sm_ite_t (sm_in_nI p3 (by decide)), nI_clamp (show mp_k a (m / 2) < 2 ^ 31 by omega), p4, p5, p6, show (0 : Int32) = nI 0 from rfl, e1, sm_b1s, e]
    exact ⟨M1, S', w', rfl, g4, g5, g3⟩
theorem np_so {o1 o2 : Option Nat} (hN : 4000 ≤ N) (ok : sp_ok a) (hwv : wv1 a (wn v) (a 78)) (hn0 : nw a S0) (hI : mvI M S0 S a v w) (hc : c < a 76) (hA : A ≤ 12) (hB : B ≤ 12) (hn : n ≤ 3) (h1 : mvK M a o1) (h2 : mvK M a o2) : ∃ M' S' w', pm_comesSo N S (nI c) (nI A) (nI B) (nI n) (mvO a o1) (mvO a o2) = some (nI (sp_b (mv_r a v c A B n (mvT (mvT (at_ a) o1) o2))), S') ∧ mvI M' S0 S' a v w' ∧ ∀ p, p ≠ 7 → p ≠ 8 → M'.1 p = M.1 p := by
  obtain ⟨i1, i2, i3⟩ := hI
  have hw := mvM_nw i3 hn0
  have hs := sp_ok_sc ok
  obtain ⟨S1, e1, g1⟩ := nW_again (N := N) hN i1 i2 hw
  have hw1 : nw a (sm_tn a M) := tn_nw hw
  have ht1 : nt (at_ a) (ac_ a) (sm_tn a M) := tn_t
  have f1 : ∀ p, p ≠ 7 → p ≠ 8 → (sm_tn a M).1 p = M.1 p := fun p p7 p8 => tn_1 p7 p8
  unfold pm_comesSo
  rw [e1, sm_b1s]
  cases o1 with
  | none =>
    obtain ⟨M', S', w', e, g2, g3, g4⟩ := np_so42 (N := N) (c := c) (A := A) (B := B) (n := n) (o := o2) hN ok hwv g1 hw1 ht1 hs hc hA hB hn (fun m hm => ⟨(h2 m hm).1, (h2 m hm).2.1, mvPq_fr (h2 m hm).2.2 f1⟩)
    rw [if_pos (show mvO a none = (-1 : Int32) from mvO_m1), e]
    have f2 : ∀ p, p ≠ 7 → p ≠ 8 → M'.1 p = M.1 p := fun p p7 p8 => by rw [g4 p p7, f1 p p7 p8]
    exact ⟨M', S', w', rfl, ⟨g2, g3, mvM_fr i3 f2⟩, f2⟩
  | some m =>
    obtain ⟨hm, hok, hP⟩ := h1 m rfl
    have hP1 := mvPq_fr hP f1
    obtain ⟨p1, p2, p3, p4, p5, p6⟩ := np_pair hP1 g1 hm hok
    obtain ⟨M2, S2, e2, j1, j2, j3⟩ := np_put1 (N := N) hN hP1 g1 ht1.1 hm hok
    have f2 : ∀ p, p ≠ 7 → p ≠ 8 → M2.1 p = M.1 p := fun p p7 p8 => by rw [j3 p p7, f1 p p7 p8]
    obtain ⟨M', S', w', e, g2, g3, g4⟩ := np_so42 (N := N) (c := c) (A := A) (B := B) (n := n) (o := o2) (t := mv_t (at_ a) m) hN ok hwv j1 (fun k hk => by rw [j3 1 (by decide)]; exact hw1 k hk) ⟨j2, fun k hk => by rw [j3 8 (by decide)]; exact ht1.2 k hk⟩ (mv_t_sc hs) hc hA hB hn (fun m' hm' => ⟨(h2 m' hm').1, (h2 m' hm').2.1, mvPq_fr (h2 m' hm').2.2 f2⟩)
    have nm : ¬ (mvO a (some m) = (-1 : Int32)) := of_eq_false (ne_neqm (show mv_k a m < 2 ^ 31 by omega))
    have ek : mvO a (some m) = nI (mv_k a m) := rfl
    have f3 : ∀ p, p ≠ 7 → p ≠ 8 → M'.1 p = M.1 p := fun p p7 p8 => by rw [g4 p p7, f2 p p7 p8]
    rw [if_neg nm, ek, p2, sm_ite_t (sm_in_nI p3 (by decide)), sm_ite_t (sm_in_nI p3 (by decide)), nI_clamp (show mp_k a (m / 2) < 2 ^ 31 by omega), p4, p5, p6, show (0 : Int32) = nI 0 from rfl, e2, sm_b1s, e]
    exact ⟨M', S', w', rfl, ⟨g2, g3, mvM_fr i3 f3⟩, f3⟩
end
