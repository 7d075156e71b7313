section
variable {N : Nat} {M S : sm_St} {v a t co : Nat → Nat}
theorem nP_sL {p k : Nat} {x : Int64} (h : nP M v S) (hp : p ≠ 5) : nP (sm_sL M p k x) v (sm_sL S p k x) := by
  obtain ⟨L, Z, rfl, hA⟩ := h
  refine ⟨L, Z, ?_, hA⟩
  unfold sm_sL mm
  refine Prod.ext rfl (Prod.ext ?_ rfl)
  funext q
  show va_up (va_up M.2.1 5 L) p (vp_updL (va_up M.2.1 5 L p) k x) q = va_up (va_up M.2.1 p (vp_updL (M.2.1 p) k x)) 5 L q
  by_cases h1 : q = p
  · subst h1
    simp [va_up, hp]
  · by_cases h2 : q = 5
    · subst h2
      simp [va_up, Ne.symm hp]
    · simp [va_up, h1, h2]
theorem zm9 : (zm_sh 9).2 = 16 := rfl
theorem zm10 : (zm_sh 10).2 = 4 := rfl
theorem zm11 : (zm_sh 11).2 = 4 := rfl
theorem zm12 : (zm_sh 12).2 = 4 := rfl
/-- the product that a code tells -/
theorem np_prod {n m : Nat} {ro cl : Nat → Nat} {A : Nat → Nat → Int} (hN : 4000 ≤ N) (hn : n < 5) (h0 : 0 < n) (hm : m < 256) (h : nP M v S) (hro : ∀ k, k < n → ro k < 4 ∧ M.1 10 k = nI (ro k)) (hcl : ∀ k, k < n → cl k < 4 ∧ M.1 11 k = nI (cl k)) (hA : ∀ i j, i < 4 → j < 4 → M.2.1 9 (4 * i + j) = Int64.ofInt (A i j)) : ∃ M' S', pm_productBy N S (nI m) (nI n) = some (Int64.ofInt (rp (rp_d n m) (fun k x => A (ro k) (cl x)) n), S') ∧ nP M' v S' ∧ (∀ p, p ≠ 12 → M'.1 p = M.1 p) ∧ M'.2 = M.2 := by
  unfold pm_productBy
  simp only [sm_lt]
  have st : pm_productBy_b8 N N (nI n) (nI m) (1 : Int64) (0 : Int32) S = pm_productBy_b8 N N (nI n) (nI (m / n ^ 0)) (Int64.ofInt (rp (rp_d n m) (fun k x => A (ro k) (cl x)) 0)) (nI 0) S := by
    rw [Nat.pow_zero, Nat.div_one]
    rfl
  rw [st]
  generalize hR : (fun k x => A (ro k) (cl x)) = R
  have hRk : ∀ k x, R k x = A (ro k) (cl x) := fun k x => by rw [← hR]
  refine ne_loop (fun f k (s : sm_St × sm_St) => pm_productBy_b8 N f (nI n) (nI (m / n ^ k)) (Int64.ofInt (rp (rp_d n m) R k)) (nI k) s.2) (fun k s => nP s.1 v s.2 ∧ (∀ j, j < k → s.1.1 12 j = nI (rp_d n m j)) ∧ (∀ p, p ≠ 12 → s.1.1 p = M.1 p) ∧ s.1.2 = M.2) n (fun o => ∃ M' S', o = some (Int64.ofInt (rp (rp_d n m) R n), S') ∧ nP M' v S' ∧ (∀ p, p ≠ 12 → M'.1 p = M.1 p) ∧ M'.2 = M.2) ?_ ?_ N 0 (M, S) (by omega) (by omega) ⟨h, fun j hj => by omega, fun p _ => rfl, rfl⟩
  · rintro f k ⟨M1, S1⟩ hk ⟨i1, i2, i3, i4⟩
    simp only at i1 i2 i3 i4
    left
    have hmi : m / n ^ k < 256 := Nat.lt_of_le_of_lt (Nat.div_le_self _ _) hm
    obtain ⟨d1, d2, d3⟩ := od_dv n hn h0 _ hmi
    have ed : m / n ^ k % n = rp_d n m k := rfl
    have dl : ∀ j, rp_d n m j < n := fun j => Nat.mod_lt _ h0
    rw [ed] at d2
    rw [od_st] at d1
    rw [d1, pk_mul] at d2
    have hdk := dl k
    have n1 : ¬ (nI n = 0) := by
      have : (nI n = nI 0) = False := ne_eqF (by omega) (by omega) (by decide)
      exact of_eq_false this
    have j1 := nP_sI (p := 12) (k := k) (x := nI (rp_d n m k)) i1 (by decide)
    have f10 : M1.1 10 = M.1 10 := i3 10 (by decide)
    have f11 : M1.1 11 = M.1 11 := i3 11 (by decide)
    have r10 : S1.1 10 k = nI (ro k) := by rw [nP_1 i1 (by decide), f10]; exact (hro k hk).2
    have r11 : S1.1 11 (rp_d n m k) = nI (cl (rp_d n m k)) := by rw [nP_1 i1 (by decide), f11]; exact (hcl _ hdk).2
    have l1 := (hro k hk).1
    have l2 := (hcl _ hdk).1
    have r9 : S1.2.1 9 (4 * ro k + cl (rp_d n m k)) = Int64.ofInt (R k (rp_d n m k)) := by rw [nP_2 i1 (by decide), i4, hA _ _ l1 l2, hRk]
    have e12 : ∀ j, j < k + 1 → (sm_sI S1 12 k (nI (rp_d n m k))).1 12 j = nI (rp_d n m j) := fun j hj => by
      rw [ne_sI1s]
      by_cases q : j = k
      · rw [q, pk_us]
      · rw [pk_un q, nP_1 i1 (by decide)]
        exact i2 j (by omega)
    have em : Int64.ofInt (rp (rp_d n m) R k) * Int64.ofInt (R k (rp_d n m k)) = Int64.ofInt (rp (rp_d n m) R k * R k (rp_d n m k)) := (Int64.ofInt_mul _ _).symm
    -- the signs
    have sgn : ∀ V : Int, pm_productBy_b63 N (pm_productBy_b8 N f) N (nI n) (nI (m / n ^ (k + 1))) (Int64.ofInt V) (nI k) (nI 0) (sm_sI S1 12 k (nI (rp_d n m k))) = pm_productBy_b8 N f (nI n) (nI (m / n ^ (k + 1))) (Int64.ofInt (rp_in (rp_d n m) k k V)) (nI (k + 1)) (sm_sI S1 12 k (nI (rp_d n m k))) := by
      intro V
      generalize sm_sI S1 12 k (nI (rp_d n m k)) = T at e12
      refine ne_loop (fun f' j (_ : Unit) => pm_productBy_b63 N (pm_productBy_b8 N f) f' (nI n) (nI (m / n ^ (k + 1))) (Int64.ofInt (rp_in (rp_d n m) k j V)) (nI k) (nI j) T) (fun _ _ => True) k (fun o => o = pm_productBy_b8 N f (nI n) (nI (m / n ^ (k + 1))) (Int64.ofInt (rp_in (rp_d n m) k k V)) (nI (k + 1)) T) ?_ ?_ N 0 () (by omega) (by omega) trivial
      · intro f' j _ hj _
        left
        refine ⟨(), trivial, ?_⟩
        have a1 := e12 j (by omega)
        have a2 := e12 k (by omega)
        have b1 := dl j
        show pm_productBy_b63 N _ (f' + 1) _ _ _ _ _ _ = pm_productBy_b63 N _ f' _ _ _ _ _ _
        rw [pm_productBy_b63, rp_in]
        unfold pm_productBy_b116
        by_cases q : rp_d n m j = rp_d n m k
        · rw [if_pos q]
          have ez : Int64.ofInt 0 = lN 0 := rfl
          rw [ez]
          simp (disch := omega) only [sm_lt, sm_b1s, sm_b2s, ↓reduceIte, sm_in_nI, nI_clamp, nI_add, pk_mul, pk_sub, ne_addneg, nI_l, ne_ltT, ne_ltF, ne_leT, ne_leF, ne_eqT, ne_eqF, ne_sI1s, ne_sI1n, ne_sI2, ne_sI3, ne_sL1, ne_sL2s, ne_sL2n, ne_sL3, pk_us, pk_un, pk_uLs, pk_uLn, mm_Z, mm_L, mm_1, mm_2, mm_3, ne_rz0, ne_rz1, not_true_eq_false, not_false_eq_true, ne_i0, ne_i1, ne_i2, ne_i3, ne_i4, ne_i5, ne_i6, ne_i7, ne_i8, ne_i9, ne_i10, ne_i12, ne_i14, ne_i16, ne_i18, ne_i19, ne_i20, ne_i23, ne_i24, ne_i27, ne_i29, ne_i30, ne_i31, ne_i32, ne_i35, ne_i48, ne_i52, ne_i54, ne_i57, ne_i59, ne_i63, ne_i64, ne_i76, ne_i77, ne_i78, ne_i79, ne_i80, ne_i81, ne_i97, ne_i99, ne_i100, ne_i101, ne_i104, ne_i105, ne_i108, ne_i110, ne_i111, ne_i116, ne_i117, ne_i122, ne_i103, ne_i200, ne_i255, ne_i256, ne_i320, ne_i384, ne_i1000, ne_l0, ne_l1, ne_l2, ne_l3, ne_l4, ne_l5, ne_l8, ne_l12, ne_l31, ne_l48, ne_l57, ne_l97, ne_l99, ne_l122, ne_l255, ne_l673, ne_l1073741823, ne_l1073741824, a1, a2]
        · rw [if_neg q]
          by_cases q2 : rp_d n m k < rp_d n m j
          · rw [if_pos q2, Int64.ofInt_neg]
            simp (disch := omega) only [sm_lt, sm_b1s, sm_b2s, ↓reduceIte, sm_in_nI, nI_clamp, nI_add, pk_mul, pk_sub, ne_addneg, nI_l, ne_ltT, ne_ltF, ne_leT, ne_leF, ne_eqT, ne_eqF, ne_sI1s, ne_sI1n, ne_sI2, ne_sI3, ne_sL1, ne_sL2s, ne_sL2n, ne_sL3, pk_us, pk_un, pk_uLs, pk_uLn, mm_Z, mm_L, mm_1, mm_2, mm_3, ne_rz0, ne_rz1, not_true_eq_false, not_false_eq_true, ne_i0, ne_i1, ne_i2, ne_i3, ne_i4, ne_i5, ne_i6, ne_i7, ne_i8, ne_i9, ne_i10, ne_i12, ne_i14, ne_i16, ne_i18, ne_i19, ne_i20, ne_i23, ne_i24, ne_i27, ne_i29, ne_i30, ne_i31, ne_i32, ne_i35, ne_i48, ne_i52, ne_i54, ne_i57, ne_i59, ne_i63, ne_i64, ne_i76, ne_i77, ne_i78, ne_i79, ne_i80, ne_i81, ne_i97, ne_i99, ne_i100, ne_i101, ne_i104, ne_i105, ne_i108, ne_i110, ne_i111, ne_i116, ne_i117, ne_i122, ne_i103, ne_i200, ne_i255, ne_i256, ne_i320, ne_i384, ne_i1000, ne_l0, ne_l1, ne_l2, ne_l3, ne_l4, ne_l5, ne_l8, ne_l12, ne_l31, ne_l48, ne_l57, ne_l97, ne_l99, ne_l122, ne_l255, ne_l673, ne_l1073741823, ne_l1073741824, a1, a2]
          · rw [if_neg q2]
            simp (disch := omega) only [sm_lt, sm_b1s, sm_b2s, ↓reduceIte, sm_in_nI, nI_clamp, nI_add, pk_mul, pk_sub, ne_addneg, nI_l, ne_ltT, ne_ltF, ne_leT, ne_leF, ne_eqT, ne_eqF, ne_sI1s, ne_sI1n, ne_sI2, ne_sI3, ne_sL1, ne_sL2s, ne_sL2n, ne_sL3, pk_us, pk_un, pk_uLs, pk_uLn, mm_Z, mm_L, mm_1, mm_2, mm_3, ne_rz0, ne_rz1, not_true_eq_false, not_false_eq_true, ne_i0, ne_i1, ne_i2, ne_i3, ne_i4, ne_i5, ne_i6, ne_i7, ne_i8, ne_i9, ne_i10, ne_i12, ne_i14, ne_i16, ne_i18, ne_i19, ne_i20, ne_i23, ne_i24, ne_i27, ne_i29, ne_i30, ne_i31, ne_i32, ne_i35, ne_i48, ne_i52, ne_i54, ne_i57, ne_i59, ne_i63, ne_i64, ne_i76, ne_i77, ne_i78, ne_i79, ne_i80, ne_i81, ne_i97, ne_i99, ne_i100, ne_i101, ne_i104, ne_i105, ne_i108, ne_i110, ne_i111, ne_i116, ne_i117, ne_i122, ne_i103, ne_i200, ne_i255, ne_i256, ne_i320, ne_i384, ne_i1000, ne_l0, ne_l1, ne_l2, ne_l3, ne_l4, ne_l5, ne_l8, ne_l12, ne_l31, ne_l48, ne_l57, ne_l97, ne_l99, ne_l122, ne_l255, ne_l673, ne_l1073741823, ne_l1073741824, a1, a2]
      · intro f' _ _
        show pm_productBy_b63 N _ (f' + 1) _ _ _ _ _ _ = _
        rw [pm_productBy_b63]
        simp (disch := omega) only [sm_lt, sm_b1s, sm_b2s, ↓reduceIte, sm_in_nI, nI_clamp, nI_add, pk_mul, pk_sub, ne_addneg, nI_l, ne_ltT, ne_ltF, ne_leT, ne_leF, ne_eqT, ne_eqF, ne_sI1s, ne_sI1n, ne_sI2, ne_sI3, ne_sL1, ne_sL2s, ne_sL2n, ne_sL3, pk_us, pk_un, pk_uLs, pk_uLn, mm_Z, mm_L, mm_1, mm_2, mm_3, ne_rz0, ne_rz1, not_true_eq_false, not_false_eq_true, ne_i0, ne_i1, ne_i2, ne_i3, ne_i4, ne_i5, ne_i6, ne_i7, ne_i8, ne_i9, ne_i10, ne_i12, ne_i14, ne_i16, ne_i18, ne_i19, ne_i20, ne_i23, ne_i24, ne_i27, ne_i29, ne_i30, ne_i31, ne_i32, ne_i35, ne_i48, ne_i52, ne_i54, ne_i57, ne_i59, ne_i63, ne_i64, ne_i76, ne_i77, ne_i78, ne_i79, ne_i80, ne_i81, ne_i97, ne_i99, ne_i100, ne_i101, ne_i104, ne_i105, ne_i108, ne_i110, ne_i111, ne_i116, ne_i117, ne_i122, ne_i103, ne_i200, ne_i255, ne_i256, ne_i320, ne_i384, ne_i1000, ne_l0, ne_l1, ne_l2, ne_l3, ne_l4, ne_l5, ne_l8, ne_l12, ne_l31, ne_l48, ne_l57, ne_l97, ne_l99, ne_l122, ne_l255, ne_l673, ne_l1073741823, ne_l1073741824]
    have s1 := sgn (rp (rp_d n m) R k * R k (rp_d n m k))
    refine ⟨(sm_sI M1 12 k (nI (rp_d n m k)), sm_sI S1 12 k (nI (rp_d n m k))), ⟨j1, fun j hj => ?_, fun p hp => by show (sm_sI M1 12 k _).1 p = _; rw [ne_sI1n hp]; exact i3 p hp, i4⟩, ?_⟩
    · have := e12 j hj
      rw [nP_1 j1 (by decide)] at this
      exact this
    · show pm_productBy_b8 N (f + 1) _ _ _ _ _ = pm_productBy_b8 N f _ _ _ _ _
      have ak := e12 k (by omega)
      have ak10 : (sm_sI S1 12 k (nI (rp_d n m k))).1 10 k = nI (ro k) := by rw [ne_sI1n (by decide)]; exact r10
      have ak11 : (sm_sI S1 12 k (nI (rp_d n m k))).1 11 (rp_d n m k) = nI (cl (rp_d n m k)) := by rw [ne_sI1n (by decide)]; exact r11
      have ak9 : (sm_sI S1 12 k (nI (rp_d n m k))).2.1 9 (4 * ro k + cl (rp_d n m k)) = Int64.ofInt (R k (rp_d n m k)) := r9
      rw [pm_productBy_b8, rp]
      generalize hT : sm_sI S1 12 k (nI (rp_d n m k)) = T at *
      simp (disch := omega) only [sm_lt, sm_b1s, sm_b2s, ↓reduceIte, sm_in_nI, nI_clamp, nI_add, pk_mul, pk_sub, ne_addneg, nI_l, ne_ltT, ne_ltF, ne_leT, ne_leF, ne_eqT, ne_eqF, ne_sI1s, ne_sI1n, ne_sI2, ne_sI3, ne_sL1, ne_sL2s, ne_sL2n, ne_sL3, pk_us, pk_un, pk_uLs, pk_uLn, mm_Z, mm_L, mm_1, mm_2, mm_3, ne_rz0, ne_rz1, not_true_eq_false, not_false_eq_true, ne_i0, ne_i1, ne_i2, ne_i3, ne_i4, ne_i5, ne_i6, ne_i7, ne_i8, ne_i9, ne_i10, ne_i12, ne_i14, ne_i16, ne_i18, ne_i19, ne_i20, ne_i23, ne_i24, ne_i27, ne_i29, ne_i30, ne_i31, ne_i32, ne_i35, ne_i48, ne_i52, ne_i54, ne_i57, ne_i59, ne_i63, ne_i64, ne_i76, ne_i77, ne_i78, ne_i79, ne_i80, ne_i81, ne_i97, ne_i99, ne_i100, ne_i101, ne_i104, ne_i105, ne_i108, ne_i110, ne_i111, ne_i116, ne_i117, ne_i122, ne_i103, ne_i200, ne_i255, ne_i256, ne_i320, ne_i384, ne_i1000, ne_l0, ne_l1, ne_l2, ne_l3, ne_l4, ne_l5, ne_l8, ne_l12, ne_l31, ne_l48, ne_l57, ne_l97, ne_l99, ne_l122, ne_l255, ne_l673, ne_l1073741823, ne_l1073741824, n1, d2, d1, hT, ak, ak10, ak11, ak9, em]
      exact s1
  · rintro f ⟨M1, S1⟩ ⟨i1, i2, i3, i4⟩
    simp only at i1 i2 i3 i4
    show ∃ M' S', pm_productBy_b8 N (f + 1) _ _ _ _ _ = _ ∧ _
    rw [pm_productBy_b8]
    refine ⟨M1, S1, ?_, i1, i3, i4⟩
    simp (disch := omega) only [sm_lt, sm_b1s, sm_b2s, ↓reduceIte, sm_in_nI, nI_clamp, nI_add, pk_mul, pk_sub, ne_addneg, nI_l, ne_ltT, ne_ltF, ne_leT, ne_leF, ne_eqT, ne_eqF, ne_sI1s, ne_sI1n, ne_sI2, ne_sI3, ne_sL1, ne_sL2s, ne_sL2n, ne_sL3, pk_us, pk_un, pk_uLs, pk_uLn, mm_Z, mm_L, mm_1, mm_2, mm_3, ne_rz0, ne_rz1, not_true_eq_false, not_false_eq_true, ne_i0, ne_i1, ne_i2, ne_i3, ne_i4, ne_i5, ne_i6, ne_i7, ne_i8, ne_i9, ne_i10, ne_i12, ne_i14, ne_i16, ne_i18, ne_i19, ne_i20, ne_i23, ne_i24, ne_i27, ne_i29, ne_i30, ne_i31, ne_i32, ne_i35, ne_i48, ne_i52, ne_i54, ne_i57, ne_i59, ne_i63, ne_i64, ne_i76, ne_i77, ne_i78, ne_i79, ne_i80, ne_i81, ne_i97, ne_i99, ne_i100, ne_i101, ne_i104, ne_i105, ne_i108, ne_i110, ne_i111, ne_i116, ne_i117, ne_i122, ne_i103, ne_i200, ne_i255, ne_i256, ne_i320, ne_i384, ne_i1000, ne_l0, ne_l1, ne_l2, ne_l3, ne_l4, ne_l5, ne_l8, ne_l12, ne_l31, ne_l48, ne_l57, ne_l97, ne_l99, ne_l122, ne_l255, ne_l673, ne_l1073741823, ne_l1073741824]
/-- the sum over the codes -/
theorem np_wsum {n K : Nat} {ro cl : Nat → Nat} {A : Nat → Nat → Int} (hN : 4000 ≤ N) (hn : n < 5) (h0 : 0 < n) (hK : K ≤ 256) (h : nP M v S) (hro : ∀ k, k < n → ro k < 4 ∧ M.1 10 k = nI (ro k)) (hcl : ∀ k, k < n → cl k < 4 ∧ M.1 11 k = nI (cl k)) (hA : ∀ i j, i < 4 → j < 4 → M.2.1 9 (4 * i + j) = Int64.ofInt (A i j)) : ∃ M' S', pm_whole_b89 N N (nI n) (nI K) (lN 0) (nI 0) S = some (Int64.ofInt (rp_su (fun m => rp (rp_d n m) (fun k x => A (ro k) (cl x)) n) K), S') ∧ nP M' v S' ∧ (∀ p, p ≠ 12 → M'.1 p = M.1 p) ∧ M'.2 = M.2 := by
  have st : pm_whole_b89 N N (nI n) (nI K) (lN 0) (nI 0) S = pm_whole_b89 N N (nI n) (nI K) (Int64.ofInt (rp_su (fun m => rp (rp_d n m) (fun k x => A (ro k) (cl x)) n) 0)) (nI 0) S := rfl
  rw [st]
  refine ne_loop (fun f m (s : sm_St × sm_St) => pm_whole_b89 N f (nI n) (nI K) (Int64.ofInt (rp_su (fun m => rp (rp_d n m) (fun k x => A (ro k) (cl x)) n) m)) (nI m) s.2) (fun m s => nP s.1 v s.2 ∧ (∀ p, p ≠ 12 → s.1.1 p = M.1 p) ∧ s.1.2 = M.2) K (fun o => ∃ M' S', o = some (Int64.ofInt (rp_su (fun m => rp (rp_d n m) (fun k x => A (ro k) (cl x)) n) K), S') ∧ nP M' v S' ∧ (∀ p, p ≠ 12 → M'.1 p = M.1 p) ∧ M'.2 = M.2) ?_ ?_ N 0 (M, S) (by omega) (by omega) ⟨h, fun p _ => rfl, rfl⟩
  · rintro f m ⟨M1, S1⟩ hm ⟨i1, i2, i3⟩
    simp only at i1 i2 i3
    left
    obtain ⟨M2, S2, e, g1, g2, g3⟩ := np_prod (A := A) (m := m) hN hn h0 (by omega) i1 (fun k hk => by rw [i2 10 (by decide)]; exact hro k hk) (fun k hk => by rw [i2 11 (by decide)]; exact hcl k hk) (fun i j hi hj => by rw [i3]; exact hA i j hi hj)
    refine ⟨(M2, S2), ⟨g1, fun p hp => by show M2.1 p = _; rw [g2 p hp]; exact i2 p hp, by show M2.2 = _; rw [g3]; exact i3⟩, ?_⟩
    show pm_whole_b89 N (f + 1) _ _ _ _ _ = pm_whole_b89 N f _ _ _ _ _
    rw [pm_whole_b89, rp_su, Int64.ofInt_add]
    simp (disch := omega) only [sm_lt, sm_b1s, sm_b2s, ↓reduceIte, sm_in_nI, nI_clamp, nI_add, pk_mul, pk_sub, ne_addneg, nI_l, ne_ltT, ne_ltF, ne_leT, ne_leF, ne_eqT, ne_eqF, ne_sI1s, ne_sI1n, ne_sI2, ne_sI3, ne_sL1, ne_sL2s, ne_sL2n, ne_sL3, pk_us, pk_un, pk_uLs, pk_uLn, mm_Z, mm_L, mm_1, mm_2, mm_3, ne_rz0, ne_rz1, not_true_eq_false, not_false_eq_true, ne_i0, ne_i1, ne_i2, ne_i3, ne_i4, ne_i5, ne_i6, ne_i7, ne_i8, ne_i9, ne_i10, ne_i12, ne_i14, ne_i16, ne_i18, ne_i19, ne_i20, ne_i23, ne_i24, ne_i27, ne_i29, ne_i30, ne_i31, ne_i32, ne_i35, ne_i48, ne_i52, ne_i54, ne_i57, ne_i59, ne_i63, ne_i64, ne_i76, ne_i77, ne_i78, ne_i79, ne_i80, ne_i81, ne_i97, ne_i99, ne_i100, ne_i101, ne_i104, ne_i105, ne_i108, ne_i110, ne_i111, ne_i116, ne_i117, ne_i122, ne_i103, ne_i200, ne_i255, ne_i256, ne_i320, ne_i384, ne_i1000, ne_l0, ne_l1, ne_l2, ne_l3, ne_l4, ne_l5, ne_l8, ne_l12, ne_l31, ne_l48, ne_l57, ne_l97, ne_l99, ne_l122, ne_l255, ne_l673, ne_l1073741823, ne_l1073741824, e]
  · rintro f ⟨M1, S1⟩ ⟨i1, i2, i3⟩
    simp only at i1 i2 i3
    show ∃ M' S', pm_whole_b89 N (f + 1) _ _ _ _ _ = _ ∧ _
    rw [pm_whole_b89]
    refine ⟨M1, S1, ?_, i1, i2, i3⟩
    simp (disch := omega) only [sm_lt, sm_b1s, sm_b2s, ↓reduceIte, sm_in_nI, nI_clamp, nI_add, pk_mul, pk_sub, ne_addneg, nI_l, ne_ltT, ne_ltF, ne_leT, ne_leF, ne_eqT, ne_eqF, ne_sI1s, ne_sI1n, ne_sI2, ne_sI3, ne_sL1, ne_sL2s, ne_sL2n, ne_sL3, pk_us, pk_un, pk_uLs, pk_uLn, mm_Z, mm_L, mm_1, mm_2, mm_3, ne_rz0, ne_rz1, not_true_eq_false, not_false_eq_true, ne_i0, ne_i1, ne_i2, ne_i3, ne_i4, ne_i5, ne_i6, ne_i7, ne_i8, ne_i9, ne_i10, ne_i12, ne_i14, ne_i16, ne_i18, ne_i19, ne_i20, ne_i23, ne_i24, ne_i27, ne_i29, ne_i30, ne_i31, ne_i32, ne_i35, ne_i48, ne_i52, ne_i54, ne_i57, ne_i59, ne_i63, ne_i64, ne_i76, ne_i77, ne_i78, ne_i79, ne_i80, ne_i81, ne_i97, ne_i99, ne_i100, ne_i101, ne_i104, ne_i105, ne_i108, ne_i110, ne_i111, ne_i116, ne_i117, ne_i122, ne_i103, ne_i200, ne_i255, ne_i256, ne_i320, ne_i384, ne_i1000, ne_l0, ne_l1, ne_l2, ne_l3, ne_l4, ne_l5, ne_l8, ne_l12, ne_l31, ne_l48, ne_l57, ne_l97, ne_l99, ne_l122, ne_l255, ne_l673, ne_l1073741823, ne_l1073741824]
def rr (r k : Nat) : Nat := if k = 0 then rs_r1 r else if k = 1 then rs_r2 r else rs_r3 r
def rcn (r k : Nat) : Nat := if k ≤ r then k else k - 1
theorem rr_cn : ∀ r, r < 4 → ∀ k, k < 3 → rr r k < 4 ∧ rr r k ≠ r ∧ rcn r (rr r k) = k := by decide
theorem rcn_s {r k : Nat} (h : k ≠ r) : rcn r (k + 1) = rcn r k + 1 := by
  unfold rcn
  by_cases q : k ≤ r
  · rw [if_pos q, if_pos (by omega)]
  · rw [if_neg q, if_neg (by omega)]; omega
theorem rcn_r {r k : Nat} (h : k = r) : rcn r (k + 1) = rcn r k := by
  unfold rcn
  rw [if_neg (by omega), if_pos (by omega)]
  omega
theorem rcn_le {r k : Nat} : rcn r k ≤ k := by
  unfold rcn
  split <;> omega
theorem rcn_lt {r j k : Nat} (h : j ≠ r) (hk : j < k) : rcn r j < rcn r k := by
  unfold rcn
  split <;> split <;> omega
/-- all places but r, in order -/
theorem np_wr {r : Nat} {v1 v2 : Int32} (hN : 4000 ≤ N) (hr : r ≤ 4) (hv : ∀ k, k < 4 → ((nI k = v1) ↔ k = r)) (h : nP M v S) : ∃ M' S', pm_whole_b5 N N v1 v2 (nI 0) (nI 0) S = pm_whole_b39 N N v2 (nI 0) (nI 0) S' ∧ nP M' v S' ∧ (∀ j, j < 4 → j ≠ r → M'.1 10 (rcn r j) = nI j) ∧ (∀ p, p ≠ 10 → M'.1 p = M.1 p) ∧ M'.2 = M.2 := by
  have st : pm_whole_b5 N N v1 v2 (nI 0) (nI 0) S = pm_whole_b5 N N v1 v2 (nI (rcn r 0)) (nI 0) S := by
    have : rcn r 0 = 0 := if_pos (by omega)
    rw [this]
  rw [st]
  refine ne_loop (fun f k (s : sm_St × sm_St) => pm_whole_b5 N f v1 v2 (nI (rcn r k)) (nI k) s.2) (fun k s => nP s.1 v s.2 ∧ (∀ j, j < k → j ≠ r → s.1.1 10 (rcn r j) = nI j) ∧ (∀ p, p ≠ 10 → s.1.1 p = M.1 p) ∧ s.1.2 = M.2) 4 (fun o => ∃ M' S', o = pm_whole_b39 N N v2 (nI 0) (nI 0) S' ∧ nP M' v S' ∧ (∀ j, j < 4 → j ≠ r → M'.1 10 (rcn r j) = nI j) ∧ (∀ p, p ≠ 10 → M'.1 p = M.1 p) ∧ M'.2 = M.2) ?_ ?_ N 0 (M, S) (by omega) (by omega) ⟨h, fun j hj => by omega, fun p _ => rfl, rfl⟩
  · rintro f k ⟨M1, S1⟩ hk ⟨i1, i2, i3, i4⟩
    simp only at i1 i2 i3 i4
    left
    have l4 : ¬ ((4 : Int32) ≤ nI k) := of_eq_false (ne_leF hk (by decide))
    have hl := rcn_le (r := r) (k := k)
    by_cases e : k = r
    · refine ⟨(M1, S1), ⟨i1, fun j hj hjr => i2 j (by omega) hjr, i3, i4⟩, ?_⟩
      show pm_whole_b5 N (f + 1) _ _ _ _ _ = pm_whole_b5 N f _ _ _ _ _
      rw [pm_whole_b5, if_neg l4, if_pos ((hv k hk).mpr e), rcn_r e]
      unfold pm_whole_b28
      simp (disch := omega) only [sm_lt, sm_b1s, sm_b2s, ↓reduceIte, sm_in_nI, nI_clamp, nI_add, pk_mul, pk_sub, ne_addneg, nI_l, ne_ltT, ne_ltF, ne_leT, ne_leF, ne_eqT, ne_eqF, ne_sI1s, ne_sI1n, ne_sI2, ne_sI3, ne_sL1, ne_sL2s, ne_sL2n, ne_sL3, pk_us, pk_un, pk_uLs, pk_uLn, mm_Z, mm_L, mm_1, mm_2, mm_3, ne_rz0, ne_rz1, not_true_eq_false, not_false_eq_true, ne_i0, ne_i1, ne_i2, ne_i3, ne_i4, ne_i5, ne_i6, ne_i7, ne_i8, ne_i9, ne_i10, ne_i12, ne_i14, ne_i16, ne_i18, ne_i19, ne_i20, ne_i23, ne_i24, ne_i27, ne_i29, ne_i30, ne_i31, ne_i32, ne_i35, ne_i48, ne_i52, ne_i54, ne_i57, ne_i59, ne_i63, ne_i64, ne_i76, ne_i77, ne_i78, ne_i79, ne_i80, ne_i81, ne_i97, ne_i99, ne_i100, ne_i101, ne_i104, ne_i105, ne_i108, ne_i110, ne_i111, ne_i116, ne_i117, ne_i122, ne_i103, ne_i200, ne_i255, ne_i256, ne_i320, ne_i384, ne_i1000, ne_l0, ne_l1, ne_l2, ne_l3, ne_l4, ne_l5, ne_l8, ne_l12, ne_l31, ne_l48, ne_l57, ne_l97, ne_l99, ne_l122, ne_l255, ne_l673, ne_l1073741823, ne_l1073741824]
    · refine ⟨(sm_sI M1 10 (rcn r k) (nI k), sm_sI S1 10 (rcn r k) (nI k)), ⟨nP_sI i1 (by decide), fun j hj hjr => ?_, fun p hp => by show (sm_sI M1 10 _ _).1 p = _; rw [ne_sI1n hp]; exact i3 p hp, i4⟩, ?_⟩
      · show (sm_sI M1 10 _ _).1 10 _ = _
        rw [ne_sI1s]
        by_cases q : j = k
        · rw [q, pk_us]
        · have := rcn_lt (r := r) hjr (show j < k by omega)
          rw [pk_un (by omega)]
          exact i2 j (by omega) hjr
      · show pm_whole_b5 N (f + 1) _ _ _ _ _ = pm_whole_b5 N f _ _ _ _ _
        rw [pm_whole_b5, if_neg l4, if_neg (fun q => e ((hv k hk).mp q)), rcn_s e]
        unfold pm_whole_b28
        simp (disch := omega) only [sm_lt, sm_b1s, sm_b2s, ↓reduceIte, sm_in_nI, nI_clamp, nI_add, pk_mul, pk_sub, ne_addneg, nI_l, ne_ltT, ne_ltF, ne_leT, ne_leF, ne_eqT, ne_eqF, ne_sI1s, ne_sI1n, ne_sI2, ne_sI3, ne_sL1, ne_sL2s, ne_sL2n, ne_sL3, pk_us, pk_un, pk_uLs, pk_uLn, mm_Z, mm_L, mm_1, mm_2, mm_3, ne_rz0, ne_rz1, not_true_eq_false, not_false_eq_true, ne_i0, ne_i1, ne_i2, ne_i3, ne_i4, ne_i5, ne_i6, ne_i7, ne_i8, ne_i9, ne_i10, ne_i12, ne_i14, ne_i16, ne_i18, ne_i19, ne_i20, ne_i23, ne_i24, ne_i27, ne_i29, ne_i30, ne_i31, ne_i32, ne_i35, ne_i48, ne_i52, ne_i54, ne_i57, ne_i59, ne_i63, ne_i64, ne_i76, ne_i77, ne_i78, ne_i79, ne_i80, ne_i81, ne_i97, ne_i99, ne_i100, ne_i101, ne_i104, ne_i105, ne_i108, ne_i110, ne_i111, ne_i116, ne_i117, ne_i122, ne_i103, ne_i200, ne_i255, ne_i256, ne_i320, ne_i384, ne_i1000, ne_l0, ne_l1, ne_l2, ne_l3, ne_l4, ne_l5, ne_l8, ne_l12, ne_l31, ne_l48, ne_l57, ne_l97, ne_l99, ne_l122, ne_l255, ne_l673, ne_l1073741823, ne_l1073741824, zm10]
  · rintro f ⟨M1, S1⟩ ⟨i1, i2, i3, i4⟩
    simp only at i1 i2 i3 i4
    show ∃ M' S', pm_whole_b5 N (f + 1) _ _ _ _ _ = _ ∧ _
    have l4 : (4 : Int32) ≤ nI 4 := of_eq_true (ne_leT (Nat.le_refl 4) (by decide))
    rw [pm_whole_b5, if_pos l4]
    exact ⟨M1, S1, rfl, i1, i2, i3, i4⟩
theorem np_wc {r : Nat} {v2 : Int32} (hN : 4000 ≤ N) (hr : r ≤ 4) (hv : ∀ k, k < 4 → ((nI k = v2) ↔ k = r)) (h : nP M v S) : ∃ M' S', pm_whole_b39 N N v2 (nI 0) (nI 0) S = (if rcn r 4 = 4 then pm_whole_b89 N N (nI (rcn r 4)) (nI 256) (lN 0) (nI 0) S' else pm_whole_b89 N N (nI (rcn r 4)) (nI 27) (lN 0) (nI 0) S') ∧ nP M' v S' ∧ (∀ j, j < 4 → j ≠ r → M'.1 11 (rcn r j) = nI j) ∧ (∀ p, p ≠ 11 → M'.1 p = M.1 p) ∧ M'.2 = M.2 := by
  have st : pm_whole_b39 N N v2 (nI 0) (nI 0) S = pm_whole_b39 N N v2 (nI (rcn r 0)) (nI 0) S := by
    have : rcn r 0 = 0 := if_pos (by omega)
    rw [this]
  rw [st]
  refine ne_loop (fun f k (s : sm_St × sm_St) => pm_whole_b39 N f v2 (nI (rcn r k)) (nI k) s.2) (fun k s => nP s.1 v s.2 ∧ (∀ j, j < k → j ≠ r → s.1.1 11 (rcn r j) = nI j) ∧ (∀ p, p ≠ 11 → s.1.1 p = M.1 p) ∧ s.1.2 = M.2) 4 (fun o => ∃ M' S', o = (if rcn r 4 = 4 then pm_whole_b89 N N (nI (rcn r 4)) (nI 256) (lN 0) (nI 0) S' else pm_whole_b89 N N (nI (rcn r 4)) (nI 27) (lN 0) (nI 0) S') ∧ nP M' v S' ∧ (∀ j, j < 4 → j ≠ r → M'.1 11 (rcn r j) = nI j) ∧ (∀ p, p ≠ 11 → M'.1 p = M.1 p) ∧ M'.2 = M.2) ?_ ?_ N 0 (M, S) (by omega) (by omega) ⟨h, fun j hj => by omega, fun p _ => rfl, rfl⟩
  · rintro f k ⟨M1, S1⟩ hk ⟨i1, i2, i3, i4⟩
    simp only at i1 i2 i3 i4
    left
    have l4 : ¬ ((4 : Int32) ≤ nI k) := of_eq_false (ne_leF hk (by decide))
    have hl := rcn_le (r := r) (k := k)
    by_cases e : k = r
    · refine ⟨(M1, S1), ⟨i1, fun j hj hjr => i2 j (by omega) hjr, i3, i4⟩, ?_⟩
      show pm_whole_b39 N (f + 1) _ _ _ _ = pm_whole_b39 N f _ _ _ _
      rw [pm_whole_b39, if_neg l4, if_pos ((hv k hk).mpr e), rcn_r e]
      unfold pm_whole_b62
      simp (disch := omega) only [sm_lt, sm_b1s, sm_b2s, ↓reduceIte, sm_in_nI, nI_clamp, nI_add, pk_mul, pk_sub, ne_addneg, nI_l, ne_ltT, ne_ltF, ne_leT, ne_leF, ne_eqT, ne_eqF, ne_sI1s, ne_sI1n, ne_sI2, ne_sI3, ne_sL1, ne_sL2s, ne_sL2n, ne_sL3, pk_us, pk_un, pk_uLs, pk_uLn, mm_Z, mm_L, mm_1, mm_2, mm_3, ne_rz0, ne_rz1, not_true_eq_false, not_false_eq_true, ne_i0, ne_i1, ne_i2, ne_i3, ne_i4, ne_i5, ne_i6, ne_i7, ne_i8, ne_i9, ne_i10, ne_i12, ne_i14, ne_i16, ne_i18, ne_i19, ne_i20, ne_i23, ne_i24, ne_i27, ne_i29, ne_i30, ne_i31, ne_i32, ne_i35, ne_i48, ne_i52, ne_i54, ne_i57, ne_i59, ne_i63, ne_i64, ne_i76, ne_i77, ne_i78, ne_i79, ne_i80, ne_i81, ne_i97, ne_i99, ne_i100, ne_i101, ne_i104, ne_i105, ne_i108, ne_i110, ne_i111, ne_i116, ne_i117, ne_i122, ne_i103, ne_i200, ne_i255, ne_i256, ne_i320, ne_i384, ne_i1000, ne_l0, ne_l1, ne_l2, ne_l3, ne_l4, ne_l5, ne_l8, ne_l12, ne_l31, ne_l48, ne_l57, ne_l97, ne_l99, ne_l122, ne_l255, ne_l673, ne_l1073741823, ne_l1073741824]
    · refine ⟨(sm_sI M1 11 (rcn r k) (nI k), sm_sI S1 11 (rcn r k) (nI k)), ⟨nP_sI i1 (by decide), fun j hj hjr => ?_, fun p hp => by show (sm_sI M1 11 _ _).1 p = _; rw [ne_sI1n hp]; exact i3 p hp, i4⟩, ?_⟩
      · show (sm_sI M1 11 _ _).1 11 _ = _
        rw [ne_sI1s]
        by_cases q : j = k
        · rw [q, pk_us]
        · have := rcn_lt (r := r) hjr (show j < k by omega)
          rw [pk_un (by omega)]
          exact i2 j (by omega) hjr
      · show pm_whole_b39 N (f + 1) _ _ _ _ = pm_whole_b39 N f _ _ _ _
        rw [pm_whole_b39, if_neg l4, if_neg (fun q => e ((hv k hk).mp q)), rcn_s e]
        unfold pm_whole_b62
        simp (disch := omega) only [sm_lt, sm_b1s, sm_b2s, ↓reduceIte, sm_in_nI, nI_clamp, nI_add, pk_mul, pk_sub, ne_addneg, nI_l, ne_ltT, ne_ltF, ne_leT, ne_leF, ne_eqT, ne_eqF, ne_sI1s, ne_sI1n, ne_sI2, ne_sI3, ne_sL1, ne_sL2s, ne_sL2n, ne_sL3, pk_us, pk_un, pk_uLs, pk_uLn, mm_Z, mm_L, mm_1, mm_2, mm_3, ne_rz0, ne_rz1, not_true_eq_false, not_false_eq_true, ne_i0, ne_i1, ne_i2, ne_i3, ne_i4, ne_i5, ne_i6, ne_i7, ne_i8, ne_i9, ne_i10, ne_i12, ne_i14, ne_i16, ne_i18, ne_i19, ne_i20, ne_i23, ne_i24, ne_i27, ne_i29, ne_i30, ne_i31, ne_i32, ne_i35, ne_i48, ne_i52, ne_i54, ne_i57, ne_i59, ne_i63, ne_i64, ne_i76, ne_i77, ne_i78, ne_i79, ne_i80, ne_i81, ne_i97, ne_i99, ne_i100, ne_i101, ne_i104, ne_i105, ne_i108, ne_i110, ne_i111, ne_i116, ne_i117, ne_i122, ne_i103, ne_i200, ne_i255, ne_i256, ne_i320, ne_i384, ne_i1000, ne_l0, ne_l1, ne_l2, ne_l3, ne_l4, ne_l5, ne_l8, ne_l12, ne_l31, ne_l48, ne_l57, ne_l97, ne_l99, ne_l122, ne_l255, ne_l673, ne_l1073741823, ne_l1073741824, zm11]
  · rintro f ⟨M1, S1⟩ ⟨i1, i2, i3, i4⟩
    simp only at i1 i2 i3 i4
    show ∃ M' S', pm_whole_b39 N (f + 1) _ _ _ _ = _ ∧ _
    have l4 : (4 : Int32) ≤ nI 4 := of_eq_true (ne_leT (Nat.le_refl 4) (by decide))
    have hl := rcn_le (r := r) (k := 4)
    rw [pm_whole_b39, if_pos l4]
    refine ⟨M1, S1, ?_, i1, i2, i3, i4⟩
    unfold pm_whole_b81
    by_cases q : rcn r 4 = 4
    · rw [if_pos q, q, if_pos (show nI 4 = (4 : Int32) from rfl)]
      rfl
    · have : ¬ (nI (rcn r 4) = (4 : Int32)) := of_eq_false (ne_eqF (b := 4) q (by omega) (by decide))
      rw [if_neg q, if_neg this]
      rfl
theorem np_hv {r : Nat} (hr : r < 4) : ∀ k, k < 4 → ((nI k = nI r) ↔ k = r) := fun k hk => nI_eq (by omega) (by omega)
theorem np_hm : ∀ k, k < 4 → ((nI k = -nI 1) ↔ k = 4) := fun k hk => ⟨fun q => absurd q (of_eq_false (ne_neqm (by omega))), fun q => by omega⟩
theorem np_whole3 {r c : Nat} {A : Nat → Nat → Int} (hN : 4000 ≤ N) (hr : r < 4) (hc : c < 4) (h : nP M v S) (hA : ∀ i j, i < 4 → j < 4 → M.2.1 9 (4 * i + j) = Int64.ofInt (A i j)) : ∃ M' S', pm_whole N S (nI r) (nI c) = some (Int64.ofInt (rs_mn A r c), S') ∧ nP M' v S' ∧ (∀ p, p ≠ 10 → p ≠ 11 → p ≠ 12 → M'.1 p = M.1 p) ∧ M'.2 = M.2 := by
  obtain ⟨M1, S1, e1, h1, t1, f1, g1⟩ := np_wr (N := N) (r := r) (v2 := nI c) hN (by omega) (np_hv hr) h
  obtain ⟨M2, S2, e2, h2, t2, f2, g2⟩ := np_wc (N := N) (r := c) hN (by omega) (np_hv hc) h1
  have c3 : rcn c 4 = 3 := if_neg (by omega)
  rw [c3, if_neg (by decide)] at e2
  obtain ⟨M3, S3, e3, h3, f3, g3⟩ := np_wsum (N := N) (n := 3) (K := 27) (ro := rr r) (cl := rr c) (A := A) hN (by decide) (by decide) (by decide) h2 (fun k hk => by
    obtain ⟨q1, q2, q3⟩ := rr_cn r hr k hk
    have := t1 _ q1 q2
    rw [q3] at this
    exact ⟨q1, by rw [f2 10 (by decide)]; exact this⟩) (fun k hk => by
    obtain ⟨q1, q2, q3⟩ := rr_cn c hc k hk
    have := t2 _ q1 q2
    rw [q3] at this
    exact ⟨q1, this⟩) (fun i j hi hj => by rw [g2, g1]; exact hA i j hi hj)
  have e27 := rp_sum3 (fun k x => A (rr r k) (rr c x))
  refine ⟨M3, S3, ?_, h3, fun p p1 p2 p3 => by rw [f3 p p3, f2 p p2, f1 p p1], by rw [g3, g2, g1]⟩
  have eb : pm_whole N S (nI r) (nI c) = pm_whole_b5 N N (nI r) (nI c) (nI 0) (nI 0) S := rfl
  rw [eb, e1, e2, e3, e27]
  rfl
theorem np_whole4 {A : Nat → Nat → Int} (hN : 4000 ≤ N) (h : nP M v S) (hA : ∀ i j, i < 4 → j < 4 → M.2.1 9 (4 * i + j) = Int64.ofInt (A i j)) : ∃ M' S', pm_whole N S (-nI 1) (-nI 1) = some (Int64.ofInt (rs_L A), S') ∧ nP M' v S' ∧ (∀ p, p ≠ 10 → p ≠ 11 → p ≠ 12 → M'.1 p = M.1 p) ∧ M'.2 = M.2 := by
  obtain ⟨M1, S1, e1, h1, t1, f1, g1⟩ := np_wr (N := N) (r := 4) (v2 := -nI 1) hN (by omega) np_hm h
  obtain ⟨M2, S2, e2, h2, t2, f2, g2⟩ := np_wc (N := N) (r := 4) hN (by omega) np_hm h1
  have c3 : ∀ k, k ≤ 4 → rcn 4 k = k := fun k hk => if_pos hk
  rw [c3 4 (by omega), if_pos rfl] at e2
  obtain ⟨M3, S3, e3, h3, f3, g3⟩ := np_wsum (N := N) (n := 4) (K := 256) (ro := fun k => k) (cl := fun k => k) (A := A) hN (by decide) (by decide) (by decide) h2 (fun k hk => by
    have := t1 k hk (by omega)
    rw [c3 k (by omega)] at this
    exact ⟨hk, by rw [f2 10 (by decide)]; exact this⟩) (fun k hk => by
    have := t2 k hk (by omega)
    rw [c3 k (by omega)] at this
    exact ⟨hk, this⟩) (fun i j hi hj => by rw [g2, g1]; exact hA i j hi hj)
  have e4' : rp_su (fun m => rp (rp_d 4 m) (fun k x => A k x) 4) 256 = rs_L A := rp_sum4 A
  refine ⟨M3, S3, ?_, h3, fun p p1 p2 p3 => by rw [f3 p p3, f2 p p2, f1 p p1], by rw [g3, g2, g1]⟩
  have eb : pm_whole N S (-nI 1) (-nI 1) = pm_whole_b5 N N (-nI 1) (-nI 1) (nI 0) (nI 0) S := rfl
  rw [eb, e1, e2, e3]
  rw [← e4']
theorem pl_81_0 {r : Int32 → sm_St → Option sm_St} {v1 : Int32} {T : sm_St} (hN : 4000 ≤ N) : pm_layRows_b81 N r N v1 (nI 0) (nI 0) T = r (v1 + nI 1) T := by
  obtain ⟨m, rfl⟩ : ∃ m, N = m + 1 := ⟨N - 1, by omega⟩
  rw [pm_layRows_b81]
  unfold pm_layRows_b125
  simp (disch := omega) only [sm_lt, sm_b1s, sm_b2s, ↓reduceIte, sm_in_nI, nI_clamp, nI_add, pk_mul, pk_sub, ne_addneg, nI_l, ne_ltT, ne_ltF, ne_leT, ne_leF, ne_eqT, ne_eqF, ne_sI1s, ne_sI1n, ne_sI2, ne_sI3, ne_sL1, ne_sL2s, ne_sL2n, ne_sL3, pk_us, pk_un, pk_uLs, pk_uLn, mm_Z, mm_L, mm_1, mm_2, mm_3, ne_rz0, ne_rz1, not_true_eq_false, not_false_eq_true, ne_i0, ne_i1, ne_i2, ne_i3, ne_i4, ne_i5, ne_i6, ne_i7, ne_i8, ne_i9, ne_i10, ne_i12, ne_i14, ne_i16, ne_i18, ne_i19, ne_i20, ne_i23, ne_i24, ne_i27, ne_i29, ne_i30, ne_i31, ne_i32, ne_i35, ne_i48, ne_i52, ne_i54, ne_i57, ne_i59, ne_i63, ne_i64, ne_i76, ne_i77, ne_i78, ne_i79, ne_i80, ne_i81, ne_i97, ne_i99, ne_i100, ne_i101, ne_i104, ne_i105, ne_i108, ne_i110, ne_i111, ne_i116, ne_i117, ne_i122, ne_i103, ne_i200, ne_i255, ne_i256, ne_i320, ne_i384, ne_i1000, ne_l0, ne_l1, ne_l2, ne_l3, ne_l4, ne_l5, ne_l8, ne_l12, ne_l31, ne_l48, ne_l57, ne_l97, ne_l99, ne_l122, ne_l255, ne_l673, ne_l1073741823, ne_l1073741824]
theorem rl_neg (k : Nat) : lN 0 - lN k = Int64.ofInt (-(k : Int)) := by
  rw [nm_lI, nm_lI, ← Int64.ofInt_sub]
  congr 1
  omega
theorem rl_sub {x y : Nat} (h : y ≤ x) : lN (x - y) = Int64.ofInt ((x : Int) - (y : Int)) := by
  rw [nm_lI]
  congr 1
  omega
/-- the rows of the matrix, the reference's side -/
theorem np_rows (hN : 4000 ≤ N) (h : nP M v S) (hw : nw a M) (ht : nt t co M) (hs : sc a t co) : ∃ M' S', pm_layRows N S = some S' ∧ nP M' v S' ∧ M'.1 = M.1 ∧ ∀ i j, i < 4 → j < 4 → M'.2.1 9 (4 * i + j) = Int64.ofInt (rs_A a t i j) := by
  have k4 := hs.1
  have ez : Int64.ofInt 0 = lN 0 := rfl
  have phase2 : ∀ M0 S0, nP M0 v S0 → M0.1 = M.1 → (∀ k, k < 16 → M0.2.1 9 k = lN 0) → ∃ M' S', pm_layRows_b23 N N (nI 0) S0 = some S' ∧ nP M' v S' ∧ M'.1 = M.1 ∧ ∀ i j, i < 4 → j < 4 → M'.2.1 9 (4 * i + j) = Int64.ofInt (rs_A a t i j) := by
    intro M0 S0 h0 m0 z0
    refine ne_loop (fun f c (s : sm_St × sm_St) => pm_layRows_b23 N f (nI c) s.2) (fun c s => nP s.1 v s.2 ∧ s.1.1 = M.1 ∧ ∀ i j, i < 4 → j < 4 → s.1.2.1 9 (4 * i + j) = if i < c then Int64.ofInt (rs_A a t i j) else lN 0) 4 (fun o => ∃ M' S', o = some S' ∧ nP M' v S' ∧ M'.1 = M.1 ∧ ∀ i j, i < 4 → j < 4 → M'.2.1 9 (4 * i + j) = Int64.ofInt (rs_A a t i j)) ?_ ?_ N 0 (M0, S0) (by omega) (by omega) ⟨h0, m0, fun i j hi hj => by rw [if_neg (by omega)]; exact z0 _ (by omega)⟩
    · rintro f c ⟨M1, S1⟩ hc ⟨i1, i2, i3⟩
      simp only at i1 i2 i3
      left
      have hwM : nw a M1 := fun k hk => by rw [i2]; exact hw k hk
      have htM : nt t co M1 := ⟨fun k hk => by rw [i2]; exact ht.1 k hk, fun k hk => by rw [i2]; exact ht.2 k hk⟩
      have hwS := nP_nw i1 hwM
      have htS := nP_nt i1 htM
      have ec := np_cloths (N := N) hwS
      have none' : ¬ (c < a 76 ∧ 0 < sp_ts a t c 8) → ∃ s' : sm_St × sm_St, (nP s'.1 v s'.2 ∧ s'.1.1 = M.1 ∧ ∀ i j, i < 4 → j < 4 → s'.1.2.1 9 (4 * i + j) = if i < c + 1 then Int64.ofInt (rs_A a t i j) else lN 0) ∧ pm_layRows_b49 N (pm_layRows_b23 N f) (nI c) (nI 0) S1 = pm_layRows_b23 N f (nI (c + 1)) s'.2 := by
        intro hn
        refine ⟨(sm_sL M1 9 (5 * c) (lN 1), sm_sL S1 9 (5 * c) (lN 1)), ⟨nP_sL i1 (by decide), i2, fun i j hi hj => ?_⟩, ?_⟩
        · show (sm_sL M1 9 (5 * c) (lN 1)).2.1 9 (4 * i + j) = _
          rw [ne_sL2s]
          by_cases q : i = c ∧ j = c
          · obtain ⟨q1, q2⟩ := q
            rw [q1, q2, show 4 * c + c = 5 * c by omega, pk_uLs, if_pos (by omega), rs_A_1 hn rfl]
            rfl
          · rw [pk_uLn (by omega), i3 i j hi hj]
            by_cases q2 : i < c
            · rw [if_pos q2, if_pos (by omega)]
            · rw [if_neg q2]
              by_cases q3 : i < c + 1
              · obtain rfl : i = c := by omega
                rw [if_pos q3, rs_A_0 hn (fun e => q ⟨rfl, e⟩)]
                rfl
              · rw [if_neg q3]
        · unfold pm_layRows_b49 pm_layRows_b78
          have e81 := pl_81_0 (N := N) (r := pm_layRows_b23 N f) (v1 := nI c) (T := sm_sL S1 9 (5 * c) (lN 1)) hN
          rw [nI_add] at e81
          simp (disch := omega) only [sm_lt, sm_b1s, sm_b2s, ↓reduceIte, sm_in_nI, nI_clamp, nI_add, pk_mul, pk_sub, ne_addneg, nI_l, ne_ltT, ne_ltF, ne_leT, ne_leF, ne_eqT, ne_eqF, ne_sI1s, ne_sI1n, ne_sI2, ne_sI3, ne_sL1, ne_sL2s, ne_sL2n, ne_sL3, pk_us, pk_un, pk_uLs, pk_uLn, mm_Z, mm_L, mm_1, mm_2, mm_3, ne_rz0, ne_rz1, not_true_eq_false, not_false_eq_true, ne_i0, ne_i1, ne_i2, ne_i3, ne_i4, ne_i5, ne_i6, ne_i7, ne_i8, ne_i9, ne_i10, ne_i12, ne_i14, ne_i16, ne_i18, ne_i19, ne_i20, ne_i23, ne_i24, ne_i27, ne_i29, ne_i30, ne_i31, ne_i32, ne_i35, ne_i48, ne_i52, ne_i54, ne_i57, ne_i59, ne_i63, ne_i64, ne_i76, ne_i77, ne_i78, ne_i79, ne_i80, ne_i81, ne_i97, ne_i99, ne_i100, ne_i101, ne_i104, ne_i105, ne_i108, ne_i110, ne_i111, ne_i116, ne_i117, ne_i122, ne_i103, ne_i200, ne_i255, ne_i256, ne_i320, ne_i384, ne_i1000, ne_l0, ne_l1, ne_l2, ne_l3, ne_l4, ne_l5, ne_l8, ne_l12, ne_l31, ne_l48, ne_l57, ne_l97, ne_l99, ne_l122, ne_l255, ne_l673, ne_l1073741823, ne_l1073741824, e81]
      show ∃ s', _ ∧ pm_layRows_b23 N (f + 1) _ _ = pm_layRows_b23 N f _ _
      rw [pm_layRows_b23]
      unfold pm_layRows_b48
      by_cases l : a 76 ≤ c
      · obtain ⟨s', g1, g2⟩ := none' (by omega)
        refine ⟨s', g1, ?_⟩
        simp (disch := omega) only [sm_lt, sm_b1s, sm_b2s, ↓reduceIte, sm_in_nI, nI_clamp, nI_add, pk_mul, pk_sub, ne_addneg, nI_l, ne_ltT, ne_ltF, ne_leT, ne_leF, ne_eqT, ne_eqF, ne_sI1s, ne_sI1n, ne_sI2, ne_sI3, ne_sL1, ne_sL2s, ne_sL2n, ne_sL3, pk_us, pk_un, pk_uLs, pk_uLn, mm_Z, mm_L, mm_1, mm_2, mm_3, ne_rz0, ne_rz1, not_true_eq_false, not_false_eq_true, ne_i0, ne_i1, ne_i2, ne_i3, ne_i4, ne_i5, ne_i6, ne_i7, ne_i8, ne_i9, ne_i10, ne_i12, ne_i14, ne_i16, ne_i18, ne_i19, ne_i20, ne_i23, ne_i24, ne_i27, ne_i29, ne_i30, ne_i31, ne_i32, ne_i35, ne_i48, ne_i52, ne_i54, ne_i57, ne_i59, ne_i63, ne_i64, ne_i76, ne_i77, ne_i78, ne_i79, ne_i80, ne_i81, ne_i97, ne_i99, ne_i100, ne_i101, ne_i104, ne_i105, ne_i108, ne_i110, ne_i111, ne_i116, ne_i117, ne_i122, ne_i103, ne_i200, ne_i255, ne_i256, ne_i320, ne_i384, ne_i1000, ne_l0, ne_l1, ne_l2, ne_l3, ne_l4, ne_l5, ne_l8, ne_l12, ne_l31, ne_l48, ne_l57, ne_l97, ne_l99, ne_l122, ne_l255, ne_l673, ne_l1073741823, ne_l1073741824, ec]
        exact g2
      · have eta := np_takesAll (N := N) (c := c) hN hwS htS hs (by omega)
        have tl := sp_ts_le hs (c := c) (by omega)
        by_cases z : sp_ts a t c 8 = 0
        · obtain ⟨s', g1, g2⟩ := none' (by omega)
          refine ⟨s', g1, ?_⟩
          simp (disch := omega) only [sm_lt, sm_b1s, sm_b2s, ↓reduceIte, sm_in_nI, nI_clamp, nI_add, pk_mul, pk_sub, ne_addneg, nI_l, ne_ltT, ne_ltF, ne_leT, ne_leF, ne_eqT, ne_eqF, ne_sI1s, ne_sI1n, ne_sI2, ne_sI3, ne_sL1, ne_sL2s, ne_sL2n, ne_sL3, pk_us, pk_un, pk_uLs, pk_uLn, mm_Z, mm_L, mm_1, mm_2, mm_3, ne_rz0, ne_rz1, not_true_eq_false, not_false_eq_true, ne_i0, ne_i1, ne_i2, ne_i3, ne_i4, ne_i5, ne_i6, ne_i7, ne_i8, ne_i9, ne_i10, ne_i12, ne_i14, ne_i16, ne_i18, ne_i19, ne_i20, ne_i23, ne_i24, ne_i27, ne_i29, ne_i30, ne_i31, ne_i32, ne_i35, ne_i48, ne_i52, ne_i54, ne_i57, ne_i59, ne_i63, ne_i64, ne_i76, ne_i77, ne_i78, ne_i79, ne_i80, ne_i81, ne_i97, ne_i99, ne_i100, ne_i101, ne_i104, ne_i105, ne_i108, ne_i110, ne_i111, ne_i116, ne_i117, ne_i122, ne_i103, ne_i200, ne_i255, ne_i256, ne_i320, ne_i384, ne_i1000, ne_l0, ne_l1, ne_l2, ne_l3, ne_l4, ne_l5, ne_l8, ne_l12, ne_l31, ne_l48, ne_l57, ne_l97, ne_l99, ne_l122, ne_l255, ne_l673, ne_l1073741823, ne_l1073741824, ec, eta]
          exact g2
        · -- a row that takes
          have hcc : c < a 76 ∧ 0 < sp_ts a t c 8 := ⟨by omega, by omega⟩
          have etc := np_takes (N := N) (c := c) (x := c) hwS htS hs hcc.1 (by omega)
          have tcc := sp_tk_ts (a := a) (t := t) (i := c) (j := c) (by omega)
          have h9 := nP_sL (p := 9) (k := 5 * c) (x := lN (sp_ts a t c 8 - sp_tk a t c c)) i1 (by decide)
          have row : ∃ s' : sm_St × sm_St, (nP s'.1 v s'.2 ∧ s'.1.1 = M.1 ∧ ∀ i j, i < 4 → j < 4 → s'.1.2.1 9 (4 * i + j) = if i < c + 1 then Int64.ofInt (rs_A a t i j) else lN 0) ∧ pm_layRows_b81 N (pm_layRows_b23 N f) N (nI c) (nI 1) (nI 0) (sm_sL S1 9 (5 * c) (lN (sp_ts a t c 8 - sp_tk a t c c))) = pm_layRows_b23 N f (nI (c + 1)) s'.2 := by
            refine ne_loop (fun f' x (s : sm_St × sm_St) => pm_layRows_b81 N (pm_layRows_b23 N f) f' (nI c) (nI 1) (nI x) s.2) (fun x s => nP s.1 v s.2 ∧ s.1.1 = M.1 ∧ (∀ i j, i < 4 → j < 4 → i ≠ c → s.1.2.1 9 (4 * i + j) = if i < c then Int64.ofInt (rs_A a t i j) else lN 0) ∧ s.1.2.1 9 (4 * c + c) = lN (sp_ts a t c 8 - sp_tk a t c c) ∧ ∀ j, j < 4 → j ≠ c → s.1.2.1 9 (4 * c + j) = if j < x then Int64.ofInt (rs_A a t c j) else lN 0) 4 (fun o => ∃ s' : sm_St × sm_St, (nP s'.1 v s'.2 ∧ s'.1.1 = M.1 ∧ ∀ i j, i < 4 → j < 4 → s'.1.2.1 9 (4 * i + j) = if i < c + 1 then Int64.ofInt (rs_A a t i j) else lN 0) ∧ o = pm_layRows_b23 N f (nI (c + 1)) s'.2) ?_ ?_ N 0 (sm_sL M1 9 (5 * c) (lN (sp_ts a t c 8 - sp_tk a t c c)), sm_sL S1 9 (5 * c) (lN (sp_ts a t c 8 - sp_tk a t c c))) (by omega) (by omega) ⟨h9, i2, fun i j hi hj hic => ?_, ?_, fun j hj hjc => ?_⟩
            · rintro f' x ⟨M2, S2⟩ hx ⟨j1, j2, j3, j4, j5⟩
              simp only at j1 j2 j3 j4 j5
              left
              have hwM2 : nw a M2 := fun k hk => by rw [j2]; exact hw k hk
              have htM2 : nt t co M2 := ⟨fun k hk => by rw [j2]; exact ht.1 k hk, fun k hk => by rw [j2]; exact ht.2 k hk⟩
              have etx := np_takes (N := N) (c := c) (x := x) (nP_nw j1 hwM2) (nP_nt j1 htM2) hs hcc.1 (by omega)
              have tk6 := sp_tk_6 hs hcc.1 (x := x) (by omega)
              show ∃ s', _ ∧ pm_layRows_b81 N _ (f' + 1) _ _ _ _ = pm_layRows_b81 N _ f' _ _ _ _
              rw [pm_layRows_b81]
              unfold pm_layRows_b117
              by_cases e : x = c
              · have e9 : S2.2.1 9 (4 * c + c) = lN (sp_ts a t c 8 - sp_tk a t c c) := by rw [nP_2 j1 (by decide)]; exact j4
                refine ⟨(sm_sL M2 9 (4 * c + c) (lN (sp_ts a t c 8 - sp_tk a t c c)), sm_sL S2 9 (4 * c + c) (lN (sp_ts a t c 8 - sp_tk a t c c))), ⟨nP_sL j1 (by decide), j2, fun i j hi hj hic => ?_, ?_, fun j hj hjc => ?_⟩, ?_⟩
                · show (sm_sL M2 9 _ _).2.1 9 _ = _
                  rw [ne_sL2s, pk_uLn (by omega)]
                  exact j3 i j hi hj hic
                · show (sm_sL M2 9 _ _).2.1 9 _ = _
                  rw [ne_sL2s, pk_uLs]
                · show (sm_sL M2 9 _ _).2.1 9 _ = _
                  rw [ne_sL2s, pk_uLn (by omega), j5 j hj hjc]
                  by_cases q : j < x
                  · rw [if_pos q, if_pos (by omega)]
                  · rw [if_neg q, if_neg (by omega)]
                · subst e
                  have es := lN_sub (a := sp_ts a t x 8 - sp_tk a t x x) (b := 0) (by omega)
                  rw [Nat.sub_zero] at es
                  simp (disch := omega) only [sm_lt, sm_b1s, sm_b2s, ↓reduceIte, sm_in_nI, nI_clamp, nI_add, pk_mul, pk_sub, ne_addneg, nI_l, ne_ltT, ne_ltF, ne_leT, ne_leF, ne_eqT, ne_eqF, ne_sI1s, ne_sI1n, ne_sI2, ne_sI3, ne_sL1, ne_sL2s, ne_sL2n, ne_sL3, pk_us, pk_un, pk_uLs, pk_uLn, mm_Z, mm_L, mm_1, mm_2, mm_3, ne_rz0, ne_rz1, not_true_eq_false, not_false_eq_true, ne_i0, ne_i1, ne_i2, ne_i3, ne_i4, ne_i5, ne_i6, ne_i7, ne_i8, ne_i9, ne_i10, ne_i12, ne_i14, ne_i16, ne_i18, ne_i19, ne_i20, ne_i23, ne_i24, ne_i27, ne_i29, ne_i30, ne_i31, ne_i32, ne_i35, ne_i48, ne_i52, ne_i54, ne_i57, ne_i59, ne_i63, ne_i64, ne_i76, ne_i77, ne_i78, ne_i79, ne_i80, ne_i81, ne_i97, ne_i99, ne_i100, ne_i101, ne_i104, ne_i105, ne_i108, ne_i110, ne_i111, ne_i116, ne_i117, ne_i122, ne_i103, ne_i200, ne_i255, ne_i256, ne_i320, ne_i384, ne_i1000, ne_l0, ne_l1, ne_l2, ne_l3, ne_l4, ne_l5, ne_l8, ne_l12, ne_l31, ne_l48, ne_l57, ne_l97, ne_l99, ne_l122, ne_l255, ne_l673, ne_l1073741823, ne_l1073741824, e9, es]
              · have e9 : S2.2.1 9 (4 * c + x) = lN 0 := by
                  rw [nP_2 j1 (by decide), j5 x hx e, if_neg (by omega)]
                refine ⟨(sm_sL M2 9 (4 * c + x) (Int64.ofInt (-(sp_tk a t c x : Int))), sm_sL S2 9 (4 * c + x) (Int64.ofInt (-(sp_tk a t c x : Int)))), ⟨nP_sL j1 (by decide), j2, fun i j hi hj hic => ?_, ?_, fun j hj hjc => ?_⟩, ?_⟩
                · show (sm_sL M2 9 _ _).2.1 9 _ = _
                  rw [ne_sL2s, pk_uLn (by omega)]
                  exact j3 i j hi hj hic
                · show (sm_sL M2 9 _ _).2.1 9 _ = _
                  rw [ne_sL2s, pk_uLn (by omega)]
                  exact j4
                · show (sm_sL M2 9 _ _).2.1 9 _ = _
                  rw [ne_sL2s]
                  by_cases q : j = x
                  · rw [q, pk_uLs, if_pos (by omega), rs_A_n hcc e]
                  · rw [pk_uLn (by omega), j5 j hj hjc]
                    by_cases q2 : j < x
                    · rw [if_pos q2, if_pos (by omega)]
                    · rw [if_neg q2, if_neg (by omega)]
                · have en := rl_neg (sp_tk a t c x)
                  simp (disch := omega) only [sm_lt, sm_b1s, sm_b2s, ↓reduceIte, sm_in_nI, nI_clamp, nI_add, pk_mul, pk_sub, ne_addneg, nI_l, ne_ltT, ne_ltF, ne_leT, ne_leF, ne_eqT, ne_eqF, ne_sI1s, ne_sI1n, ne_sI2, ne_sI3, ne_sL1, ne_sL2s, ne_sL2n, ne_sL3, pk_us, pk_un, pk_uLs, pk_uLn, mm_Z, mm_L, mm_1, mm_2, mm_3, ne_rz0, ne_rz1, not_true_eq_false, not_false_eq_true, ne_i0, ne_i1, ne_i2, ne_i3, ne_i4, ne_i5, ne_i6, ne_i7, ne_i8, ne_i9, ne_i10, ne_i12, ne_i14, ne_i16, ne_i18, ne_i19, ne_i20, ne_i23, ne_i24, ne_i27, ne_i29, ne_i30, ne_i31, ne_i32, ne_i35, ne_i48, ne_i52, ne_i54, ne_i57, ne_i59, ne_i63, ne_i64, ne_i76, ne_i77, ne_i78, ne_i79, ne_i80, ne_i81, ne_i97, ne_i99, ne_i100, ne_i101, ne_i104, ne_i105, ne_i108, ne_i110, ne_i111, ne_i116, ne_i117, ne_i122, ne_i103, ne_i200, ne_i255, ne_i256, ne_i320, ne_i384, ne_i1000, ne_l0, ne_l1, ne_l2, ne_l3, ne_l4, ne_l5, ne_l8, ne_l12, ne_l31, ne_l48, ne_l57, ne_l97, ne_l99, ne_l122, ne_l255, ne_l673, ne_l1073741823, ne_l1073741824, e9, etx, en]
            · rintro f' ⟨M2, S2⟩ ⟨j1, j2, j3, j4, j5⟩
              simp only at j1 j2 j3 j4 j5
              refine ⟨(M2, S2), ⟨j1, j2, fun i j hi hj => ?_⟩, ?_⟩
              · show M2.2.1 9 (4 * i + j) = _
                by_cases q : i = c
                · rw [q, if_pos (by omega)]
                  by_cases q2 : j = c
                  · rw [q2, j4, rs_A_d hcc rfl, rl_sub tcc]
                  · rw [j5 j hj q2, if_pos hj]
                · rw [j3 i j hi hj q]
                  by_cases q2 : i < c
                  · rw [if_pos q2, if_pos (by omega)]
                  · rw [if_neg q2, if_neg (by omega)]
              · show pm_layRows_b81 N _ (f' + 1) _ _ _ _ = _
                rw [pm_layRows_b81]
                unfold pm_layRows_b125
                simp (disch := omega) only [sm_lt, sm_b1s, sm_b2s, ↓reduceIte, sm_in_nI, nI_clamp, nI_add, pk_mul, pk_sub, ne_addneg, nI_l, ne_ltT, ne_ltF, ne_leT, ne_leF, ne_eqT, ne_eqF, ne_sI1s, ne_sI1n, ne_sI2, ne_sI3, ne_sL1, ne_sL2s, ne_sL2n, ne_sL3, pk_us, pk_un, pk_uLs, pk_uLn, mm_Z, mm_L, mm_1, mm_2, mm_3, ne_rz0, ne_rz1, not_true_eq_false, not_false_eq_true, ne_i0, ne_i1, ne_i2, ne_i3, ne_i4, ne_i5, ne_i6, ne_i7, ne_i8, ne_i9, ne_i10, ne_i12, ne_i14, ne_i16, ne_i18, ne_i19, ne_i20, ne_i23, ne_i24, ne_i27, ne_i29, ne_i30, ne_i31, ne_i32, ne_i35, ne_i48, ne_i52, ne_i54, ne_i57, ne_i59, ne_i63, ne_i64, ne_i76, ne_i77, ne_i78, ne_i79, ne_i80, ne_i81, ne_i97, ne_i99, ne_i100, ne_i101, ne_i104, ne_i105, ne_i108, ne_i110, ne_i111, ne_i116, ne_i117, ne_i122, ne_i103, ne_i200, ne_i255, ne_i256, ne_i320, ne_i384, ne_i1000, ne_l0, ne_l1, ne_l2, ne_l3, ne_l4, ne_l5, ne_l8, ne_l12, ne_l31, ne_l48, ne_l57, ne_l97, ne_l99, ne_l122, ne_l255, ne_l673, ne_l1073741823, ne_l1073741824]
            · show (sm_sL M1 9 _ _).2.1 9 _ = _
              rw [ne_sL2s, pk_uLn (by omega)]
              exact i3 i j hi hj
            · show (sm_sL M1 9 _ _).2.1 9 _ = _
              rw [ne_sL2s, show 4 * c + c = 5 * c by omega, pk_uLs]
            · show (sm_sL M1 9 _ _).2.1 9 _ = _
              rw [ne_sL2s, pk_uLn (by omega), i3 c j hc hj, if_neg (by omega), if_neg (by omega)]
          obtain ⟨s', g1, g2⟩ := row
          refine ⟨s', g1, ?_⟩
          unfold pm_layRows_b49 pm_layRows_b78
          simp (disch := omega) only [sm_lt, sm_b1s, sm_b2s, ↓reduceIte, sm_in_nI, nI_clamp, nI_add, pk_mul, pk_sub, ne_addneg, nI_l, ne_ltT, ne_ltF, ne_leT, ne_leF, ne_eqT, ne_eqF, ne_sI1s, ne_sI1n, ne_sI2, ne_sI3, ne_sL1, ne_sL2s, ne_sL2n, ne_sL3, pk_us, pk_un, pk_uLs, pk_uLn, mm_Z, mm_L, mm_1, mm_2, mm_3, ne_rz0, ne_rz1, not_true_eq_false, not_false_eq_true, ne_i0, ne_i1, ne_i2, ne_i3, ne_i4, ne_i5, ne_i6, ne_i7, ne_i8, ne_i9, ne_i10, ne_i12, ne_i14, ne_i16, ne_i18, ne_i19, ne_i20, ne_i23, ne_i24, ne_i27, ne_i29, ne_i30, ne_i31, ne_i32, ne_i35, ne_i48, ne_i52, ne_i54, ne_i57, ne_i59, ne_i63, ne_i64, ne_i76, ne_i77, ne_i78, ne_i79, ne_i80, ne_i81, ne_i97, ne_i99, ne_i100, ne_i101, ne_i104, ne_i105, ne_i108, ne_i110, ne_i111, ne_i116, ne_i117, ne_i122, ne_i103, ne_i200, ne_i255, ne_i256, ne_i320, ne_i384, ne_i1000, ne_l0, ne_l1, ne_l2, ne_l3, ne_l4, ne_l5, ne_l8, ne_l12, ne_l31, ne_l48, ne_l57, ne_l97, ne_l99, ne_l122, ne_l255, ne_l673, ne_l1073741823, ne_l1073741824, ec, eta, etc]
          exact g2
    · rintro f ⟨M1, S1⟩ ⟨i1, i2, i3⟩
      simp only at i1 i2 i3
      show ∃ M' S', pm_layRows_b23 N (f + 1) _ _ = _ ∧ _
      rw [pm_layRows_b23]
      refine ⟨M1, S1, ?_, i1, i2, fun i j hi hj => by rw [i3 i j hi hj, if_pos hi]⟩
      simp (disch := omega) only [sm_lt, sm_b1s, sm_b2s, ↓reduceIte, sm_in_nI, nI_clamp, nI_add, pk_mul, pk_sub, ne_addneg, nI_l, ne_ltT, ne_ltF, ne_leT, ne_leF, ne_eqT, ne_eqF, ne_sI1s, ne_sI1n, ne_sI2, ne_sI3, ne_sL1, ne_sL2s, ne_sL2n, ne_sL3, pk_us, pk_un, pk_uLs, pk_uLn, mm_Z, mm_L, mm_1, mm_2, mm_3, ne_rz0, ne_rz1, not_true_eq_false, not_false_eq_true, ne_i0, ne_i1, ne_i2, ne_i3, ne_i4, ne_i5, ne_i6, ne_i7, ne_i8, ne_i9, ne_i10, ne_i12, ne_i14, ne_i16, ne_i18, ne_i19, ne_i20, ne_i23, ne_i24, ne_i27, ne_i29, ne_i30, ne_i31, ne_i32, ne_i35, ne_i48, ne_i52, ne_i54, ne_i57, ne_i59, ne_i63, ne_i64, ne_i76, ne_i77, ne_i78, ne_i79, ne_i80, ne_i81, ne_i97, ne_i99, ne_i100, ne_i101, ne_i104, ne_i105, ne_i108, ne_i110, ne_i111, ne_i116, ne_i117, ne_i122, ne_i103, ne_i200, ne_i255, ne_i256, ne_i320, ne_i384, ne_i1000, ne_l0, ne_l1, ne_l2, ne_l3, ne_l4, ne_l5, ne_l8, ne_l12, ne_l31, ne_l48, ne_l57, ne_l97, ne_l99, ne_l122, ne_l255, ne_l673, ne_l1073741823, ne_l1073741824]
  unfold pm_layRows
  simp (disch := omega) only [sm_lt, sm_b1s, sm_b2s, ↓reduceIte, sm_in_nI, nI_clamp, nI_add, pk_mul, pk_sub, ne_addneg, nI_l, ne_ltT, ne_ltF, ne_leT, ne_leF, ne_eqT, ne_eqF, ne_sI1s, ne_sI1n, ne_sI2, ne_sI3, ne_sL1, ne_sL2s, ne_sL2n, ne_sL3, pk_us, pk_un, pk_uLs, pk_uLn, mm_Z, mm_L, mm_1, mm_2, mm_3, ne_rz0, ne_rz1, not_true_eq_false, not_false_eq_true, ne_i0, ne_i1, ne_i2, ne_i3, ne_i4, ne_i5, ne_i6, ne_i7, ne_i8, ne_i9, ne_i10, ne_i12, ne_i14, ne_i16, ne_i18, ne_i19, ne_i20, ne_i23, ne_i24, ne_i27, ne_i29, ne_i30, ne_i31, ne_i32, ne_i35, ne_i48, ne_i52, ne_i54, ne_i57, ne_i59, ne_i63, ne_i64, ne_i76, ne_i77, ne_i78, ne_i79, ne_i80, ne_i81, ne_i97, ne_i99, ne_i100, ne_i101, ne_i104, ne_i105, ne_i108, ne_i110, ne_i111, ne_i116, ne_i117, ne_i122, ne_i103, ne_i200, ne_i255, ne_i256, ne_i320, ne_i384, ne_i1000, ne_l0, ne_l1, ne_l2, ne_l3, ne_l4, ne_l5, ne_l8, ne_l12, ne_l31, ne_l48, ne_l57, ne_l97, ne_l99, ne_l122, ne_l255, ne_l673, ne_l1073741823, ne_l1073741824]
  refine ne_loop (fun f i (s : sm_St × sm_St) => pm_layRows_b2 N f (nI i) s.2) (fun i s => nP s.1 v s.2 ∧ s.1.1 = M.1 ∧ ∀ k, k < i → s.1.2.1 9 k = lN 0) 16 (fun o => ∃ M' S', o = some S' ∧ nP M' v S' ∧ M'.1 = M.1 ∧ ∀ i j, i < 4 → j < 4 → M'.2.1 9 (4 * i + j) = Int64.ofInt (rs_A a t i j)) ?_ ?_ N 0 (M, S) (by omega) (by omega) ⟨h, rfl, fun k hk => by omega⟩
  · rintro f i ⟨M1, S1⟩ hi ⟨i1, i2, i3⟩
    simp only at i1 i2 i3
    left
    refine ⟨(sm_sL M1 9 i (lN 0), sm_sL S1 9 i (lN 0)), ⟨nP_sL i1 (by decide), i2, fun k hk => ?_⟩, ?_⟩
    · show (sm_sL M1 9 i (lN 0)).2.1 9 k = _
      rw [ne_sL2s]
      by_cases e : k = i
      · rw [e, pk_uLs]
      · rw [pk_uLn e]
        exact i3 k (by omega)
    · show pm_layRows_b2 N (f + 1) _ _ = pm_layRows_b2 N f _ _
      rw [pm_layRows_b2]
      simp (disch := omega) only [sm_lt, sm_b1s, sm_b2s, ↓reduceIte, sm_in_nI, nI_clamp, nI_add, pk_mul, pk_sub, ne_addneg, nI_l, ne_ltT, ne_ltF, ne_leT, ne_leF, ne_eqT, ne_eqF, ne_sI1s, ne_sI1n, ne_sI2, ne_sI3, ne_sL1, ne_sL2s, ne_sL2n, ne_sL3, pk_us, pk_un, pk_uLs, pk_uLn, mm_Z, mm_L, mm_1, mm_2, mm_3, ne_rz0, ne_rz1, not_true_eq_false, not_false_eq_true, ne_i0, ne_i1, ne_i2, ne_i3, ne_i4, ne_i5, ne_i6, ne_i7, ne_i8, ne_i9, ne_i10, ne_i12, ne_i14, ne_i16, ne_i18, ne_i19, ne_i20, ne_i23, ne_i24, ne_i27, ne_i29, ne_i30, ne_i31, ne_i32, ne_i35, ne_i48, ne_i52, ne_i54, ne_i57, ne_i59, ne_i63, ne_i64, ne_i76, ne_i77, ne_i78, ne_i79, ne_i80, ne_i81, ne_i97, ne_i99, ne_i100, ne_i101, ne_i104, ne_i105, ne_i108, ne_i110, ne_i111, ne_i116, ne_i117, ne_i122, ne_i103, ne_i200, ne_i255, ne_i256, ne_i320, ne_i384, ne_i1000, ne_l0, ne_l1, ne_l2, ne_l3, ne_l4, ne_l5, ne_l8, ne_l12, ne_l31, ne_l48, ne_l57, ne_l97, ne_l99, ne_l122, ne_l255, ne_l673, ne_l1073741823, ne_l1073741824]
  · rintro f ⟨M1, S1⟩ ⟨i1, i2, i3⟩
    simp only at i1 i2 i3
    show ∃ M' S', pm_layRows_b2 N (f + 1) _ _ = _ ∧ _
    rw [pm_layRows_b2]
    simp (disch := omega) only [sm_lt, sm_b1s, sm_b2s, ↓reduceIte, sm_in_nI, nI_clamp, nI_add, pk_mul, pk_sub, ne_addneg, nI_l, ne_ltT, ne_ltF, ne_leT, ne_leF, ne_eqT, ne_eqF, ne_sI1s, ne_sI1n, ne_sI2, ne_sI3, ne_sL1, ne_sL2s, ne_sL2n, ne_sL3, pk_us, pk_un, pk_uLs, pk_uLn, mm_Z, mm_L, mm_1, mm_2, mm_3, ne_rz0, ne_rz1, not_true_eq_false, not_false_eq_true, ne_i0, ne_i1, ne_i2, ne_i3, ne_i4, ne_i5, ne_i6, ne_i7, ne_i8, ne_i9, ne_i10, ne_i12, ne_i14, ne_i16, ne_i18, ne_i19, ne_i20, ne_i23, ne_i24, ne_i27, ne_i29, ne_i30, ne_i31, ne_i32, ne_i35, ne_i48, ne_i52, ne_i54, ne_i57, ne_i59, ne_i63, ne_i64, ne_i76, ne_i77, ne_i78, ne_i79, ne_i80, ne_i81, ne_i97, ne_i99, ne_i100, ne_i101, ne_i104, ne_i105, ne_i108, ne_i110, ne_i111, ne_i116, ne_i117, ne_i122, ne_i103, ne_i200, ne_i255, ne_i256, ne_i320, ne_i384, ne_i1000, ne_l0, ne_l1, ne_l2, ne_l3, ne_l4, ne_l5, ne_l8, ne_l12, ne_l31, ne_l48, ne_l57, ne_l97, ne_l99, ne_l122, ne_l255, ne_l673, ne_l1073741823, ne_l1073741824]
    exact phase2 M1 S1 i1 i2 i3
end
