/-! how many unlike colours -/
def sp_nm (a : Nat → Nat) (x : Nat) : Bool := decide (x < a 76 ∨ 4 ≤ x ∧ x < 4 + a 77)
def sp_ub (a w co : Nat → Nat) (x : Nat) : Nat → Bool
  | 0 => true
  | y + 1 => sp_ub a w co x y && !(sp_nm a y && decide (sp_val w co x = sp_val w co y))
def sp_un (a w co : Nat → Nat) (x : Nat) : Bool := sp_nm a x && sp_ub a w co x x
def sp_cn (a w co : Nat → Nat) : Nat → Nat
  | 0 => 0
  | n + 1 => sp_cn a w co n + if sp_un a w co n = true then 1 else 0
theorem sp_cn_le (a w co : Nat → Nat) : ∀ n, sp_cn a w co n ≤ n
  | 0 => Nat.le_refl _
  | n + 1 => by
    have := sp_cn_le a w co n
    rw [sp_cn]
    split <;> omega
theorem sp_ub_iff {a w co : Nat → Nat} {x : Nat} : ∀ n, sp_ub a w co x n = true ↔ ∀ y, y < n → (y < a 76 ∨ 4 ≤ y ∧ y < 4 + a 77) → sp_val w co x ≠ sp_val w co y
  | 0 => by simp [sp_ub]
  | n + 1 => by
    rw [sp_ub, Bool.and_eq_true, sp_ub_iff n]
    simp only [sp_nm, Bool.not_eq_true', Bool.and_eq_false_iff, decide_eq_false_iff_not]
    constructor
    · rintro ⟨h1, h2⟩ y hy hn e
      by_cases q : y = n
      · subst q
        rcases h2 with h2 | h2
        · exact h2 hn
        · exact h2 e
      · exact h1 y (by omega) hn e
    · intro h
      refine ⟨fun y hy hn => h y (by omega) hn, ?_⟩
      by_cases hn : n < a 76 ∨ 4 ≤ n ∧ n < 4 + a 77
      · exact Or.inr (h n (by omega) hn)
      · exact Or.inl hn
section
variable {N : Nat} {X S : sm_St} {a b v ik tx : Nat → Nat} {len : Nat}
theorem nW_lay2 {M : sm_St} {w t co : Nat → Nat} {x y : Nat} (hN : 4000 ≤ N) (h : nW M v w S) (ht : nt t co M) (hs : sc a t co) (hx : x < a 76 ∨ 4 ≤ x ∧ x < 4 + a 77) (hy : y < a 76 ∨ 4 ≤ y ∧ y < 4 + a 77) (hb : w 4 < 2 ^ 1000) : ∃ S1 S2, pm_lay N S (nI 7) (nI x) = some S1 ∧ pm_lay N S1 (nI 8) (nI y) = some S2 ∧ nW M v w S2 ∧ pm_compare N S2 (nI 7) (nI 8) = some (nm_cmp (sp_val w co x) (sp_val w co y), S2) := by
  have k4 := hs.1
  have t4 := hs.2.1
  obtain ⟨v', h1, rfl, h3⟩ := h
  obtain ⟨S1, e1, g1⟩ := np_lay (N := N) (to := 7) (x := x) hN h1 ht (by decide) (by decide) (by omega) (fun h4 => hs.2.2.2.2 _ (by omega)) hb
  have ew : ∀ z, (fun i => va_up v' 7 z (14 + i)) = fun i => v' (14 + i) := fun z => by funext i; exact ne_up_n (by omega)
  obtain ⟨S2, e2, g2⟩ := np_lay (N := N) (to := 8) (x := y) hN g1 ht (by decide) (by decide) (by omega) (fun h4 => hs.2.2.2.2 _ (by omega)) (by rw [ne_up_n (by decide)]; exact hb)
  rw [ew] at g2
  refine ⟨S1, S2, e1, e2, ⟨_, g2, ?_, fun s hs => by rw [ne_up_n (by omega), ne_up_n (by omega)]; exact h3 s hs⟩, ?_⟩
  · funext i
    rw [ne_up_n (by omega), ne_up_n (by omega)]
  · have := nP_compare (N := N) (a := 7) (b := 8) hN g2 (by omega) (by omega) (by omega) (by omega)
    rw [ne_up_s, ne_up_n (by decide), ne_up_s] at this
    exact this
theorem np_colours {w : Nat → Nat} {M : sm_St} (hN : 4000 ≤ N) (h : nW M v w S) (hw : nw a M) (ht : nt (at_ a) (ac_ a) M) (hs : sc a (at_ a) (ac_ a)) (hb : w 4 < 2 ^ 1000) : ∃ S', pm_colours_b8 N N (nI 0) (nI 0) S = some (nI (sp_cn a w (ac_ a) 8), S') ∧ nW M v w S' := by
  have k4 := hs.1
  have t4 := hs.2.1
  refine ne_loop (fun f x (s : Nat × sm_St) => pm_colours_b8 N f (nI s.1) (nI x) s.2) (fun x s => s.1 = sp_cn a w (ac_ a) x ∧ nW M v w s.2) 8 (fun r => ∃ S', r = some (nI (sp_cn a w (ac_ a) 8), S') ∧ nW M v w S') ?_ ?_ N 0 (0, S) (by omega) (by omega) ⟨rfl, h⟩
  · rintro f x ⟨c, s⟩ hx ⟨i1, i2⟩
    simp only at i1 i2
    subst i1
    left
    have cl := sp_cn_le a w (ac_ a) x
    show ∃ s', _ ∧ pm_colours_b8 N (f + 1) _ _ _ = pm_colours_b8 N f _ _ _
    have fin0 : ∀ s, pm_colours_b90 N (pm_colours_b8 N f) (nI x) (nI (sp_cn a w (ac_ a) x)) (nI 0) s = pm_colours_b8 N f (nI (sp_cn a w (ac_ a) x + 0)) (nI (x + 1)) s := fun s => by
      unfold pm_colours_b90
      simp (disch := omega) only [sm_lt, sm_b1s, sm_b2s, ↓reduceIte, sm_in_nI, nI_clamp, nI_add, pk_mul, pk_sub, ne_addneg, nI_l, ne_ltT, ne_ltF, ne_leT, ne_leF, ne_eqT, ne_eqF, ne_sI1s, ne_sI1n, ne_sI2, ne_sI3, ne_sL1, ne_sL2s, ne_sL2n, ne_sL3, pk_us, pk_un, pk_uLs, pk_uLn, mm_Z, mm_L, mm_1, mm_2, mm_3, ne_rz0, ne_rz1, not_true_eq_false, not_false_eq_true, ne_i0, ne_i1, ne_i2, ne_i3, ne_i4, ne_i5, ne_i6, ne_i7, ne_i8, ne_i9, ne_i10, ne_i12, ne_i14, ne_i16, ne_i18, ne_i19, ne_i20, ne_i23, ne_i24, ne_i27, ne_i29, ne_i30, ne_i31, ne_i32, ne_i35, ne_i48, ne_i52, ne_i54, ne_i57, ne_i59, ne_i63, ne_i64, ne_i76, ne_i77, ne_i78, ne_i79, ne_i80, ne_i81, ne_i97, ne_i99, ne_i100, ne_i101, ne_i104, ne_i105, ne_i108, ne_i110, ne_i111, ne_i116, ne_i117, ne_i122, ne_i103, ne_i200, ne_i255, ne_i256, ne_i320, ne_i384, ne_i1000, ne_l0, ne_l1, ne_l2, ne_l3, ne_l4, ne_l5, ne_l8, ne_l12, ne_l31, ne_l48, ne_l57, ne_l97, ne_l99, ne_l122, ne_l255, ne_l673, ne_l1073741823, ne_l1073741824]
    have fin1 : ∀ s, pm_colours_b90 N (pm_colours_b8 N f) (nI x) (nI (sp_cn a w (ac_ a) x)) (nI 1) s = pm_colours_b8 N f (nI (sp_cn a w (ac_ a) x + 1)) (nI (x + 1)) s := fun s => by
      unfold pm_colours_b90
      simp (disch := omega) only [sm_lt, sm_b1s, sm_b2s, ↓reduceIte, sm_in_nI, nI_clamp, nI_add, pk_mul, pk_sub, ne_addneg, nI_l, ne_ltT, ne_ltF, ne_leT, ne_leF, ne_eqT, ne_eqF, ne_sI1s, ne_sI1n, ne_sI2, ne_sI3, ne_sL1, ne_sL2s, ne_sL2n, ne_sL3, pk_us, pk_un, pk_uLs, pk_uLn, mm_Z, mm_L, mm_1, mm_2, mm_3, ne_rz0, ne_rz1, not_true_eq_false, not_false_eq_true, ne_i0, ne_i1, ne_i2, ne_i3, ne_i4, ne_i5, ne_i6, ne_i7, ne_i8, ne_i9, ne_i10, ne_i12, ne_i14, ne_i16, ne_i18, ne_i19, ne_i20, ne_i23, ne_i24, ne_i27, ne_i29, ne_i30, ne_i31, ne_i32, ne_i35, ne_i48, ne_i52, ne_i54, ne_i57, ne_i59, ne_i63, ne_i64, ne_i76, ne_i77, ne_i78, ne_i79, ne_i80, ne_i81, ne_i97, ne_i99, ne_i100, ne_i101, ne_i104, ne_i105, ne_i108, ne_i110, ne_i111, ne_i116, ne_i117, ne_i122, ne_i103, ne_i200, ne_i255, ne_i256, ne_i320, ne_i384, ne_i1000, ne_l0, ne_l1, ne_l2, ne_l3, ne_l4, ne_l5, ne_l8, ne_l12, ne_l31, ne_l48, ne_l57, ne_l97, ne_l99, ne_l122, ne_l255, ne_l673, ne_l1073741823, ne_l1073741824]
    have nwS := nW_nw i2 hw
    rw [pm_colours_b8]
    by_cases hn : x < a 76 ∨ 4 ≤ x ∧ x < 4 + a 77
    · -- a number: look at those ahead of it
      have en := np_numT (N := N) nwS k4 t4 hn
      have hnm : sp_nm a x = true := by unfold sp_nm; exact decide_eq_true hn
      have inner : ∃ S', pm_colours_b23 N (pm_colours_b8 N f) N (nI (sp_cn a w (ac_ a) x)) (nI x) (nI 1) (nI 0) s = pm_colours_b8 N f (nI (sp_cn a w (ac_ a) (x + 1))) (nI (x + 1)) S' ∧ nW M v w S' := by
        refine ne_loop (fun f' y (s : sm_St) => pm_colours_b23 N (pm_colours_b8 N f) f' (nI (sp_cn a w (ac_ a) x)) (nI x) (nI (if sp_ub a w (ac_ a) x y = true then 1 else 0)) (nI y) s) (fun y s => nW M v w s) x (fun r => ∃ S', r = pm_colours_b8 N f (nI (sp_cn a w (ac_ a) (x + 1))) (nI (x + 1)) S' ∧ nW M v w S') ?_ ?_ N 0 s (by omega) (by omega) i2
        · intro f' y s hy hI
          show (∃ s', _ ∧ pm_colours_b23 N _ (f' + 1) _ _ _ _ _ = pm_colours_b23 N _ f' _ _ _ _ _) ∨ ∃ S', pm_colours_b23 N _ (f' + 1) _ _ _ _ _ = _ ∧ _
          have nwS := nW_nw hI hw
          by_cases hu : sp_ub a w (ac_ a) x y = true
          · left
            rw [if_pos hu, pm_colours_b23]
            unfold pm_colours_b73 pm_colours_b74
            by_cases hny : y < a 76 ∨ 4 ≤ y ∧ y < 4 + a 77
            · have en2 := np_numT (N := N) nwS k4 t4 hny
              have hnmy : sp_nm a y = true := by unfold sp_nm; exact decide_eq_true hny
              obtain ⟨S1, S2, e1, e2, g2, e3⟩ := nW_lay2 (N := N) hN hI ht hs hn hny hb
              by_cases he : sp_val w (ac_ a) x = sp_val w (ac_ a) y
              · have hu2 : sp_ub a w (ac_ a) x (y + 1) = false := by rw [sp_ub, hu, hnmy, decide_eq_true he]; rfl
                refine ⟨S2, g2, ?_⟩
                rw [hu2]
                simp (disch := omega) only [sm_lt, sm_b1s, sm_b2s, ↓reduceIte, sm_in_nI, nI_clamp, nI_add, pk_mul, pk_sub, ne_addneg, nI_l, ne_ltT, ne_ltF, ne_leT, ne_leF, ne_eqT, ne_eqF, ne_sI1s, ne_sI1n, ne_sI2, ne_sI3, ne_sL1, ne_sL2s, ne_sL2n, ne_sL3, pk_us, pk_un, pk_uLs, pk_uLn, mm_Z, mm_L, mm_1, mm_2, mm_3, ne_rz0, ne_rz1, not_true_eq_false, not_false_eq_true, ne_i0, ne_i1, ne_i2, ne_i3, ne_i4, ne_i5, ne_i6, ne_i7, ne_i8, ne_i9, ne_i10, ne_i12, ne_i14, ne_i16, ne_i18, ne_i19, ne_i20, ne_i23, ne_i24, ne_i27, ne_i29, ne_i30, ne_i31, ne_i32, ne_i35, ne_i48, ne_i52, ne_i54, ne_i57, ne_i59, ne_i63, ne_i64, ne_i76, ne_i77, ne_i78, ne_i79, ne_i80, ne_i81, ne_i97, ne_i99, ne_i100, ne_i101, ne_i104, ne_i105, ne_i108, ne_i110, ne_i111, ne_i116, ne_i117, ne_i122, ne_i103, ne_i200, ne_i255, ne_i256, ne_i320, ne_i384, ne_i1000, ne_l0, ne_l1, ne_l2, ne_l3, ne_l4, ne_l5, ne_l8, ne_l12, ne_l31, ne_l48, ne_l57, ne_l97, ne_l99, ne_l122, ne_l255, ne_l673, ne_l1073741823, ne_l1073741824, en2, e1, e2, e3, ne_cmp_eq, he, Bool.false_eq_true]
              · have hu2 : sp_ub a w (ac_ a) x (y + 1) = true := by rw [sp_ub, hu, hnmy, decide_eq_false he]; rfl
                refine ⟨S2, g2, ?_⟩
                rw [hu2, if_pos rfl]
                simp (disch := omega) only [sm_lt, sm_b1s, sm_b2s, ↓reduceIte, sm_in_nI, nI_clamp, nI_add, pk_mul, pk_sub, ne_addneg, nI_l, ne_ltT, ne_ltF, ne_leT, ne_leF, ne_eqT, ne_eqF, ne_sI1s, ne_sI1n, ne_sI2, ne_sI3, ne_sL1, ne_sL2s, ne_sL2n, ne_sL3, pk_us, pk_un, pk_uLs, pk_uLn, mm_Z, mm_L, mm_1, mm_2, mm_3, ne_rz0, ne_rz1, not_true_eq_false, not_false_eq_true, ne_i0, ne_i1, ne_i2, ne_i3, ne_i4, ne_i5, ne_i6, ne_i7, ne_i8, ne_i9, ne_i10, ne_i12, ne_i14, ne_i16, ne_i18, ne_i19, ne_i20, ne_i23, ne_i24, ne_i27, ne_i29, ne_i30, ne_i31, ne_i32, ne_i35, ne_i48, ne_i52, ne_i54, ne_i57, ne_i59, ne_i63, ne_i64, ne_i76, ne_i77, ne_i78, ne_i79, ne_i80, ne_i81, ne_i97, ne_i99, ne_i100, ne_i101, ne_i104, ne_i105, ne_i108, ne_i110, ne_i111, ne_i116, ne_i117, ne_i122, ne_i103, ne_i200, ne_i255, ne_i256, ne_i320, ne_i384, ne_i1000, ne_l0, ne_l1, ne_l2, ne_l3, ne_l4, ne_l5, ne_l8, ne_l12, ne_l31, ne_l48, ne_l57, ne_l97, ne_l99, ne_l122, ne_l255, ne_l673, ne_l1073741823, ne_l1073741824, en2, e1, e2, e3, ne_cmp_eq, he]
            · have en2 := np_numF (N := N) nwS k4 t4 hny (by omega)
              have hnmy : sp_nm a y = false := by unfold sp_nm; exact decide_eq_false hny
              have hu2 : sp_ub a w (ac_ a) x (y + 1) = true := by rw [sp_ub, hu, hnmy]; rfl
              refine ⟨s, hI, ?_⟩
              rw [hu2, if_pos rfl]
              simp (disch := omega) only [sm_lt, sm_b1s, sm_b2s, ↓reduceIte, sm_in_nI, nI_clamp, nI_add, pk_mul, pk_sub, ne_addneg, nI_l, ne_ltT, ne_ltF, ne_leT, ne_leF, ne_eqT, ne_eqF, ne_sI1s, ne_sI1n, ne_sI2, ne_sI3, ne_sL1, ne_sL2s, ne_sL2n, ne_sL3, pk_us, pk_un, pk_uLs, pk_uLn, mm_Z, mm_L, mm_1, mm_2, mm_3, ne_rz0, ne_rz1, not_true_eq_false, not_false_eq_true, ne_i0, ne_i1, ne_i2, ne_i3, ne_i4, ne_i5, ne_i6, ne_i7, ne_i8, ne_i9, ne_i10, ne_i12, ne_i14, ne_i16, ne_i18, ne_i19, ne_i20, ne_i23, ne_i24, ne_i27, ne_i29, ne_i30, ne_i31, ne_i32, ne_i35, ne_i48, ne_i52, ne_i54, ne_i57, ne_i59, ne_i63, ne_i64, ne_i76, ne_i77, ne_i78, ne_i79, ne_i80, ne_i81, ne_i97, ne_i99, ne_i100, ne_i101, ne_i104, ne_i105, ne_i108, ne_i110, ne_i111, ne_i116, ne_i117, ne_i122, ne_i103, ne_i200, ne_i255, ne_i256, ne_i320, ne_i384, ne_i1000, ne_l0, ne_l1, ne_l2, ne_l3, ne_l4, ne_l5, ne_l8, ne_l12, ne_l31, ne_l48, ne_l57, ne_l97, ne_l99, ne_l122, ne_l255, ne_l673, ne_l1073741823, ne_l1073741824, en2]
          · right
            have hu' : ¬ sp_ub a w (ac_ a) x x = true := fun e => hu ((sp_ub_iff y).mpr (fun z hz hnz => (sp_ub_iff x).mp e z (by omega) hnz))
            have hcn : sp_cn a w (ac_ a) (x + 1) = sp_cn a w (ac_ a) x + 0 := by
              rw [sp_cn, if_neg (by unfold sp_un; rw [hnm]; simpa using hu')]
            rw [if_neg hu, pm_colours_b23]
            unfold pm_colours_b80
            refine ⟨s, ?_, hI⟩
            simp (disch := omega) only [sm_lt, sm_b1s, sm_b2s, ↓reduceIte, sm_in_nI, nI_clamp, nI_add, pk_mul, pk_sub, ne_addneg, nI_l, ne_ltT, ne_ltF, ne_leT, ne_leF, ne_eqT, ne_eqF, ne_sI1s, ne_sI1n, ne_sI2, ne_sI3, ne_sL1, ne_sL2s, ne_sL2n, ne_sL3, pk_us, pk_un, pk_uLs, pk_uLn, mm_Z, mm_L, mm_1, mm_2, mm_3, ne_rz0, ne_rz1, not_true_eq_false, not_false_eq_true, ne_i0, ne_i1, ne_i2, ne_i3, ne_i4, ne_i5, ne_i6, ne_i7, ne_i8, ne_i9, ne_i10, ne_i12, ne_i14, ne_i16, ne_i18, ne_i19, ne_i20, ne_i23, ne_i24, ne_i27, ne_i29, ne_i30, ne_i31, ne_i32, ne_i35, ne_i48, ne_i52, ne_i54, ne_i57, ne_i59, ne_i63, ne_i64, ne_i76, ne_i77, ne_i78, ne_i79, ne_i80, ne_i81, ne_i97, ne_i99, ne_i100, ne_i101, ne_i104, ne_i105, ne_i108, ne_i110, ne_i111, ne_i116, ne_i117, ne_i122, ne_i103, ne_i200, ne_i255, ne_i256, ne_i320, ne_i384, ne_i1000, ne_l0, ne_l1, ne_l2, ne_l3, ne_l4, ne_l5, ne_l8, ne_l12, ne_l31, ne_l48, ne_l57, ne_l97, ne_l99, ne_l122, ne_l255, ne_l673, ne_l1073741823, ne_l1073741824, fin0, hcn]
        · intro f' s hI
          show ∃ S', pm_colours_b23 N _ (f' + 1) _ _ _ _ _ = _ ∧ _
          rw [pm_colours_b23]
          unfold pm_colours_b80
          by_cases hu : sp_ub a w (ac_ a) x x = true
          · have hcn : sp_cn a w (ac_ a) (x + 1) = sp_cn a w (ac_ a) x + 1 := by
              rw [sp_cn, if_pos (by unfold sp_un; rw [hnm, hu]; rfl)]
            rw [if_pos hu]
            refine ⟨s, ?_, hI⟩
            simp (disch := omega) only [sm_lt, sm_b1s, sm_b2s, ↓reduceIte, sm_in_nI, nI_clamp, nI_add, pk_mul, pk_sub, ne_addneg, nI_l, ne_ltT, ne_ltF, ne_leT, ne_leF, ne_eqT, ne_eqF, ne_sI1s, ne_sI1n, ne_sI2, ne_sI3, ne_sL1, ne_sL2s, ne_sL2n, ne_sL3, pk_us, pk_un, pk_uLs, pk_uLn, mm_Z, mm_L, mm_1, mm_2, mm_3, ne_rz0, ne_rz1, not_true_eq_false, not_false_eq_true, ne_i0, ne_i1, ne_i2, ne_i3, ne_i4, ne_i5, ne_i6, ne_i7, ne_i8, ne_i9, ne_i10, ne_i12, ne_i14, ne_i16, ne_i18, ne_i19, ne_i20, ne_i23, ne_i24, ne_i27, ne_i29, ne_i30, ne_i31, ne_i32, ne_i35, ne_i48, ne_i52, ne_i54, ne_i57, ne_i59, ne_i63, ne_i64, ne_i76, ne_i77, ne_i78, ne_i79, ne_i80, ne_i81, ne_i97, ne_i99, ne_i100, ne_i101, ne_i104, ne_i105, ne_i108, ne_i110, ne_i111, ne_i116, ne_i117, ne_i122, ne_i103, ne_i200, ne_i255, ne_i256, ne_i320, ne_i384, ne_i1000, ne_l0, ne_l1, ne_l2, ne_l3, ne_l4, ne_l5, ne_l8, ne_l12, ne_l31, ne_l48, ne_l57, ne_l97, ne_l99, ne_l122, ne_l255, ne_l673, ne_l1073741823, ne_l1073741824, fin1, hcn]
          · have hcn : sp_cn a w (ac_ a) (x + 1) = sp_cn a w (ac_ a) x + 0 := by
              rw [sp_cn, if_neg (by unfold sp_un; rw [hnm]; simpa using hu)]
            rw [if_neg hu]
            refine ⟨s, ?_, hI⟩
            simp (disch := omega) only [sm_lt, sm_b1s, sm_b2s, ↓reduceIte, sm_in_nI, nI_clamp, nI_add, pk_mul, pk_sub, ne_addneg, nI_l, ne_ltT, ne_ltF, ne_leT, ne_leF, ne_eqT, ne_eqF, ne_sI1s, ne_sI1n, ne_sI2, ne_sI3, ne_sL1, ne_sL2s, ne_sL2n, ne_sL3, pk_us, pk_un, pk_uLs, pk_uLn, mm_Z, mm_L, mm_1, mm_2, mm_3, ne_rz0, ne_rz1, not_true_eq_false, not_false_eq_true, ne_i0, ne_i1, ne_i2, ne_i3, ne_i4, ne_i5, ne_i6, ne_i7, ne_i8, ne_i9, ne_i10, ne_i12, ne_i14, ne_i16, ne_i18, ne_i19, ne_i20, ne_i23, ne_i24, ne_i27, ne_i29, ne_i30, ne_i31, ne_i32, ne_i35, ne_i48, ne_i52, ne_i54, ne_i57, ne_i59, ne_i63, ne_i64, ne_i76, ne_i77, ne_i78, ne_i79, ne_i80, ne_i81, ne_i97, ne_i99, ne_i100, ne_i101, ne_i104, ne_i105, ne_i108, ne_i110, ne_i111, ne_i116, ne_i117, ne_i122, ne_i103, ne_i200, ne_i255, ne_i256, ne_i320, ne_i384, ne_i1000, ne_l0, ne_l1, ne_l2, ne_l3, ne_l4, ne_l5, ne_l8, ne_l12, ne_l31, ne_l48, ne_l57, ne_l97, ne_l99, ne_l122, ne_l255, ne_l673, ne_l1073741823, ne_l1073741824, fin0, hcn]
      obtain ⟨S', e, hI'⟩ := inner
      refine ⟨(sp_cn a w (ac_ a) (x + 1), S'), ⟨rfl, hI'⟩, ?_⟩
      simp (disch := omega) only [sm_lt, sm_b1s, sm_b2s, ↓reduceIte, sm_in_nI, nI_clamp, nI_add, pk_mul, pk_sub, ne_addneg, nI_l, ne_ltT, ne_ltF, ne_leT, ne_leF, ne_eqT, ne_eqF, ne_sI1s, ne_sI1n, ne_sI2, ne_sI3, ne_sL1, ne_sL2s, ne_sL2n, ne_sL3, pk_us, pk_un, pk_uLs, pk_uLn, mm_Z, mm_L, mm_1, mm_2, mm_3, ne_rz0, ne_rz1, not_true_eq_false, not_false_eq_true, ne_i0, ne_i1, ne_i2, ne_i3, ne_i4, ne_i5, ne_i6, ne_i7, ne_i8, ne_i9, ne_i10, ne_i12, ne_i14, ne_i16, ne_i18, ne_i19, ne_i20, ne_i23, ne_i24, ne_i27, ne_i29, ne_i30, ne_i31, ne_i32, ne_i35, ne_i48, ne_i52, ne_i54, ne_i57, ne_i59, ne_i63, ne_i64, ne_i76, ne_i77, ne_i78, ne_i79, ne_i80, ne_i81, ne_i97, ne_i99, ne_i100, ne_i101, ne_i104, ne_i105, ne_i108, ne_i110, ne_i111, ne_i116, ne_i117, ne_i122, ne_i103, ne_i200, ne_i255, ne_i256, ne_i320, ne_i384, ne_i1000, ne_l0, ne_l1, ne_l2, ne_l3, ne_l4, ne_l5, ne_l8, ne_l12, ne_l31, ne_l48, ne_l57, ne_l97, ne_l99, ne_l122, ne_l255, ne_l673, ne_l1073741823, ne_l1073741824, en]
      exact e
    · have en := np_numF (N := N) nwS k4 t4 hn (by omega)
      have hnm : sp_nm a x = false := by unfold sp_nm; exact decide_eq_false hn
      have hcn : sp_cn a w (ac_ a) (x + 1) = sp_cn a w (ac_ a) x + 0 := by
        rw [sp_cn, if_neg (by unfold sp_un; rw [hnm]; simp)]
      refine ⟨(sp_cn a w (ac_ a) (x + 1), s), ⟨rfl, i2⟩, ?_⟩
      obtain ⟨N', rfl⟩ : ∃ m, N = m + 1 := ⟨N - 1, by omega⟩
      simp (disch := omega) only [sm_lt, sm_b1s, sm_b2s, ↓reduceIte, sm_in_nI, nI_clamp, nI_add, pk_mul, pk_sub, ne_addneg, nI_l, ne_ltT, ne_ltF, ne_leT, ne_leF, ne_eqT, ne_eqF, ne_sI1s, ne_sI1n, ne_sI2, ne_sI3, ne_sL1, ne_sL2s, ne_sL2n, ne_sL3, pk_us, pk_un, pk_uLs, pk_uLn, mm_Z, mm_L, mm_1, mm_2, mm_3, ne_rz0, ne_rz1, not_true_eq_false, not_false_eq_true, ne_i0, ne_i1, ne_i2, ne_i3, ne_i4, ne_i5, ne_i6, ne_i7, ne_i8, ne_i9, ne_i10, ne_i12, ne_i14, ne_i16, ne_i18, ne_i19, ne_i20, ne_i23, ne_i24, ne_i27, ne_i29, ne_i30, ne_i31, ne_i32, ne_i35, ne_i48, ne_i52, ne_i54, ne_i57, ne_i59, ne_i63, ne_i64, ne_i76, ne_i77, ne_i78, ne_i79, ne_i80, ne_i81, ne_i97, ne_i99, ne_i100, ne_i101, ne_i104, ne_i105, ne_i108, ne_i110, ne_i111, ne_i116, ne_i117, ne_i122, ne_i103, ne_i200, ne_i255, ne_i256, ne_i320, ne_i384, ne_i1000, ne_l0, ne_l1, ne_l2, ne_l3, ne_l4, ne_l5, ne_l8, ne_l12, ne_l31, ne_l48, ne_l57, ne_l97, ne_l99, ne_l122, ne_l255, ne_l673, ne_l1073741823, ne_l1073741824, en]
      rw [pm_colours_b23]
      unfold pm_colours_b80
      by_cases h0 : x = 0
      · subst h0
        simp (disch := omega) only [sm_lt, sm_b1s, sm_b2s, ↓reduceIte, sm_in_nI, nI_clamp, nI_add, pk_mul, pk_sub, ne_addneg, nI_l, ne_ltT, ne_ltF, ne_leT, ne_leF, ne_eqT, ne_eqF, ne_sI1s, ne_sI1n, ne_sI2, ne_sI3, ne_sL1, ne_sL2s, ne_sL2n, ne_sL3, pk_us, pk_un, pk_uLs, pk_uLn, mm_Z, mm_L, mm_1, mm_2, mm_3, ne_rz0, ne_rz1, not_true_eq_false, not_false_eq_true, ne_i0, ne_i1, ne_i2, ne_i3, ne_i4, ne_i5, ne_i6, ne_i7, ne_i8, ne_i9, ne_i10, ne_i12, ne_i14, ne_i16, ne_i18, ne_i19, ne_i20, ne_i23, ne_i24, ne_i27, ne_i29, ne_i30, ne_i31, ne_i32, ne_i35, ne_i48, ne_i52, ne_i54, ne_i57, ne_i59, ne_i63, ne_i64, ne_i76, ne_i77, ne_i78, ne_i79, ne_i80, ne_i81, ne_i97, ne_i99, ne_i100, ne_i101, ne_i104, ne_i105, ne_i108, ne_i110, ne_i111, ne_i116, ne_i117, ne_i122, ne_i103, ne_i200, ne_i255, ne_i256, ne_i320, ne_i384, ne_i1000, ne_l0, ne_l1, ne_l2, ne_l3, ne_l4, ne_l5, ne_l8, ne_l12, ne_l31, ne_l48, ne_l57, ne_l97, ne_l99, ne_l122, ne_l255, ne_l673, ne_l1073741823, ne_l1073741824, fin0, hcn]
      · simp (disch := omega) only [sm_lt, sm_b1s, sm_b2s, ↓reduceIte, sm_in_nI, nI_clamp, nI_add, pk_mul, pk_sub, ne_addneg, nI_l, ne_ltT, ne_ltF, ne_leT, ne_leF, ne_eqT, ne_eqF, ne_sI1s, ne_sI1n, ne_sI2, ne_sI3, ne_sL1, ne_sL2s, ne_sL2n, ne_sL3, pk_us, pk_un, pk_uLs, pk_uLn, mm_Z, mm_L, mm_1, mm_2, mm_3, ne_rz0, ne_rz1, not_true_eq_false, not_false_eq_true, ne_i0, ne_i1, ne_i2, ne_i3, ne_i4, ne_i5, ne_i6, ne_i7, ne_i8, ne_i9, ne_i10, ne_i12, ne_i14, ne_i16, ne_i18, ne_i19, ne_i20, ne_i23, ne_i24, ne_i27, ne_i29, ne_i30, ne_i31, ne_i32, ne_i35, ne_i48, ne_i52, ne_i54, ne_i57, ne_i59, ne_i63, ne_i64, ne_i76, ne_i77, ne_i78, ne_i79, ne_i80, ne_i81, ne_i97, ne_i99, ne_i100, ne_i101, ne_i104, ne_i105, ne_i108, ne_i110, ne_i111, ne_i116, ne_i117, ne_i122, ne_i103, ne_i200, ne_i255, ne_i256, ne_i320, ne_i384, ne_i1000, ne_l0, ne_l1, ne_l2, ne_l3, ne_l4, ne_l5, ne_l8, ne_l12, ne_l31, ne_l48, ne_l57, ne_l97, ne_l99, ne_l122, ne_l255, ne_l673, ne_l1073741823, ne_l1073741824, fin0, hcn]
  · rintro f ⟨c, s⟩ ⟨i1, i2⟩
    simp only at i1 i2
    subst i1
    show ∃ S', pm_colours_b8 N (f + 1) _ _ _ = _ ∧ _
    rw [pm_colours_b8]
    simp (disch := omega) only [sm_lt, sm_b1s, sm_b2s, ↓reduceIte, sm_in_nI, nI_clamp, nI_add, pk_mul, pk_sub, ne_addneg, nI_l, ne_ltT, ne_ltF, ne_leT, ne_leF, ne_eqT, ne_eqF, ne_sI1s, ne_sI1n, ne_sI2, ne_sI3, ne_sL1, ne_sL2s, ne_sL2n, ne_sL3, pk_us, pk_un, pk_uLs, pk_uLn, mm_Z, mm_L, mm_1, mm_2, mm_3, ne_rz0, ne_rz1, not_true_eq_false, not_false_eq_true, ne_i0, ne_i1, ne_i2, ne_i3, ne_i4, ne_i5, ne_i6, ne_i7, ne_i8, ne_i9, ne_i10, ne_i12, ne_i14, ne_i16, ne_i18, ne_i19, ne_i20, ne_i23, ne_i24, ne_i27, ne_i29, ne_i30, ne_i31, ne_i32, ne_i35, ne_i48, ne_i52, ne_i54, ne_i57, ne_i59, ne_i63, ne_i64, ne_i76, ne_i77, ne_i78, ne_i79, ne_i80, ne_i81, ne_i97, ne_i99, ne_i100, ne_i101, ne_i104, ne_i105, ne_i108, ne_i110, ne_i111, ne_i116, ne_i117, ne_i122, ne_i103, ne_i200, ne_i255, ne_i256, ne_i320, ne_i384, ne_i1000, ne_l0, ne_l1, ne_l2, ne_l3, ne_l4, ne_l5, ne_l8, ne_l12, ne_l31, ne_l48, ne_l57, ne_l97, ne_l99, ne_l122, ne_l255, ne_l673, ne_l1073741823, ne_l1073741824]
    exact ⟨s, rfl, i2⟩
/-- the built side's: cloths first, then things -/
theorem xq_newS {w : Nat → Nat} {i : Nat} (hN : 4000 ≤ N) (hx : xsh X 12 (a 76) w) (hk : a 76 ≤ 4) (hi : i < a 76) : px_L_isNewShade N X (nI i) = some (nI (if sp_un a w (ac_ a) i = true then 1 else 0), X) := by
  have hnm : sp_nm a i = true := by unfold sp_nm; exact decide_eq_true (Or.inl hi)
  have hun : sp_un a w (ac_ a) i = sp_ub a w (ac_ a) i i := by unfold sp_un; rw [hnm]; rfl
  rw [hun]
  unfold px_L_isNewShade
  simp (disch := omega) only [sm_lt, sm_b1s, sm_b2s, ↓reduceIte, sm_in_nI, nI_clamp, nI_add, pk_mul, pk_sub, ne_addneg, nI_l, ne_ltT, ne_ltF, ne_leT, ne_leF, ne_eqT, ne_eqF, ne_sI1s, ne_sI1n, ne_sI2, ne_sI3, ne_sL1, ne_sL2s, ne_sL2n, ne_sL3, pk_us, pk_un, pk_uLs, pk_uLn, mm_Z, mm_L, mm_1, mm_2, mm_3, ne_rz0, ne_rz1, not_true_eq_false, not_false_eq_true, ne_i0, ne_i1, ne_i2, ne_i3, ne_i4, ne_i5, ne_i6, ne_i7, ne_i8, ne_i9, ne_i10, ne_i12, ne_i14, ne_i16, ne_i18, ne_i19, ne_i20, ne_i23, ne_i24, ne_i27, ne_i29, ne_i30, ne_i31, ne_i32, ne_i35, ne_i48, ne_i52, ne_i54, ne_i57, ne_i59, ne_i63, ne_i64, ne_i76, ne_i77, ne_i78, ne_i79, ne_i80, ne_i81, ne_i97, ne_i99, ne_i100, ne_i101, ne_i104, ne_i105, ne_i108, ne_i110, ne_i111, ne_i116, ne_i117, ne_i122, ne_i103, ne_i200, ne_i255, ne_i256, ne_i320, ne_i384, ne_i1000, ne_l0, ne_l1, ne_l2, ne_l3, ne_l4, ne_l5, ne_l8, ne_l12, ne_l31, ne_l48, ne_l57, ne_l97, ne_l99, ne_l122, ne_l255, ne_l673, ne_l1073741823, ne_l1073741824]
  refine ne_loop (fun f j (_ : Unit) => px_L_isNewShade_b2 N f (nI i) (nI j) X) (fun j _ => sp_ub a w (ac_ a) i j = true) i (fun r => r = some (nI (if sp_ub a w (ac_ a) i i = true then 1 else 0), X)) ?_ ?_ N 0 () (by omega) (by omega) rfl
  · intro f j _ hj hI
    have ec := xsh_compare (N := N) (t := 1) hN hx hk (Or.inl hi) (Or.inl (show j < a 76 by omega)) (by omega)
    rw [Nat.mul_one] at ec
    have vi : sp_val w (ac_ a) i = w i := if_pos (by omega)
    have vj : sp_val w (ac_ a) j = w j := if_pos (by omega)
    have hnmj : sp_nm a j = true := by unfold sp_nm; exact decide_eq_true (Or.inl (by omega))
    by_cases he : w i = w j
    · right
      have hu : ¬ sp_ub a w (ac_ a) i i = true := fun e => (sp_ub_iff i).mp e j hj (Or.inl (by omega)) (by rw [vi, vj]; exact he)
      show px_L_isNewShade_b2 N (f + 1) _ _ _ = _
      rw [if_neg hu, px_L_isNewShade_b2]
      simp (disch := omega) only [sm_lt, sm_b1s, sm_b2s, ↓reduceIte, sm_in_nI, nI_clamp, nI_add, pk_mul, pk_sub, ne_addneg, nI_l, ne_ltT, ne_ltF, ne_leT, ne_leF, ne_eqT, ne_eqF, ne_sI1s, ne_sI1n, ne_sI2, ne_sI3, ne_sL1, ne_sL2s, ne_sL2n, ne_sL3, pk_us, pk_un, pk_uLs, pk_uLn, mm_Z, mm_L, mm_1, mm_2, mm_3, ne_rz0, ne_rz1, not_true_eq_false, not_false_eq_true, ne_i0, ne_i1, ne_i2, ne_i3, ne_i4, ne_i5, ne_i6, ne_i7, ne_i8, ne_i9, ne_i10, ne_i12, ne_i14, ne_i16, ne_i18, ne_i19, ne_i20, ne_i23, ne_i24, ne_i27, ne_i29, ne_i30, ne_i31, ne_i32, ne_i35, ne_i48, ne_i52, ne_i54, ne_i57, ne_i59, ne_i63, ne_i64, ne_i76, ne_i77, ne_i78, ne_i79, ne_i80, ne_i81, ne_i97, ne_i99, ne_i100, ne_i101, ne_i104, ne_i105, ne_i108, ne_i110, ne_i111, ne_i116, ne_i117, ne_i122, ne_i103, ne_i200, ne_i255, ne_i256, ne_i320, ne_i384, ne_i1000, ne_l0, ne_l1, ne_l2, ne_l3, ne_l4, ne_l5, ne_l8, ne_l12, ne_l31, ne_l48, ne_l57, ne_l97, ne_l99, ne_l122, ne_l255, ne_l673, ne_l1073741823, ne_l1073741824, ec, ne_cmp_eq, he]
    · left
      refine ⟨(), ?_, ?_⟩
      · rw [sp_ub, hI, hnmj, vi, vj, decide_eq_false he]; rfl
      · show px_L_isNewShade_b2 N (f + 1) _ _ _ = _
        rw [px_L_isNewShade_b2]
        simp (disch := omega) only [sm_lt, sm_b1s, sm_b2s, ↓reduceIte, sm_in_nI, nI_clamp, nI_add, pk_mul, pk_sub, ne_addneg, nI_l, ne_ltT, ne_ltF, ne_leT, ne_leF, ne_eqT, ne_eqF, ne_sI1s, ne_sI1n, ne_sI2, ne_sI3, ne_sL1, ne_sL2s, ne_sL2n, ne_sL3, pk_us, pk_un, pk_uLs, pk_uLn, mm_Z, mm_L, mm_1, mm_2, mm_3, ne_rz0, ne_rz1, not_true_eq_false, not_false_eq_true, ne_i0, ne_i1, ne_i2, ne_i3, ne_i4, ne_i5, ne_i6, ne_i7, ne_i8, ne_i9, ne_i10, ne_i12, ne_i14, ne_i16, ne_i18, ne_i19, ne_i20, ne_i23, ne_i24, ne_i27, ne_i29, ne_i30, ne_i31, ne_i32, ne_i35, ne_i48, ne_i52, ne_i54, ne_i57, ne_i59, ne_i63, ne_i64, ne_i76, ne_i77, ne_i78, ne_i79, ne_i80, ne_i81, ne_i97, ne_i99, ne_i100, ne_i101, ne_i104, ne_i105, ne_i108, ne_i110, ne_i111, ne_i116, ne_i117, ne_i122, ne_i103, ne_i200, ne_i255, ne_i256, ne_i320, ne_i384, ne_i1000, ne_l0, ne_l1, ne_l2, ne_l3, ne_l4, ne_l5, ne_l8, ne_l12, ne_l31, ne_l48, ne_l57, ne_l97, ne_l99, ne_l122, ne_l255, ne_l673, ne_l1073741823, ne_l1073741824, ec, ne_cmp_eq, he]
  · intro f _ hI
    show px_L_isNewShade_b2 N (f + 1) _ _ _ = _
    rw [if_pos hI, px_L_isNewShade_b2]
    simp (disch := omega) only [sm_lt, sm_b1s, sm_b2s, ↓reduceIte, sm_in_nI, nI_clamp, nI_add, pk_mul, pk_sub, ne_addneg, nI_l, ne_ltT, ne_ltF, ne_leT, ne_leF, ne_eqT, ne_eqF, ne_sI1s, ne_sI1n, ne_sI2, ne_sI3, ne_sL1, ne_sL2s, ne_sL2n, ne_sL3, pk_us, pk_un, pk_uLs, pk_uLn, mm_Z, mm_L, mm_1, mm_2, mm_3, ne_rz0, ne_rz1, not_true_eq_false, not_false_eq_true, ne_i0, ne_i1, ne_i2, ne_i3, ne_i4, ne_i5, ne_i6, ne_i7, ne_i8, ne_i9, ne_i10, ne_i12, ne_i14, ne_i16, ne_i18, ne_i19, ne_i20, ne_i23, ne_i24, ne_i27, ne_i29, ne_i30, ne_i31, ne_i32, ne_i35, ne_i48, ne_i52, ne_i54, ne_i57, ne_i59, ne_i63, ne_i64, ne_i76, ne_i77, ne_i78, ne_i79, ne_i80, ne_i81, ne_i97, ne_i99, ne_i100, ne_i101, ne_i104, ne_i105, ne_i108, ne_i110, ne_i111, ne_i116, ne_i117, ne_i122, ne_i103, ne_i200, ne_i255, ne_i256, ne_i320, ne_i384, ne_i1000, ne_l0, ne_l1, ne_l2, ne_l3, ne_l4, ne_l5, ne_l8, ne_l12, ne_l31, ne_l48, ne_l57, ne_l97, ne_l99, ne_l122, ne_l255, ne_l673, ne_l1073741823, ne_l1073741824]
theorem sp_val_t {w co : Nat → Nat} {t : Nat} : sp_val w co (4 + t) = w 4 * co t := by
  unfold sp_val
  rw [if_neg (by omega), show 4 + t - 4 = t by omega]
theorem xq_newC {w : Nat → Nat} {t : Nat} (hN : 4000 ≤ N) (hs : sc a (at_ a) (ac_ a)) (hx : xsh X 12 (a 76) w) (h0 : 0 < w 4) (h9 : X.1 1 9 = nI (a 76)) (hc : ∀ t, t < a 77 → X.1 6 t = nI (a (48 + t))) (ht : t < a 77) : px_L_isNewColour N X (nI t) = some (nI (if sp_un a w (ac_ a) (4 + t) = true then 1 else 0), X) := by
  have k4 := hs.1
  have t4 := hs.2.1
  have c12 := fun i hi => hs.2.2.2.2 i hi
  have hnm : sp_nm a (4 + t) = true := by unfold sp_nm; exact decide_eq_true (Or.inr (by omega))
  have hun : sp_un a w (ac_ a) (4 + t) = sp_ub a w (ac_ a) (4 + t) (4 + t) := by unfold sp_un; rw [hnm]; rfl
  rw [hun]
  have vt : ∀ u, sp_val w (ac_ a) (4 + u) = w 4 * a (48 + u) := fun u => sp_val_t
  have et := hc t ht
  have ct : a (48 + t) ≤ 12 := c12 t ht
  -- cloths
  have p2 : (∀ u, u < t → a (48 + u) ≠ a (48 + t)) → px_L_isNewColour_b38 N N (nI t) (nI 0) X = some (nI (if sp_ub a w (ac_ a) (4 + t) (4 + t) = true then 1 else 0), X) := by
    intro hu
    refine ne_loop (fun f j (_ : Unit) => px_L_isNewColour_b38 N f (nI t) (nI j) X) (fun j _ => ∀ i, i < j → w i ≠ w 4 * a (48 + t)) (a 76) (fun r => r = some (nI (if sp_ub a w (ac_ a) (4 + t) (4 + t) = true then 1 else 0), X)) ?_ ?_ N 0 () (by omega) (by omega) (fun i hi => by omega)
    · intro f j _ hj hI
      have ec := xsh_compare (N := N) (t := a (48 + t)) hN hx k4 (Or.inl hj) (Or.inr rfl) ct
      have vj : sp_val w (ac_ a) j = w j := if_pos (by omega)
      by_cases he : w j = w 4 * a (48 + t)
      · right
        have hub : ¬ sp_ub a w (ac_ a) (4 + t) (4 + t) = true := fun e => (sp_ub_iff _).mp e j (by omega) (Or.inl hj) (by rw [vt, vj]; exact he.symm)
        show px_L_isNewColour_b38 N (f + 1) _ _ _ = _
        rw [if_neg hub, px_L_isNewColour_b38]
        simp (disch := omega) only [sm_lt, sm_b1s, sm_b2s, ↓reduceIte, sm_in_nI, nI_clamp, nI_add, pk_mul, pk_sub, ne_addneg, nI_l, ne_ltT, ne_ltF, ne_leT, ne_leF, ne_eqT, ne_eqF, ne_sI1s, ne_sI1n, ne_sI2, ne_sI3, ne_sL1, ne_sL2s, ne_sL2n, ne_sL3, pk_us, pk_un, pk_uLs, pk_uLn, mm_Z, mm_L, mm_1, mm_2, mm_3, ne_rz0, ne_rz1, not_true_eq_false, not_false_eq_true, ne_i0, ne_i1, ne_i2, ne_i3, ne_i4, ne_i5, ne_i6, ne_i7, ne_i8, ne_i9, ne_i10, ne_i12, ne_i14, ne_i16, ne_i18, ne_i19, ne_i20, ne_i23, ne_i24, ne_i27, ne_i29, ne_i30, ne_i31, ne_i32, ne_i35, ne_i48, ne_i52, ne_i54, ne_i57, ne_i59, ne_i63, ne_i64, ne_i76, ne_i77, ne_i78, ne_i79, ne_i80, ne_i81, ne_i97, ne_i99, ne_i100, ne_i101, ne_i104, ne_i105, ne_i108, ne_i110, ne_i111, ne_i116, ne_i117, ne_i122, ne_i103, ne_i200, ne_i255, ne_i256, ne_i320, ne_i384, ne_i1000, ne_l0, ne_l1, ne_l2, ne_l3, ne_l4, ne_l5, ne_l8, ne_l12, ne_l31, ne_l48, ne_l57, ne_l97, ne_l99, ne_l122, ne_l255, ne_l673, ne_l1073741823, ne_l1073741824, h9, et, ec, ne_cmp_eq, he]
      · left
        refine ⟨(), fun i hi => ?_, ?_⟩
        · by_cases q : i = j
          · rw [q]; exact he
          · exact hI i (by omega)
        · show px_L_isNewColour_b38 N (f + 1) _ _ _ = _
          rw [px_L_isNewColour_b38]
          simp (disch := omega) only [sm_lt, sm_b1s, sm_b2s, ↓reduceIte, sm_in_nI, nI_clamp, nI_add, pk_mul, pk_sub, ne_addneg, nI_l, ne_ltT, ne_ltF, ne_leT, ne_leF, ne_eqT, ne_eqF, ne_sI1s, ne_sI1n, ne_sI2, ne_sI3, ne_sL1, ne_sL2s, ne_sL2n, ne_sL3, pk_us, pk_un, pk_uLs, pk_uLn, mm_Z, mm_L, mm_1, mm_2, mm_3, ne_rz0, ne_rz1, not_true_eq_false, not_false_eq_true, ne_i0, ne_i1, ne_i2, ne_i3, ne_i4, ne_i5, ne_i6, ne_i7, ne_i8, ne_i9, ne_i10, ne_i12, ne_i14, ne_i16, ne_i18, ne_i19, ne_i20, ne_i23, ne_i24, ne_i27, ne_i29, ne_i30, ne_i31, ne_i32, ne_i35, ne_i48, ne_i52, ne_i54, ne_i57, ne_i59, ne_i63, ne_i64, ne_i76, ne_i77, ne_i78, ne_i79, ne_i80, ne_i81, ne_i97, ne_i99, ne_i100, ne_i101, ne_i104, ne_i105, ne_i108, ne_i110, ne_i111, ne_i116, ne_i117, ne_i122, ne_i103, ne_i200, ne_i255, ne_i256, ne_i320, ne_i384, ne_i1000, ne_l0, ne_l1, ne_l2, ne_l3, ne_l4, ne_l5, ne_l8, ne_l12, ne_l31, ne_l48, ne_l57, ne_l97, ne_l99, ne_l122, ne_l255, ne_l673, ne_l1073741823, ne_l1073741824, h9, et, ec, ne_cmp_eq, he]
    · intro f _ hI
      have hub : sp_ub a w (ac_ a) (4 + t) (4 + t) = true := (sp_ub_iff _).mpr (fun y hy hny => by
        rw [vt]
        by_cases h4 : y < 4
        · have vy : sp_val w (ac_ a) y = w y := if_pos h4
          rw [vy]
          exact fun e => hI y (by omega) e.symm
        · obtain ⟨u, rfl⟩ : ∃ u, y = 4 + u := ⟨y - 4, by omega⟩
          rw [vt]
          exact fun e => hu u (by omega) (Nat.eq_of_mul_eq_mul_left h0 e).symm)
      show px_L_isNewColour_b38 N (f + 1) _ _ _ = _
      rw [if_pos hub, px_L_isNewColour_b38]
      simp (disch := omega) only [sm_lt, sm_b1s, sm_b2s, ↓reduceIte, sm_in_nI, nI_clamp, nI_add, pk_mul, pk_sub, ne_addneg, nI_l, ne_ltT, ne_ltF, ne_leT, ne_leF, ne_eqT, ne_eqF, ne_sI1s, ne_sI1n, ne_sI2, ne_sI3, ne_sL1, ne_sL2s, ne_sL2n, ne_sL3, pk_us, pk_un, pk_uLs, pk_uLn, mm_Z, mm_L, mm_1, mm_2, mm_3, ne_rz0, ne_rz1, not_true_eq_false, not_false_eq_true, ne_i0, ne_i1, ne_i2, ne_i3, ne_i4, ne_i5, ne_i6, ne_i7, ne_i8, ne_i9, ne_i10, ne_i12, ne_i14, ne_i16, ne_i18, ne_i19, ne_i20, ne_i23, ne_i24, ne_i27, ne_i29, ne_i30, ne_i31, ne_i32, ne_i35, ne_i48, ne_i52, ne_i54, ne_i57, ne_i59, ne_i63, ne_i64, ne_i76, ne_i77, ne_i78, ne_i79, ne_i80, ne_i81, ne_i97, ne_i99, ne_i100, ne_i101, ne_i104, ne_i105, ne_i108, ne_i110, ne_i111, ne_i116, ne_i117, ne_i122, ne_i103, ne_i200, ne_i255, ne_i256, ne_i320, ne_i384, ne_i1000, ne_l0, ne_l1, ne_l2, ne_l3, ne_l4, ne_l5, ne_l8, ne_l12, ne_l31, ne_l48, ne_l57, ne_l97, ne_l99, ne_l122, ne_l255, ne_l673, ne_l1073741823, ne_l1073741824, h9]
  unfold px_L_isNewColour
  simp (disch := omega) only [sm_lt, sm_b1s, sm_b2s, ↓reduceIte, sm_in_nI, nI_clamp, nI_add, pk_mul, pk_sub, ne_addneg, nI_l, ne_ltT, ne_ltF, ne_leT, ne_leF, ne_eqT, ne_eqF, ne_sI1s, ne_sI1n, ne_sI2, ne_sI3, ne_sL1, ne_sL2s, ne_sL2n, ne_sL3, pk_us, pk_un, pk_uLs, pk_uLn, mm_Z, mm_L, mm_1, mm_2, mm_3, ne_rz0, ne_rz1, not_true_eq_false, not_false_eq_true, ne_i0, ne_i1, ne_i2, ne_i3, ne_i4, ne_i5, ne_i6, ne_i7, ne_i8, ne_i9, ne_i10, ne_i12, ne_i14, ne_i16, ne_i18, ne_i19, ne_i20, ne_i23, ne_i24, ne_i27, ne_i29, ne_i30, ne_i31, ne_i32, ne_i35, ne_i48, ne_i52, ne_i54, ne_i57, ne_i59, ne_i63, ne_i64, ne_i76, ne_i77, ne_i78, ne_i79, ne_i80, ne_i81, ne_i97, ne_i99, ne_i100, ne_i101, ne_i104, ne_i105, ne_i108, ne_i110, ne_i111, ne_i116, ne_i117, ne_i122, ne_i103, ne_i200, ne_i255, ne_i256, ne_i320, ne_i384, ne_i1000, ne_l0, ne_l1, ne_l2, ne_l3, ne_l4, ne_l5, ne_l8, ne_l12, ne_l31, ne_l48, ne_l57, ne_l97, ne_l99, ne_l122, ne_l255, ne_l673, ne_l1073741823, ne_l1073741824]
  refine ne_loop (fun f j (_ : Unit) => px_L_isNewColour_b2 N f (nI t) (nI j) X) (fun j _ => ∀ u, u < j → a (48 + u) ≠ a (48 + t)) t (fun r => r = some (nI (if sp_ub a w (ac_ a) (4 + t) (4 + t) = true then 1 else 0), X)) ?_ ?_ N 0 () (by omega) (by omega) (fun u hu => by omega)
  · intro f j _ hj hI
    have ej := hc j (by omega)
    have cj : a (48 + j) ≤ 12 := c12 j (by omega)
    by_cases he : a (48 + j) = a (48 + t)
    · right
      have hub : ¬ sp_ub a w (ac_ a) (4 + t) (4 + t) = true := fun e => (sp_ub_iff _).mp e (4 + j) (by omega) (Or.inr (by omega)) (by rw [vt, vt, he])
      show px_L_isNewColour_b2 N (f + 1) _ _ _ = _
      rw [if_neg hub, px_L_isNewColour_b2]
      simp (disch := omega) only [sm_lt, sm_b1s, sm_b2s, ↓reduceIte, sm_in_nI, nI_clamp, nI_add, pk_mul, pk_sub, ne_addneg, nI_l, ne_ltT, ne_ltF, ne_leT, ne_leF, ne_eqT, ne_eqF, ne_sI1s, ne_sI1n, ne_sI2, ne_sI3, ne_sL1, ne_sL2s, ne_sL2n, ne_sL3, pk_us, pk_un, pk_uLs, pk_uLn, mm_Z, mm_L, mm_1, mm_2, mm_3, ne_rz0, ne_rz1, not_true_eq_false, not_false_eq_true, ne_i0, ne_i1, ne_i2, ne_i3, ne_i4, ne_i5, ne_i6, ne_i7, ne_i8, ne_i9, ne_i10, ne_i12, ne_i14, ne_i16, ne_i18, ne_i19, ne_i20, ne_i23, ne_i24, ne_i27, ne_i29, ne_i30, ne_i31, ne_i32, ne_i35, ne_i48, ne_i52, ne_i54, ne_i57, ne_i59, ne_i63, ne_i64, ne_i76, ne_i77, ne_i78, ne_i79, ne_i80, ne_i81, ne_i97, ne_i99, ne_i100, ne_i101, ne_i104, ne_i105, ne_i108, ne_i110, ne_i111, ne_i116, ne_i117, ne_i122, ne_i103, ne_i200, ne_i255, ne_i256, ne_i320, ne_i384, ne_i1000, ne_l0, ne_l1, ne_l2, ne_l3, ne_l4, ne_l5, ne_l8, ne_l12, ne_l31, ne_l48, ne_l57, ne_l97, ne_l99, ne_l122, ne_l255, ne_l673, ne_l1073741823, ne_l1073741824, ej, et]
    · left
      refine ⟨(), fun u hu => ?_, ?_⟩
      · by_cases q : u = j
        · rw [q]; exact he
        · exact hI u (by omega)
      · show px_L_isNewColour_b2 N (f + 1) _ _ _ = _
        rw [px_L_isNewColour_b2]
        simp (disch := omega) only [sm_lt, sm_b1s, sm_b2s, ↓reduceIte, sm_in_nI, nI_clamp, nI_add, pk_mul, pk_sub, ne_addneg, nI_l, ne_ltT, ne_ltF, ne_leT, ne_leF, ne_eqT, ne_eqF, ne_sI1s, ne_sI1n, ne_sI2, ne_sI3, ne_sL1, ne_sL2s, ne_sL2n, ne_sL3, pk_us, pk_un, pk_uLs, pk_uLn, mm_Z, mm_L, mm_1, mm_2, mm_3, ne_rz0, ne_rz1, not_true_eq_false, not_false_eq_true, ne_i0, ne_i1, ne_i2, ne_i3, ne_i4, ne_i5, ne_i6, ne_i7, ne_i8, ne_i9, ne_i10, ne_i12, ne_i14, ne_i16, ne_i18, ne_i19, ne_i20, ne_i23, ne_i24, ne_i27, ne_i29, ne_i30, ne_i31, ne_i32, ne_i35, ne_i48, ne_i52, ne_i54, ne_i57, ne_i59, ne_i63, ne_i64, ne_i76, ne_i77, ne_i78, ne_i79, ne_i80, ne_i81, ne_i97, ne_i99, ne_i100, ne_i101, ne_i104, ne_i105, ne_i108, ne_i110, ne_i111, ne_i116, ne_i117, ne_i122, ne_i103, ne_i200, ne_i255, ne_i256, ne_i320, ne_i384, ne_i1000, ne_l0, ne_l1, ne_l2, ne_l3, ne_l4, ne_l5, ne_l8, ne_l12, ne_l31, ne_l48, ne_l57, ne_l97, ne_l99, ne_l122, ne_l255, ne_l673, ne_l1073741823, ne_l1073741824, ej, et]
  · intro f _ hI
    show px_L_isNewColour_b2 N (f + 1) _ _ _ = _
    rw [px_L_isNewColour_b2]
    simp (disch := omega) only [sm_lt, sm_b1s, sm_b2s, ↓reduceIte, sm_in_nI, nI_clamp, nI_add, pk_mul, pk_sub, ne_addneg, nI_l, ne_ltT, ne_ltF, ne_leT, ne_leF, ne_eqT, ne_eqF, ne_sI1s, ne_sI1n, ne_sI2, ne_sI3, ne_sL1, ne_sL2s, ne_sL2n, ne_sL3, pk_us, pk_un, pk_uLs, pk_uLn, mm_Z, mm_L, mm_1, mm_2, mm_3, ne_rz0, ne_rz1, not_true_eq_false, not_false_eq_true, ne_i0, ne_i1, ne_i2, ne_i3, ne_i4, ne_i5, ne_i6, ne_i7, ne_i8, ne_i9, ne_i10, ne_i12, ne_i14, ne_i16, ne_i18, ne_i19, ne_i20, ne_i23, ne_i24, ne_i27, ne_i29, ne_i30, ne_i31, ne_i32, ne_i35, ne_i48, ne_i52, ne_i54, ne_i57, ne_i59, ne_i63, ne_i64, ne_i76, ne_i77, ne_i78, ne_i79, ne_i80, ne_i81, ne_i97, ne_i99, ne_i100, ne_i101, ne_i104, ne_i105, ne_i108, ne_i110, ne_i111, ne_i116, ne_i117, ne_i122, ne_i103, ne_i200, ne_i255, ne_i256, ne_i320, ne_i384, ne_i1000, ne_l0, ne_l1, ne_l2, ne_l3, ne_l4, ne_l5, ne_l8, ne_l12, ne_l31, ne_l48, ne_l57, ne_l97, ne_l99, ne_l122, ne_l255, ne_l673, ne_l1073741823, ne_l1073741824]
    exact p2 hI
theorem sp_cn_mid {w co : Nat → Nat} (hk : a 76 ≤ 4) : ∀ d, a 76 + d ≤ 4 → sp_cn a w co (a 76 + d) = sp_cn a w co (a 76)
  | 0, _ => rfl
  | d + 1, h => by
    have hnm : sp_nm a (a 76 + d) = false := by unfold sp_nm; exact decide_eq_false (by omega)
    rw [← Nat.add_assoc, sp_cn, sp_cn_mid hk d (by omega), if_neg (by unfold sp_un; rw [hnm]; simp), Nat.add_zero]
theorem sp_cn_hi {w co : Nat → Nat} (ht : a 77 ≤ 4) (hk : a 76 ≤ 4) : ∀ d, sp_cn a w co (4 + a 77 + d) = sp_cn a w co (4 + a 77)
  | 0 => rfl
  | d + 1 => by
    have hnm : sp_nm a (4 + a 77 + d) = false := by unfold sp_nm; exact decide_eq_false (by omega)
    rw [← Nat.add_assoc, sp_cn, sp_cn_hi ht hk d, if_neg (by unfold sp_un; rw [hnm]; simp), Nat.add_zero]
theorem c_colours (hN : 4000 ≤ N) (h : R X S) : OKr (px_L_colours N X) (pm_colours N S) := by
  obtain ⟨a, b, v, ik, tx, len, h⟩ := h
  have hk := RR_ok h
  have k4 := hk.1
  have t4 := hk.2.1
  have hs := RR_sc h
  obtain ⟨q1, q2⟩ := RR_cl h
  have hw := RR_wv h
  have hc := (RR_hs h).2.2.1
  have hb := sp_1000 hw.2.2.2 (by have := hk.2.2.1; omega)
  obtain ⟨_, S1, e1, s1⟩ := RR_begin hN h
  obtain ⟨S2, e2, s2⟩ := np_colours hN s1 (tn_nw h.1) tn_t hs hb
  have xnow := RR_now h
  refine ⟨nI (sp_cn a (wn v) (ac_ a) 8), X, S2, ?_, ?_, RR_endt h s2 (fun i hi => wn_hi hi) (fun _ _ => rfl) rfl rfl⟩
  · have c4 : sp_cn a (wn v) (ac_ a) 4 = sp_cn a (wn v) (ac_ a) (a 76) := by
      have := sp_cn_mid (w := wn v) (co := ac_ a) k4 (4 - a 76) (by omega)
      rwa [show a 76 + (4 - a 76) = 4 by omega] at this
    have c8 : sp_cn a (wn v) (ac_ a) 8 = sp_cn a (wn v) (ac_ a) (4 + a 77) := by
      have := sp_cn_hi (w := wn v) (co := ac_ a) t4 k4 (4 - a 77)
      rwa [show 4 + a 77 + (4 - a 77) = 8 by omega] at this
    have p2 : px_L_colours_b39 N N (nI (sp_cn a (wn v) (ac_ a) 4)) (nI 0) X = some (nI (sp_cn a (wn v) (ac_ a) 8), X) := by
      rw [c8]
      refine ne_loop (fun f t (c : Nat) => px_L_colours_b39 N f (nI c) (nI t) X) (fun t c => c = sp_cn a (wn v) (ac_ a) (4 + t)) (a 77) (fun r => r = some (nI (sp_cn a (wn v) (ac_ a) (4 + a 77)), X)) ?_ ?_ N 0 _ (by omega) (by omega) rfl
      · intro f t c ht hI
        subst hI
        left
        refine ⟨_, rfl, ?_⟩
        have e := xq_newC (N := N) hN hs xnow hw.2.1 q1 hc ht
        show px_L_colours_b39 N (f + 1) _ _ _ = _
        rw [px_L_colours_b39]
        unfold px_L_colours_b64
        by_cases hu : sp_un a (wn v) (ac_ a) (4 + t) = true
        · have hcn : sp_cn a (wn v) (ac_ a) (4 + (t + 1)) = sp_cn a (wn v) (ac_ a) (4 + t) + 1 := by rw [← Nat.add_assoc, sp_cn, if_pos hu]
          rw [if_pos hu] at e
          simp (disch := omega) only [sm_lt, sm_b1s, sm_b2s, ↓reduceIte, sm_in_nI, nI_clamp, nI_add, pk_mul, pk_sub, ne_addneg, nI_l, ne_ltT, ne_ltF, ne_leT, ne_leF, ne_eqT, ne_eqF, ne_sI1s, ne_sI1n, ne_sI2, ne_sI3, ne_sL1, ne_sL2s, ne_sL2n, ne_sL3, pk_us, pk_un, pk_uLs, pk_uLn, mm_Z, mm_L, mm_1, mm_2, mm_3, ne_rz0, ne_rz1, not_true_eq_false, not_false_eq_true, ne_i0, ne_i1, ne_i2, ne_i3, ne_i4, ne_i5, ne_i6, ne_i7, ne_i8, ne_i9, ne_i10, ne_i12, ne_i14, ne_i16, ne_i18, ne_i19, ne_i20, ne_i23, ne_i24, ne_i27, ne_i29, ne_i30, ne_i31, ne_i32, ne_i35, ne_i48, ne_i52, ne_i54, ne_i57, ne_i59, ne_i63, ne_i64, ne_i76, ne_i77, ne_i78, ne_i79, ne_i80, ne_i81, ne_i97, ne_i99, ne_i100, ne_i101, ne_i104, ne_i105, ne_i108, ne_i110, ne_i111, ne_i116, ne_i117, ne_i122, ne_i103, ne_i200, ne_i255, ne_i256, ne_i320, ne_i384, ne_i1000, ne_l0, ne_l1, ne_l2, ne_l3, ne_l4, ne_l5, ne_l8, ne_l12, ne_l31, ne_l48, ne_l57, ne_l97, ne_l99, ne_l122, ne_l255, ne_l673, ne_l1073741823, ne_l1073741824, q2, e, hcn]
        · have hcn : sp_cn a (wn v) (ac_ a) (4 + (t + 1)) = sp_cn a (wn v) (ac_ a) (4 + t) + 0 := by rw [← Nat.add_assoc, sp_cn, if_neg hu]
          rw [if_neg hu] at e
          simp (disch := omega) only [sm_lt, sm_b1s, sm_b2s, ↓reduceIte, sm_in_nI, nI_clamp, nI_add, pk_mul, pk_sub, ne_addneg, nI_l, ne_ltT, ne_ltF, ne_leT, ne_leF, ne_eqT, ne_eqF, ne_sI1s, ne_sI1n, ne_sI2, ne_sI3, ne_sL1, ne_sL2s, ne_sL2n, ne_sL3, pk_us, pk_un, pk_uLs, pk_uLn, mm_Z, mm_L, mm_1, mm_2, mm_3, ne_rz0, ne_rz1, not_true_eq_false, not_false_eq_true, ne_i0, ne_i1, ne_i2, ne_i3, ne_i4, ne_i5, ne_i6, ne_i7, ne_i8, ne_i9, ne_i10, ne_i12, ne_i14, ne_i16, ne_i18, ne_i19, ne_i20, ne_i23, ne_i24, ne_i27, ne_i29, ne_i30, ne_i31, ne_i32, ne_i35, ne_i48, ne_i52, ne_i54, ne_i57, ne_i59, ne_i63, ne_i64, ne_i76, ne_i77, ne_i78, ne_i79, ne_i80, ne_i81, ne_i97, ne_i99, ne_i100, ne_i101, ne_i104, ne_i105, ne_i108, ne_i110, ne_i111, ne_i116, ne_i117, ne_i122, ne_i103, ne_i200, ne_i255, ne_i256, ne_i320, ne_i384, ne_i1000, ne_l0, ne_l1, ne_l2, ne_l3, ne_l4, ne_l5, ne_l8, ne_l12, ne_l31, ne_l48, ne_l57, ne_l97, ne_l99, ne_l122, ne_l255, ne_l673, ne_l1073741823, ne_l1073741824, q2, e, hcn]
      · intro f c hI
        subst hI
        show px_L_colours_b39 N (f + 1) _ _ _ = _
        rw [px_L_colours_b39]
        simp (disch := omega) only [sm_lt, sm_b1s, sm_b2s, ↓reduceIte, sm_in_nI, nI_clamp, nI_add, pk_mul, pk_sub, ne_addneg, nI_l, ne_ltT, ne_ltF, ne_leT, ne_leF, ne_eqT, ne_eqF, ne_sI1s, ne_sI1n, ne_sI2, ne_sI3, ne_sL1, ne_sL2s, ne_sL2n, ne_sL3, pk_us, pk_un, pk_uLs, pk_uLn, mm_Z, mm_L, mm_1, mm_2, mm_3, ne_rz0, ne_rz1, not_true_eq_false, not_false_eq_true, ne_i0, ne_i1, ne_i2, ne_i3, ne_i4, ne_i5, ne_i6, ne_i7, ne_i8, ne_i9, ne_i10, ne_i12, ne_i14, ne_i16, ne_i18, ne_i19, ne_i20, ne_i23, ne_i24, ne_i27, ne_i29, ne_i30, ne_i31, ne_i32, ne_i35, ne_i48, ne_i52, ne_i54, ne_i57, ne_i59, ne_i63, ne_i64, ne_i76, ne_i77, ne_i78, ne_i79, ne_i80, ne_i81, ne_i97, ne_i99, ne_i100, ne_i101, ne_i104, ne_i105, ne_i108, ne_i110, ne_i111, ne_i116, ne_i117, ne_i122, ne_i103, ne_i200, ne_i255, ne_i256, ne_i320, ne_i384, ne_i1000, ne_l0, ne_l1, ne_l2, ne_l3, ne_l4, ne_l5, ne_l8, ne_l12, ne_l31, ne_l48, ne_l57, ne_l97, ne_l99, ne_l122, ne_l255, ne_l673, ne_l1073741823, ne_l1073741824, q2]
    unfold px_L_colours
    simp (disch := omega) only [sm_lt, sm_b1s, sm_b2s, ↓reduceIte, sm_in_nI, nI_clamp, nI_add, pk_mul, pk_sub, ne_addneg, nI_l, ne_ltT, ne_ltF, ne_leT, ne_leF, ne_eqT, ne_eqF, ne_sI1s, ne_sI1n, ne_sI2, ne_sI3, ne_sL1, ne_sL2s, ne_sL2n, ne_sL3, pk_us, pk_un, pk_uLs, pk_uLn, mm_Z, mm_L, mm_1, mm_2, mm_3, ne_rz0, ne_rz1, not_true_eq_false, not_false_eq_true, ne_i0, ne_i1, ne_i2, ne_i3, ne_i4, ne_i5, ne_i6, ne_i7, ne_i8, ne_i9, ne_i10, ne_i12, ne_i14, ne_i16, ne_i18, ne_i19, ne_i20, ne_i23, ne_i24, ne_i27, ne_i29, ne_i30, ne_i31, ne_i32, ne_i35, ne_i48, ne_i52, ne_i54, ne_i57, ne_i59, ne_i63, ne_i64, ne_i76, ne_i77, ne_i78, ne_i79, ne_i80, ne_i81, ne_i97, ne_i99, ne_i100, ne_i101, ne_i104, ne_i105, ne_i108, ne_i110, ne_i111, ne_i116, ne_i117, ne_i122, ne_i103, ne_i200, ne_i255, ne_i256, ne_i320, ne_i384, ne_i1000, ne_l0, ne_l1, ne_l2, ne_l3, ne_l4, ne_l5, ne_l8, ne_l12, ne_l31, ne_l48, ne_l57, ne_l97, ne_l99, ne_l122, ne_l255, ne_l673, ne_l1073741823, ne_l1073741824]
    refine ne_loop (fun f t (c : Nat) => px_L_colours_b4 N f (nI c) (nI t) X) (fun t c => c = sp_cn a (wn v) (ac_ a) t) (a 76) (fun r => r = some (nI (sp_cn a (wn v) (ac_ a) 8), X)) ?_ ?_ N 0 0 (by omega) (by omega) rfl
    · intro f t c ht hI
      subst hI
      left
      refine ⟨_, rfl, ?_⟩
      have e := xq_newS (N := N) hN xnow k4 ht
      show px_L_colours_b4 N (f + 1) _ _ _ = _
      rw [px_L_colours_b4]
      unfold px_L_colours_b29
      by_cases hu : sp_un a (wn v) (ac_ a) t = true
      · have hcn : sp_cn a (wn v) (ac_ a) (t + 1) = sp_cn a (wn v) (ac_ a) t + 1 := by rw [sp_cn, if_pos hu]
        rw [if_pos hu] at e
        simp (disch := omega) only [sm_lt, sm_b1s, sm_b2s, ↓reduceIte, sm_in_nI, nI_clamp, nI_add, pk_mul, pk_sub, ne_addneg, nI_l, ne_ltT, ne_ltF, ne_leT, ne_leF, ne_eqT, ne_eqF, ne_sI1s, ne_sI1n, ne_sI2, ne_sI3, ne_sL1, ne_sL2s, ne_sL2n, ne_sL3, pk_us, pk_un, pk_uLs, pk_uLn, mm_Z, mm_L, mm_1, mm_2, mm_3, ne_rz0, ne_rz1, not_true_eq_false, not_false_eq_true, ne_i0, ne_i1, ne_i2, ne_i3, ne_i4, ne_i5, ne_i6, ne_i7, ne_i8, ne_i9, ne_i10, ne_i12, ne_i14, ne_i16, ne_i18, ne_i19, ne_i20, ne_i23, ne_i24, ne_i27, ne_i29, ne_i30, ne_i31, ne_i32, ne_i35, ne_i48, ne_i52, ne_i54, ne_i57, ne_i59, ne_i63, ne_i64, ne_i76, ne_i77, ne_i78, ne_i79, ne_i80, ne_i81, ne_i97, ne_i99, ne_i100, ne_i101, ne_i104, ne_i105, ne_i108, ne_i110, ne_i111, ne_i116, ne_i117, ne_i122, ne_i103, ne_i200, ne_i255, ne_i256, ne_i320, ne_i384, ne_i1000, ne_l0, ne_l1, ne_l2, ne_l3, ne_l4, ne_l5, ne_l8, ne_l12, ne_l31, ne_l48, ne_l57, ne_l97, ne_l99, ne_l122, ne_l255, ne_l673, ne_l1073741823, ne_l1073741824, q1, e, hcn]
      · have hcn : sp_cn a (wn v) (ac_ a) (t + 1) = sp_cn a (wn v) (ac_ a) t + 0 := by rw [sp_cn, if_neg hu]
        rw [if_neg hu] at e
        simp (disch := omega) only [sm_lt, sm_b1s, sm_b2s, ↓reduceIte, sm_in_nI, nI_clamp, nI_add, pk_mul, pk_sub, ne_addneg, nI_l, ne_ltT, ne_ltF, ne_leT, ne_leF, ne_eqT, ne_eqF, ne_sI1s, ne_sI1n, ne_sI2, ne_sI3, ne_sL1, ne_sL2s, ne_sL2n, ne_sL3, pk_us, pk_un, pk_uLs, pk_uLn, mm_Z, mm_L, mm_1, mm_2, mm_3, ne_rz0, ne_rz1, not_true_eq_false, not_false_eq_true, ne_i0, ne_i1, ne_i2, ne_i3, ne_i4, ne_i5, ne_i6, ne_i7, ne_i8, ne_i9, ne_i10, ne_i12, ne_i14, ne_i16, ne_i18, ne_i19, ne_i20, ne_i23, ne_i24, ne_i27, ne_i29, ne_i30, ne_i31, ne_i32, ne_i35, ne_i48, ne_i52, ne_i54, ne_i57, ne_i59, ne_i63, ne_i64, ne_i76, ne_i77, ne_i78, ne_i79, ne_i80, ne_i81, ne_i97, ne_i99, ne_i100, ne_i101, ne_i104, ne_i105, ne_i108, ne_i110, ne_i111, ne_i116, ne_i117, ne_i122, ne_i103, ne_i200, ne_i255, ne_i256, ne_i320, ne_i384, ne_i1000, ne_l0, ne_l1, ne_l2, ne_l3, ne_l4, ne_l5, ne_l8, ne_l12, ne_l31, ne_l48, ne_l57, ne_l97, ne_l99, ne_l122, ne_l255, ne_l673, ne_l1073741823, ne_l1073741824, q1, e, hcn]
    · intro f c hI
      subst hI
      show px_L_colours_b4 N (f + 1) _ _ _ = _
      rw [px_L_colours_b4]
      rw [c4] at p2
      simp (disch := omega) only [sm_lt, sm_b1s, sm_b2s, ↓reduceIte, sm_in_nI, nI_clamp, nI_add, pk_mul, pk_sub, ne_addneg, nI_l, ne_ltT, ne_ltF, ne_leT, ne_leF, ne_eqT, ne_eqF, ne_sI1s, ne_sI1n, ne_sI2, ne_sI3, ne_sL1, ne_sL2s, ne_sL2n, ne_sL3, pk_us, pk_un, pk_uLs, pk_uLn, mm_Z, mm_L, mm_1, mm_2, mm_3, ne_rz0, ne_rz1, not_true_eq_false, not_false_eq_true, ne_i0, ne_i1, ne_i2, ne_i3, ne_i4, ne_i5, ne_i6, ne_i7, ne_i8, ne_i9, ne_i10, ne_i12, ne_i14, ne_i16, ne_i18, ne_i19, ne_i20, ne_i23, ne_i24, ne_i27, ne_i29, ne_i30, ne_i31, ne_i32, ne_i35, ne_i48, ne_i52, ne_i54, ne_i57, ne_i59, ne_i63, ne_i64, ne_i76, ne_i77, ne_i78, ne_i79, ne_i80, ne_i81, ne_i97, ne_i99, ne_i100, ne_i101, ne_i104, ne_i105, ne_i108, ne_i110, ne_i111, ne_i116, ne_i117, ne_i122, ne_i103, ne_i200, ne_i255, ne_i256, ne_i320, ne_i384, ne_i1000, ne_l0, ne_l1, ne_l2, ne_l3, ne_l4, ne_l5, ne_l8, ne_l12, ne_l31, ne_l48, ne_l57, ne_l97, ne_l99, ne_l122, ne_l255, ne_l673, ne_l1073741823, ne_l1073741824, q1]
      exact p2
  · unfold pm_colours
    simp (disch := omega) only [sm_lt, sm_b1s, sm_b2s, ↓reduceIte, sm_in_nI, nI_clamp, nI_add, pk_mul, pk_sub, ne_addneg, nI_l, ne_ltT, ne_ltF, ne_leT, ne_leF, ne_eqT, ne_eqF, ne_sI1s, ne_sI1n, ne_sI2, ne_sI3, ne_sL1, ne_sL2s, ne_sL2n, ne_sL3, pk_us, pk_un, pk_uLs, pk_uLn, mm_Z, mm_L, mm_1, mm_2, mm_3, ne_rz0, ne_rz1, not_true_eq_false, not_false_eq_true, ne_i0, ne_i1, ne_i2, ne_i3, ne_i4, ne_i5, ne_i6, ne_i7, ne_i8, ne_i9, ne_i10, ne_i12, ne_i14, ne_i16, ne_i18, ne_i19, ne_i20, ne_i23, ne_i24, ne_i27, ne_i29, ne_i30, ne_i31, ne_i32, ne_i35, ne_i48, ne_i52, ne_i54, ne_i57, ne_i59, ne_i63, ne_i64, ne_i76, ne_i77, ne_i78, ne_i79, ne_i80, ne_i81, ne_i97, ne_i99, ne_i100, ne_i101, ne_i104, ne_i105, ne_i108, ne_i110, ne_i111, ne_i116, ne_i117, ne_i122, ne_i103, ne_i200, ne_i255, ne_i256, ne_i320, ne_i384, ne_i1000, ne_l0, ne_l1, ne_l2, ne_l3, ne_l4, ne_l5, ne_l8, ne_l12, ne_l31, ne_l48, ne_l57, ne_l97, ne_l99, ne_l122, ne_l255, ne_l673, ne_l1073741823, ne_l1073741824, e1]
    exact e2
end
