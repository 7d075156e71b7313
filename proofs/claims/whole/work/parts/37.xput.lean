/-! smooth numbers, and the fraction in lowest terms -/
def pr : List Nat := [2, 3, 5, 7, 11, 13, 17, 19, 23, 29, 31, 37]
def sm0 (n : Nat) : Prop := ∀ d, d ∣ n → d ≠ 1 → ∃ i, i < 12 ∧ pr.getD i 0 ∣ d
theorem pr_ok : ∀ i, i < 12 → zx_pr.getD i 0 = nI (pr.getD i 0) ∧ 1 < pr.getD i 0 ∧ pr.getD i 0 ≤ 37 := by decide
theorem sm0_37 {n : Nat} (h0 : 0 < n) (h : n ≤ 37) : sm0 n := by
  intro d hd h1
  have key : ∀ d, d < 38 → 2 ≤ d → ∃ i, i < 12 ∧ pr.getD i 0 ∣ d := by decide
  have h2 := Nat.le_of_dvd h0 hd
  have h3 : d ≠ 0 := fun e => by subst e; have := Nat.eq_zero_of_zero_dvd hd; omega
  exact key d (by omega) (by omega)
theorem sm0_dvd {m n : Nat} (h : m ∣ n) (hn : sm0 n) : sm0 m := fun d hd h1 => hn d (Nat.dvd_trans hd h) h1
theorem sm0_mul {m n : Nat} (hm : sm0 m) (hn : sm0 n) : sm0 (m * n) := by
  intro d hd h1
  by_cases g : Nat.gcd d m = 1
  · exact hn d (Nat.Coprime.dvd_of_dvd_mul_left g hd) h1
  · obtain ⟨i, i1, i2⟩ := hm (Nat.gcd d m) (Nat.gcd_dvd_right d m) g
    exact ⟨i, i1, Nat.dvd_trans i2 (Nat.gcd_dvd_left d m)⟩
theorem sm0_by {a t co : Nat → Nat} (hs : sc a t co) : ∀ n, n ≤ a 76 → sm0 (sp_by a t n)
  | 0, _ => by show sm0 1; exact sm0_37 (by decide) (by decide)
  | n + 1, h => by
    have k := sp_all_le hs (c := n) (by omega)
    rw [sp_by]
    exact sm0_mul (sm0_dvd (Nat.div_dvd_of_dvd (Nat.gcd_dvd_left _ _)) (sm0_by hs n (by omega))) (sm0_37 k.1 k.2)
theorem sm0_ns {a t co w : Nat → Nat} (hs : sc a t co) (h : sm0 (w 4)) : ∀ n, sm0 (sp_ns a t co w n 4)
  | 0 => h
  | n + 1 => by
    have : sp_ns a t co w (n + 1) 4 = sp_ns a t co w n 4 * sp_by a t (a 76) := by
      rw [sp_ns]
      unfold sp_nw
      rw [if_pos rfl]
    rw [this]
    exact sm0_mul (sm0_ns hs h n) (sm0_by hs _ (Nat.le_refl _))
theorem sm0_low {V T w P Q g : Nat} (hT : 0 < T) (hw : sm0 (w * 12)) (hg : 0 < g) (hP : V / Nat.gcd T V = P * g) (hQ : w * (12 * (T / Nat.gcd T V)) = Q * g) (h : ∀ i, i < 12 → ¬ (pr.getD i 0 ∣ P ∧ pr.getD i 0 ∣ Q)) : P = V / Nat.gcd V (w * (12 * T)) ∧ Q = w * (12 * T) / Nat.gcd V (w * (12 * T)) := by
  have hc : 0 < Nat.gcd T V := Nat.gcd_pos_of_pos_left _ hT
  have c1 : Nat.gcd P Q = 1 := by
    rcases Nat.decEq (Nat.gcd P Q) 1 with e | e
    · exfalso
      have d1 : Nat.gcd P Q ∣ V / Nat.gcd T V := by rw [hP]; exact Nat.dvd_trans (Nat.gcd_dvd_left P Q) (Nat.dvd_mul_right _ _)
      have d2 : Nat.gcd P Q ∣ (w * 12) * (T / Nat.gcd T V) := by rw [Nat.mul_assoc, hQ]; exact Nat.dvd_trans (Nat.gcd_dvd_right P Q) (Nat.dvd_mul_right _ _)
      have cp : Nat.Coprime (T / Nat.gcd T V) (V / Nat.gcd T V) := Nat.coprime_div_gcd_div_gcd hc
      have cp2 : Nat.Coprime (Nat.gcd P Q) (T / Nat.gcd T V) := Nat.Coprime.symm (Nat.Coprime.coprime_dvd_right d1 cp)
      have d3 := Nat.Coprime.dvd_of_dvd_mul_right cp2 d2
      obtain ⟨i, i1, i2⟩ := hw _ d3 e
      exact h i i1 ⟨Nat.dvd_trans i2 (Nat.gcd_dvd_left P Q), Nat.dvd_trans i2 (Nat.gcd_dvd_right P Q)⟩
    · exact e
  have eV : V = P * (g * Nat.gcd T V) := by
    rw [← Nat.mul_assoc, ← hP]
    exact (Nat.div_mul_cancel (Nat.gcd_dvd_right T V)).symm
  have eD : w * (12 * T) = Q * (g * Nat.gcd T V) := by
    calc w * (12 * T) = w * (12 * (T / Nat.gcd T V * Nat.gcd T V)) := by rw [Nat.div_mul_cancel (Nat.gcd_dvd_left T V)]
      _ = w * (12 * (T / Nat.gcd T V)) * Nat.gcd T V := by simp only [Nat.mul_assoc]
      _ = Q * (g * Nat.gcd T V) := by rw [hQ, Nat.mul_assoc]
  have hk : 0 < g * Nat.gcd T V := Nat.mul_pos hg hc
  generalize g * Nat.gcd T V = k at *
  have eg : Nat.gcd V (w * (12 * T)) = k := by rw [eV, eD, Nat.gcd_mul_right, c1, Nat.one_mul]
  rw [eg]
  refine ⟨?_, ?_⟩
  · conv => rhs; rw [eV]
    rw [Nat.mul_div_cancel _ hk]
  · rw [eD, Nat.mul_div_cancel _ hk]
/-- the fraction at place 104 is P by Q -/
def fh (X : sm_St) (P Q : Nat) : Prop := X.1 104 2 = nI (nm_nd P) ∧ X.1 104 3 = nI (nm_nd Q) ∧ xdg X 105 (nm_nd P) P ∧ xdg X 106 (nm_nd Q) Q ∧ nm_nd P ≤ 20 ∧ nm_nd Q ≤ 20
def fo (X X' : sm_St) : Prop := (∀ p, p ≠ 104 → p ≠ 105 → p ≠ 106 → X'.1 p = X.1 p) ∧ X'.2.2 = X.2.2
theorem fo_rf {X : sm_St} : fo X X := ⟨fun _ _ _ _ => rfl, rfl⟩
theorem fo_tr {X X1 X2 : sm_St} (h : fo X X1) (h' : fo X1 X2) : fo X X2 := ⟨fun p a b c => (h'.1 p a b c).trans (h.1 p a b c), h'.2.trans h.2⟩
theorem zs105 : (zx_sh 105).2 = 20 := rfl
theorem zs106 : (zx_sh 106).2 = 20 := rfl
section
variable {N : Nat} {X : sm_St}
/-- both are divided by p -/
theorem xq_cut {P Q p : Nat} (hN : 4000 ≤ N) (h : fh X P Q) (hp : 1 < p) (hp2 : p ≤ 37) : ∃ S7 S8 S14, px_Fraction_divide N X 105 (nI (nm_nd P)) (nI p) = some S7 ∧ S7.1 104 3 = nI (nm_nd Q) ∧ px_Fraction_divide N S7 106 (nI (nm_nd Q)) (nI p) = some S8 ∧ S8.1 104 2 = nI (nm_nd P) ∧ px_Fraction_trimmed N S8 105 (nI (nm_nd P)) = some (nI (nm_nd (P / p)), S8) ∧ S8.1 104 3 = nI (nm_nd Q) ∧ px_Fraction_trimmed N (sm_sI S8 104 2 (nI (nm_nd (P / p)))) 106 (nI (nm_nd Q)) = some (nI (nm_nd (Q / p)), sm_sI S8 104 2 (nI (nm_nd (P / p)))) ∧ S14 = sm_sI (sm_sI S8 104 2 (nI (nm_nd (P / p)))) 104 3 (nI (nm_nd (Q / p))) ∧ fh S14 (P / p) (Q / p) ∧ fo X S14 := by
  obtain ⟨h1, h2, h3, h4, h5, h6⟩ := h
  obtain ⟨g1, e1, d1⟩ := xq_divide (X := X) (N := N) hN zs105 (show 0 < p by omega) (by omega) h5 h3
  have h4' : xdg (sm_sF X 105 g1) 106 (nm_nd Q) Q := ⟨h4.1, fun k hk => by rw [sF_n (by decide)]; exact h4.2 k hk⟩
  obtain ⟨g2, e2, d2⟩ := xq_divide (X := sm_sF X 105 g1) (N := N) hN zs106 (show 0 < p by omega) (by omega) h6 h4'
  have d1' : xdg (sm_sF (sm_sF X 105 g1) 106 g2) 105 (nm_nd P) (P / p) := ⟨d1.1, fun k hk => by rw [sF_n (by decide)]; exact d1.2 k hk⟩
  have t1 := xq_trimmed (N := N) hN zs105 h5 d1'
  have d2' : xdg (sm_sI (sm_sF (sm_sF X 105 g1) 106 g2) 104 2 (nI (nm_nd (P / p)))) 106 (nm_nd Q) (Q / p) := ⟨d2.1, fun k hk => by rw [ne_sI1n (by decide)]; exact d2.2 k hk⟩
  have t2 := xq_trimmed (N := N) hN zs106 h6 d2'
  have ndP := nm_nd_mono (Nat.div_le_self P p)
  have ndQ := nm_nd_mono (Nat.div_le_self Q p)
  refine ⟨_, _, _, e1, by rw [sF_n (by decide)]; exact h2, e2, by rw [sF_n (by decide), sF_n (by decide)]; exact h1, t1, by rw [sF_n (by decide), sF_n (by decide)]; exact h2, t2, rfl, ⟨?_, ?_, ?_, ?_, by omega, by omega⟩, ⟨fun p a b c => ?_, rfl⟩⟩
  · rw [ne_sI1s, pk_un (by decide), ne_sI1s, pk_us]
  · rw [ne_sI1s, pk_us]
  · have := xdg_nd d1'
    exact ⟨this.1, fun k hk => by rw [ne_sI1n (by decide), ne_sI1n (by decide)]; exact this.2 k hk⟩
  · have := xdg_nd d2'
    exact ⟨this.1, fun k hk => by rw [ne_sI1n (by decide)]; exact this.2 k hk⟩
  · rw [ne_sI1n a, ne_sI1n a, sF_n c, sF_n b]
theorem xq_both {P Q p : Nat} (hN : 4000 ≤ N) (h : fh X P Q) (hp : 1 < p) (hp2 : p ≤ 37) : px_Fraction_bothDivide N X (nI p) = some (if p ∣ P ∧ p ∣ Q then nI 1 else nI 0, X) := by
  obtain ⟨h1, h2, h3, h4, h5, h6⟩ := h
  have r1 := xq_remainder (N := N) hN zs105 (show 0 < p by omega) (by omega) h5 h3
  have r2 := xq_remainder (N := N) hN zs106 (show 0 < p by omega) (by omega) h6 h4
  have m1 := Nat.mod_lt P (show 0 < p by omega)
  have m2 := Nat.mod_lt Q (show 0 < p by omega)
  unfold px_Fraction_bothDivide
  by_cases c1 : p ∣ P
  · have z1 := Nat.mod_eq_zero_of_dvd c1
    rw [z1] at r1
    by_cases c2 : p ∣ Q
    · have z2 := Nat.mod_eq_zero_of_dvd c2
      rw [z2] at r2
      rw [if_pos ⟨c1, c2⟩]
      simp (disch := omega) only [sm_lt, sm_b1s, sm_b2s, ↓reduceIte, sm_in_nI, nI_clamp, nI_add, pk_mul, pk_sub, ne_addneg, nI_l, ne_ltT, ne_ltF, ne_leT, ne_leF, ne_eqT, ne_eqF, ne_sI1s, ne_sI1n, ne_sI2, ne_sI3, ne_sL1, ne_sL2s, ne_sL2n, ne_sL3, pk_us, pk_un, pk_uLs, pk_uLn, mm_Z, mm_L, mm_1, mm_2, mm_3, ne_rz0, ne_rz1, not_true_eq_false, not_false_eq_true, ne_i0, ne_i1, ne_i2, ne_i3, ne_i4, ne_i5, ne_i6, ne_i7, ne_i8, ne_i9, ne_i10, ne_i12, ne_i14, ne_i16, ne_i18, ne_i19, ne_i20, ne_i23, ne_i24, ne_i27, ne_i29, ne_i30, ne_i31, ne_i32, ne_i35, ne_i48, ne_i52, ne_i54, ne_i57, ne_i59, ne_i63, ne_i64, ne_i76, ne_i77, ne_i78, ne_i79, ne_i80, ne_i81, ne_i97, ne_i99, ne_i100, ne_i101, ne_i104, ne_i105, ne_i108, ne_i110, ne_i111, ne_i116, ne_i117, ne_i122, ne_i103, ne_i200, ne_i255, ne_i256, ne_i320, ne_i384, ne_i1000, ne_l0, ne_l1, ne_l2, ne_l3, ne_l4, ne_l5, ne_l8, ne_l12, ne_l31, ne_l48, ne_l57, ne_l97, ne_l99, ne_l122, ne_l255, ne_l673, ne_l1073741823, ne_l1073741824, h1, h2, r1, r2]
    · have z2 : Q % p ≠ 0 := fun e => c2 (Nat.dvd_of_mod_eq_zero e)
      rw [if_neg (fun q => c2 q.2)]
      simp (disch := omega) only [sm_lt, sm_b1s, sm_b2s, ↓reduceIte, sm_in_nI, nI_clamp, nI_add, pk_mul, pk_sub, ne_addneg, nI_l, ne_ltT, ne_ltF, ne_leT, ne_leF, ne_eqT, ne_eqF, ne_sI1s, ne_sI1n, ne_sI2, ne_sI3, ne_sL1, ne_sL2s, ne_sL2n, ne_sL3, pk_us, pk_un, pk_uLs, pk_uLn, mm_Z, mm_L, mm_1, mm_2, mm_3, ne_rz0, ne_rz1, not_true_eq_false, not_false_eq_true, ne_i0, ne_i1, ne_i2, ne_i3, ne_i4, ne_i5, ne_i6, ne_i7, ne_i8, ne_i9, ne_i10, ne_i12, ne_i14, ne_i16, ne_i18, ne_i19, ne_i20, ne_i23, ne_i24, ne_i27, ne_i29, ne_i30, ne_i31, ne_i32, ne_i35, ne_i48, ne_i52, ne_i54, ne_i57, ne_i59, ne_i63, ne_i64, ne_i76, ne_i77, ne_i78, ne_i79, ne_i80, ne_i81, ne_i97, ne_i99, ne_i100, ne_i101, ne_i104, ne_i105, ne_i108, ne_i110, ne_i111, ne_i116, ne_i117, ne_i122, ne_i103, ne_i200, ne_i255, ne_i256, ne_i320, ne_i384, ne_i1000, ne_l0, ne_l1, ne_l2, ne_l3, ne_l4, ne_l5, ne_l8, ne_l12, ne_l31, ne_l48, ne_l57, ne_l97, ne_l99, ne_l122, ne_l255, ne_l673, ne_l1073741823, ne_l1073741824, h1, h2, r1, r2]
  · have z1 : P % p ≠ 0 := fun e => c1 (Nat.dvd_of_mod_eq_zero e)
    rw [if_neg (fun q => c1 q.1)]
    simp (disch := omega) only [sm_lt, sm_b1s, sm_b2s, ↓reduceIte, sm_in_nI, nI_clamp, nI_add, pk_mul, pk_sub, ne_addneg, nI_l, ne_ltT, ne_ltF, ne_leT, ne_leF, ne_eqT, ne_eqF, ne_sI1s, ne_sI1n, ne_sI2, ne_sI3, ne_sL1, ne_sL2s, ne_sL2n, ne_sL3, pk_us, pk_un, pk_uLs, pk_uLn, mm_Z, mm_L, mm_1, mm_2, mm_3, ne_rz0, ne_rz1, not_true_eq_false, not_false_eq_true, ne_i0, ne_i1, ne_i2, ne_i3, ne_i4, ne_i5, ne_i6, ne_i7, ne_i8, ne_i9, ne_i10, ne_i12, ne_i14, ne_i16, ne_i18, ne_i19, ne_i20, ne_i23, ne_i24, ne_i27, ne_i29, ne_i30, ne_i31, ne_i32, ne_i35, ne_i48, ne_i52, ne_i54, ne_i57, ne_i59, ne_i63, ne_i64, ne_i76, ne_i77, ne_i78, ne_i79, ne_i80, ne_i81, ne_i97, ne_i99, ne_i100, ne_i101, ne_i104, ne_i105, ne_i108, ne_i110, ne_i111, ne_i116, ne_i117, ne_i122, ne_i103, ne_i200, ne_i255, ne_i256, ne_i320, ne_i384, ne_i1000, ne_l0, ne_l1, ne_l2, ne_l3, ne_l4, ne_l5, ne_l8, ne_l12, ne_l31, ne_l48, ne_l57, ne_l97, ne_l99, ne_l122, ne_l255, ne_l673, ne_l1073741823, ne_l1073741824, h1, h2, r1]
theorem xq_reduce1 {P Q p f i : Nat} (hN : 4000 ≤ N) (h : fh X P Q) (hp : 1 < p) (hp2 : p ≤ 37) (hP : 0 < P) (hi : i < 12) : ∃ X' P' Q' g, px_Fraction_reduce_b22 N (px_Fraction_reduce_b9 N f) N (nI 12) (nI i) (nI p) (nI 0) X = px_Fraction_reduce_b9 N f (nI 12) (nI (i + 1)) X' ∧ fh X' P' Q' ∧ 0 < g ∧ P = P' * g ∧ Q = Q' * g ∧ ¬ (p ∣ P' ∧ p ∣ Q') ∧ fo X X' := by
  have big : P < 2 ^ 600 := by
    have := h.2.2.1.1
    have := Nat.lt_of_lt_of_le this (Nat.pow_le_pow_right (show 0 < nm_B by decide) h.2.2.2.2.1)
    rwa [nm_B2] at this
  refine ne_loop (fun f' k (s : sm_St) => px_Fraction_reduce_b22 N (px_Fraction_reduce_b9 N f) f' (nI 12) (nI i) (nI p) (nI k) s) (fun k s => ∃ A B, fh s A B ∧ P = A * p ^ k ∧ Q = B * p ^ k ∧ fo X s) 1000 (fun r => ∃ X' P' Q' g, r = px_Fraction_reduce_b9 N f (nI 12) (nI (i + 1)) X' ∧ fh X' P' Q' ∧ 0 < g ∧ P = P' * g ∧ Q = Q' * g ∧ ¬ (p ∣ P' ∧ p ∣ Q') ∧ fo X X') ?_ ?_ N 0 X (by omega) (by omega) ⟨P, Q, h, by rw [Nat.pow_zero, Nat.mul_one], by rw [Nat.pow_zero, Nat.mul_one], fo_rf⟩
  · rintro f' k s hk ⟨A, B, g1, g2, g3, g4⟩
    have eb := xq_both (N := N) hN g1 hp hp2
    by_cases hb : p ∣ A ∧ p ∣ B
    · left
      obtain ⟨S7, S8, S14, e1, e2, e3, e4, e5, e6, e7, e8, e9, e10⟩ := xq_cut (N := N) hN g1 hp hp2
      refine ⟨S14, ⟨A / p, B / p, e9, ?_, ?_, fo_tr g4 e10⟩, ?_⟩
      · rw [Nat.pow_succ', ← Nat.mul_assoc, Nat.div_mul_cancel hb.1]; exact g2
      · rw [Nat.pow_succ', ← Nat.mul_assoc, Nat.div_mul_cancel hb.2]; exact g3
      · rw [if_pos hb] at eb
        show px_Fraction_reduce_b22 N _ (f' + 1) _ _ _ _ _ = _
        rw [px_Fraction_reduce_b22]
        subst e8
        simp (disch := omega) only [sm_lt, sm_b1s, sm_b2s, ↓reduceIte, sm_in_nI, nI_clamp, nI_add, pk_mul, pk_sub, ne_addneg, nI_l, ne_ltT, ne_ltF, ne_leT, ne_leF, ne_eqT, ne_eqF, ne_sI1s, ne_sI1n, ne_sI2, ne_sI3, ne_sL1, ne_sL2s, ne_sL2n, ne_sL3, pk_us, pk_un, pk_uLs, pk_uLn, mm_Z, mm_L, mm_1, mm_2, mm_3, ne_rz0, ne_rz1, not_true_eq_false, not_false_eq_true, ne_i0, ne_i1, ne_i2, ne_i3, ne_i4, ne_i5, ne_i6, ne_i7, ne_i8, ne_i9, ne_i10, ne_i12, ne_i14, ne_i16, ne_i18, ne_i19, ne_i20, ne_i23, ne_i24, ne_i27, ne_i29, ne_i30, ne_i31, ne_i32, ne_i35, ne_i48, ne_i52, ne_i54, ne_i57, ne_i59, ne_i63, ne_i64, ne_i76, ne_i77, ne_i78, ne_i79, ne_i80, ne_i81, ne_i97, ne_i99, ne_i100, ne_i101, ne_i104, ne_i105, ne_i108, ne_i110, ne_i111, ne_i116, ne_i117, ne_i122, ne_i103, ne_i200, ne_i255, ne_i256, ne_i320, ne_i384, ne_i1000, ne_l0, ne_l1, ne_l2, ne_l3, ne_l4, ne_l5, ne_l8, ne_l12, ne_l31, ne_l48, ne_l57, ne_l97, ne_l99, ne_l122, ne_l255, ne_l673, ne_l1073741823, ne_l1073741824, eb, g1.1, e1, e2, e3, e4, e5, e6, e7]
    · right
      rw [if_neg hb] at eb
      refine ⟨s, A, B, p ^ k, ?_, g1, Nat.pow_pos (by omega), g2, g3, hb, g4⟩
      show px_Fraction_reduce_b22 N _ (f' + 1) _ _ _ _ _ = _
      rw [px_Fraction_reduce_b22]
      unfold px_Fraction_reduce_b101
      simp (disch := omega) only [sm_lt, sm_b1s, sm_b2s, ↓reduceIte, sm_in_nI, nI_clamp, nI_add, pk_mul, pk_sub, ne_addneg, nI_l, ne_ltT, ne_ltF, ne_leT, ne_leF, ne_eqT, ne_eqF, ne_sI1s, ne_sI1n, ne_sI2, ne_sI3, ne_sL1, ne_sL2s, ne_sL2n, ne_sL3, pk_us, pk_un, pk_uLs, pk_uLn, mm_Z, mm_L, mm_1, mm_2, mm_3, ne_rz0, ne_rz1, not_true_eq_false, not_false_eq_true, ne_i0, ne_i1, ne_i2, ne_i3, ne_i4, ne_i5, ne_i6, ne_i7, ne_i8, ne_i9, ne_i10, ne_i12, ne_i14, ne_i16, ne_i18, ne_i19, ne_i20, ne_i23, ne_i24, ne_i27, ne_i29, ne_i30, ne_i31, ne_i32, ne_i35, ne_i48, ne_i52, ne_i54, ne_i57, ne_i59, ne_i63, ne_i64, ne_i76, ne_i77, ne_i78, ne_i79, ne_i80, ne_i81, ne_i97, ne_i99, ne_i100, ne_i101, ne_i104, ne_i105, ne_i108, ne_i110, ne_i111, ne_i116, ne_i117, ne_i122, ne_i103, ne_i200, ne_i255, ne_i256, ne_i320, ne_i384, ne_i1000, ne_l0, ne_l1, ne_l2, ne_l3, ne_l4, ne_l5, ne_l8, ne_l12, ne_l31, ne_l48, ne_l57, ne_l97, ne_l99, ne_l122, ne_l255, ne_l673, ne_l1073741823, ne_l1073741824, eb]
  · rintro f' s ⟨A, B, g1, g2, g3, g4⟩
    exfalso
    have h1 : 2 ^ 1000 ≤ p ^ 1000 := Nat.pow_le_pow_left (by omega) _
    have h2 : 0 < A := by
      rcases Nat.eq_zero_or_pos A with e | e
      · rw [e, Nat.zero_mul] at g2; omega
      · exact e
    have h3 : 1 * p ^ 1000 ≤ A * p ^ 1000 := Nat.mul_le_mul_right _ h2
    have h4 : (2 : Nat) ^ 600 ≤ 2 ^ 1000 := Nat.pow_le_pow_right (by decide) (by decide)
    have : 2 ^ 1000 ≤ P := by
      rw [g2]
      exact Nat.le_trans h1 (by rw [Nat.one_mul] at h3; exact h3)
    exact absurd (Nat.lt_of_lt_of_le big h4) (Nat.not_lt.mpr this)
theorem xq_reduce {P Q : Nat} (hN : 4000 ≤ N) (h : fh X P Q) (hP : 0 < P) : ∃ X' P' Q' g, px_Fraction_reduce N X = some X' ∧ fh X' P' Q' ∧ 0 < g ∧ P = P' * g ∧ Q = Q' * g ∧ (∀ i, i < 12 → ¬ (pr.getD i 0 ∣ P' ∧ pr.getD i 0 ∣ Q')) ∧ fo X X' := by
  unfold px_Fraction_reduce
  simp (disch := omega) only [sm_lt, sm_b1s, sm_b2s, ↓reduceIte, sm_in_nI, nI_clamp, nI_add, pk_mul, pk_sub, ne_addneg, nI_l, ne_ltT, ne_ltF, ne_leT, ne_leF, ne_eqT, ne_eqF, ne_sI1s, ne_sI1n, ne_sI2, ne_sI3, ne_sL1, ne_sL2s, ne_sL2n, ne_sL3, pk_us, pk_un, pk_uLs, pk_uLn, mm_Z, mm_L, mm_1, mm_2, mm_3, ne_rz0, ne_rz1, not_true_eq_false, not_false_eq_true, ne_i0, ne_i1, ne_i2, ne_i3, ne_i4, ne_i5, ne_i6, ne_i7, ne_i8, ne_i9, ne_i10, ne_i12, ne_i14, ne_i16, ne_i18, ne_i19, ne_i20, ne_i23, ne_i24, ne_i27, ne_i29, ne_i30, ne_i31, ne_i32, ne_i35, ne_i48, ne_i52, ne_i54, ne_i57, ne_i59, ne_i63, ne_i64, ne_i76, ne_i77, ne_i78, ne_i79, ne_i80, ne_i81, ne_i97, ne_i99, ne_i100, ne_i101, ne_i104, ne_i105, ne_i108, ne_i110, ne_i111, ne_i116, ne_i117, ne_i122, ne_i103, ne_i200, ne_i255, ne_i256, ne_i320, ne_i384, ne_i1000, ne_l0, ne_l1, ne_l2, ne_l3, ne_l4, ne_l5, ne_l8, ne_l12, ne_l31, ne_l48, ne_l57, ne_l97, ne_l99, ne_l122, ne_l255, ne_l673, ne_l1073741823, ne_l1073741824]
  refine ne_loop (fun f i (s : sm_St) => px_Fraction_reduce_b9 N f (nI 12) (nI i) s) (fun i s => ∃ A B g, fh s A B ∧ 0 < g ∧ P = A * g ∧ Q = B * g ∧ (∀ j, j < i → ¬ (pr.getD j 0 ∣ A ∧ pr.getD j 0 ∣ B)) ∧ fo X s) 12 (fun r => ∃ X' P' Q' g, r = some X' ∧ fh X' P' Q' ∧ 0 < g ∧ P = P' * g ∧ Q = Q' * g ∧ (∀ i, i < 12 → ¬ (pr.getD i 0 ∣ P' ∧ pr.getD i 0 ∣ Q')) ∧ fo X X') ?_ ?_ N 0 X (by omega) (by omega) ⟨P, Q, 1, h, by decide, by rw [Nat.mul_one], by rw [Nat.mul_one], fun j hj => by omega, fo_rf⟩
  · rintro f i s hi ⟨A, B, g, g1, g2, g3, g4, g5, g6⟩
    left
    obtain ⟨p1, p2, p3⟩ := pr_ok i hi
    have p1 : zx_pr.getD i (nI 0) = nI (pr.getD i 0) := p1
    have hA : 0 < A := by
      rcases Nat.eq_zero_or_pos A with e | e
      · rw [e, Nat.zero_mul] at g3; omega
      · exact e
    obtain ⟨X', P', Q', g', r1, r2, r3, r4, r5, r6, r7⟩ := xq_reduce1 (f := f) (i := i) hN g1 p2 p3 hA hi
    refine ⟨X', ⟨P', Q', g' * g, r2, Nat.mul_pos r3 g2, by rw [← Nat.mul_assoc, ← r4]; exact g3, by rw [← Nat.mul_assoc, ← r5]; exact g4, fun j hj => ?_, fo_tr g6 r7⟩, ?_⟩
    · by_cases e : j = i
      · subst e
        exact r6
      · intro q
        exact g5 j (by omega) ⟨by rw [r4]; exact Nat.dvd_trans q.1 (Nat.dvd_mul_right _ _), by rw [r5]; exact Nat.dvd_trans q.2 (Nat.dvd_mul_right _ _)⟩
    · show px_Fraction_reduce_b9 N (f + 1) _ _ _ = _
      rw [px_Fraction_reduce_b9]
      simp (disch := omega) only [sm_lt, sm_b1s, sm_b2s, ↓reduceIte, sm_in_nI, nI_clamp, nI_add, pk_mul, pk_sub, ne_addneg, nI_l, ne_ltT, ne_ltF, ne_leT, ne_leF, ne_eqT, ne_eqF, ne_sI1s, ne_sI1n, ne_sI2, ne_sI3, ne_sL1, ne_sL2s, ne_sL2n, ne_sL3, pk_us, pk_un, pk_uLs, pk_uLn, mm_Z, mm_L, mm_1, mm_2, mm_3, ne_rz0, ne_rz1, not_true_eq_false, not_false_eq_true, ne_i0, ne_i1, ne_i2, ne_i3, ne_i4, ne_i5, ne_i6, ne_i7, ne_i8, ne_i9, ne_i10, ne_i12, ne_i14, ne_i16, ne_i18, ne_i19, ne_i20, ne_i23, ne_i24, ne_i27, ne_i29, ne_i30, ne_i31, ne_i32, ne_i35, ne_i48, ne_i52, ne_i54, ne_i57, ne_i59, ne_i63, ne_i64, ne_i76, ne_i77, ne_i78, ne_i79, ne_i80, ne_i81, ne_i97, ne_i99, ne_i100, ne_i101, ne_i104, ne_i105, ne_i108, ne_i110, ne_i111, ne_i116, ne_i117, ne_i122, ne_i103, ne_i200, ne_i255, ne_i256, ne_i320, ne_i384, ne_i1000, ne_l0, ne_l1, ne_l2, ne_l3, ne_l4, ne_l5, ne_l8, ne_l12, ne_l31, ne_l48, ne_l57, ne_l97, ne_l99, ne_l122, ne_l255, ne_l673, ne_l1073741823, ne_l1073741824, p1]
      exact r1
  · rintro f s ⟨A, B, g, g1, g2, g3, g4, g5, g6⟩
    show ∃ X' P' Q' g, px_Fraction_reduce_b9 N (f + 1) _ _ _ = _ ∧ _
    rw [px_Fraction_reduce_b9]
    simp (disch := omega) only [sm_lt, sm_b1s, sm_b2s, ↓reduceIte, sm_in_nI, nI_clamp, nI_add, pk_mul, pk_sub, ne_addneg, nI_l, ne_ltT, ne_ltF, ne_leT, ne_leF, ne_eqT, ne_eqF, ne_sI1s, ne_sI1n, ne_sI2, ne_sI3, ne_sL1, ne_sL2s, ne_sL2n, ne_sL3, pk_us, pk_un, pk_uLs, pk_uLn, mm_Z, mm_L, mm_1, mm_2, mm_3, ne_rz0, ne_rz1, not_true_eq_false, not_false_eq_true, ne_i0, ne_i1, ne_i2, ne_i3, ne_i4, ne_i5, ne_i6, ne_i7, ne_i8, ne_i9, ne_i10, ne_i12, ne_i14, ne_i16, ne_i18, ne_i19, ne_i20, ne_i23, ne_i24, ne_i27, ne_i29, ne_i30, ne_i31, ne_i32, ne_i35, ne_i48, ne_i52, ne_i54, ne_i57, ne_i59, ne_i63, ne_i64, ne_i76, ne_i77, ne_i78, ne_i79, ne_i80, ne_i81, ne_i97, ne_i99, ne_i100, ne_i101, ne_i104, ne_i105, ne_i108, ne_i110, ne_i111, ne_i116, ne_i117, ne_i122, ne_i103, ne_i200, ne_i255, ne_i256, ne_i320, ne_i384, ne_i1000, ne_l0, ne_l1, ne_l2, ne_l3, ne_l4, ne_l5, ne_l8, ne_l12, ne_l31, ne_l48, ne_l57, ne_l97, ne_l99, ne_l122, ne_l255, ne_l673, ne_l1073741823, ne_l1073741824]
    exact ⟨s, A, B, g, rfl, g1, g2, g3, g4, g5, g6⟩
end
