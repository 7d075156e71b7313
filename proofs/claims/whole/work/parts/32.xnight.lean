/-! the built night: who takes how much, and the new shades -/
theorem ne_neqm {n : Nat} (h : n < 2 ^ 31) : (nI n = -nI 1) = False := by
  refine eq_false (fun e => ?_)
  have h1 := congrArg Int32.toInt e
  rw [nI_toInt h] at h1
  have : (-nI 1).toInt = -1 := by decide
  omega
theorem ne_eqm : (-nI 1 = -nI 1) = True := eq_true rfl
def sp_tp (a t co : Nat → Nat) (i : Nat) : Nat → Nat
  | 0 => 0
  | n + 1 => sp_tp a t co i n + sp_tk a t i (4 + n) * co n
def sp_t2 (a t : Nat → Nat) (i : Nat) : Nat → Nat
  | 0 => 0
  | n + 1 => sp_t2 a t i n + sp_tk a t i (4 + n)
/-- the greatest colour that is touched -/
def sp_tg (a t co : Nat → Nat) (i : Nat) : Nat → Option Nat
  | 0 => none
  | n + 1 => if 0 < sp_tk a t i (4 + n) then (match sp_tg a t co i n with | none => some (co n) | some m => some (if m < co n then co n else m)) else sp_tg a t co i n
def sp_og (o : Option Nat) : Int32 := match o with
  | none => -nI 1
  | some m => nI m
def xtr (X : sm_St) (a t co : Nat → Nat) (i : Nat) : Prop := X.1 120 i = nI (if a (4 * i) = 4 then 1 else 0) ∧ X.1 119 i = nI (if a (4 * i) = 4 then 0 else sp_ts a t i 8) ∧ (∀ j, j < a 76 → X.1 (115 + i) j = nI (sp_tk a t i j)) ∧ X.1 (115 + i) 4 = nI (sp_tp a t co i (a 77)) ∧ X.1 121 i = sp_og (sp_tg a t co i (a 77))
def xt (X : sm_St) (a t co : Nat → Nat) : Prop := X.1 110 5 = nI (a 76) ∧ X.1 110 6 = nI (sp_by a t (a 76)) ∧ ∀ i, i < a 76 → xtr X a t co i
theorem xt_fr {X X' : sm_St} {a t co : Nat → Nat} (hs : sc a t co) (h : xt X a t co) (hf : ∀ p, 110 ≤ p → p < 122 → X'.1 p = X.1 p) : xt X' a t co := by
  have := hs.1
  obtain ⟨h1, h2, h3⟩ := h
  refine ⟨by rw [hf 110 (by decide) (by decide)]; exact h1, by rw [hf 110 (by decide) (by decide)]; exact h2, fun i hi => ?_⟩
  obtain ⟨r1, r2, r3, r4, r5⟩ := h3 i hi
  exact ⟨by rw [hf 120 (by decide) (by decide)]; exact r1, by rw [hf 119 (by decide) (by decide)]; exact r2, fun j hj => by rw [hf (115 + i) (by omega) (by omega)]; exact r3 j hj, by rw [hf (115 + i) (by omega) (by omega)]; exact r4, by rw [hf 121 (by decide) (by decide)]; exact r5⟩
section
variable {a t co w : Nat → Nat}
theorem sp_tk_6 (hs : sc a t co) {c x : Nat} (hc : c < a 76) (hx : x < 8) : sp_tk a t c x ≤ 6 := by
  have h := sp_tk_le hs hc hx
  split at h
  · omega
  · split at h <;> omega
theorem sp_tk_hi (hs : sc a t co) {c x : Nat} (hc : c < a 76) (h : 4 + a 77 ≤ x) : sp_tk a t c x = 0 := by
  have := hs.1
  unfold sp_tk
  rw [if_neg (by omega), if_neg (by omega), if_neg (by omega)]
theorem sp_tk_mid {c x : Nat} (hc : c < a 76) (h : a 76 ≤ x) (hx : x < 4) : sp_tk a t c x = 0 := by
  unfold sp_tk
  rw [if_neg (by omega), if_pos hx, if_neg (by omega)]
theorem sp_tp_hi (hs : sc a t co) {c : Nat} (hc : c < a 76) : ∀ d, sp_tp a t co c (a 77 + d) = sp_tp a t co c (a 77)
  | 0 => rfl
  | d + 1 => by
    rw [← Nat.add_assoc, sp_tp, sp_tp_hi hs hc d, sp_tk_hi hs hc (by omega), Nat.zero_mul, Nat.add_zero]
theorem sp_t2_hi (hs : sc a t co) {c : Nat} (hc : c < a 76) : ∀ d, sp_t2 a t c (a 77 + d) = sp_t2 a t c (a 77)
  | 0 => rfl
  | d + 1 => by
    rw [← Nat.add_assoc, sp_t2, sp_t2_hi hs hc d, sp_tk_hi hs hc (by omega), Nat.add_zero]
theorem sp_tp4 (hs : sc a t co) {c : Nat} (hc : c < a 76) : sp_tp a t co c 4 = sp_tp a t co c (a 77) := by
  have h2 := hs.2.1
  have := sp_tp_hi hs hc (4 - a 77)
  rwa [show a 77 + (4 - a 77) = 4 by omega] at this
theorem sp_t24 (hs : sc a t co) {c : Nat} (hc : c < a 76) : sp_t2 a t c 4 = sp_t2 a t c (a 77) := by
  have h2 := hs.2.1
  have := sp_t2_hi hs hc (4 - a 77)
  rwa [show a 77 + (4 - a 77) = 4 by omega] at this
theorem sp_ts_4 (c : Nat) : sp_ts a t c 8 = sp_ts a t c 4 + sp_t2 a t c 4 := by
  simp only [sp_ts, sp_t2, Nat.zero_add, Nat.add_zero, show 4 + 1 = 5 from rfl, show 4 + 2 = 6 from rfl, show 4 + 3 = 7 from rfl]
  omega
theorem sp_tp_le (hs : sc a t co) {c : Nat} (hc : c < a 76) : sp_tp a t co c (a 77) ≤ 288 := by
  have h2 := hs.2.1
  have q : ∀ n, n ≤ a 77 → sp_tp a t co c n ≤ 72 * n := fun n => by
    induction n with
    | zero => intro _; simp [sp_tp]
    | succ n ih =>
      intro hn
      have k1 := ih (by omega)
      have k2 : sp_tk a t c (4 + n) * co n ≤ 6 * 12 := Nat.mul_le_mul (sp_tk_6 hs hc (by omega)) (hs.2.2.2.2 n (by omega))
      rw [sp_tp]
      omega
  have := q (a 77) (Nat.le_refl _)
  omega
theorem sp_sm_split (hs : sc a t co) {c : Nat} (hc : c < a 76) : sp_sm a t co w c 8 = w 0 * sp_tk a t c 0 + w 1 * sp_tk a t c 1 + w 2 * sp_tk a t c 2 + w 3 * sp_tk a t c 3 + w 4 * sp_tp a t co c (a 77) := by
  rw [← sp_tp4 hs hc]
  simp only [sp_sm, sp_tp, sp_val, Nat.zero_add, Nat.mul_add]
  rw [if_pos (by decide), if_pos (by decide), if_pos (by decide), if_pos (by decide), if_neg (by decide), if_neg (by decide), if_neg (by decide), if_neg (by decide)]
  simp only [Nat.add_zero, show 4 - 4 = 0 from rfl, show 5 - 4 = 1 from rfl, show 6 - 4 = 2 from rfl, show 7 - 4 = 3 from rfl, show 4 + 1 = 5 from rfl, show 4 + 2 = 6 from rfl, show 4 + 3 = 7 from rfl, Nat.mul_assoc, Nat.mul_comm (co _)]
  omega
/-- what the greatest is -/
theorem sp_gr_is (c : Nat) : ∀ n, (sp_gr a t co w c n = none ∧ ∀ x, x < n → sp_tc a t c x = false) ∨ ∃ m, sp_gr a t co w c n = some m ∧ (∃ x, x < n ∧ sp_tc a t c x = true ∧ sp_val w co x = m) ∧ ∀ x, x < n → sp_tc a t c x = true → sp_val w co x ≤ m
  | 0 => Or.inl ⟨rfl, fun x hx => by omega⟩
  | n + 1 => by
    rw [sp_gr]
    cases e : sp_tc a t c n with
    | false =>
      rw [if_neg (by simp)]
      rcases sp_gr_is c n with ⟨h1, h2⟩ | ⟨m, h1, ⟨x, x1, x2, x3⟩, h3⟩
      · left
        refine ⟨h1, fun x hx => ?_⟩
        by_cases q : x = n
        · rw [q]; exact e
        · exact h2 x (by omega)
      · right
        refine ⟨m, h1, ⟨x, by omega, x2, x3⟩, fun y hy hy2 => ?_⟩
        by_cases q : y = n
        · subst q; rw [e] at hy2; cases hy2
        · exact h3 y (by omega) hy2
    | true =>
      rw [if_pos rfl]
      right
      rcases sp_gr_is c n with ⟨h1, h2⟩ | ⟨m, h1, ⟨x, x1, x2, x3⟩, h3⟩
      · rw [h1]
        refine ⟨_, rfl, ⟨n, by omega, e, rfl⟩, fun y hy hy2 => ?_⟩
        by_cases q : y = n
        · rw [q]; exact Nat.le_refl _
        · rw [h2 y (by omega)] at hy2; cases hy2
      · rw [h1]
        refine ⟨_, rfl, ?_, fun y hy hy2 => ?_⟩
        · by_cases q : m < sp_val w co n
          · rw [if_pos q]; exact ⟨n, by omega, e, rfl⟩
          · rw [if_neg q]; exact ⟨x, by omega, x2, x3⟩
        · have : sp_val w co y ≤ m ∨ sp_val w co y = sp_val w co n := by
            by_cases q : y = n
            · right; rw [q]
            · exact Or.inl (h3 y (by omega) hy2)
          split <;> omega
theorem sp_gr_of {c m : Nat} (h : ∃ x, x < 8 ∧ sp_tc a t c x = true ∧ sp_val w co x = m) (h2 : ∀ x, x < 8 → sp_tc a t c x = true → sp_val w co x ≤ m) : sp_gr a t co w c 8 = some m := by
  obtain ⟨x, x1, x2, x3⟩ := h
  rcases sp_gr_is (a := a) (t := t) (co := co) (w := w) c 8 with ⟨_, g2⟩ | ⟨m', g1, ⟨y, y1, y2, y3⟩, g3⟩
  · rw [g2 x x1] at x2; cases x2
  · have a1 := g3 x x1 x2
    have a2 := h2 y y1 y2
    rw [g1]
    congr 1
    omega
theorem sp_gr_no {c : Nat} (h2 : ∀ x, x < 8 → sp_tc a t c x = false) : sp_gr a t co w c 8 = none := by
  rcases sp_gr_is (a := a) (t := t) (co := co) (w := w) c 8 with ⟨g1, _⟩ | ⟨m', g1, ⟨y, y1, y2, y3⟩, g3⟩
  · exact g1
  · rw [h2 y y1] at y2; cases y2
/-- of a vain one: what it touches -/
theorem sp_tc_k (hs : sc a t co) {c x : Nat} (hc : c < a 76) (hx : x < 8) (hv : a (4 * c) = 4) : sp_tc a t c x = true ↔ 0 < sp_tk a t c x := by
  have := hs.1
  unfold sp_tc sp_tk
  simp only [Bool.and_eq_true, Bool.or_eq_true, decide_eq_true_eq]
  by_cases h1 : x = c
  · rw [if_pos h1, if_neg (by omega)]
    omega
  · rw [if_neg h1]
    by_cases h2 : x < 4
    · rw [if_pos h2]
      split <;> omega
    · rw [if_neg h2]
      by_cases h3 : x < 4 + a 77
      · rw [if_pos h3, if_neg (by omega)]
        omega
      · rw [if_neg h3]
        omega
theorem sp_tg_is (i : Nat) : ∀ n, (sp_tg a t co i n = none ∧ ∀ x, x < n → ¬ 0 < sp_tk a t i (4 + x)) ∨ ∃ m, sp_tg a t co i n = some m ∧ (∃ x, x < n ∧ 0 < sp_tk a t i (4 + x) ∧ co x = m) ∧ ∀ x, x < n → 0 < sp_tk a t i (4 + x) → co x ≤ m
  | 0 => Or.inl ⟨rfl, fun x hx => by omega⟩
  | n + 1 => by
    rw [sp_tg]
    by_cases e : 0 < sp_tk a t i (4 + n)
    · rw [if_pos e]
      right
      rcases sp_tg_is i n with ⟨h1, h2⟩ | ⟨m, h1, ⟨x, x1, x2, x3⟩, h3⟩
      · rw [h1]
        refine ⟨_, rfl, ⟨n, by omega, e, rfl⟩, fun y hy hy2 => ?_⟩
        by_cases q : y = n
        · rw [q]; exact Nat.le_refl _
        · exact absurd hy2 (h2 y (by omega))
      · rw [h1]
        refine ⟨_, rfl, ?_, fun y hy hy2 => ?_⟩
        · by_cases q : m < co n
          · rw [if_pos q]; exact ⟨n, by omega, e, rfl⟩
          · rw [if_neg q]; exact ⟨x, by omega, x2, x3⟩
        · have : co y ≤ m ∨ co y = co n := by
            by_cases q : y = n
            · right; rw [q]
            · exact Or.inl (h3 y (by omega) hy2)
          split <;> omega
    · rw [if_neg e]
      rcases sp_tg_is i n with ⟨h1, h2⟩ | ⟨m, h1, ⟨x, x1, x2, x3⟩, h3⟩
      · left
        refine ⟨h1, fun x hx => ?_⟩
        by_cases q : x = n
        · rw [q]; exact e
        · exact h2 x (by omega)
      · right
        refine ⟨m, h1, ⟨x, by omega, x2, x3⟩, fun y hy hy2 => ?_⟩
        by_cases q : y = n
        · subst q; exact absurd hy2 e
        · exact h3 y (by omega) hy2
end
section
variable {N : Nat} {X : sm_St} {a t co w : Nat → Nat}
theorem sx_one (c w : Nat → Nat) (i : Nat) (hi : i < 5) (h : ∀ r, r < 5 → r ≠ i → c r = 0) : sx c w 5 = c i * w i := by
  have q : ∀ n, n ≤ 5 → sx c w n = if i < n then c i * w i else 0 := fun n => by
    induction n with
    | zero => intro _; rfl
    | succ n ih =>
      intro hn
      rw [sx, ih (by omega)]
      by_cases e : n = i
      · subst e
        rw [if_neg (by omega), if_pos (by omega)]; omega
      · rw [h n (by omega) e]
        by_cases l : i < n
        · rw [if_pos l, if_pos (by omega)]; omega
        · rw [if_neg l, if_neg (by omega)]; omega
  rw [q 5 (Nat.le_refl _), if_pos hi]
def xcf (L : Nat → Int64) (a : Nat → Nat) (w : Nat → Nat) (V : Nat) : Prop := ∃ c : Nat → Nat, (∀ r, r < 5 → L r = lN (c r)) ∧ sx c w 5 = V ∧ (∀ r, r < 5 → c r ≠ 0 → r < a 76 ∨ r = 4) ∧ sx c (fun _ => 1) 5 ≤ 1073741824
theorem xcf_one {g : Nat → Int64} {i b V : Nat} (h0 : ∀ r, r < 5 → g r = lN 0) (hi : i < 5) (hk : i < a 76 ∨ i = 4) (hb : b ≤ 1073741824) (hV : V = w i * b) : xcf (vp_updL g i (lN b)) a w V := by
  have z : ∀ r, r < 5 → r ≠ i → va_up (fun _ => 0) i b r = 0 := fun r _ e => ne_up_n e
  refine ⟨va_up (fun _ => 0) i b, fun r hr => ?_, ?_, fun r hr hc => ?_, ?_⟩
  · by_cases e : r = i
    · subst e
      rw [pk_uLs, ne_up_s]
    · rw [pk_uLn e, ne_up_n e]
      exact h0 r hr
  · rw [sx_one _ _ i hi z, ne_up_s, hV, Nat.mul_comm]
  · by_cases e : r = i
    · subst e
      exact hk
    · exact absurd (z r hr e) hc
  · rw [sx_one _ _ i hi z, ne_up_s]
    omega
def xmean (a t co : Nat → Nat) (i m r : Nat) : Nat := if r = 4 then m * sp_tp a t co i (a 77) else if r < a 76 then m * sp_tk a t i r else 0
theorem xmean_4 {i m : Nat} : xmean a t co i m 4 = m * sp_tp a t co i (a 77) := if_pos rfl
theorem xmean_r {i m r : Nat} (hi : i < a 76) (hr : r < 4) : xmean a t co i m r = m * sp_tk a t i r := by
  unfold xmean
  rw [if_neg (by omega)]
  by_cases l : r < a 76
  · rw [if_pos l]
  · rw [if_neg l, sp_tk_mid hi (by omega) hr, Nat.mul_zero]
theorem xq_takeMean {i : Nat} (hN : 4000 ≤ N) (hs : sc a t co) (h : xt X a t co) (hi : i < a 76) (hv : a (4 * i) ≠ 4) : ∃ L, px_Takings_takeMean N X (nI i) = some (sm_lF X 112 L) ∧ xcf L a w (if 0 < sp_ts a t i 8 then sp_sm a t co w i 8 * (sp_by a t (a 76) / sp_ts a t i 8) else w i * sp_by a t (a 76)) := by
  obtain ⟨h1, h2, h3⟩ := h
  obtain ⟨r1, r2, r3, r4, r5⟩ := h3 i hi
  have k4 := hs.1
  have b4 := sp_by_4 hs (n := a 76) (Nat.le_refl _)
  have tl := sp_ts_le hs hi
  have tpl := sp_tp_le hs hi
  rw [if_neg hv] at r2
  obtain ⟨g, e0, g0⟩ := xq_begin (X := X) (N := N) (p := 111) hN
  unfold px_Takings_takeMean
  by_cases h0 : 0 < sp_ts a t i 8
  · rw [if_pos h0]
    have hd : sp_by a t (a 76) / sp_ts a t i 8 ≤ 1874161 := Nat.le_trans (Nat.div_le_self _ _) b4
    generalize ew : sp_by a t (a 76) / sp_ts a t i 8 = m at *
    have fin : ∃ L, px_Takings_takeMean_b45 N N (nI i) (nI m) (nI 0) (sm_lF X 112 g) = some (sm_lF X 112 L) ∧ xcf L a w (sp_sm a t co w i 8 * m) := by
      refine ne_loop (fun f j (L : Nat → Int64) => px_Takings_takeMean_b45 N f (nI i) (nI m) (nI j) (sm_lF X 112 L)) (fun j L => (∀ r, r < j → L r = lN (m * sp_tk a t i r)) ∧ ∀ r, j ≤ r → r < 5 → L r = lN 0) (a 76) (fun r => ∃ L, r = some (sm_lF X 112 L) ∧ xcf L a w (sp_sm a t co w i 8 * m)) ?_ ?_ N 0 g (by omega) (by omega) ⟨fun r hr => by omega, fun r _ hr => g0 r hr⟩
      · rintro f j L hj ⟨i1, i2⟩
        left
        have ht := sp_tk_6 hs hi (x := j) (by omega)
        refine ⟨vp_updL L j (lN (m * sp_tk a t i j)), ⟨fun r hr => ?_, fun r hr hr5 => ?_⟩, ?_⟩
        · by_cases e : r = j
          · subst e
            exact pk_uLs
          · rw [pk_uLn e]
            exact i1 r (by omega)
        · rw [pk_uLn (by omega)]
          exact i2 r (by omega) hr5
        · show px_Takings_takeMean_b45 N (f + 1) _ _ _ _ = _
          rw [px_Takings_takeMean_b45]
          simp (disch := omega) only [sm_lt, sm_b1s, sm_b2s, ↓reduceIte, sm_in_nI, nI_clamp, nI_add, pk_mul, pk_sub, ne_addneg, nI_l, ne_ltT, ne_ltF, ne_leT, ne_leF, ne_eqT, ne_eqF, ne_sI1s, ne_sI1n, ne_sI2, ne_sI3, ne_sL1, ne_sL2s, ne_sL2n, ne_sL3, pk_us, pk_un, pk_uLs, pk_uLn, mm_Z, mm_L, mm_1, mm_2, mm_3, ne_rz0, ne_rz1, not_true_eq_false, not_false_eq_true, ne_i0, ne_i1, ne_i2, ne_i3, ne_i4, ne_i5, ne_i6, ne_i7, ne_i8, ne_i9, ne_i10, ne_i12, ne_i14, ne_i16, ne_i18, ne_i19, ne_i20, ne_i23, ne_i24, ne_i27, ne_i29, ne_i30, ne_i31, ne_i32, ne_i35, ne_i48, ne_i52, ne_i54, ne_i57, ne_i59, ne_i63, ne_i64, ne_i76, ne_i77, ne_i78, ne_i79, ne_i80, ne_i81, ne_i97, ne_i99, ne_i100, ne_i101, ne_i104, ne_i105, ne_i108, ne_i110, ne_i111, ne_i116, ne_i117, ne_i122, ne_i103, ne_i200, ne_i255, ne_i256, ne_i320, ne_i384, ne_i1000, ne_l0, ne_l1, ne_l2, ne_l3, ne_l4, ne_l5, ne_l8, ne_l12, ne_l31, ne_l48, ne_l57, ne_l97, ne_l99, ne_l122, ne_l255, ne_l673, ne_l1073741823, ne_l1073741824, lF_1, h1, r3, lN_mul, lF_sL]
      · rintro f L ⟨i1, i2⟩
        show ∃ L', px_Takings_takeMean_b45 N (f + 1) _ _ _ _ = _ ∧ _
        rw [px_Takings_takeMean_b45]
        simp (disch := omega) only [sm_lt, sm_b1s, sm_b2s, ↓reduceIte, sm_in_nI, nI_clamp, nI_add, pk_mul, pk_sub, ne_addneg, nI_l, ne_ltT, ne_ltF, ne_leT, ne_leF, ne_eqT, ne_eqF, ne_sI1s, ne_sI1n, ne_sI2, ne_sI3, ne_sL1, ne_sL2s, ne_sL2n, ne_sL3, pk_us, pk_un, pk_uLs, pk_uLn, mm_Z, mm_L, mm_1, mm_2, mm_3, ne_rz0, ne_rz1, not_true_eq_false, not_false_eq_true, ne_i0, ne_i1, ne_i2, ne_i3, ne_i4, ne_i5, ne_i6, ne_i7, ne_i8, ne_i9, ne_i10, ne_i12, ne_i14, ne_i16, ne_i18, ne_i19, ne_i20, ne_i23, ne_i24, ne_i27, ne_i29, ne_i30, ne_i31, ne_i32, ne_i35, ne_i48, ne_i52, ne_i54, ne_i57, ne_i59, ne_i63, ne_i64, ne_i76, ne_i77, ne_i78, ne_i79, ne_i80, ne_i81, ne_i97, ne_i99, ne_i100, ne_i101, ne_i104, ne_i105, ne_i108, ne_i110, ne_i111, ne_i116, ne_i117, ne_i122, ne_i103, ne_i200, ne_i255, ne_i256, ne_i320, ne_i384, ne_i1000, ne_l0, ne_l1, ne_l2, ne_l3, ne_l4, ne_l5, ne_l8, ne_l12, ne_l31, ne_l48, ne_l57, ne_l97, ne_l99, ne_l122, ne_l255, ne_l673, ne_l1073741823, ne_l1073741824, lF_1, h1, r4, lN_mul, lF_sL]
        refine ⟨_, rfl, xmean a t co i m, fun r hr => ?_, ?_, fun r hr hc => ?_, ?_⟩
        · by_cases e : r = 4
          · subst e
            rw [pk_uLs, xmean_4]
          · rw [pk_uLn e, xmean_r hi (by omega)]
            by_cases l : r < a 76
            · exact i1 r l
            · rw [sp_tk_mid hi (by omega) (by omega), Nat.mul_zero]
              exact i2 r (by omega) hr
        · rw [sp_sm_split hs hi]
          simp only [sx, xmean_r hi (show 0 < 4 by decide), xmean_r hi (show 1 < 4 by decide), xmean_r hi (show 2 < 4 by decide), xmean_r hi (show 3 < 4 by decide), xmean_4, Nat.zero_add, Nat.add_mul]
          simp only [Nat.mul_comm, Nat.mul_left_comm]
        · by_cases e : r = 4
          · exact Or.inr e
          · refine Or.inl (Nat.lt_of_not_le fun l => hc ?_)
            rw [xmean_r hi (by omega), sp_tk_mid hi l (by omega), Nat.mul_zero]
        · have z : ∀ r, r < 4 → m * sp_tk a t i r ≤ 1874161 * 6 := fun r hr => Nat.mul_le_mul hd (sp_tk_6 hs hi (by omega))
          have z4 : m * sp_tp a t co i (a 77) ≤ 1874161 * 288 := Nat.mul_le_mul hd tpl
          have z0 := z 0 (by decide)
          have z1 := z 1 (by decide)
          have z2 := z 2 (by decide)
          have z3 := z 3 (by decide)
          simp only [sx, xmean_r hi (show 0 < 4 by decide), xmean_r hi (show 1 < 4 by decide), xmean_r hi (show 2 < 4 by decide), xmean_r hi (show 3 < 4 by decide), xmean_4, Nat.zero_add, Nat.mul_one]
          omega
    simp (disch := omega) only [sm_lt, sm_b1s, sm_b2s, ↓reduceIte, sm_in_nI, nI_clamp, nI_add, pk_mul, pk_sub, ne_addneg, nI_l, ne_ltT, ne_ltF, ne_leT, ne_leF, ne_eqT, ne_eqF, ne_sI1s, ne_sI1n, ne_sI2, ne_sI3, ne_sL1, ne_sL2s, ne_sL2n, ne_sL3, pk_us, pk_un, pk_uLs, pk_uLn, mm_Z, mm_L, mm_1, mm_2, mm_3, ne_rz0, ne_rz1, not_true_eq_false, not_false_eq_true, ne_i0, ne_i1, ne_i2, ne_i3, ne_i4, ne_i5, ne_i6, ne_i7, ne_i8, ne_i9, ne_i10, ne_i12, ne_i14, ne_i16, ne_i18, ne_i19, ne_i20, ne_i23, ne_i24, ne_i27, ne_i29, ne_i30, ne_i31, ne_i32, ne_i35, ne_i48, ne_i52, ne_i54, ne_i57, ne_i59, ne_i63, ne_i64, ne_i76, ne_i77, ne_i78, ne_i79, ne_i80, ne_i81, ne_i97, ne_i99, ne_i100, ne_i101, ne_i104, ne_i105, ne_i108, ne_i110, ne_i111, ne_i116, ne_i117, ne_i122, ne_i103, ne_i200, ne_i255, ne_i256, ne_i320, ne_i384, ne_i1000, ne_l0, ne_l1, ne_l2, ne_l3, ne_l4, ne_l5, ne_l8, ne_l12, ne_l31, ne_l48, ne_l57, ne_l97, ne_l99, ne_l122, ne_l255, ne_l673, ne_l1073741823, ne_l1073741824, e0, lF_1, r2, h2, pk_div, ew]
    exact fin
  · rw [if_neg h0]
    simp (disch := omega) only [sm_lt, sm_b1s, sm_b2s, ↓reduceIte, sm_in_nI, nI_clamp, nI_add, pk_mul, pk_sub, ne_addneg, nI_l, ne_ltT, ne_ltF, ne_leT, ne_leF, ne_eqT, ne_eqF, ne_sI1s, ne_sI1n, ne_sI2, ne_sI3, ne_sL1, ne_sL2s, ne_sL2n, ne_sL3, pk_us, pk_un, pk_uLs, pk_uLn, mm_Z, mm_L, mm_1, mm_2, mm_3, ne_rz0, ne_rz1, not_true_eq_false, not_false_eq_true, ne_i0, ne_i1, ne_i2, ne_i3, ne_i4, ne_i5, ne_i6, ne_i7, ne_i8, ne_i9, ne_i10, ne_i12, ne_i14, ne_i16, ne_i18, ne_i19, ne_i20, ne_i23, ne_i24, ne_i27, ne_i29, ne_i30, ne_i31, ne_i32, ne_i35, ne_i48, ne_i52, ne_i54, ne_i57, ne_i59, ne_i63, ne_i64, ne_i76, ne_i77, ne_i78, ne_i79, ne_i80, ne_i81, ne_i97, ne_i99, ne_i100, ne_i101, ne_i104, ne_i105, ne_i108, ne_i110, ne_i111, ne_i116, ne_i117, ne_i122, ne_i103, ne_i200, ne_i255, ne_i256, ne_i320, ne_i384, ne_i1000, ne_l0, ne_l1, ne_l2, ne_l3, ne_l4, ne_l5, ne_l8, ne_l12, ne_l31, ne_l48, ne_l57, ne_l97, ne_l99, ne_l122, ne_l255, ne_l673, ne_l1073741823, ne_l1073741824, e0, lF_1, r2, h2, lF_sL]
    exact ⟨_, rfl, xcf_one g0 (by omega) (Or.inl hi) (by omega) rfl⟩
def xgr (o : Option (Nat × Nat)) : Int32 := match o with
  | none => -nI 1
  | some p => nI p.1
def xgt (o : Option (Nat × Nat)) : Int32 := match o with
  | none => -nI 1
  | some p => nI p.2
/-- o: the greatest of what is touched below j, and of the things -/
def xgm (a t co w : Nat → Nat) (c j : Nat) (o : Option (Nat × Nat)) : Prop := (o = none ∧ ∀ x, (x < j ∨ 4 ≤ x ∧ x < 8) → sp_tc a t c x = false) ∨ ∃ r m, o = some (r, m) ∧ (r < a 76 ∨ r = 4) ∧ m ≤ 12 ∧ (∃ x, (x < j ∨ 4 ≤ x ∧ x < 8) ∧ sp_tc a t c x = true ∧ sp_val w co x = w r * m) ∧ ∀ x, (x < j ∨ 4 ≤ x ∧ x < 8) → sp_tc a t c x = true → sp_val w co x ≤ w r * m
theorem xq_takeGreatest {c q : Nat} (hN : 4000 ≤ N) (hs : sc a t co) (h : xt X a t co) (hc : c < a 76) (hv : a (4 * c) = 4) (hx : xsh X q (a 76) w) : ∃ L, px_Takings_takeGreatest N X (nI c) q = some (sm_lF X 112 L) ∧ xcf L a w (((sp_gr a t co w c 8).getD (w c)) * sp_by a t (a 76)) := by
  obtain ⟨h1, h2, h3⟩ := h
  obtain ⟨r1, r2, r3, r4, r5⟩ := h3 c hc
  have k4 := hs.1
  have t4 := hs.2.1
  have b4 := sp_by_4 hs (n := a 76) (Nat.le_refl _)
  have tcp := fun x hx => sp_tc_k hs (x := x) hc hx hv
  have tcF : ∀ x, x < 8 → ¬ 0 < sp_tk a t c x → sp_tc a t c x = false := fun x hx hn => Bool.eq_false_iff.mpr (fun e => hn ((tcp x hx).mp e))
  have start : ∀ o : Option Nat, sp_tg a t co c (a 77) = o → xgm a t co w c 0 (o.map fun m => (4, m)) := by
    intro o ho
    rcases sp_tg_is (a := a) (t := t) (co := co) c (a 77) with ⟨g1, g2⟩ | ⟨m, g1, ⟨x, x1, x2, x3⟩, g3⟩
    · rw [ho] at g1
      subst g1
      left
      refine ⟨rfl, fun x hx => tcF x (by omega) (fun hp => ?_)⟩
      by_cases l : x < 4 + a 77
      · exact g2 (x - 4) (by omega) (by rw [show 4 + (x - 4) = x by omega]; exact hp)
      · rw [sp_tk_hi hs hc (by omega)] at hp
        omega
    · rw [ho] at g1
      subst g1
      right
      refine ⟨4, m, rfl, Or.inr rfl, by rw [← x3]; exact hs.2.2.2.2 x x1, ⟨4 + x, by omega, (tcp _ (by omega)).mpr x2, ?_⟩, fun y hy hy2 => ?_⟩
      · unfold sp_val
        rw [if_neg (by omega), show 4 + x - 4 = x by omega, x3]
      · have hp := (tcp y (by omega)).mp hy2
        have hl : y < 4 + a 77 := by
          rcases Nat.lt_or_ge y (4 + a 77) with l | l
          · exact l
          · rw [sp_tk_hi hs hc l] at hp
            omega
        unfold sp_val
        rw [if_neg (by omega)]
        exact Nat.mul_le_mul_left _ (g3 (y - 4) (by omega) (by rw [show 4 + (y - 4) = y by omega]; exact hp))
  have main : ∀ o, xgm a t co w c 0 o → ∃ L, px_Takings_takeGreatest_b27 N q N (nI c) (xgr o) (xgt o) (nI 0) X = some (sm_lF X 112 L) ∧ xcf L a w (((sp_gr a t co w c 8).getD (w c)) * sp_by a t (a 76)) := by
    intro o ho
    refine ne_loop (fun f j (o : Option (Nat × Nat)) => px_Takings_takeGreatest_b27 N q f (nI c) (xgr o) (xgt o) (nI j) X) (fun j o => xgm a t co w c j o) (a 76) (fun r => ∃ L, r = some (sm_lF X 112 L) ∧ xcf L a w (((sp_gr a t co w c 8).getD (w c)) * sp_by a t (a 76))) ?_ ?_ N 0 o (by omega) (by omega) ho
    · intro f j o hj hI
      left
      have ht := sp_tk_6 hs hc (x := j) (by omega)
      have hcl : ∀ x, (x < j + 1 ∨ 4 ≤ x ∧ x < 8) → x = j ∨ (x < j ∨ 4 ≤ x ∧ x < 8) := fun x hx => by omega
      by_cases hp : 0 < sp_tk a t c j
      · have htc := (tcp j (by omega)).mpr hp
        have hval : sp_val w co j = w j * 1 := by
          unfold sp_val
          rw [if_pos (by omega), Nat.mul_one]
        have put : xgm a t co w c j o → (∀ r m, o = some (r, m) → w r * m < w j) → xgm a t co w c (j + 1) (some (j, 1)) := by
          intro hI hlt
          right
          refine ⟨j, 1, rfl, Or.inl hj, by omega, ⟨j, by omega, htc, hval⟩, fun x hx hx2 => ?_⟩
          rcases hcl x hx with e | e
          · subst e
            omega
          · rcases hI with ⟨o1, o2⟩ | ⟨r, m, o1, o2, o3, o4, o5⟩
            · rw [o2 x e] at hx2; cases hx2
            · have := hlt r m o1
              have := o5 x e hx2
              omega
        rcases hI with ⟨o1, o2⟩ | ⟨r, m, o1, o2, o3, o4, o5⟩
        · refine ⟨some (j, 1), put (Or.inl ⟨o1, o2⟩) (fun r m e => by rw [o1] at e; cases e), ?_⟩
          subst o1
          show px_Takings_takeGreatest_b27 N q (f + 1) _ _ _ _ _ = _
          rw [px_Takings_takeGreatest_b27]
          unfold px_Takings_takeGreatest_b53 px_Takings_takeGreatest_b77 px_Takings_takeGreatest_b83 xgr xgt
          simp (disch := omega) only [sm_lt, sm_b1s, sm_b2s, ↓reduceIte, sm_in_nI, nI_clamp, nI_add, pk_mul, pk_sub, ne_addneg, nI_l, ne_ltT, ne_ltF, ne_leT, ne_leF, ne_eqT, ne_eqF, ne_sI1s, ne_sI1n, ne_sI2, ne_sI3, ne_sL1, ne_sL2s, ne_sL2n, ne_sL3, pk_us, pk_un, pk_uLs, pk_uLn, mm_Z, mm_L, mm_1, mm_2, mm_3, ne_rz0, ne_rz1, not_true_eq_false, not_false_eq_true, ne_i0, ne_i1, ne_i2, ne_i3, ne_i4, ne_i5, ne_i6, ne_i7, ne_i8, ne_i9, ne_i10, ne_i12, ne_i14, ne_i16, ne_i18, ne_i19, ne_i20, ne_i23, ne_i24, ne_i27, ne_i29, ne_i30, ne_i31, ne_i32, ne_i35, ne_i48, ne_i52, ne_i54, ne_i57, ne_i59, ne_i63, ne_i64, ne_i76, ne_i77, ne_i78, ne_i79, ne_i80, ne_i81, ne_i97, ne_i99, ne_i100, ne_i101, ne_i104, ne_i105, ne_i108, ne_i110, ne_i111, ne_i116, ne_i117, ne_i122, ne_i103, ne_i200, ne_i255, ne_i256, ne_i320, ne_i384, ne_i1000, ne_l0, ne_l1, ne_l2, ne_l3, ne_l4, ne_l5, ne_l8, ne_l12, ne_l31, ne_l48, ne_l57, ne_l97, ne_l99, ne_l122, ne_l255, ne_l673, ne_l1073741823, ne_l1073741824, h1, r3, ne_eqm]
        · have ec := xsh_compare (N := N) hN hx k4 (Or.inl hj) o2 o3
          by_cases hlt : w r * m < w j
          · refine ⟨some (j, 1), put (Or.inr ⟨r, m, o1, o2, o3, o4, o5⟩) (fun r' m' e => by rw [o1] at e; cases e; exact hlt), ?_⟩
            subst o1
            have hle : ¬ w j ≤ w r * m := by omega
            show px_Takings_takeGreatest_b27 N q (f + 1) _ _ _ _ _ = _
            rw [px_Takings_takeGreatest_b27]
            unfold px_Takings_takeGreatest_b53 px_Takings_takeGreatest_b77 px_Takings_takeGreatest_b83 xgr xgt
            simp (disch := omega) only [sm_lt, sm_b1s, sm_b2s, ↓reduceIte, sm_in_nI, nI_clamp, nI_add, pk_mul, pk_sub, ne_addneg, nI_l, ne_ltT, ne_ltF, ne_leT, ne_leF, ne_eqT, ne_eqF, ne_sI1s, ne_sI1n, ne_sI2, ne_sI3, ne_sL1, ne_sL2s, ne_sL2n, ne_sL3, pk_us, pk_un, pk_uLs, pk_uLn, mm_Z, mm_L, mm_1, mm_2, mm_3, ne_rz0, ne_rz1, not_true_eq_false, not_false_eq_true, ne_i0, ne_i1, ne_i2, ne_i3, ne_i4, ne_i5, ne_i6, ne_i7, ne_i8, ne_i9, ne_i10, ne_i12, ne_i14, ne_i16, ne_i18, ne_i19, ne_i20, ne_i23, ne_i24, ne_i27, ne_i29, ne_i30, ne_i31, ne_i32, ne_i35, ne_i48, ne_i52, ne_i54, ne_i57, ne_i59, ne_i63, ne_i64, ne_i76, ne_i77, ne_i78, ne_i79, ne_i80, ne_i81, ne_i97, ne_i99, ne_i100, ne_i101, ne_i104, ne_i105, ne_i108, ne_i110, ne_i111, ne_i116, ne_i117, ne_i122, ne_i103, ne_i200, ne_i255, ne_i256, ne_i320, ne_i384, ne_i1000, ne_l0, ne_l1, ne_l2, ne_l3, ne_l4, ne_l5, ne_l8, ne_l12, ne_l31, ne_l48, ne_l57, ne_l97, ne_l99, ne_l122, ne_l255, ne_l673, ne_l1073741823, ne_l1073741824, h1, r3, ne_neqm, ec, ne_cmp_le, hle]
          · refine ⟨o, Or.inr ⟨r, m, o1, o2, o3, ?_, fun x hx hx2 => ?_⟩, ?_⟩
            · obtain ⟨x, x1, x2⟩ := o4
              exact ⟨x, by omega, x2⟩
            · rcases hcl x hx with e | e
              · subst e
                omega
              · exact o5 x e hx2
            · subst o1
              have hle : w j ≤ w r * m := by omega
              show px_Takings_takeGreatest_b27 N q (f + 1) _ _ _ _ _ = _
              rw [px_Takings_takeGreatest_b27]
              unfold px_Takings_takeGreatest_b53 px_Takings_takeGreatest_b83 xgr xgt
              simp (disch := omega) only [sm_lt, sm_b1s, sm_b2s, ↓reduceIte, sm_in_nI, nI_clamp, nI_add, pk_mul, pk_sub, ne_addneg, nI_l, ne_ltT, ne_ltF, ne_leT, ne_leF, ne_eqT, ne_eqF, ne_sI1s, ne_sI1n, ne_sI2, ne_sI3, ne_sL1, ne_sL2s, ne_sL2n, ne_sL3, pk_us, pk_un, pk_uLs, pk_uLn, mm_Z, mm_L, mm_1, mm_2, mm_3, ne_rz0, ne_rz1, not_true_eq_false, not_false_eq_true, ne_i0, ne_i1, ne_i2, ne_i3, ne_i4, ne_i5, ne_i6, ne_i7, ne_i8, ne_i9, ne_i10, ne_i12, ne_i14, ne_i16, ne_i18, ne_i19, ne_i20, ne_i23, ne_i24, ne_i27, ne_i29, ne_i30, ne_i31, ne_i32, ne_i35, ne_i48, ne_i52, ne_i54, ne_i57, ne_i59, ne_i63, ne_i64, ne_i76, ne_i77, ne_i78, ne_i79, ne_i80, ne_i81, ne_i97, ne_i99, ne_i100, ne_i101, ne_i104, ne_i105, ne_i108, ne_i110, ne_i111, ne_i116, ne_i117, ne_i122, ne_i103, ne_i200, ne_i255, ne_i256, ne_i320, ne_i384, ne_i1000, ne_l0, ne_l1, ne_l2, ne_l3, ne_l4, ne_l5, ne_l8, ne_l12, ne_l31, ne_l48, ne_l57, ne_l97, ne_l99, ne_l122, ne_l255, ne_l673, ne_l1073741823, ne_l1073741824, h1, r3, ne_neqm, ec, ne_cmp_le, hle]
      · have htc := tcF j (by omega) hp
        refine ⟨o, ?_, ?_⟩
        · rcases hI with ⟨o1, o2⟩ | ⟨r, m, o1, o2, o3, o4, o5⟩
          · left
            refine ⟨o1, fun x hx => ?_⟩
            rcases hcl x hx with e | e
            · rw [e]; exact htc
            · exact o2 x e
          · right
            refine ⟨r, m, o1, o2, o3, ?_, fun x hx hx2 => ?_⟩
            · obtain ⟨x, x1, x2⟩ := o4
              exact ⟨x, by omega, x2⟩
            · rcases hcl x hx with e | e
              · subst e
                rw [htc] at hx2; cases hx2
              · exact o5 x e hx2
        · show px_Takings_takeGreatest_b27 N q (f + 1) _ _ _ _ _ = _
          rw [px_Takings_takeGreatest_b27]
          unfold px_Takings_takeGreatest_b53 px_Takings_takeGreatest_b83
          simp (disch := omega) only [sm_lt, sm_b1s, sm_b2s, ↓reduceIte, sm_in_nI, nI_clamp, nI_add, pk_mul, pk_sub, ne_addneg, nI_l, ne_ltT, ne_ltF, ne_leT, ne_leF, ne_eqT, ne_eqF, ne_sI1s, ne_sI1n, ne_sI2, ne_sI3, ne_sL1, ne_sL2s, ne_sL2n, ne_sL3, pk_us, pk_un, pk_uLs, pk_uLn, mm_Z, mm_L, mm_1, mm_2, mm_3, ne_rz0, ne_rz1, not_true_eq_false, not_false_eq_true, ne_i0, ne_i1, ne_i2, ne_i3, ne_i4, ne_i5, ne_i6, ne_i7, ne_i8, ne_i9, ne_i10, ne_i12, ne_i14, ne_i16, ne_i18, ne_i19, ne_i20, ne_i23, ne_i24, ne_i27, ne_i29, ne_i30, ne_i31, ne_i32, ne_i35, ne_i48, ne_i52, ne_i54, ne_i57, ne_i59, ne_i63, ne_i64, ne_i76, ne_i77, ne_i78, ne_i79, ne_i80, ne_i81, ne_i97, ne_i99, ne_i100, ne_i101, ne_i104, ne_i105, ne_i108, ne_i110, ne_i111, ne_i116, ne_i117, ne_i122, ne_i103, ne_i200, ne_i255, ne_i256, ne_i320, ne_i384, ne_i1000, ne_l0, ne_l1, ne_l2, ne_l3, ne_l4, ne_l5, ne_l8, ne_l12, ne_l31, ne_l48, ne_l57, ne_l97, ne_l99, ne_l122, ne_l255, ne_l673, ne_l1073741823, ne_l1073741824, h1, r3]
    · intro f o hI
      show ∃ L, px_Takings_takeGreatest_b27 N q (f + 1) _ _ _ _ _ = _ ∧ _
      obtain ⟨g, e0, g0⟩ := xq_begin (X := X) (N := N) (p := 111) hN
      have all8 : ∀ x, x < 8 → sp_tc a t c x = true → (x < a 76 ∨ 4 ≤ x ∧ x < 8) := by
        intro x hx hx2
        have hp := (tcp x hx).mp hx2
        rcases sp_tk_num hc hp with l | l <;> omega
      rw [px_Takings_takeGreatest_b27]
      rcases hI with ⟨o1, o2⟩ | ⟨r, m, o1, o2, o3, o4, o5⟩
      · subst o1
        have egr : sp_gr a t co w c 8 = none := sp_gr_no (fun x hx => by
          cases e : sp_tc a t c x with
          | false => rfl
          | true => rw [o2 x (all8 x hx e)] at e; cases e)
        rw [egr]
        unfold xgr xgt
        simp (disch := omega) only [sm_lt, sm_b1s, sm_b2s, ↓reduceIte, sm_in_nI, nI_clamp, nI_add, pk_mul, pk_sub, ne_addneg, nI_l, ne_ltT, ne_ltF, ne_leT, ne_leF, ne_eqT, ne_eqF, ne_sI1s, ne_sI1n, ne_sI2, ne_sI3, ne_sL1, ne_sL2s, ne_sL2n, ne_sL3, pk_us, pk_un, pk_uLs, pk_uLn, mm_Z, mm_L, mm_1, mm_2, mm_3, ne_rz0, ne_rz1, not_true_eq_false, not_false_eq_true, ne_i0, ne_i1, ne_i2, ne_i3, ne_i4, ne_i5, ne_i6, ne_i7, ne_i8, ne_i9, ne_i10, ne_i12, ne_i14, ne_i16, ne_i18, ne_i19, ne_i20, ne_i23, ne_i24, ne_i27, ne_i29, ne_i30, ne_i31, ne_i32, ne_i35, ne_i48, ne_i52, ne_i54, ne_i57, ne_i59, ne_i63, ne_i64, ne_i76, ne_i77, ne_i78, ne_i79, ne_i80, ne_i81, ne_i97, ne_i99, ne_i100, ne_i101, ne_i104, ne_i105, ne_i108, ne_i110, ne_i111, ne_i116, ne_i117, ne_i122, ne_i103, ne_i200, ne_i255, ne_i256, ne_i320, ne_i384, ne_i1000, ne_l0, ne_l1, ne_l2, ne_l3, ne_l4, ne_l5, ne_l8, ne_l12, ne_l31, ne_l48, ne_l57, ne_l97, ne_l99, ne_l122, ne_l255, ne_l673, ne_l1073741823, ne_l1073741824, h1, e0, ne_eqm, lF_1, h2, lF_sL]
        exact ⟨_, rfl, xcf_one g0 (by omega) (Or.inl hc) (by omega) rfl⟩
      · subst o1
        have egr : sp_gr a t co w c 8 = some (w r * m) := by
          obtain ⟨x, x1, x2⟩ := o4
          exact sp_gr_of ⟨x, by omega, x2⟩ (fun x hx hx2 => o5 x (all8 x hx hx2) hx2)
        have bm : sp_by a t (a 76) * m ≤ 1874161 * 12 := Nat.mul_le_mul b4 o3
        rw [egr]
        unfold xgr xgt
        simp (disch := omega) only [sm_lt, sm_b1s, sm_b2s, ↓reduceIte, sm_in_nI, nI_clamp, nI_add, pk_mul, pk_sub, ne_addneg, nI_l, ne_ltT, ne_ltF, ne_leT, ne_leF, ne_eqT, ne_eqF, ne_sI1s, ne_sI1n, ne_sI2, ne_sI3, ne_sL1, ne_sL2s, ne_sL2n, ne_sL3, pk_us, pk_un, pk_uLs, pk_uLn, mm_Z, mm_L, mm_1, mm_2, mm_3, ne_rz0, ne_rz1, not_true_eq_false, not_false_eq_true, ne_i0, ne_i1, ne_i2, ne_i3, ne_i4, ne_i5, ne_i6, ne_i7, ne_i8, ne_i9, ne_i10, ne_i12, ne_i14, ne_i16, ne_i18, ne_i19, ne_i20, ne_i23, ne_i24, ne_i27, ne_i29, ne_i30, ne_i31, ne_i32, ne_i35, ne_i48, ne_i52, ne_i54, ne_i57, ne_i59, ne_i63, ne_i64, ne_i76, ne_i77, ne_i78, ne_i79, ne_i80, ne_i81, ne_i97, ne_i99, ne_i100, ne_i101, ne_i104, ne_i105, ne_i108, ne_i110, ne_i111, ne_i116, ne_i117, ne_i122, ne_i103, ne_i200, ne_i255, ne_i256, ne_i320, ne_i384, ne_i1000, ne_l0, ne_l1, ne_l2, ne_l3, ne_l4, ne_l5, ne_l8, ne_l12, ne_l31, ne_l48, ne_l57, ne_l97, ne_l99, ne_l122, ne_l255, ne_l673, ne_l1073741823, ne_l1073741824, h1, e0, ne_neqm, lF_1, h2, lF_sL, lN_mul]
        exact ⟨_, rfl, xcf_one g0 (by omega) o2 (by omega) (by rw [Option.getD_some, Nat.mul_assoc, Nat.mul_comm m])⟩
  unfold px_Takings_takeGreatest px_Takings_takeGreatest_b15
  cases eo : sp_tg a t co c (a 77) with
  | none =>
    have := main _ (start none eo)
    rw [eo] at r5
    unfold sp_og at r5
    simp only at r5
    simp (disch := omega) only [sm_lt, sm_b1s, sm_b2s, ↓reduceIte, sm_in_nI, nI_clamp, nI_add, pk_mul, pk_sub, ne_addneg, nI_l, ne_ltT, ne_ltF, ne_leT, ne_leF, ne_eqT, ne_eqF, ne_sI1s, ne_sI1n, ne_sI2, ne_sI3, ne_sL1, ne_sL2s, ne_sL2n, ne_sL3, pk_us, pk_un, pk_uLs, pk_uLn, mm_Z, mm_L, mm_1, mm_2, mm_3, ne_rz0, ne_rz1, not_true_eq_false, not_false_eq_true, ne_i0, ne_i1, ne_i2, ne_i3, ne_i4, ne_i5, ne_i6, ne_i7, ne_i8, ne_i9, ne_i10, ne_i12, ne_i14, ne_i16, ne_i18, ne_i19, ne_i20, ne_i23, ne_i24, ne_i27, ne_i29, ne_i30, ne_i31, ne_i32, ne_i35, ne_i48, ne_i52, ne_i54, ne_i57, ne_i59, ne_i63, ne_i64, ne_i76, ne_i77, ne_i78, ne_i79, ne_i80, ne_i81, ne_i97, ne_i99, ne_i100, ne_i101, ne_i104, ne_i105, ne_i108, ne_i110, ne_i111, ne_i116, ne_i117, ne_i122, ne_i103, ne_i200, ne_i255, ne_i256, ne_i320, ne_i384, ne_i1000, ne_l0, ne_l1, ne_l2, ne_l3, ne_l4, ne_l5, ne_l8, ne_l12, ne_l31, ne_l48, ne_l57, ne_l97, ne_l99, ne_l122, ne_l255, ne_l673, ne_l1073741823, ne_l1073741824, r5, ne_eqm]
    exact this
  | some m =>
    have := main _ (start (some m) eo)
    have hm : m ≤ 12 := by
      rcases sp_tg_is (a := a) (t := t) (co := co) c (a 77) with ⟨g1, _⟩ | ⟨m', g1, ⟨x, x1, _, x3⟩, _⟩
      · rw [eo] at g1; cases g1
      · rw [eo] at g1; cases g1
        rw [← x3]
        exact hs.2.2.2.2 x x1
    rw [eo] at r5
    unfold sp_og at r5
    simp only at r5
    simp (disch := omega) only [sm_lt, sm_b1s, sm_b2s, ↓reduceIte, sm_in_nI, nI_clamp, nI_add, pk_mul, pk_sub, ne_addneg, nI_l, ne_ltT, ne_ltF, ne_leT, ne_leF, ne_eqT, ne_eqF, ne_sI1s, ne_sI1n, ne_sI2, ne_sI3, ne_sL1, ne_sL2s, ne_sL2n, ne_sL3, pk_us, pk_un, pk_uLs, pk_uLn, mm_Z, mm_L, mm_1, mm_2, mm_3, ne_rz0, ne_rz1, not_true_eq_false, not_false_eq_true, ne_i0, ne_i1, ne_i2, ne_i3, ne_i4, ne_i5, ne_i6, ne_i7, ne_i8, ne_i9, ne_i10, ne_i12, ne_i14, ne_i16, ne_i18, ne_i19, ne_i20, ne_i23, ne_i24, ne_i27, ne_i29, ne_i30, ne_i31, ne_i32, ne_i35, ne_i48, ne_i52, ne_i54, ne_i57, ne_i59, ne_i63, ne_i64, ne_i76, ne_i77, ne_i78, ne_i79, ne_i80, ne_i81, ne_i97, ne_i99, ne_i100, ne_i101, ne_i104, ne_i105, ne_i108, ne_i110, ne_i111, ne_i116, ne_i117, ne_i122, ne_i103, ne_i200, ne_i255, ne_i256, ne_i320, ne_i384, ne_i1000, ne_l0, ne_l1, ne_l2, ne_l3, ne_l4, ne_l5, ne_l8, ne_l12, ne_l31, ne_l48, ne_l57, ne_l97, ne_l99, ne_l122, ne_l255, ne_l673, ne_l1073741823, ne_l1073741824, r5, ne_neqm]
    exact this
end
