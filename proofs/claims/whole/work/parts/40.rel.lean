/-! the two sides hold the same -/
/-- the hours of a cloth and a number, alike both ways -/
def sp_h8 (a : Nat → Nat) (c x : Nat) : Prop := a (16 + 8 * c + x) ≤ 3 ∧ (¬ (x < a 76 ∨ 4 ≤ x ∧ x < 4 + a 77) → a (16 + 8 * c + x) = 0) ∧ (x < a 76 → a (16 + 8 * x + c) = a (16 + 8 * c + x))
/-- a house's ints are as told -/
def sp_ok (a : Nat → Nat) : Prop := a 76 ≤ 4 ∧ a 77 ≤ 4 ∧ a 78 ≤ 12 ∧ a 79 ≤ 6 ∧ a 79 ≤ a 78 ∧ a 80 ≤ 6 ∧ (∀ c, c < a 76 → a (4 * c) ≤ 4 ∧ a (4 * c + 1) ≤ 3 ∧ a (4 * c + 2) ≤ 12 ∧ a (4 * c + 3) ≤ 12) ∧ (∀ c x, c < a 76 → x < 8 → sp_h8 a c x) ∧ (∀ t, t < a 77 → a (48 + t) ≤ 12) ∧ ∀ k, k < a 80 → a (52 + 4 * k) ≤ 3 ∧ a (52 + 4 * k + 1) ≤ 12 ∧ a (52 + 4 * k + 2) ≤ 12 ∧ a (52 + 4 * k + 3) ≤ 12 ∧ a (52 + 4 * k + 1) ≤ a (52 + 4 * k + 2)
theorem sp_h8_eq {a a' : Nat → Nat} (h4 : a 76 ≤ 4) (e6 : a' 76 = a 76) (e7 : a' 77 = a 77) (e : ∀ k, 16 ≤ k → k < 48 → a' k = a k) (o8 : ∀ c x, c < a 76 → x < 8 → sp_h8 a c x) : ∀ c x, c < a' 76 → x < 8 → sp_h8 a' c x := by
  intro c x hc hx
  rw [e6] at hc
  obtain ⟨g1, g2, g3⟩ := o8 c x hc hx
  refine ⟨by rw [e _ (by omega) (by omega)]; exact g1, fun q => ?_, fun q => ?_⟩
  · rw [e6, e7] at q
    rw [e _ (by omega) (by omega)]
    exact g2 q
  · rw [e6] at q
    rw [e _ (by omega) (by omega), e _ (by omega) (by omega)]
    exact g3 q
theorem sp_ok_8 {a a' : Nat → Nat} (o : sp_ok a) (e : ∀ k, k < 16 ∨ 48 ≤ k → a' k = a k) (h8 : ∀ c x, c < a 76 → x < 8 → sp_h8 a' c x) : sp_ok a' := by
  obtain ⟨o1, o2, o3, o4, o5, o6, o7, o8, o9, o10⟩ := o
  refine ⟨by rw [e _ (by omega)]; exact o1, by rw [e _ (by omega)]; exact o2, by rw [e _ (by omega)]; exact o3, by rw [e _ (by omega)]; exact o4, by rw [e 79 (by omega), e 78 (by omega)]; exact o5, by rw [e _ (by omega)]; exact o6, fun c hc => ?_, fun c y hc hy => h8 c y (by rw [← e 76 (by omega)]; exact hc) hy, fun s hs => ?_, fun k hk => ?_⟩
  · rw [e _ (by omega)] at hc
    rw [e _ (by omega), e _ (by omega), e _ (by omega), e _ (by omega)]
    exact o7 c hc
  · rw [e _ (by omega)] at hs
    rw [e _ (by omega)]
    exact o9 s hs
  · rw [e _ (by omega)] at hk
    rw [e _ (by omega), e _ (by omega), e _ (by omega), e _ (by omega)]
    exact o10 k hk
theorem sp_ok_sc {a : Nat → Nat} (h : sp_ok a) : sc a (fun k => a (16 + k)) (fun k => a (48 + k)) := by
  obtain ⟨h1, h2, h3, h4, h5, h6, h7, h8, h9, h10⟩ := h
  refine ⟨h1, h2, fun c hc => ⟨(h7 c hc).1, (h7 c hc).2.1⟩, fun c x hc hx => ?_, h9⟩
  have := (h8 c x hc hx).1
  show a (16 + (8 * c + x)) ≤ 3
  rw [← Nat.add_assoc]
  exact this
/-- shades that j nights can have brought -/
def wv1 (a w : Nat → Nat) (j : Nat) : Prop := sp_w a w ∧ 0 < w 4 ∧ sm0 (w 4) ∧ w 4 ≤ 2 ^ (21 * j)
def wv (a w : Nat → Nat) (pw : Nat → Nat → Nat) : Prop := wv1 a w (a 78) ∧ ∀ j, j < a 79 → wv1 a (pw j) (a 78 - a 79 + j)
/-- the house at place p holds a, shades now and past -/
def xhs (X : sm_St) (p : Nat) (a w : Nat → Nat) (pw : Nat → Nat → Nat) : Prop := (X.1 p 9 = nI (a 76) ∧ X.1 p 10 = nI (a 77) ∧ X.1 p 11 = nI (a 78) ∧ X.1 p 12 = nI (a 79) ∧ X.1 p 13 = nI (a 80)) ∧ (∀ i, i < a 76 → X.1 (p + 1) i = nI (a (4 * i)) ∧ X.1 (p + 2) i = nI (a (4 * i + 1)) ∧ X.1 (p + 3) i = nI (a (4 * i + 2)) ∧ X.1 (p + 4) i = nI (a (4 * i + 3))) ∧ (∀ t, t < a 77 → X.1 (p + 5) t = nI (a (48 + t))) ∧ (∀ i x, i < a 76 → x < 8 → X.1 (p + 7 + i) x = nI (a (16 + 8 * i + x))) ∧ (∀ i x, a 76 ≤ i → i < 4 → x < 8 → X.1 (p + 7 + i) x = nI 0) ∧ (∀ k f, k < a 80 → f < 4 → X.1 (p + 27 + k) f = nI (a (52 + 4 * k + f))) ∧ xsh X (p + 11) (a 76) w ∧ ∀ j, j < a 79 → xsh X (X.2.2 (p + 13) j) (a 76) (pw j)
/-- the six past Shades of the house at p, in some order -/
def hpl (X : sm_St) (p : Nat) : Prop := (∀ j, j < 6 → ∃ s, s < 6 ∧ X.2.2 (p + 13) j = p + 14 + 2 * s) ∧ ∀ j k, j < 6 → k < 6 → X.2.2 (p + 13) j = X.2.2 (p + 13) k → j = k
def gH (X : sm_St) (p : Nat) (a w : Nat → Nat) (pw : Nat → Nat → Nat) : Prop := sp_ok a ∧ wv a w pw ∧ xhs X p a w pw
def gI (X S : sm_St) (b v ik : Nat → Nat) : Prop := (∀ k, k < 162 → S.1 2 k = nI (b k)) ∧ ∀ i, i < 2 → ik i ≤ 1 ∧ S.1 3 i = nI (ik i) ∧ X.1 101 i = nI (ik i) ∧ (ik i = 1 → gH X (35 + 33 * i) (fun k => b (81 * i + k)) (fun c => v (54 + 35 * i + c)) (fun j c => v (59 + 35 * i + 5 * j + c)))
def gT (X S : sm_St) (tx : Nat → Nat) (len : Nat) : Prop := len ≤ 200 ∧ X.1 102 1 = nI len ∧ S.1 0 21 = nI len ∧ ∀ k, k < len → tx k ≤ 255 ∧ X.1 103 k = nI (tx k) ∧ S.1 17 k = nI (tx k)
def gF (X S : sm_St) (v : Nat → Nat) : Prop := fh X (v 0) (v 1) ∧ S.1 0 6 = nI (if v 0 = 0 then 0 else 1)
def gC (X S : sm_St) : Prop := X.1 0 11 = S.1 4 0 ∧ X.1 0 12 = S.1 4 1 ∧ X.1 0 13 = S.1 4 2
def gP (X : sm_St) : Prop := hpl X 1 ∧ hpl X 35 ∧ hpl X 68
def RR (X S : sm_St) (a b v ik tx : Nat → Nat) (len : Nat) : Prop := nw a S ∧ nP S v S ∧ gH X 1 a (fun c => v (19 + c)) (fun j c => v (24 + 5 * j + c)) ∧ gI X S b v ik ∧ gT X S tx len ∧ gF X S v ∧ gC X S ∧ gP X
def R (X S : sm_St) : Prop := ∃ a b v ik tx len, RR X S a b v ik tx len
/-- both answer, alike, and hold the same behind it -/
def OKr {α : Type} (px pm : Option (α × sm_St)) : Prop := ∃ r X' S', px = some (r, X') ∧ pm = some (r, S') ∧ R X' S'
theorem hpl_fr {X X' : sm_St} {p : Nat} (h : X'.2.2 (p + 13) = X.2.2 (p + 13)) (hp : hpl X p) : hpl X' p := by
  unfold hpl
  rw [h]
  exact hp
theorem xhs_fr {X X' : sm_St} {p : Nat} {a w : Nat → Nat} {pw : Nat → Nat → Nat} (h4 : a 76 ≤ 4) (h6 : a 79 ≤ 6) (h8 : a 80 ≤ 6) (hp : hpl X p) (hf : ∀ q, p ≤ q → q < p + 33 → X'.1 q = X.1 q) (hr : X'.2.2 (p + 13) = X.2.2 (p + 13)) (h : xhs X p a w pw) : xhs X' p a w pw := by
  obtain ⟨c, k, co, hh, hz, wi, now, past⟩ := h
  refine ⟨by rw [hf p (by omega) (by omega)]; exact c, fun i hi => by rw [hf (p + 1) (by omega) (by omega), hf (p + 2) (by omega) (by omega), hf (p + 3) (by omega) (by omega), hf (p + 4) (by omega) (by omega)]; exact k i hi, fun t ht => by rw [hf (p + 5) (by omega) (by omega)]; exact co t ht, fun i x hi hx => by rw [hf (p + 7 + i) (by omega) (by omega)]; exact hh i x hi hx, fun i x hi hi4 hx => by rw [hf (p + 7 + i) (by omega) (by omega)]; exact hz i x hi hi4 hx, fun k f hk hf' => by rw [hf (p + 27 + k) (by omega) (by omega)]; exact wi k f hk hf', xsh_fr (hf _ (by omega) (by omega)) (hf _ (by omega) (by omega)) now, fun j hj => ?_⟩
  rw [hr]
  obtain ⟨s, s1, s2⟩ := hp.1 j (by omega)
  exact xsh_fr (hf _ (by omega) (by omega)) (hf _ (by omega) (by omega)) (past j hj)
theorem gH_fr {X X' : sm_St} {p : Nat} {a w : Nat → Nat} {pw : Nat → Nat → Nat} (hp : hpl X p) (hf : ∀ q, p ≤ q → q < p + 33 → X'.1 q = X.1 q) (hr : X'.2.2 (p + 13) = X.2.2 (p + 13)) (h : gH X p a w pw) : gH X' p a w pw := ⟨h.1, h.2.1, xhs_fr h.1.1 h.1.2.2.2.1 h.1.2.2.2.2.2.1 hp hf hr h.2.2⟩
theorem gP_fr {X X' : sm_St} (h : X'.2.2 = X.2.2) (hp : gP X) : gP X' := ⟨hpl_fr (by rw [h]) hp.1, hpl_fr (by rw [h]) hp.2.1, hpl_fr (by rw [h]) hp.2.2⟩
/-- shades by other names -/
theorem wv_eq {a w w' : Nat → Nat} {pw pw' : Nat → Nat → Nat} (e : ∀ c, c ≤ 4 → w' c = w c) (e2 : ∀ j c, j < 6 → c ≤ 4 → pw' j c = pw j c) (h4 : a 76 ≤ 4) (h6 : a 79 ≤ 6) (h : wv a w pw) : wv a w' pw' := by
  have one : ∀ (w w' : Nat → Nat) j, (∀ c, c ≤ 4 → w' c = w c) → wv1 a w j → wv1 a w' j := by
    intro w w' j e h
    unfold wv1 at *
    rw [e 4 (by omega)]
    exact ⟨fun c hc => by rw [e c (by omega), e 4 (by omega)]; exact h.1 c hc, h.2⟩
  exact ⟨one _ _ _ e h.1, fun j hj => one _ _ _ (fun c hc => e2 j c (by omega) hc) (h.2 j hj)⟩
theorem xsh_eq {X : sm_St} {q k : Nat} {w w' : Nat → Nat} (hk : k ≤ 4) (e : ∀ c, c ≤ 4 → w' c = w c) (h : xsh X q k w) : xsh X q k w' := by
  obtain ⟨u, h1, h2, h3, h4, h5⟩ := h
  exact ⟨u, h1, h2, h3, by rw [e 4 (by omega)]; exact h4, fun r hr => by rw [e r (by omega)]; exact h5 r hr⟩
theorem gH_eq {X : sm_St} {p : Nat} {a w w' : Nat → Nat} {pw pw' : Nat → Nat → Nat} (e : ∀ c, c ≤ 4 → w' c = w c) (e2 : ∀ j c, j < 6 → c ≤ 4 → pw' j c = pw j c) (h : gH X p a w pw) : gH X p a w' pw' := by
  obtain ⟨h1, h2, c, k, co, hh, hz, wi, now, past⟩ := h
  have k4 := h1.1
  have k6 := h1.2.2.2.1
  exact ⟨h1, wv_eq e e2 k4 k6 h2, c, k, co, hh, hz, wi, xsh_eq k4 e now, fun j hj => xsh_eq k4 (fun c hc => e2 j c (by omega) hc) (past j hj)⟩
theorem gF_fr {X X' S S' : sm_St} {v : Nat → Nat} (h : gF X S v) (h4 : X'.1 104 = X.1 104) (h5 : X'.1 105 = X.1 105) (h6 : X'.1 106 = X.1 106) (h06 : S'.1 0 6 = S.1 0 6) : gF X' S' v := by
  obtain ⟨⟨f1, f2, f3, f4, f5, f6⟩, f7⟩ := h
  exact ⟨⟨by rw [h4]; exact f1, by rw [h4]; exact f2, xdg_fr f3 h5, xdg_fr f4 h6, f5, f6⟩, by rw [h06]; exact f7⟩
theorem gF_v {X S : sm_St} {v v' : Nat → Nat} (h : gF X S v) (h0 : v' 0 = v 0) (h1 : v' 1 = v 1) : gF X S v' := by
  unfold gF
  rw [h0, h1]
  exact h
/-- what is free changes on both sides, and the fraction -/
theorem RR_g {X X' S S' : sm_St} {a b v v' ik tx : Nat → Nat} {len : Nat} (h : RR X S a b v ik tx len) (hv : nP S' v' S') (hv2 : ∀ s, 19 ≤ s → v' s = v s) (hF : gF X' S' v') (hS1 : S'.1 1 = S.1 1) (hS2 : S'.1 2 = S.1 2) (hS3 : S'.1 3 = S.1 3) (hS4 : S'.1 4 = S.1 4) (hS17 : S'.1 17 = S.1 17) (h021 : S'.1 0 21 = S.1 0 21) (hX : ∀ p, p < 102 ∨ p = 103 → X'.1 p = X.1 p) (hX102 : X'.1 102 1 = X.1 102 1) (hXr : X'.2.2 = X.2.2) : RR X' S' a b v' ik tx len := by
  obtain ⟨r1, r2, r3, r4, r5, r6, r7, r8⟩ := h
  refine ⟨fun k hk => by rw [hS1]; exact r1 k hk, hv, gH_eq (fun c _ => hv2 _ (by omega)) (fun j c _ _ => hv2 _ (by omega)) (gH_fr r8.1 (fun q a b => hX q (by omega)) (by rw [hXr]) r3), ⟨fun k hk => by rw [hS2]; exact r4.1 k hk, fun i hi => ?_⟩, ?_, hF, ?_, gP_fr hXr r8⟩
  · obtain ⟨i1, i2, i3, i4⟩ := r4.2 i hi
    refine ⟨i1, by rw [hS3]; exact i2, by rw [hX 101 (by omega)]; exact i3, fun e => gH_eq (fun c _ => hv2 _ (by omega)) (fun j c _ _ => hv2 _ (by omega)) (gH_fr ?_ (fun q a b => hX q (by omega)) (by rw [hXr]) (i4 e))⟩
    have hi' : i = 0 ∨ i = 1 := by omega
    rcases hi' with rfl | rfl
    · exact r8.2.1
    · exact r8.2.2
  · obtain ⟨t1, t2, t3, t4⟩ := r5
    exact ⟨t1, by rw [hX102]; exact t2, by rw [h021]; exact t3, fun k hk => by rw [hX 103 (by omega), hS17]; exact t4 k hk⟩
  · unfold gC
    rw [hX 0 (by omega), hS4]
    exact r7
theorem RR_q {X X' S S' : sm_St} {a b v v' ik tx : Nat → Nat} {len : Nat} (h : RR X S a b v ik tx len) (hv : nP S' v' S') (hv2 : ∀ s, (s < 2 ∨ 19 ≤ s) → v' s = v s) (hS1 : S'.1 1 = S.1 1) (hS2 : S'.1 2 = S.1 2) (hS3 : S'.1 3 = S.1 3) (hS4 : S'.1 4 = S.1 4) (hS17 : S'.1 17 = S.1 17) (h06 : S'.1 0 6 = S.1 0 6) (h021 : S'.1 0 21 = S.1 0 21) (hX : ∀ p, p < 102 ∨ 103 ≤ p ∧ p < 107 → X'.1 p = X.1 p) (hX102 : X'.1 102 1 = X.1 102 1) (hXr : X'.2.2 = X.2.2) : RR X' S' a b v' ik tx len :=
  RR_g h hv (fun s hs => hv2 s (Or.inr hs)) (gF_v (gF_fr h.2.2.2.2.2.1 (hX 104 (by omega)) (hX 105 (by omega)) (hX 106 (by omega)) h06) (hv2 0 (by omega)) (hv2 1 (by omega))) hS1 hS2 hS3 hS4 hS17 h021 (fun p hp => hX p (by omega)) hX102 hXr
theorem nP_own {M S : sm_St} {v : Nat → Nat} (h : nP M v S) : nP S v S := by
  obtain ⟨L, Z, rfl, hA⟩ := h
  refine ⟨L, Z, ?_, hA⟩
  unfold mm
  simp [bx_uu]
theorem nP_sIo {S : sm_St} {v : Nat → Nat} {p k : Nat} {x : Int32} (h : nP S v S) (hp : p ≠ 6) : nP (sm_sI S p k x) v (sm_sI S p k x) := nP_own (nP_sI h hp)
/-- a refusal is counted: c the place of the count -/
theorem RR_ref {X S : sm_St} {a b v ik tx : Nat → Nat} {len c : Nat} (hc : c < 3) (h : RR X S a b v ik tx len) : RR (sm_sI X 0 (11 + c) (X.1 0 (11 + c) + nI 1)) (sm_sI S 4 c (S.1 4 c + nI 1)) a b v ik tx len := by
  obtain ⟨r1, r2, r3, r4, r5, r6, r7, r8⟩ := h
  have fX : ∀ p, p ≠ 0 → (sm_sI X 0 (11 + c) (X.1 0 (11 + c) + nI 1)).1 p = X.1 p := fun p hp => ne_sI1n hp
  have fS : ∀ p, p ≠ 4 → (sm_sI S 4 c (S.1 4 c + nI 1)).1 p = S.1 p := fun p hp => ne_sI1n hp
  refine ⟨fun k hk => by rw [fS 1 (by decide)]; exact r1 k hk, nP_sIo r2 (by decide), gH_fr r8.1 (fun q a b => fX q (by omega)) rfl r3, ⟨fun k hk => by rw [fS 2 (by decide)]; exact r4.1 k hk, fun i hi => ?_⟩, ?_, gF_fr r6 (fX _ (by decide)) (fX _ (by decide)) (fX _ (by decide)) (by rw [fS 0 (by decide)]), ?_, gP_fr rfl r8⟩
  · obtain ⟨i1, i2, i3, i4⟩ := r4.2 i hi
    refine ⟨i1, by rw [fS 3 (by decide)]; exact i2, by rw [fX 101 (by decide)]; exact i3, fun e => gH_fr ?_ (fun q a b => fX q (by omega)) rfl (i4 e)⟩
    have hi' : i = 0 ∨ i = 1 := by omega
    rcases hi' with rfl | rfl
    · exact r8.2.1
    · exact r8.2.2
  · obtain ⟨t1, t2, t3, t4⟩ := r5
    exact ⟨t1, by rw [fX 102 (by decide)]; exact t2, by rw [fS 0 (by decide)]; exact t3, fun k hk => by rw [fX 103 (by decide), fS 17 (by decide)]; exact t4 k hk⟩
  · obtain ⟨c1, c2, c3⟩ := r7
    have hc' : c = 0 ∨ c = 1 ∨ c = 2 := by omega
    unfold gC
    rw [ne_sI1s, ne_sI1s]
    rcases hc' with rfl | rfl | rfl
    · exact ⟨by rw [pk_us, pk_us, c1], by rw [pk_un (by decide), pk_un (by decide)]; exact c2, by rw [pk_un (by decide), pk_un (by decide)]; exact c3⟩
    · exact ⟨by rw [pk_un (by decide), pk_un (by decide)]; exact c1, by rw [pk_us, pk_us, c2], by rw [pk_un (by decide), pk_un (by decide)]; exact c3⟩
    · exact ⟨by rw [pk_un (by decide), pk_un (by decide)]; exact c1, by rw [pk_un (by decide), pk_un (by decide)]; exact c2, by rw [pk_us, pk_us, c3]⟩
section
variable {N : Nat} {X S : sm_St}
theorem xq_bad : px_L_refusedBad N X = some (-nI 2, sm_sI X 0 11 (X.1 0 11 + nI 1)) := rfl
theorem xq_no : px_L_refusedNo N X = some (-nI 3, sm_sI X 0 12 (X.1 0 12 + nI 1)) := rfl
theorem xq_full : px_L_refusedFull N X = some (-nI 4, sm_sI X 0 13 (X.1 0 13 + nI 1)) := rfl
theorem np_bad {r : Int32} : pm_bad N S r = some (r, sm_sI S 4 0 (S.1 4 0 + nI 1)) := by
  unfold pm_bad
  simp (disch := omega) only [sm_lt, sm_b1s, sm_b2s, ↓reduceIte, sm_in_nI, nI_clamp, nI_add, pk_mul, pk_sub, ne_addneg, nI_l, ne_ltT, ne_ltF, ne_leT, ne_leF, ne_eqT, ne_eqF, ne_sI1s, ne_sI1n, ne_sI2, ne_sI3, ne_sL1, ne_sL2s, ne_sL2n, ne_sL3, pk_us, pk_un, pk_uLs, pk_uLn, mm_Z, mm_L, mm_1, mm_2, mm_3, ne_rz0, ne_rz1, not_true_eq_false, not_false_eq_true, ne_i0, ne_i1, ne_i2, ne_i3, ne_i4, ne_i5, ne_i6, ne_i7, ne_i8, ne_i9, ne_i10, ne_i12, ne_i14, ne_i16, ne_i18, ne_i19, ne_i20, ne_i23, ne_i24, ne_i27, ne_i29, ne_i30, ne_i31, ne_i32, ne_i35, ne_i48, ne_i52, ne_i54, ne_i57, ne_i59, ne_i63, ne_i64, ne_i76, ne_i77, ne_i78, ne_i79, ne_i80, ne_i81, ne_i97, ne_i99, ne_i100, ne_i101, ne_i104, ne_i105, ne_i108, ne_i110, ne_i111, ne_i116, ne_i117, ne_i122, ne_i103, ne_i200, ne_i255, ne_i256, ne_i320, ne_i384, ne_i1000, ne_l0, ne_l1, ne_l2, ne_l3, ne_l4, ne_l5, ne_l8, ne_l12, ne_l31, ne_l48, ne_l57, ne_l97, ne_l99, ne_l122, ne_l255, ne_l673, ne_l1073741823, ne_l1073741824]
theorem np_no : pm_no N S = some (-nI 3, sm_sI S 4 1 (S.1 4 1 + nI 1)) := by
  unfold pm_no
  simp (disch := omega) only [sm_lt, sm_b1s, sm_b2s, ↓reduceIte, sm_in_nI, nI_clamp, nI_add, pk_mul, pk_sub, ne_addneg, nI_l, ne_ltT, ne_ltF, ne_leT, ne_leF, ne_eqT, ne_eqF, ne_sI1s, ne_sI1n, ne_sI2, ne_sI3, ne_sL1, ne_sL2s, ne_sL2n, ne_sL3, pk_us, pk_un, pk_uLs, pk_uLn, mm_Z, mm_L, mm_1, mm_2, mm_3, ne_rz0, ne_rz1, not_true_eq_false, not_false_eq_true, ne_i0, ne_i1, ne_i2, ne_i3, ne_i4, ne_i5, ne_i6, ne_i7, ne_i8, ne_i9, ne_i10, ne_i12, ne_i14, ne_i16, ne_i18, ne_i19, ne_i20, ne_i23, ne_i24, ne_i27, ne_i29, ne_i30, ne_i31, ne_i32, ne_i35, ne_i48, ne_i52, ne_i54, ne_i57, ne_i59, ne_i63, ne_i64, ne_i76, ne_i77, ne_i78, ne_i79, ne_i80, ne_i81, ne_i97, ne_i99, ne_i100, ne_i101, ne_i104, ne_i105, ne_i108, ne_i110, ne_i111, ne_i116, ne_i117, ne_i122, ne_i103, ne_i200, ne_i255, ne_i256, ne_i320, ne_i384, ne_i1000, ne_l0, ne_l1, ne_l2, ne_l3, ne_l4, ne_l5, ne_l8, ne_l12, ne_l31, ne_l48, ne_l57, ne_l97, ne_l99, ne_l122, ne_l255, ne_l673, ne_l1073741823, ne_l1073741824]
theorem np_full : pm_full N S = some (-nI 4, sm_sI S 4 2 (S.1 4 2 + nI 1)) := by
  unfold pm_full
  simp (disch := omega) only [sm_lt, sm_b1s, sm_b2s, ↓reduceIte, sm_in_nI, nI_clamp, nI_add, pk_mul, pk_sub, ne_addneg, nI_l, ne_ltT, ne_ltF, ne_leT, ne_leF, ne_eqT, ne_eqF, ne_sI1s, ne_sI1n, ne_sI2, ne_sI3, ne_sL1, ne_sL2s, ne_sL2n, ne_sL3, pk_us, pk_un, pk_uLs, pk_uLn, mm_Z, mm_L, mm_1, mm_2, mm_3, ne_rz0, ne_rz1, not_true_eq_false, not_false_eq_true, ne_i0, ne_i1, ne_i2, ne_i3, ne_i4, ne_i5, ne_i6, ne_i7, ne_i8, ne_i9, ne_i10, ne_i12, ne_i14, ne_i16, ne_i18, ne_i19, ne_i20, ne_i23, ne_i24, ne_i27, ne_i29, ne_i30, ne_i31, ne_i32, ne_i35, ne_i48, ne_i52, ne_i54, ne_i57, ne_i59, ne_i63, ne_i64, ne_i76, ne_i77, ne_i78, ne_i79, ne_i80, ne_i81, ne_i97, ne_i99, ne_i100, ne_i101, ne_i104, ne_i105, ne_i108, ne_i110, ne_i111, ne_i116, ne_i117, ne_i122, ne_i103, ne_i200, ne_i255, ne_i256, ne_i320, ne_i384, ne_i1000, ne_l0, ne_l1, ne_l2, ne_l3, ne_l4, ne_l5, ne_l8, ne_l12, ne_l31, ne_l48, ne_l57, ne_l97, ne_l99, ne_l122, ne_l255, ne_l673, ne_l1073741823, ne_l1073741824]
theorem R_bad (h : R X S) : R (sm_sI X 0 11 (X.1 0 11 + nI 1)) (sm_sI S 4 0 (S.1 4 0 + nI 1)) := by
  obtain ⟨a, b, v, ik, tx, len, h⟩ := h
  exact ⟨a, b, v, ik, tx, len, RR_ref (c := 0) (by decide) h⟩
theorem R_no (h : R X S) : R (sm_sI X 0 12 (X.1 0 12 + nI 1)) (sm_sI S 4 1 (S.1 4 1 + nI 1)) := by
  obtain ⟨a, b, v, ik, tx, len, h⟩ := h
  exact ⟨a, b, v, ik, tx, len, RR_ref (c := 1) (by decide) h⟩
theorem R_full (h : R X S) : R (sm_sI X 0 13 (X.1 0 13 + nI 1)) (sm_sI S 4 2 (S.1 4 2 + nI 1)) := by
  obtain ⟨a, b, v, ik, tx, len, h⟩ := h
  exact ⟨a, b, v, ik, tx, len, RR_ref (c := 2) (by decide) h⟩
/-- within on the built side -/
theorem xq_wT {x m : Nat} (h : x ≤ m) (hm : m < 2 ^ 31) : px_L_within N X (nI x) (nI m) = some (nI 1, X) := by
  unfold px_L_within
  simp (disch := omega) only [sm_lt, sm_b1s, sm_b2s, ↓reduceIte, sm_in_nI, nI_clamp, nI_add, pk_mul, pk_sub, ne_addneg, nI_l, ne_ltT, ne_ltF, ne_leT, ne_leF, ne_eqT, ne_eqF, ne_sI1s, ne_sI1n, ne_sI2, ne_sI3, ne_sL1, ne_sL2s, ne_sL2n, ne_sL3, pk_us, pk_un, pk_uLs, pk_uLn, mm_Z, mm_L, mm_1, mm_2, mm_3, ne_rz0, ne_rz1, not_true_eq_false, not_false_eq_true, ne_i0, ne_i1, ne_i2, ne_i3, ne_i4, ne_i5, ne_i6, ne_i7, ne_i8, ne_i9, ne_i10, ne_i12, ne_i14, ne_i16, ne_i18, ne_i19, ne_i20, ne_i23, ne_i24, ne_i27, ne_i29, ne_i30, ne_i31, ne_i32, ne_i35, ne_i48, ne_i52, ne_i54, ne_i57, ne_i59, ne_i63, ne_i64, ne_i76, ne_i77, ne_i78, ne_i79, ne_i80, ne_i81, ne_i97, ne_i99, ne_i100, ne_i101, ne_i104, ne_i105, ne_i108, ne_i110, ne_i111, ne_i116, ne_i117, ne_i122, ne_i103, ne_i200, ne_i255, ne_i256, ne_i320, ne_i384, ne_i1000, ne_l0, ne_l1, ne_l2, ne_l3, ne_l4, ne_l5, ne_l8, ne_l12, ne_l31, ne_l48, ne_l57, ne_l97, ne_l99, ne_l122, ne_l255, ne_l673, ne_l1073741823, ne_l1073741824]
theorem xq_wF {v : Int32} {m : Nat} (h : v.toInt < 0 ∨ (m : Int) < v.toInt) (hm : m < 2 ^ 31) : px_L_within N X v (nI m) = some (nI 0, X) := by
  unfold px_L_within
  rcases h with h | h
  · rw [if_pos (by rw [Int32.lt_iff_toInt_lt, Int32.toInt_zero]; exact h)]
    rfl
  · rw [if_neg (by rw [Int32.lt_iff_toInt_lt, Int32.toInt_zero]; omega), if_pos (by rw [Int32.lt_iff_toInt_lt, nI_toInt hm]; exact h)]
    rfl
theorem xq_clT {p x k : Nat} (hk : X.1 p 9 = nI k) (h : x < k) (h4 : k ≤ 4) : px_House_hasCloth N X p (nI x) = some (nI 1, X) := by
  unfold px_House_hasCloth
  simp (disch := omega) only [sm_lt, sm_b1s, sm_b2s, ↓reduceIte, sm_in_nI, nI_clamp, nI_add, pk_mul, pk_sub, ne_addneg, nI_l, ne_ltT, ne_ltF, ne_leT, ne_leF, ne_eqT, ne_eqF, ne_sI1s, ne_sI1n, ne_sI2, ne_sI3, ne_sL1, ne_sL2s, ne_sL2n, ne_sL3, pk_us, pk_un, pk_uLs, pk_uLn, mm_Z, mm_L, mm_1, mm_2, mm_3, ne_rz0, ne_rz1, not_true_eq_false, not_false_eq_true, ne_i0, ne_i1, ne_i2, ne_i3, ne_i4, ne_i5, ne_i6, ne_i7, ne_i8, ne_i9, ne_i10, ne_i12, ne_i14, ne_i16, ne_i18, ne_i19, ne_i20, ne_i23, ne_i24, ne_i27, ne_i29, ne_i30, ne_i31, ne_i32, ne_i35, ne_i48, ne_i52, ne_i54, ne_i57, ne_i59, ne_i63, ne_i64, ne_i76, ne_i77, ne_i78, ne_i79, ne_i80, ne_i81, ne_i97, ne_i99, ne_i100, ne_i101, ne_i104, ne_i105, ne_i108, ne_i110, ne_i111, ne_i116, ne_i117, ne_i122, ne_i103, ne_i200, ne_i255, ne_i256, ne_i320, ne_i384, ne_i1000, ne_l0, ne_l1, ne_l2, ne_l3, ne_l4, ne_l5, ne_l8, ne_l12, ne_l31, ne_l48, ne_l57, ne_l97, ne_l99, ne_l122, ne_l255, ne_l673, ne_l1073741823, ne_l1073741824, hk]
theorem xq_clF {p k : Nat} {v : Int32} (hk : X.1 p 9 = nI k) (h : v.toInt < 0 ∨ (k : Int) ≤ v.toInt) (h4 : k ≤ 4) : px_House_hasCloth N X p v = some (nI 0, X) := by
  unfold px_House_hasCloth
  rw [hk]
  rcases h with h | h
  · rw [if_pos (by rw [Int32.lt_iff_toInt_lt, Int32.toInt_zero]; exact h)]
    rfl
  · rw [if_neg (by rw [Int32.lt_iff_toInt_lt, Int32.toInt_zero]; omega), if_pos (by rw [Int32.le_iff_toInt_le, nI_toInt (by omega)]; exact h)]
    rfl
theorem xq_thT {p x k : Nat} (hk : X.1 p 10 = nI k) (h : x < k) (h4 : k ≤ 4) : px_House_hasThing N X p (nI x) = some (nI 1, X) := by
  unfold px_House_hasThing
  simp (disch := omega) only [sm_lt, sm_b1s, sm_b2s, ↓reduceIte, sm_in_nI, nI_clamp, nI_add, pk_mul, pk_sub, ne_addneg, nI_l, ne_ltT, ne_ltF, ne_leT, ne_leF, ne_eqT, ne_eqF, ne_sI1s, ne_sI1n, ne_sI2, ne_sI3, ne_sL1, ne_sL2s, ne_sL2n, ne_sL3, pk_us, pk_un, pk_uLs, pk_uLn, mm_Z, mm_L, mm_1, mm_2, mm_3, ne_rz0, ne_rz1, not_true_eq_false, not_false_eq_true, ne_i0, ne_i1, ne_i2, ne_i3, ne_i4, ne_i5, ne_i6, ne_i7, ne_i8, ne_i9, ne_i10, ne_i12, ne_i14, ne_i16, ne_i18, ne_i19, ne_i20, ne_i23, ne_i24, ne_i27, ne_i29, ne_i30, ne_i31, ne_i32, ne_i35, ne_i48, ne_i52, ne_i54, ne_i57, ne_i59, ne_i63, ne_i64, ne_i76, ne_i77, ne_i78, ne_i79, ne_i80, ne_i81, ne_i97, ne_i99, ne_i100, ne_i101, ne_i104, ne_i105, ne_i108, ne_i110, ne_i111, ne_i116, ne_i117, ne_i122, ne_i103, ne_i200, ne_i255, ne_i256, ne_i320, ne_i384, ne_i1000, ne_l0, ne_l1, ne_l2, ne_l3, ne_l4, ne_l5, ne_l8, ne_l12, ne_l31, ne_l48, ne_l57, ne_l97, ne_l99, ne_l122, ne_l255, ne_l673, ne_l1073741823, ne_l1073741824, hk]
theorem xq_thF {p k : Nat} {v : Int32} (hk : X.1 p 10 = nI k) (h : v.toInt < 0 ∨ (k : Int) ≤ v.toInt) (h4 : k ≤ 4) : px_House_hasThing N X p v = some (nI 0, X) := by
  unfold px_House_hasThing
  rw [hk]
  rcases h with h | h
  · rw [if_pos (by rw [Int32.lt_iff_toInt_lt, Int32.toInt_zero]; exact h)]
    rfl
  · rw [if_neg (by rw [Int32.lt_iff_toInt_lt, Int32.toInt_zero]; omega), if_pos (by rw [Int32.le_iff_toInt_le, nI_toInt (by omega)]; exact h)]
    rfl
theorem xq_numT {p x k t : Nat} (hk : X.1 p 9 = nI k) (ht : X.1 p 10 = nI t) (h : x < k ∨ 4 ≤ x ∧ x < 4 + t) (h4 : k ≤ 4) (t4 : t ≤ 4) : px_House_hasNumber N X p (nI x) = some (nI 1, X) := by
  unfold px_House_hasNumber px_House_hasNumber_b23
  by_cases h1 : x < k
  · simp (disch := omega) only [sm_lt, sm_b1s, sm_b2s, ↓reduceIte, sm_in_nI, nI_clamp, nI_add, pk_mul, pk_sub, ne_addneg, nI_l, ne_ltT, ne_ltF, ne_leT, ne_leF, ne_eqT, ne_eqF, ne_sI1s, ne_sI1n, ne_sI2, ne_sI3, ne_sL1, ne_sL2s, ne_sL2n, ne_sL3, pk_us, pk_un, pk_uLs, pk_uLn, mm_Z, mm_L, mm_1, mm_2, mm_3, ne_rz0, ne_rz1, not_true_eq_false, not_false_eq_true, ne_i0, ne_i1, ne_i2, ne_i3, ne_i4, ne_i5, ne_i6, ne_i7, ne_i8, ne_i9, ne_i10, ne_i12, ne_i14, ne_i16, ne_i18, ne_i19, ne_i20, ne_i23, ne_i24, ne_i27, ne_i29, ne_i30, ne_i31, ne_i32, ne_i35, ne_i48, ne_i52, ne_i54, ne_i57, ne_i59, ne_i63, ne_i64, ne_i76, ne_i77, ne_i78, ne_i79, ne_i80, ne_i81, ne_i97, ne_i99, ne_i100, ne_i101, ne_i104, ne_i105, ne_i108, ne_i110, ne_i111, ne_i116, ne_i117, ne_i122, ne_i103, ne_i200, ne_i255, ne_i256, ne_i320, ne_i384, ne_i1000, ne_l0, ne_l1, ne_l2, ne_l3, ne_l4, ne_l5, ne_l8, ne_l12, ne_l31, ne_l48, ne_l57, ne_l97, ne_l99, ne_l122, ne_l255, ne_l673, ne_l1073741823, ne_l1073741824, xq_clT hk h1 h4]
  · have e := xq_clF (N := N) (v := nI x) hk (by rw [nI_toInt (by omega)]; omega) h4
    simp (disch := omega) only [sm_lt, sm_b1s, sm_b2s, ↓reduceIte, sm_in_nI, nI_clamp, nI_add, pk_mul, pk_sub, ne_addneg, nI_l, ne_ltT, ne_ltF, ne_leT, ne_leF, ne_eqT, ne_eqF, ne_sI1s, ne_sI1n, ne_sI2, ne_sI3, ne_sL1, ne_sL2s, ne_sL2n, ne_sL3, pk_us, pk_un, pk_uLs, pk_uLn, mm_Z, mm_L, mm_1, mm_2, mm_3, ne_rz0, ne_rz1, not_true_eq_false, not_false_eq_true, ne_i0, ne_i1, ne_i2, ne_i3, ne_i4, ne_i5, ne_i6, ne_i7, ne_i8, ne_i9, ne_i10, ne_i12, ne_i14, ne_i16, ne_i18, ne_i19, ne_i20, ne_i23, ne_i24, ne_i27, ne_i29, ne_i30, ne_i31, ne_i32, ne_i35, ne_i48, ne_i52, ne_i54, ne_i57, ne_i59, ne_i63, ne_i64, ne_i76, ne_i77, ne_i78, ne_i79, ne_i80, ne_i81, ne_i97, ne_i99, ne_i100, ne_i101, ne_i104, ne_i105, ne_i108, ne_i110, ne_i111, ne_i116, ne_i117, ne_i122, ne_i103, ne_i200, ne_i255, ne_i256, ne_i320, ne_i384, ne_i1000, ne_l0, ne_l1, ne_l2, ne_l3, ne_l4, ne_l5, ne_l8, ne_l12, ne_l31, ne_l48, ne_l57, ne_l97, ne_l99, ne_l122, ne_l255, ne_l673, ne_l1073741823, ne_l1073741824, e, xq_thT ht (show x - 4 < t by omega) t4]
theorem xq_numF {p k t : Nat} {v : Int32} (hk : X.1 p 9 = nI k) (ht : X.1 p 10 = nI t) (h : v.toInt < 0 ∨ 7 < v.toInt ∨ ∃ x, x ≤ 7 ∧ v = nI x ∧ ¬ (x < k ∨ 4 ≤ x ∧ x < 4 + t)) (h4 : k ≤ 4) (t4 : t ≤ 4) : px_House_hasNumber N X p v = some (nI 0, X) := by
  unfold px_House_hasNumber
  have hc : v.toInt < 0 ∨ (k : Int) ≤ v.toInt := by
    rcases h with h | h | ⟨x, h1, rfl, h3⟩
    · exact Or.inl h
    · right; omega
    · right
      rw [nI_toInt (by omega)]
      omega
  rw [xq_clF hk hc h4]
  rw [sm_b2s, if_pos (show nI 0 = 0 from rfl)]
  by_cases h5 : v < (4 : Int32)
  · rw [if_pos h5]
    rfl
  · rw [if_neg h5]
    have h6 : ¬ v.toInt < 4 := by
      rw [Int32.lt_iff_toInt_lt] at h5
      exact h5
    have e : (v - (4 : Int32)).toInt = v.toInt - 4 := by
      rw [Int32.toInt_sub]
      have := Int32.toInt_lt v
      exact Int.bmod_eq_of_le (by show _ ≤ v.toInt - 4; omega) (by show v.toInt - 4 < _; omega)
    have ht' : (v - (4 : Int32)).toInt < 0 ∨ (t : Int) ≤ (v - (4 : Int32)).toInt := by
      right
      rw [e]
      rcases h with h | h | ⟨x, h1, rfl, h3⟩
      · omega
      · omega
      · rw [nI_toInt (by omega)] at h6 ⊢
        omega
    rw [xq_thF ht ht' t4]
    simp (disch := omega) only [sm_lt, sm_b1s, sm_b2s, ↓reduceIte, sm_in_nI, nI_clamp, nI_add, pk_mul, pk_sub, ne_addneg, nI_l, ne_ltT, ne_ltF, ne_leT, ne_leF, ne_eqT, ne_eqF, ne_sI1s, ne_sI1n, ne_sI2, ne_sI3, ne_sL1, ne_sL2s, ne_sL2n, ne_sL3, pk_us, pk_un, pk_uLs, pk_uLn, mm_Z, mm_L, mm_1, mm_2, mm_3, ne_rz0, ne_rz1, not_true_eq_false, not_false_eq_true, ne_i0, ne_i1, ne_i2, ne_i3, ne_i4, ne_i5, ne_i6, ne_i7, ne_i8, ne_i9, ne_i10, ne_i12, ne_i14, ne_i16, ne_i18, ne_i19, ne_i20, ne_i23, ne_i24, ne_i27, ne_i29, ne_i30, ne_i31, ne_i32, ne_i35, ne_i48, ne_i52, ne_i54, ne_i57, ne_i59, ne_i63, ne_i64, ne_i76, ne_i77, ne_i78, ne_i79, ne_i80, ne_i81, ne_i97, ne_i99, ne_i100, ne_i101, ne_i104, ne_i105, ne_i108, ne_i110, ne_i111, ne_i116, ne_i117, ne_i122, ne_i103, ne_i200, ne_i255, ne_i256, ne_i320, ne_i384, ne_i1000, ne_l0, ne_l1, ne_l2, ne_l3, ne_l4, ne_l5, ne_l8, ne_l12, ne_l31, ne_l48, ne_l57, ne_l97, ne_l99, ne_l122, ne_l255, ne_l673, ne_l1073741823, ne_l1073741824]
end
