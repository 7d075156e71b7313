/-! moves: what tables tell -/
/-- the same hours of all cloths that are there -/
def ag (a t t' : Nat → Nat) : Prop := ∀ c x, c < a 76 → x < 8 → t (8 * c + x) = t' (8 * c + x)
section
variable {a t t' co w : Nat → Nat}
theorem ag_rf : ag a t t := fun _ _ _ _ => rfl
theorem ag_sy (h : ag a t t') : ag a t' t := fun c x hc hx => (h c x hc hx).symm
theorem ag_tk {c x : Nat} (h : ∀ x, x < 8 → t (8 * c + x) = t' (8 * c + x)) (hx : x < 8) : sp_tk a t c x = sp_tk a t' c x := by
  unfold sp_tk
  rw [h x hx]
theorem ag_ts {c : Nat} (h : ∀ x, x < 8 → t (8 * c + x) = t' (8 * c + x)) : ∀ n, n ≤ 8 → sp_ts a t c n = sp_ts a t' c n
  | 0, _ => rfl
  | n + 1, hn => by rw [sp_ts, sp_ts, ag_ts h n (by omega), ag_tk h (by omega)]
theorem ag_sm {c : Nat} (h : ∀ x, x < 8 → t (8 * c + x) = t' (8 * c + x)) : ∀ n, n ≤ 8 → sp_sm a t co w c n = sp_sm a t' co w c n
  | 0, _ => rfl
  | n + 1, hn => by rw [sp_sm, sp_sm, ag_sm h n (by omega), ag_tk h (by omega)]
theorem ag_tc {c x : Nat} (h : ∀ x, x < 8 → t (8 * c + x) = t' (8 * c + x)) (hx : x < 8) : sp_tc a t c x = sp_tc a t' c x := by
  unfold sp_tc
  rw [h x hx]
theorem ag_gr {c : Nat} (h : ∀ x, x < 8 → t (8 * c + x) = t' (8 * c + x)) : ∀ n, n ≤ 8 → sp_gr a t co w c n = sp_gr a t' co w c n
  | 0, _ => rfl
  | n + 1, hn => by rw [sp_gr, sp_gr, ag_gr h n (by omega), ag_tc h (by omega)]
theorem ag_all {c : Nat} (h : ∀ x, x < 8 → t (8 * c + x) = t' (8 * c + x)) : sp_all a t c = sp_all a t' c := by
  unfold sp_all
  rw [ag_ts h 8 (Nat.le_refl _)]
theorem ag_by (h : ag a t t') : ∀ n, n ≤ a 76 → sp_by a t n = sp_by a t' n
  | 0, _ => rfl
  | n + 1, hn => by rw [sp_by, sp_by, ag_by h n (by omega), ag_all (fun x hx => h n x (by omega) hx)]
theorem ag_nw (h : ag a t t') : sp_nw a t co w = sp_nw a t' co w := by
  funext c
  unfold sp_nw sp_nt
  rw [ag_by h _ (Nat.le_refl _)]
  by_cases hc : c < a 76
  · rw [ag_ts (fun x hx => h c x hc hx) 8 (Nat.le_refl _), ag_sm (fun x hx => h c x hc hx) 8 (Nat.le_refl _), ag_gr (fun x hx => h c x hc hx) 8 (Nat.le_refl _)]
  · rw [if_neg hc, if_neg hc]
theorem ag_ns (h : ag a t t') : ∀ n, sp_ns a t co w n = sp_ns a t' co w n
  | 0 => rfl
  | n + 1 => by rw [sp_ns, sp_ns, ag_ns h n, ag_nw h]
theorem by_dvd (hs : sc a t co) : ∀ n, n ≤ a 76 → ∀ c, c < n → sp_all a t c ∣ sp_by a t n
  | 0, _, c, hc => by omega
  | n + 1, hn, c, hc => by
    rw [sp_by]
    by_cases e : c = n
    · rw [e]
      exact Nat.dvd_mul_left _ _
    · have ih := by_dvd hs n (by omega) c (by omega)
      refine Nat.dvd_trans ih ?_
      have g1 := Nat.gcd_dvd_left (sp_by a t n) (sp_all a t n)
      have g2 := Nat.gcd_dvd_right (sp_by a t n) (sp_all a t n)
      have b0 := (sp_by_le hs n (by omega)).1
      have g0 := Nat.gcd_pos_of_pos_left (sp_all a t n) b0
      obtain ⟨k, hk⟩ := g2
      generalize Nat.gcd (sp_by a t n) (sp_all a t n) = g at *
      obtain ⟨l, hl⟩ := g1
      rw [hl, hk, Nat.mul_div_cancel_left _ g0]
      exact ⟨k, by rw [Nat.mul_comm l (g * k), Nat.mul_comm g l, Nat.mul_comm l g, Nat.mul_assoc g l k, Nat.mul_assoc g k l, Nat.mul_comm l k]⟩
/-- the shade behind one night, by the unit: a row alone tells it -/
def mv_1 (a t co w : Nat → Nat) (c : Nat) : Nat × Nat :=
  if a (4 * c) = 4 then ((sp_gr a t co w c 8).getD (w c), w 4)
  else if 0 < sp_ts a t c 8 then (sp_sm a t co w c 8, w 4 * sp_ts a t c 8)
  else (w c, w 4)
theorem mv_1_cg {c : Nat} (h : ∀ x, x < 8 → t (8 * c + x) = t' (8 * c + x)) : mv_1 a t co w c = mv_1 a t' co w c := by
  unfold mv_1
  rw [ag_ts h 8 (Nat.le_refl _), ag_sm h 8 (Nat.le_refl _), ag_gr h 8 (Nat.le_refl _)]
theorem mv_1_is (hs : sc a t co) {c : Nat} (hc : c < a 76) : ∃ k, 0 < k ∧ sp_nw a t co w c = (mv_1 a t co w c).1 * k ∧ sp_nw a t co w 4 = (mv_1 a t co w c).2 * k := by
  have h4 := hs.1
  have b0 := (sp_by_le hs (a 76) (Nat.le_refl _)).1
  unfold sp_nw mv_1 sp_nt
  rw [if_neg (by omega), if_pos hc, if_pos rfl]
  by_cases hv : a (4 * c) = 4
  · rw [if_pos hv, if_pos hv]
    exact ⟨_, b0, rfl, rfl⟩
  · rw [if_neg hv, if_neg hv]
    by_cases h0 : 0 < sp_ts a t c 8
    · rw [if_pos h0, if_pos h0]
      have hd := by_dvd hs (a 76) (Nat.le_refl _) c hc
      have ea : sp_all a t c = sp_ts a t c 8 := if_pos ⟨hv, h0⟩
      rw [ea] at hd
      obtain ⟨k, hk⟩ := hd
      have k0 : 0 < k := by
        rcases Nat.eq_zero_or_pos k with e | e
        · rw [e, Nat.mul_zero] at hk; omega
        · exact e
      refine ⟨k, k0, ?_, ?_⟩
      · rw [hk, Nat.mul_div_cancel_left _ h0]
      · rw [hk, Nat.mul_assoc]
    · rw [if_neg h0, if_neg h0]
      exact ⟨_, b0, rfl, rfl⟩
end
/-- does the cloth c have from A to B parts behind n nights? -/
def mv_r (a v : Nat → Nat) (c A B n : Nat) (t : Nat → Nat) : Bool := decide (sp_ns a t (ac_ a) (wn v) n 4 * A ≤ sp_ns a t (ac_ a) (wn v) n c) && decide (sp_ns a t (ac_ a) (wn v) n c ≤ sp_ns a t (ac_ a) (wn v) n 4 * B)
theorem mv_r_ag {a v t t' : Nat → Nat} {c A B n : Nat} (h : ag a t t') : mv_r a v c A B n t = mv_r a v c A B n t' := by
  unfold mv_r
  rw [ag_ns h n]
theorem mv_k_le {x y A k : Nat} (h : 0 < k) : (y * k * A ≤ x * k) ↔ (y * A ≤ x) := by
  rw [Nat.mul_right_comm]
  exact Nat.mul_le_mul_right_iff h
theorem mv_k_ge {x y A k : Nat} (h : 0 < k) : (x * k ≤ y * k * A) ↔ (x ≤ y * A) := by
  rw [Nat.mul_right_comm]
  exact Nat.mul_le_mul_right_iff h
theorem mv_r_1 {a v t t' : Nat → Nat} {c A B : Nat} (hs : sc a t (ac_ a)) (hs' : sc a t' (ac_ a)) (hc : c < a 76) (h : ∀ x, x < 8 → t (8 * c + x) = t' (8 * c + x)) : mv_r a v c A B 1 t = mv_r a v c A B 1 t' := by
  have one : ∀ t, sc a t (ac_ a) → mv_r a v c A B 1 t = (decide ((mv_1 a t (ac_ a) (wn v) c).2 * A ≤ (mv_1 a t (ac_ a) (wn v) c).1) && decide ((mv_1 a t (ac_ a) (wn v) c).1 ≤ (mv_1 a t (ac_ a) (wn v) c).2 * B)) := by
    intro t hs
    obtain ⟨k, k0, e1, e2⟩ := mv_1_is (w := wn v) hs hc
    unfold mv_r
    have e : sp_ns a t (ac_ a) (wn v) 1 = sp_nw a t (ac_ a) (wn v) := rfl
    rw [e, e1, e2]
    congr 1
    · exact decide_eq_decide.mpr (mv_k_le k0)
    · exact decide_eq_decide.mpr (mv_k_ge k0)
  rw [one t hs, one t' hs', mv_1_cg h]
/-! moves by number: 16 times the lesser number, 2 times the other, 0 or 1 -/
def mv_a (m : Nat) : Nat := m / 16
def mv_b (m : Nat) : Nat := m / 2 % 8
def mv_h (m : Nat) : Nat := m % 2 * 3
def mv_t (t : Nat → Nat) (m : Nat) : Nat → Nat := sp_ph t (mv_a m) (mv_b m) (mv_h m)
/-- a pair: 8 times the lesser number and the other -/
def mp_ok (a : Nat → Nat) (q : Nat) : Bool := decide (q / 8 < q % 8 ∧ q / 8 < a 76 ∧ (q % 8 < a 76 ∨ 4 ≤ q % 8 ∧ q % 8 < 4 + a 77))
def mp_k (a : Nat → Nat) : Nat → Nat
  | 0 => 0
  | q + 1 => if mp_ok a q = true then mp_k a q + 1 else mp_k a q
def mv_k (a : Nat → Nat) (m : Nat) : Nat := 2 * mp_k a (m / 2) + (if mp_ok a (m / 2) = true then m % 2 else 0)
theorem mp_k_le (a : Nat → Nat) : ∀ q, mp_k a q ≤ q
  | 0 => Nat.le_refl _
  | q + 1 => by
    have := mp_k_le a q
    rw [mp_k]
    split <;> omega
theorem mp_k_mono (a : Nat → Nat) (q : Nat) : ∀ d, mp_k a q ≤ mp_k a (q + d)
  | 0 => Nat.le_refl _
  | d + 1 => by
    have := mp_k_mono a q d
    rw [← Nat.add_assoc, mp_k]
    split <;> omega
theorem mp_k_lt {a : Nat → Nat} {q r : Nat} (h : mp_ok a q = true) (hr : q < r) : mp_k a q < mp_k a r := by
  have := mp_k_mono a (q + 1) (r - (q + 1))
  rw [show q + 1 + (r - (q + 1)) = r by omega, mp_k, if_pos h] at this
  omega
theorem mv_k_ok {a : Nat → Nat} {m : Nat} (h : mp_ok a (m / 2) = true) : mv_k a m = 2 * mp_k a (m / 2) + m % 2 ∧ mv_k a (m + 1) = mv_k a m + 1 := by
  have e1 : mv_k a m = 2 * mp_k a (m / 2) + m % 2 := by
    unfold mv_k
    rw [if_pos h]
  refine ⟨e1, ?_⟩
  rw [e1]
  unfold mv_k
  by_cases p : m % 2 = 0
  · rw [show (m + 1) / 2 = m / 2 by omega, if_pos h]
    omega
  · rw [show (m + 1) / 2 = m / 2 + 1 by omega, mp_k, if_pos h]
    split <;> omega
theorem mv_k_no {a : Nat → Nat} {m : Nat} (h : mp_ok a (m / 2) = false) : mv_k a (m + 1) = mv_k a m := by
  have e : mv_k a m = 2 * mp_k a (m / 2) := by
    unfold mv_k
    rw [h]
    rfl
  rw [e]
  unfold mv_k
  by_cases p : m % 2 = 0
  · rw [show (m + 1) / 2 = m / 2 by omega, h]
    rfl
  · rw [show (m + 1) / 2 = m / 2 + 1 by omega, mp_k, h, if_neg (by simp)]
    split <;> omega
theorem mv_k_lt {a : Nat → Nat} {m : Nat} (h : mp_ok a (m / 2) = true) (hm : m < 64) : mv_k a m < 2 * mp_k a 32 := by
  have h1 := (mv_k_ok h).1
  have h2 := mp_k_lt (r := 32) h (by omega)
  omega
/-- the next couple -/
def mv_n (m : Nat) : Nat := 2 * (m / 2) + 2
theorem mv_k_n {a : Nat → Nat} {m : Nat} (h : mp_ok a (m / 2) = true) : mv_k a (mv_n m) = mv_k a m / 2 * 2 + 2 := by
  have h1 := (mv_k_ok h).1
  have e : mv_k a m / 2 = mp_k a (m / 2) := by omega
  rw [e]
  unfold mv_k mv_n
  rw [show (2 * (m / 2) + 2) / 2 = m / 2 + 1 by omega, mp_k, if_pos h]
  split <;> omega
/-- the first of d numbers from j that p holds of -/
def mf (p : Nat → Bool) : Nat → Nat → Option Nat
  | 0, _ => none
  | d + 1, j => if p j = true then some j else mf p d (j + 1)
theorem mf_cg {p q : Nat → Bool} : ∀ d j, (∀ i, j ≤ i → i < j + d → p i = q i) → mf p d j = mf q d j
  | 0, _, _ => rfl
  | d + 1, j, h => by
    rw [mf, mf, h j (Nat.le_refl _) (by omega), mf_cg d (j + 1) (fun i h1 h2 => h i (by omega) (by omega))]
theorem mf_none {p : Nat → Bool} : ∀ d j, mf p d j = none → ∀ i, j ≤ i → i < j + d → p i = false
  | 0, _, _, i, h1, h2 => by omega
  | d + 1, j, h, i, h1, h2 => by
    rw [mf] at h
    cases e : p j with
    | true => rw [e, if_pos rfl] at h; cases h
    | false =>
      rw [e, if_neg (by simp)] at h
      by_cases q : i = j
      · rw [q]; exact e
      · exact mf_none d (j + 1) h i (by omega) (by omega)
theorem mf_no {p : Nat → Bool} : ∀ d j, (∀ i, j ≤ i → i < j + d → p i = false) → mf p d j = none
  | 0, _, _ => rfl
  | d + 1, j, h => by
    rw [mf, h j (Nat.le_refl _) (by omega), if_neg (by simp)]
    exact mf_no d (j + 1) (fun i h1 h2 => h i (by omega) (by omega))
theorem mf_some {p : Nat → Bool} : ∀ d j k, mf p d j = some k → p k = true ∧ j ≤ k ∧ k < j + d
  | 0, _, _, h => by simp [mf] at h
  | d + 1, j, k, h => by
    rw [mf] at h
    cases e : p j with
    | true =>
      rw [e, if_pos rfl] at h
      cases h
      exact ⟨e, by omega, by omega⟩
    | false =>
      rw [e, if_neg (by simp)] at h
      have := mf_some d (j + 1) k h
      exact ⟨this.1, by omega, by omega⟩
/-! what a move changes -/
section
variable {t t' : Nat → Nat} {a : Nat → Nat}
theorem sp_p1_n {x y n z : Nat} (h : ¬ (x < 4 ∧ z = 8 * x + y)) : sp_p1 t x y n z = t z := by
  unfold sp_p1
  by_cases hx : x < 4
  · rw [if_pos hx, ne_up_n (fun e => h ⟨hx, e⟩)]
  · rw [if_neg hx]
theorem sp_p1_s {x y n : Nat} (hx : x < 4) : sp_p1 t x y n (8 * x + y) = n := by
  unfold sp_p1
  rw [if_pos hx, ne_up_s]
theorem sp_ph_n {x y n z : Nat} (h1 : ¬ (x < 4 ∧ z = 8 * x + y)) (h2 : ¬ (y < 4 ∧ z = 8 * y + x)) : sp_ph t x y n z = t z := by
  unfold sp_ph
  rw [sp_p1_n h2, sp_p1_n h1]
theorem sp_ph_1 {x y n : Nat} (hx : x < 4) : sp_ph t x y n (8 * x + y) = n := by
  unfold sp_ph
  by_cases h : y < 4 ∧ 8 * x + y = 8 * y + x
  · rw [h.2, sp_p1_s h.1]
  · rw [sp_p1_n h, sp_p1_s hx]
theorem sp_ph_2 {x y n : Nat} (hy : y < 4) : sp_ph t x y n (8 * y + x) = n := by
  unfold sp_ph
  rw [sp_p1_s hy]
/-- a move that is put back -/
theorem sp_ph_bk {x y n : Nat} (hx : x < 4) (h : y < 4 → t (8 * y + x) = t (8 * x + y)) : sp_ph (sp_ph t x y n) x y (t (8 * x + y)) = t := by
  funext z
  by_cases h1 : z = 8 * x + y
  · rw [h1, sp_ph_1 hx]
  · by_cases h2 : y < 4 ∧ z = 8 * y + x
    · rw [h2.2, sp_ph_2 h2.1, h h2.1]
    · rw [sp_ph_n (fun q => h1 q.2) h2, sp_ph_n (fun q => h1 q.2) h2]
theorem sp_ph_same {x y n : Nat} (h1 : t (8 * x + y) = n) (h : y < 4 → t (8 * y + x) = t (8 * x + y)) (z : Nat) : sp_ph t x y n z = t z := by
  by_cases q2 : y < 4 ∧ z = 8 * y + x
  · rw [q2.2, sp_ph_2 q2.1, h q2.1, h1]
  · by_cases q1 : x < 4 ∧ z = 8 * x + y
    · rw [q1.2, sp_ph_1 q1.1, h1]
    · rw [sp_ph_n q1 q2]
theorem sp_p1_ag {x y n : Nat} (h : ag a t t') : ag a (sp_p1 t x y n) (sp_p1 t' x y n) := by
  intro c z hc hz
  by_cases q : x < 4 ∧ 8 * c + z = 8 * x + y
  · rw [q.2, sp_p1_s q.1, sp_p1_s q.1]
  · rw [sp_p1_n q, sp_p1_n q]
    exact h c z hc hz
theorem mv_t_ag {m : Nat} (h : ag a t t') : ag a (mv_t t m) (mv_t t' m) := sp_p1_ag (sp_p1_ag h)
theorem mv_t_sc {m : Nat} (hs : sc a t (ac_ a)) : sc a (mv_t t m) (ac_ a) := by
  obtain ⟨h1, h2, h3, h4, h5⟩ := hs
  refine ⟨h1, h2, h3, fun c x hc hx => ?_, h5⟩
  have hh : mv_h m ≤ 3 := by unfold mv_h; omega
  unfold mv_t sp_ph
  by_cases q : mv_b m < 4 ∧ 8 * c + x = 8 * mv_b m + mv_a m
  · rw [q.2, sp_p1_s q.1]; exact hh
  · rw [sp_p1_n q]
    by_cases q2 : mv_a m < 4 ∧ 8 * c + x = 8 * mv_a m + mv_b m
    · rw [q2.2, sp_p1_s q2.1]; exact hh
    · rw [sp_p1_n q2]; exact h4 c x hc hx
end
/-- the house's hours, nothing where no cloth is -/
def mv_0 (a : Nat → Nat) (z : Nat) : Nat := if z / 8 < a 76 then a (16 + z) else 0
theorem mv_0_ag (a : Nat → Nat) : ag a (mv_0 a) (at_ a) := by
  intro c x hc hx
  unfold mv_0
  rw [if_pos (by omega)]
theorem mv_0_sy {a : Nat → Nat} (o : sp_ok a) {x y : Nat} (hx : x < a 76) (hy : y < a 76) : mv_0 a (8 * y + x) = mv_0 a (8 * x + y) := by
  have k4 := o.1
  have e := (o.2.2.2.2.2.2.2.1 x y hx (by omega)).2.2 hy
  unfold mv_0
  rw [if_pos (by omega), if_pos (by omega), ← Nat.add_assoc, ← Nat.add_assoc]
  exact e
/-- the moves that the built side tries -/
def mv_c (a : Nat → Nat) (c n m : Nat) : Bool := mp_ok a (m / 2) && !(decide (n = 1 ∧ mv_a m ≠ c ∧ mv_b m ≠ c)) && !(decide (mv_0 a (8 * mv_a m + mv_b m) = mv_h m))
theorem mp_okT {a : Nat → Nat} {m : Nat} (h : mp_ok a (m / 2) = true) : mv_a m < mv_b m ∧ mv_a m < a 76 ∧ (mv_b m < a 76 ∨ 4 ≤ mv_b m ∧ mv_b m < 4 + a 77) := by
  have := of_decide_eq_true h
  rw [show m / 2 / 8 = m / 16 by omega] at this
  exact this
/-- what makes no difference -/
theorem mv_idle {a v t : Nat → Nat} {c A B n m : Nat} (o : sp_ok a) (hs : sc a t (ac_ a)) (hc : c < a 76) (hm : mp_ok a (m / 2) = true) (hn : mv_c a c n m = false) (e1 : t (8 * mv_a m + mv_b m) = mv_0 a (8 * mv_a m + mv_b m)) (e2 : mv_b m < 4 → t (8 * mv_b m + mv_a m) = mv_0 a (8 * mv_b m + mv_a m)) : mv_r a v c A B n (mv_t t m) = mv_r a v c A B n t := by
  obtain ⟨m1, m2, m3⟩ := mp_okT hm
  have mb : mv_b m < 8 := Nat.mod_lt _ (by decide)
  have k4 := o.1
  unfold mv_c at hn
  rw [hm, Bool.true_and] at hn
  by_cases q : n = 1 ∧ mv_a m ≠ c ∧ mv_b m ≠ c
  · obtain ⟨rfl, q2, q3⟩ := q
    refine mv_r_1 (mv_t_sc hs) hs hc (fun x hx => ?_)
    exact sp_ph_n (fun z => by omega) (fun z => by omega)
  · rw [decide_eq_false q, Bool.not_false, Bool.true_and] at hn
    have e : mv_0 a (8 * mv_a m + mv_b m) = mv_h m := by
      by_cases z : mv_0 a (8 * mv_a m + mv_b m) = mv_h m
      · exact z
      · rw [decide_eq_false z] at hn
        simp at hn
    refine mv_r_ag (fun c x _ _ => ?_)
    refine sp_ph_same (by rw [e1, e]) (fun hb => ?_) _
    rw [e1, e2 hb]
    exact mv_0_sy o m2 (by omega)
theorem mv_eq8 {x y z w : Nat} (hy : y < 8) (hw : w < 8) (h : 8 * x + y = 8 * z + w) : x = z ∧ y = w := by omega
/-- another pair's hours stay -/
theorem mv_else {a t : Nat → Nat} {m j : Nat} (hm : mp_ok a (m / 2) = true) (hj : mp_ok a (j / 2) = true) (hd : m / 2 ≠ j / 2) (k4 : a 76 ≤ 4) : mv_t t m (8 * mv_a j + mv_b j) = t (8 * mv_a j + mv_b j) ∧ (mv_b j < 4 → mv_t t m (8 * mv_b j + mv_a j) = t (8 * mv_b j + mv_a j)) := by
  obtain ⟨m1, m2, m3⟩ := mp_okT hm
  obtain ⟨j1, j2, j3⟩ := mp_okT hj
  have mb : mv_b m < 8 := Nat.mod_lt _ (by decide)
  have jb : mv_b j < 8 := Nat.mod_lt _ (by decide)
  have em : m / 2 = 8 * mv_a m + mv_b m := by unfold mv_a mv_b; omega
  have ej : j / 2 = 8 * mv_a j + mv_b j := by unfold mv_a mv_b; omega
  have am : mv_a m < 8 := by omega
  have aj : mv_a j < 8 := by omega
  have n1 : ¬ (mv_a m < 4 ∧ 8 * mv_a j + mv_b j = 8 * mv_a m + mv_b m) := by
    rintro ⟨_, q⟩
    exact hd (by rw [em, ej, q])
  have n2 : ¬ (mv_b m < 4 ∧ 8 * mv_a j + mv_b j = 8 * mv_b m + mv_a m) := by
    rintro ⟨_, q⟩
    obtain ⟨q1, q2⟩ := mv_eq8 jb am q
    omega
  have n3 : ¬ (mv_a m < 4 ∧ 8 * mv_b j + mv_a j = 8 * mv_a m + mv_b m) := by
    rintro ⟨_, q⟩
    obtain ⟨q1, q2⟩ := mv_eq8 aj mb q
    omega
  have n4 : ¬ (mv_b m < 4 ∧ 8 * mv_b j + mv_a j = 8 * mv_b m + mv_a m) := by
    rintro ⟨_, q⟩
    obtain ⟨q1, q2⟩ := mv_eq8 aj am q
    exact hd (by rw [em, ej, q1, q2])
  exact ⟨sp_ph_n n1 n2, fun _ => sp_ph_n n3 n4⟩
