/-! digits to the base 2^30 -/
abbrev nm_B : Nat := 1073741824
theorem nm_Bp (k : Nat) : 0 < nm_B ^ k := Nat.pow_pos (by decide)
def nm_dg (v k : Nat) : Nat := v / nm_B ^ k % nm_B
def nm_nd (v : Nat) : Nat := if v = 0 then 0 else Nat.log2 v / 30 + 1
theorem nm_dg_lt (v k : Nat) : nm_dg v k < 1073741824 := Nat.mod_lt _ (by decide)
theorem nm_B2 (n : Nat) : nm_B ^ n = 2 ^ (30 * n) := by
  rw [Nat.pow_mul]
theorem nm_nd_le {v n : Nat} : nm_nd v ≤ n ↔ v < nm_B ^ n := by
  unfold nm_nd
  by_cases h : v = 0
  · subst h
    simp [nm_Bp]
  · rw [if_neg h, nm_B2, ← Nat.log2_lt h, Nat.succ_le_iff, Nat.div_lt_iff_lt_mul (by decide), Nat.mul_comm]
theorem nm_lt_nd (v : Nat) : v < nm_B ^ nm_nd v := nm_nd_le.mp (Nat.le_refl _)
theorem nm_nd_0 : nm_nd 0 = 0 := rfl
theorem nm_nd_pos {v : Nat} (h : 0 < v) : 0 < nm_nd v := by
  rcases Nat.eq_zero_or_pos (nm_nd v) with e | e
  · have := nm_lt_nd v
    rw [e] at this
    simp at this
    omega
  · exact e
theorem nm_nd_mono {v w : Nat} (h : v ≤ w) : nm_nd v ≤ nm_nd w := nm_nd_le.mpr (Nat.lt_of_le_of_lt h (nm_lt_nd w))
theorem nm_mod_succ (v k : Nat) : v % nm_B ^ (k + 1) = v % nm_B ^ k + nm_B ^ k * nm_dg v k := Nat.mod_pow_succ
theorem nm_div_succ (v k : Nat) : v / nm_B ^ (k + 1) = v / nm_B ^ k / nm_B := by
  rw [Nat.pow_succ, Nat.div_div_eq_div_mul]
theorem nm_div_dg (v k : Nat) : v / nm_B ^ k = v / nm_B ^ (k + 1) * nm_B + nm_dg v k := by
  rw [nm_div_succ]
  unfold nm_dg
  have := Nat.div_add_mod (v / nm_B ^ k) nm_B
  rw [Nat.mul_comm] at this
  exact this.symm
theorem nm_mod_full {v n : Nat} (h : v < nm_B ^ n) : v % nm_B ^ n = v := Nat.mod_eq_of_lt h
theorem nm_div_full {v n : Nat} (h : v < nm_B ^ n) : v / nm_B ^ n = 0 := Nat.div_eq_of_lt h
theorem nm_mod_0 (v : Nat) : v % nm_B ^ 0 = 0 := by rw [Nat.pow_zero, Nat.mod_one]
theorem nm_dg_hi {v n k : Nat} (h : v < nm_B ^ n) (hk : n ≤ k) : nm_dg v k = 0 := by
  unfold nm_dg
  rw [Nat.div_eq_of_lt (Nat.lt_of_lt_of_le h (Nat.pow_le_pow_right (by decide) hk)), Nat.zero_mod]
/-- the topmost of n digits -/
theorem nm_dg_top {v n : Nat} (h : v < nm_B ^ (n + 1)) : nm_dg v n = v / nm_B ^ n := by
  unfold nm_dg
  apply Nat.mod_eq_of_lt
  rw [Nat.div_lt_iff_lt_mul (nm_Bp n), Nat.mul_comm, ← Nat.pow_succ]
  exact h
theorem nm_top0 {v n : Nat} (h : v < nm_B ^ (n + 1)) (h0 : nm_dg v n = 0) : v < nm_B ^ n := by
  rw [nm_dg_top h] at h0
  rcases Nat.lt_or_ge v (nm_B ^ n) with q | q
  · exact q
  · have := Nat.div_pos q (nm_Bp n)
    omega
theorem nm_topn {v n : Nat} (h : v < nm_B ^ (n + 1)) (h0 : nm_dg v n ≠ 0) : nm_nd v = n + 1 := by
  have h1 := nm_nd_le.mpr h
  rcases Nat.lt_or_ge n (nm_nd v) with q | q
  · omega
  · exact absurd (nm_dg_hi (nm_nd_le.mp q) (Nat.le_refl n)) h0
theorem nm_nd_topne {v n : Nat} (h : nm_nd v = n + 1) : nm_dg v n ≠ 0 := by
  intro h0
  have := nm_top0 (h ▸ nm_lt_nd v) h0
  have := nm_nd_le.mpr this
  omega
/-- equal digits, equal numbers -/
theorem nm_ext {v w : Nat} : ∀ n, v < nm_B ^ n → w < nm_B ^ n → (∀ k, k < n → nm_dg v k = nm_dg w k) → v = w := by
  have key : ∀ n, (∀ k, k < n → nm_dg v k = nm_dg w k) → v % nm_B ^ n = w % nm_B ^ n := by
    intro n
    induction n with
    | zero => intro _; rw [nm_mod_0, nm_mod_0]
    | succ n ih =>
      intro h
      rw [nm_mod_succ, nm_mod_succ, ih (fun k hk => h k (by omega)), h n (by omega)]
  intro n hv hw h
  have := key n h
  rwa [nm_mod_full hv, nm_mod_full hw] at this
/-- times m: the carry behind k digits -/
def nm_tc (v m k : Nat) : Nat := v % nm_B ^ k * m / nm_B ^ k
theorem nm_tc_0 (v m : Nat) : nm_tc v m 0 = 0 := by
  unfold nm_tc
  rw [nm_mod_0, Nat.zero_mul, Nat.zero_div]
theorem nm_tc_succ (v m k : Nat) : nm_tc v m (k + 1) = (nm_dg v k * m + nm_tc v m k) / nm_B := by
  unfold nm_tc
  rw [nm_mod_succ, Nat.pow_succ, ← Nat.div_div_eq_div_mul, Nat.add_mul, Nat.mul_assoc, Nat.add_mul_div_left _ _ (nm_Bp k), Nat.add_comm]
theorem nm_tc_dg (v m k : Nat) : nm_dg (v * m) k = (nm_dg v k * m + nm_tc v m k) % nm_B := by
  have h1 : v * m / nm_B ^ k = nm_B * (v / nm_B ^ (k + 1) * m) + (nm_dg v k * m + nm_tc v m k) := by
    have e : v * m = v % nm_B ^ k * m + nm_B ^ k * (v / nm_B ^ k * m) := by
      have h := Nat.mod_add_div v (nm_B ^ k)
      conv => lhs; rw [← h]
      rw [Nat.add_mul, Nat.mul_assoc]
    rw [e, Nat.add_mul_div_left _ _ (nm_Bp k), nm_div_dg v k, Nat.add_mul]
    unfold nm_tc
    rw [Nat.mul_right_comm, Nat.mul_comm _ nm_B]
    omega
  show v * m / nm_B ^ k % nm_B = _
  rw [h1, Nat.mul_add_mod]
theorem nm_tc_lt {v m k : Nat} (hm : 0 < m) : nm_tc v m k < m := by
  unfold nm_tc
  rw [Nat.div_lt_iff_lt_mul (nm_Bp k), Nat.mul_comm m]
  exact Nat.mul_lt_mul_of_pos_right (Nat.mod_lt _ (nm_Bp k)) hm
theorem nm_tc_top {v m n : Nat} (h : v < nm_B ^ n) (hm : m ≤ nm_B) : nm_tc v m n = nm_dg (v * m) n ∧ v * m < nm_B ^ (n + 1) := by
  have h2 : v * m < nm_B ^ (n + 1) := by
    rw [Nat.pow_succ]
    rcases Nat.eq_zero_or_pos m with e | e
    · subst e; rw [Nat.mul_zero]; exact Nat.mul_pos (nm_Bp n) (show 0 < nm_B by decide)
    · exact Nat.lt_of_lt_of_le (Nat.mul_lt_mul_of_pos_right h e) (Nat.mul_le_mul_left _ hm)
  refine ⟨?_, h2⟩
  unfold nm_tc
  rw [nm_mod_full h, nm_dg_top h2]
/-- adding: the carry behind k digits -/
def nm_ac (v w k : Nat) : Nat := (v % nm_B ^ k + w % nm_B ^ k) / nm_B ^ k
theorem nm_ac_0 (v w : Nat) : nm_ac v w 0 = 0 := by
  unfold nm_ac
  rw [nm_mod_0, nm_mod_0, Nat.add_zero, Nat.zero_div]
theorem nm_ac_succ (v w k : Nat) : nm_ac v w (k + 1) = (nm_dg v k + nm_dg w k + nm_ac v w k) / nm_B := by
  unfold nm_ac
  rw [nm_mod_succ, nm_mod_succ, Nat.pow_succ, ← Nat.div_div_eq_div_mul, show v % nm_B ^ k + nm_B ^ k * nm_dg v k + (w % nm_B ^ k + nm_B ^ k * nm_dg w k) = v % nm_B ^ k + w % nm_B ^ k + nm_B ^ k * (nm_dg v k + nm_dg w k) by rw [Nat.mul_add]; omega, Nat.add_mul_div_left _ _ (nm_Bp k), Nat.add_comm]
theorem nm_ac_dg (v w k : Nat) : nm_dg (v + w) k = (nm_dg v k + nm_dg w k + nm_ac v w k) % nm_B := by
  have h1 : (v + w) / nm_B ^ k = nm_B * (v / nm_B ^ (k + 1) + w / nm_B ^ (k + 1)) + (nm_dg v k + nm_dg w k + nm_ac v w k) := by
    have e : v + w = v % nm_B ^ k + w % nm_B ^ k + nm_B ^ k * (v / nm_B ^ k + w / nm_B ^ k) := by
      have h := Nat.mod_add_div v (nm_B ^ k)
      have h' := Nat.mod_add_div w (nm_B ^ k)
      rw [Nat.mul_add]
      omega
    rw [e, Nat.add_mul_div_left _ _ (nm_Bp k), nm_div_dg v k, nm_div_dg w k]
    unfold nm_ac
    rw [Nat.mul_add]
    generalize v / nm_B ^ (k + 1) = x
    generalize w / nm_B ^ (k + 1) = y
    generalize (v % nm_B ^ k + w % nm_B ^ k) / nm_B ^ k = z
    have hx := Nat.mul_comm x nm_B
    have hy := Nat.mul_comm y nm_B
    omega
  show (v + w) / nm_B ^ k % nm_B = _
  rw [h1, Nat.mul_add_mod]
theorem nm_ac_le (v w k : Nat) : nm_ac v w k ≤ 1 := by
  unfold nm_ac
  apply Nat.le_of_lt_succ
  rw [Nat.div_lt_iff_lt_mul (nm_Bp k)]
  have := Nat.mod_lt v (nm_Bp k)
  have := Nat.mod_lt w (nm_Bp k)
  omega
theorem nm_ac_top {v w n : Nat} (h : v < nm_B ^ n) (h' : w < nm_B ^ n) : nm_ac v w n = nm_dg (v + w) n ∧ v + w < nm_B ^ (n + 1) := by
  have h2 : v + w < nm_B ^ (n + 1) := by
    rw [Nat.pow_succ]
    have := nm_Bp n
    have : nm_B ^ n * 2 ≤ nm_B ^ n * nm_B := Nat.mul_le_mul_left _ (by decide)
    omega
  refine ⟨?_, h2⟩
  unfold nm_ac
  rw [nm_mod_full h, nm_mod_full h', nm_dg_top h2]
/-- taking away: what is owed behind k digits -/
def nm_ob (v w k : Nat) : Nat := if v % nm_B ^ k < w % nm_B ^ k then 1 else 0
theorem nm_ob_0 (v w : Nat) : nm_ob v w 0 = 0 := by
  unfold nm_ob
  rw [nm_mod_0, nm_mod_0, if_neg (by omega)]
theorem nm_ob_le (v w k : Nat) : nm_ob v w k ≤ 1 := by
  unfold nm_ob
  split <;> omega
theorem nm_ob_succ (v w k : Nat) : nm_ob v w (k + 1) = if nm_dg v k < nm_dg w k + nm_ob v w k then 1 else 0 := by
  unfold nm_ob
  rw [nm_mod_succ, nm_mod_succ]
  have hv := Nat.mod_lt v (nm_Bp k)
  have hw := Nat.mod_lt w (nm_Bp k)
  generalize v % nm_B ^ k = a at *
  generalize w % nm_B ^ k = b at *
  generalize nm_B ^ k = P at *
  generalize nm_dg v k = c
  generalize nm_dg w k = d
  rcases Nat.lt_trichotomy c d with h | h | h
  · have : P * c + P ≤ P * d := by
      rw [← Nat.mul_succ]; exact Nat.mul_le_mul_left P h
    rw [if_pos (by omega)]
    by_cases q : a < b
    · rw [if_pos q, if_pos (by omega)]
    · rw [if_neg q, if_pos (by omega)]
  · subst h
    by_cases q : a < b
    · rw [if_pos (by omega), if_pos q, if_pos (by omega)]
    · rw [if_neg (by omega), if_neg q, if_neg (by omega)]
  · have : P * d + P ≤ P * c := by
      rw [← Nat.mul_succ]; exact Nat.mul_le_mul_left P h
    rw [if_neg (by omega)]
    by_cases q : a < b
    · rw [if_pos q, if_neg (by omega)]
    · rw [if_neg q, if_neg (by omega)]
theorem nm_ob_dg {v w : Nat} (h : w ≤ v) (k : Nat) : nm_dg (v - w) k + nm_dg w k + nm_ob v w k = nm_dg v k + nm_B * (if nm_dg v k < nm_dg w k + nm_ob v w k then 1 else 0) := by
  -- v = (v - w) + w; the carry of that sum is what is owed
  have e : v - w + w = v := Nat.sub_add_cancel h
  have hc : ∀ k, nm_ac (v - w) w k = nm_ob v w k := by
    intro k
    unfold nm_ac nm_ob
    have h1 : v % nm_B ^ k = ((v - w) % nm_B ^ k + w % nm_B ^ k) % nm_B ^ k := by
      rw [← Nat.add_mod, e]
    have a1 := Nat.mod_lt (v - w) (nm_Bp k)
    have a2 := Nat.mod_lt w (nm_Bp k)
    rw [h1]
    generalize (v - w) % nm_B ^ k = a at *
    generalize w % nm_B ^ k = b at *
    have hp := nm_Bp k
    generalize nm_B ^ k = P at *
    by_cases q : a + b < P
    · rw [Nat.div_eq_of_lt q, Nat.mod_eq_of_lt q, if_neg (by omega)]
    · have e1 : a + b = (a + b - P) + P := by omega
      have e2 : (a + b) / P = 1 := by
        rw [e1, Nat.add_div_right _ hp, Nat.div_eq_of_lt (by omega)]
      have e3 : (a + b) % P = a + b - P := by
        conv => lhs; rw [e1]
        rw [Nat.add_mod_right, Nat.mod_eq_of_lt (by omega)]
      rw [e2, e3, if_pos (by omega)]
  have d := nm_ac_dg (v - w) w k
  rw [e, hc k] at d
  have s := nm_ac_succ (v - w) w k
  rw [hc (k + 1), hc k, nm_ob_succ] at s
  have m := Nat.div_add_mod (nm_dg (v - w) k + nm_dg w k + nm_ob v w k) nm_B
  rw [← s, ← d] at m
  omega
/-- from the top: dividing by a small number -/
theorem nm_dv (v b k : Nat) (hb : 0 < b) : nm_dg (v / b) k = (v / nm_B ^ (k + 1) % b * nm_B + nm_dg v k) / b ∧ v / nm_B ^ k % b = (v / nm_B ^ (k + 1) % b * nm_B + nm_dg v k) % b := by
  have h1 := nm_div_dg v k
  have h2 := Nat.div_add_mod (v / nm_B ^ (k + 1)) b
  have h3 := Nat.mod_lt (v / nm_B ^ (k + 1)) hb
  have hd : nm_dg v k < nm_B := nm_dg_lt v k
  generalize hq : v / nm_B ^ (k + 1) = q at *
  generalize q % b = r at *
  generalize q / b = q1 at *
  have e : v / nm_B ^ k = r * nm_B + nm_dg v k + b * (q1 * nm_B) := by
    rw [h1, ← h2, Nat.add_mul, Nat.mul_assoc]
    omega
  refine ⟨?_, ?_⟩
  · show v / b / nm_B ^ k % nm_B = _
    rw [Nat.div_div_eq_div_mul, Nat.mul_comm b, ← Nat.div_div_eq_div_mul, e, Nat.add_mul_div_left _ _ hb]
    rw [Nat.add_mul_mod_self_right]
    apply Nat.mod_eq_of_lt
    rw [Nat.div_lt_iff_lt_mul hb]
    have : (r + 1) * nm_B ≤ b * nm_B := Nat.mul_le_mul_right _ h3
    rw [Nat.add_mul] at this
    show _ < nm_B * b
    rw [Nat.mul_comm nm_B b]
    omega
  · rw [e, Nat.add_mul_mod_self_left]
