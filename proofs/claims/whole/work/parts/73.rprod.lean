/-! the reference's rest: products by a code, and their sum -/
def rp_in (d : Nat → Nat) (k : Nat) : Nat → Int → Int
  | 0, v => v
  | j + 1, v => if d j = d k then 0 else if d k < d j then -(rp_in d k j v) else rp_in d k j v
def rp (d : Nat → Nat) (R : Nat → Nat → Int) : Nat → Int
  | 0 => 1
  | k + 1 => rp_in d k k (rp d R k * R k (d k))
def rp_su (f : Nat → Int) : Nat → Int
  | 0 => 0
  | m + 1 => rp_su f m + f m
def rp_fl (g : Nat → Bool) : Nat → List Nat
  | 0 => []
  | m + 1 => if g m = true then m :: rp_fl g m else rp_fl g m
def rp_ls (f : Nat → Int) : List Nat → Int
  | [] => 0
  | x :: l => rp_ls f l + f x
theorem rp_su_l {f : Nat → Int} {g : Nat → Bool} : ∀ K, (∀ m, m < K → g m = false → f m = 0) → rp_su f K = rp_ls f (rp_fl g K)
  | 0, _ => rfl
  | K + 1, h => by
    have ih := rp_su_l (f := f) (g := g) K (fun m hm => h m (by omega))
    rw [rp_su, rp_fl, ih]
    cases e : g K with
    | false => rw [h K (by omega) e, if_neg (by simp), Int.add_zero]
    | true => rw [if_pos rfl]; rfl
def rp_d (n m k : Nat) : Nat := m / n ^ k % n
def rp_gi (d : Nat → Nat) (k : Nat) : Nat → Bool
  | 0 => true
  | j + 1 => rp_gi d k j && !decide (d j = d k)
def rp_g (d : Nat → Nat) : Nat → Bool
  | 0 => true
  | k + 1 => rp_g d k && rp_gi d k k
theorem rp_in_z (d : Nat → Nat) (k : Nat) : ∀ n, rp_in d k n 0 = 0
  | 0 => rfl
  | n + 1 => by
    rw [rp_in, rp_in_z d k n]
    split
    · rfl
    · split <;> rfl
theorem rp_in_0 (d : Nat → Nat) (k : Nat) (v : Int) : ∀ n, rp_gi d k n = false → rp_in d k n v = 0
  | 0, h => by simp [rp_gi] at h
  | n + 1, h => by
    by_cases e : d n = d k
    · rw [rp_in, if_pos e]
    · have h1 : rp_gi d k n = false := by
        rw [rp_gi, decide_eq_false e, Bool.not_false, Bool.and_true] at h
        exact h
      rw [rp_in, if_neg e, rp_in_0 d k v n h1]
      split <;> rfl
theorem rp_0 (d : Nat → Nat) (R : Nat → Nat → Int) : ∀ n, rp_g d n = false → rp d R n = 0
  | 0, h => by simp [rp_g] at h
  | n + 1, h => by
    rw [rp]
    cases e : rp_g d n with
    | false => rw [rp_0 d R n e, Int.zero_mul, rp_in_z]
    | true =>
      rw [rp_g, e, Bool.true_and] at h
      exact rp_in_0 d n _ n h
theorem rp_l3 : rp_fl (fun m => rp_g (rp_d 3 m) 3) 27 = [21, 19, 15, 11, 7, 5] := by decide +kernel
theorem rp_3_5 (R : Nat → Nat → Int) : rp (rp_d 3 5) R 3 = -(-(-(1 * R 0 2 * R 1 1) * R 2 0)) := rfl
theorem rp_3_7 (R : Nat → Nat → Int) : rp (rp_d 3 7) R 3 = -(-(1 * R 0 1 * R 1 2 * R 2 0)) := rfl
theorem rp_3_11 (R : Nat → Nat → Int) : rp (rp_d 3 11) R 3 = -(-(1 * R 0 2 * R 1 0) * R 2 1) := rfl
theorem rp_3_15 (R : Nat → Nat → Int) : rp (rp_d 3 15) R 3 = -(1 * R 0 0 * R 1 2 * R 2 1) := rfl
theorem rp_3_19 (R : Nat → Nat → Int) : rp (rp_d 3 19) R 3 = -(1 * R 0 1 * R 1 0) * R 2 2 := rfl
theorem rp_3_21 (R : Nat → Nat → Int) : rp (rp_d 3 21) R 3 = 1 * R 0 0 * R 1 1 * R 2 2 := rfl
theorem rp_sum3 (R : Nat → Nat → Int) : rp_su (fun m => rp (rp_d 3 m) R 3) 27 = rs_d3 R 0 1 2 0 1 2 := by
  rw [rp_su_l (g := fun m => rp_g (rp_d 3 m) 3) 27 (fun m _ h => rp_0 _ R 3 h), rp_l3]
  simp only [rp_ls, rp_3_5, rp_3_7, rp_3_11, rp_3_15, rp_3_19, rp_3_21]
  unfold rs_d3
  grind
theorem rp_l4 : rp_fl (fun m => rp_g (rp_d 4 m) 4) 256 = [228, 225, 216, 210, 201, 198, 180, 177, 156, 147, 141, 135, 120, 114, 108, 99, 78, 75, 57, 54, 45, 39, 30, 27] := by decide +kernel
theorem rp_4_27 (R : Nat → Nat → Int) : rp (rp_d 4 27) R 4 = -(-(-(-(-(-(1 * R 0 3 * R 1 2) * R 2 1)) * R 3 0))) := rfl
theorem rp_4_30 (R : Nat → Nat → Int) : rp (rp_d 4 30) R 4 = -(-(-(-(-(1 * R 0 2 * R 1 3 * R 2 1)) * R 3 0))) := rfl
theorem rp_4_39 (R : Nat → Nat → Int) : rp (rp_d 4 39) R 4 = -(-(-(-(-(1 * R 0 3 * R 1 1) * R 2 2) * R 3 0))) := rfl
theorem rp_4_45 (R : Nat → Nat → Int) : rp (rp_d 4 45) R 4 = -(-(-(-(1 * R 0 1 * R 1 3 * R 2 2) * R 3 0))) := rfl
theorem rp_4_54 (R : Nat → Nat → Int) : rp (rp_d 4 54) R 4 = -(-(-(-(1 * R 0 2 * R 1 1) * R 2 3 * R 3 0))) := rfl
theorem rp_4_57 (R : Nat → Nat → Int) : rp (rp_d 4 57) R 4 = -(-(-(1 * R 0 1 * R 1 2 * R 2 3 * R 3 0))) := rfl
theorem rp_4_75 (R : Nat → Nat → Int) : rp (rp_d 4 75) R 4 = -(-(-(-(-(1 * R 0 3 * R 1 2) * R 2 0)) * R 3 1)) := rfl
theorem rp_4_78 (R : Nat → Nat → Int) : rp (rp_d 4 78) R 4 = -(-(-(-(1 * R 0 2 * R 1 3 * R 2 0)) * R 3 1)) := rfl
theorem rp_4_99 (R : Nat → Nat → Int) : rp (rp_d 4 99) R 4 = -(-(-(-(1 * R 0 3 * R 1 0) * R 2 2) * R 3 1)) := rfl
theorem rp_4_108 (R : Nat → Nat → Int) : rp (rp_d 4 108) R 4 = -(-(-(1 * R 0 0 * R 1 3 * R 2 2) * R 3 1)) := rfl
theorem rp_4_114 (R : Nat → Nat → Int) : rp (rp_d 4 114) R 4 = -(-(-(1 * R 0 2 * R 1 0) * R 2 3 * R 3 1)) := rfl
theorem rp_4_120 (R : Nat → Nat → Int) : rp (rp_d 4 120) R 4 = -(-(1 * R 0 0 * R 1 2 * R 2 3 * R 3 1)) := rfl
theorem rp_4_135 (R : Nat → Nat → Int) : rp (rp_d 4 135) R 4 = -(-(-(-(1 * R 0 3 * R 1 1) * R 2 0)) * R 3 2) := rfl
theorem rp_4_141 (R : Nat → Nat → Int) : rp (rp_d 4 141) R 4 = -(-(-(1 * R 0 1 * R 1 3 * R 2 0)) * R 3 2) := rfl
theorem rp_4_147 (R : Nat → Nat → Int) : rp (rp_d 4 147) R 4 = -(-(-(1 * R 0 3 * R 1 0) * R 2 1) * R 3 2) := rfl
theorem rp_4_156 (R : Nat → Nat → Int) : rp (rp_d 4 156) R 4 = -(-(1 * R 0 0 * R 1 3 * R 2 1) * R 3 2) := rfl
theorem rp_4_177 (R : Nat → Nat → Int) : rp (rp_d 4 177) R 4 = -(-(1 * R 0 1 * R 1 0) * R 2 3 * R 3 2) := rfl
theorem rp_4_180 (R : Nat → Nat → Int) : rp (rp_d 4 180) R 4 = -(1 * R 0 0 * R 1 1 * R 2 3 * R 3 2) := rfl
theorem rp_4_198 (R : Nat → Nat → Int) : rp (rp_d 4 198) R 4 = -(-(-(1 * R 0 2 * R 1 1) * R 2 0)) * R 3 3 := rfl
theorem rp_4_201 (R : Nat → Nat → Int) : rp (rp_d 4 201) R 4 = -(-(1 * R 0 1 * R 1 2 * R 2 0)) * R 3 3 := rfl
theorem rp_4_210 (R : Nat → Nat → Int) : rp (rp_d 4 210) R 4 = -(-(1 * R 0 2 * R 1 0) * R 2 1) * R 3 3 := rfl
theorem rp_4_216 (R : Nat → Nat → Int) : rp (rp_d 4 216) R 4 = -(1 * R 0 0 * R 1 2 * R 2 1) * R 3 3 := rfl
theorem rp_4_225 (R : Nat → Nat → Int) : rp (rp_d 4 225) R 4 = -(1 * R 0 1 * R 1 0) * R 2 2 * R 3 3 := rfl
theorem rp_4_228 (R : Nat → Nat → Int) : rp (rp_d 4 228) R 4 = 1 * R 0 0 * R 1 1 * R 2 2 * R 3 3 := rfl
theorem rp_sum4 (R : Nat → Nat → Int) : rp_su (fun m => rp (rp_d 4 m) R 4) 256 = rs_L R := by
  rw [rp_su_l (g := fun m => rp_g (rp_d 4 m) 4) 256 (fun m _ h => rp_0 _ R 4 h), rp_l4]
  simp only [rp_ls, rp_4_27, rp_4_30, rp_4_39, rp_4_45, rp_4_54, rp_4_57, rp_4_75, rp_4_78, rp_4_99, rp_4_108, rp_4_114, rp_4_120, rp_4_135, rp_4_141, rp_4_147, rp_4_156, rp_4_177, rp_4_180, rp_4_198, rp_4_201, rp_4_210, rp_4_216, rp_4_225, rp_4_228]
  unfold rs_L
  grind
