/-! a matrix A: beside the diagonal nothing above 0, no sum of a row below 0 -/
def rs_r1 (r : Nat) : Nat := if r = 0 then 1 else 0
def rs_r2 (r : Nat) : Nat := if r ≤ 1 then 2 else 1
def rs_r3 (r : Nat) : Nat := if r ≤ 2 then 3 else 2
def rs_d3 (A : Nat → Nat → Int) (a b c x y z : Nat) : Int := A a x * (A b y * A c z - A b z * A c y) - A a y * (A b x * A c z - A b z * A c x) + A a z * (A b x * A c y - A b y * A c x)
def rs_mn (A : Nat → Nat → Int) (r c : Nat) : Int := rs_d3 A (rs_r1 r) (rs_r2 r) (rs_r3 r) (rs_r1 c) (rs_r2 c) (rs_r3 c)
def rs_cf (A : Nat → Nat → Int) (r c : Nat) : Int := if (r + c) % 2 = 0 then rs_mn A r c else -rs_mn A r c
/-- the determinant by its column c, of the first n rows -/
def rs_dt (A : Nat → Nat → Int) (c : Nat) : Nat → Int
  | 0 => 0
  | n + 1 => rs_dt A c n + A n c * rs_cf A n c
def rs_M (A : Nat → Nat → Int) : Prop := (∀ i j, i < 4 → j < 4 → i ≠ j → A i j ≤ 0) ∧ ∀ i, i < 4 → 0 ≤ A i 0 + A i 1 + A i 2 + A i 3
theorem rs_off {p1 p2 p3 q1 q2 k l dk dl : Int} (h1 : 0 ≤ p1) (h2 : 0 ≤ p2) (h3 : 0 ≤ p3) (h4 : 0 ≤ q1) (h5 : 0 ≤ q2) (hk0 : 0 ≤ k) (hl0 : 0 ≤ l) (hk : k ≤ dk) (hl : l ≤ dl) : 0 ≤ p1 * (dk * dl - k * l) + p2 * (q1 * dl + k * q2) + p3 * (q2 * dk + l * q1) := by
  have e1 : k * l ≤ dk * dl := Int.mul_le_mul hk hl hl0 (by omega)
  exact Int.add_nonneg (Int.add_nonneg (Int.mul_nonneg h1 (by omega)) (Int.mul_nonneg h2 (Int.add_nonneg (Int.mul_nonneg h4 (by omega)) (Int.mul_nonneg hk0 h5)))) (Int.mul_nonneg h3 (Int.add_nonneg (Int.mul_nonneg h5 (by omega)) (Int.mul_nonneg hl0 h4)))
theorem rs_dia {t u1 u2 D k l dk dl sk sl : Int} (h1 : 0 ≤ t) (h2 : 0 ≤ u1) (h3 : 0 ≤ u2) (hk0 : 0 ≤ k) (hl0 : 0 ≤ l) (hk : k ≤ dk) (hl : l ≤ dl) (s1 : 0 ≤ sk) (s2 : 0 ≤ sl) (hD : D = dk * dl - k * l) : 0 ≤ t * D + u1 * (dl * sk + k * sl) + u2 * (dk * sl + l * sk) := by
  have e1 : k * l ≤ dk * dl := Int.mul_le_mul hk hl hl0 (by omega)
  exact Int.add_nonneg (Int.add_nonneg (Int.mul_nonneg h1 (by omega)) (Int.mul_nonneg h2 (Int.add_nonneg (Int.mul_nonneg (by omega) s1) (Int.mul_nonneg hk0 s2)))) (Int.mul_nonneg h3 (Int.add_nonneg (Int.mul_nonneg (by omega) s2) (Int.mul_nonneg hl0 s1)))
section
variable {A : Nat → Nat → Int}
theorem rs_r1_0 : rs_r1 0 = 1 ∧ rs_r2 0 = 2 ∧ rs_r3 0 = 3 := ⟨rfl, rfl, rfl⟩
theorem rs_r1_1 : rs_r1 1 = 0 ∧ rs_r2 1 = 2 ∧ rs_r3 1 = 3 := ⟨rfl, rfl, rfl⟩
theorem rs_r1_2 : rs_r1 2 = 0 ∧ rs_r2 2 = 1 ∧ rs_r3 2 = 3 := ⟨rfl, rfl, rfl⟩
theorem rs_r1_3 : rs_r1 3 = 0 ∧ rs_r2 3 = 1 ∧ rs_r3 3 = 2 := ⟨rfl, rfl, rfl⟩
theorem rs_mn_00 : rs_mn A 0 0 = rs_d3 A 1 2 3 1 2 3 := rfl
theorem rs_cf_00 : rs_cf A 0 0 = rs_d3 A 1 2 3 1 2 3 := rfl
theorem rs_mn_01 : rs_mn A 0 1 = rs_d3 A 1 2 3 0 2 3 := rfl
theorem rs_cf_01 : rs_cf A 0 1 = -rs_d3 A 1 2 3 0 2 3 := rfl
theorem rs_mn_02 : rs_mn A 0 2 = rs_d3 A 1 2 3 0 1 3 := rfl
theorem rs_cf_02 : rs_cf A 0 2 = rs_d3 A 1 2 3 0 1 3 := rfl
theorem rs_mn_03 : rs_mn A 0 3 = rs_d3 A 1 2 3 0 1 2 := rfl
theorem rs_cf_03 : rs_cf A 0 3 = -rs_d3 A 1 2 3 0 1 2 := rfl
theorem rs_mn_10 : rs_mn A 1 0 = rs_d3 A 0 2 3 1 2 3 := rfl
theorem rs_cf_10 : rs_cf A 1 0 = -rs_d3 A 0 2 3 1 2 3 := rfl
theorem rs_mn_11 : rs_mn A 1 1 = rs_d3 A 0 2 3 0 2 3 := rfl
theorem rs_cf_11 : rs_cf A 1 1 = rs_d3 A 0 2 3 0 2 3 := rfl
theorem rs_mn_12 : rs_mn A 1 2 = rs_d3 A 0 2 3 0 1 3 := rfl
theorem rs_cf_12 : rs_cf A 1 2 = -rs_d3 A 0 2 3 0 1 3 := rfl
theorem rs_mn_13 : rs_mn A 1 3 = rs_d3 A 0 2 3 0 1 2 := rfl
theorem rs_cf_13 : rs_cf A 1 3 = rs_d3 A 0 2 3 0 1 2 := rfl
theorem rs_mn_20 : rs_mn A 2 0 = rs_d3 A 0 1 3 1 2 3 := rfl
theorem rs_cf_20 : rs_cf A 2 0 = rs_d3 A 0 1 3 1 2 3 := rfl
theorem rs_mn_21 : rs_mn A 2 1 = rs_d3 A 0 1 3 0 2 3 := rfl
theorem rs_cf_21 : rs_cf A 2 1 = -rs_d3 A 0 1 3 0 2 3 := rfl
theorem rs_mn_22 : rs_mn A 2 2 = rs_d3 A 0 1 3 0 1 3 := rfl
theorem rs_cf_22 : rs_cf A 2 2 = rs_d3 A 0 1 3 0 1 3 := rfl
theorem rs_mn_23 : rs_mn A 2 3 = rs_d3 A 0 1 3 0 1 2 := rfl
theorem rs_cf_23 : rs_cf A 2 3 = -rs_d3 A 0 1 3 0 1 2 := rfl
theorem rs_mn_30 : rs_mn A 3 0 = rs_d3 A 0 1 2 1 2 3 := rfl
theorem rs_cf_30 : rs_cf A 3 0 = -rs_d3 A 0 1 2 1 2 3 := rfl
theorem rs_mn_31 : rs_mn A 3 1 = rs_d3 A 0 1 2 0 2 3 := rfl
theorem rs_cf_31 : rs_cf A 3 1 = rs_d3 A 0 1 2 0 2 3 := rfl
theorem rs_mn_32 : rs_mn A 3 2 = rs_d3 A 0 1 2 0 1 3 := rfl
theorem rs_cf_32 : rs_cf A 3 2 = -rs_d3 A 0 1 2 0 1 3 := rfl
theorem rs_mn_33 : rs_mn A 3 3 = rs_d3 A 0 1 2 0 1 2 := rfl
theorem rs_cf_33 : rs_cf A 3 3 = rs_d3 A 0 1 2 0 1 2 := rfl
theorem rs_po_00 (h : rs_M A) : 0 ≤ rs_cf A 0 0 := by
  have e : rs_cf A 0 0 = (A 1 1 + A 1 2 + A 1 3) * (A 2 2 * A 3 3 - (-A 2 3) * (-A 3 2)) + (-A 1 2) * (A 3 3 * (A 2 1 + A 2 2 + A 2 3) + (-A 2 3) * (A 3 1 + A 3 2 + A 3 3)) + (-A 1 3) * (A 2 2 * (A 3 1 + A 3 2 + A 3 3) + (-A 3 2) * (A 2 1 + A 2 2 + A 2 3)) := by
    rw [rs_cf_00]
    unfold rs_d3
    grind
  rw [e]
  have s1 := h.2 1 (by decide)
  have s2 := h.2 2 (by decide)
  have s3 := h.2 3 (by decide)
  have o10 := h.1 1 0 (by decide) (by decide) (by decide)
  have o12 := h.1 1 2 (by decide) (by decide) (by decide)
  have o13 := h.1 1 3 (by decide) (by decide) (by decide)
  have o20 := h.1 2 0 (by decide) (by decide) (by decide)
  have o21 := h.1 2 1 (by decide) (by decide) (by decide)
  have o23 := h.1 2 3 (by decide) (by decide) (by decide)
  have o30 := h.1 3 0 (by decide) (by decide) (by decide)
  have o31 := h.1 3 1 (by decide) (by decide) (by decide)
  have o32 := h.1 3 2 (by decide) (by decide) (by decide)
  exact rs_dia (by omega) (by omega) (by omega) (by omega) (by omega) (by omega) (by omega) (by omega) (by omega) rfl
theorem rs_po_01 (h : rs_M A) : 0 ≤ rs_cf A 0 1 := by
  have e : rs_cf A 0 1 = (-A 1 0) * (A 2 2 * A 3 3 - (-A 2 3) * (-A 3 2)) + (-A 1 2) * ((-A 2 0) * A 3 3 + (-A 2 3) * (-A 3 0)) + (-A 1 3) * ((-A 3 0) * A 2 2 + (-A 3 2) * (-A 2 0)) := by
    rw [rs_cf_01]
    unfold rs_d3
    grind
  rw [e]
  have s2 := h.2 2 (by decide)
  have s3 := h.2 3 (by decide)
  have o10 := h.1 1 0 (by decide) (by decide) (by decide)
  have o12 := h.1 1 2 (by decide) (by decide) (by decide)
  have o13 := h.1 1 3 (by decide) (by decide) (by decide)
  have o20 := h.1 2 0 (by decide) (by decide) (by decide)
  have o21 := h.1 2 1 (by decide) (by decide) (by decide)
  have o23 := h.1 2 3 (by decide) (by decide) (by decide)
  have o30 := h.1 3 0 (by decide) (by decide) (by decide)
  have o31 := h.1 3 1 (by decide) (by decide) (by decide)
  have o32 := h.1 3 2 (by decide) (by decide) (by decide)
  exact rs_off (by omega) (by omega) (by omega) (by omega) (by omega) (by omega) (by omega) (by omega) (by omega)
theorem rs_po_02 (h : rs_M A) : 0 ≤ rs_cf A 0 2 := by
  have e : rs_cf A 0 2 = (-A 2 0) * (A 1 1 * A 3 3 - (-A 1 3) * (-A 3 1)) + (-A 2 1) * ((-A 1 0) * A 3 3 + (-A 1 3) * (-A 3 0)) + (-A 2 3) * ((-A 3 0) * A 1 1 + (-A 3 1) * (-A 1 0)) := by
    rw [rs_cf_02]
    unfold rs_d3
    grind
  rw [e]
  have s1 := h.2 1 (by decide)
  have s3 := h.2 3 (by decide)
  have o10 := h.1 1 0 (by decide) (by decide) (by decide)
  have o12 := h.1 1 2 (by decide) (by decide) (by decide)
  have o13 := h.1 1 3 (by decide) (by decide) (by decide)
  have o20 := h.1 2 0 (by decide) (by decide) (by decide)
  have o21 := h.1 2 1 (by decide) (by decide) (by decide)
  have o23 := h.1 2 3 (by decide) (by decide) (by decide)
  have o30 := h.1 3 0 (by decide) (by decide) (by decide)
  have o31 := h.1 3 1 (by decide) (by decide) (by decide)
  have o32 := h.1 3 2 (by decide) (by decide) (by decide)
  exact rs_off (by omega) (by omega) (by omega) (by omega) (by omega) (by omega) (by omega) (by omega) (by omega)
theorem rs_po_03 (h : rs_M A) : 0 ≤ rs_cf A 0 3 := by
  have e : rs_cf A 0 3 = (-A 3 0) * (A 1 1 * A 2 2 - (-A 1 2) * (-A 2 1)) + (-A 3 1) * ((-A 1 0) * A 2 2 + (-A 1 2) * (-A 2 0)) + (-A 3 2) * ((-A 2 0) * A 1 1 + (-A 2 1) * (-A 1 0)) := by
    rw [rs_cf_03]
    unfold rs_d3
    grind
  rw [e]
  have s1 := h.2 1 (by decide)
  have s2 := h.2 2 (by decide)
  have o10 := h.1 1 0 (by decide) (by decide) (by decide)
  have o12 := h.1 1 2 (by decide) (by decide) (by decide)
  have o13 := h.1 1 3 (by decide) (by decide) (by decide)
  have o20 := h.1 2 0 (by decide) (by decide) (by decide)
  have o21 := h.1 2 1 (by decide) (by decide) (by decide)
  have o23 := h.1 2 3 (by decide) (by decide) (by decide)
  have o30 := h.1 3 0 (by decide) (by decide) (by decide)
  have o31 := h.1 3 1 (by decide) (by decide) (by decide)
  have o32 := h.1 3 2 (by decide) (by decide) (by decide)
  exact rs_off (by omega) (by omega) (by omega) (by omega) (by omega) (by omega) (by omega) (by omega) (by omega)
theorem rs_po_10 (h : rs_M A) : 0 ≤ rs_cf A 1 0 := by
  have e : rs_cf A 1 0 = (-A 0 1) * (A 2 2 * A 3 3 - (-A 2 3) * (-A 3 2)) + (-A 0 2) * ((-A 2 1) * A 3 3 + (-A 2 3) * (-A 3 1)) + (-A 0 3) * ((-A 3 1) * A 2 2 + (-A 3 2) * (-A 2 1)) := by
    rw [rs_cf_10]
    unfold rs_d3
    grind
  rw [e]
  have s2 := h.2 2 (by decide)
  have s3 := h.2 3 (by decide)
  have o01 := h.1 0 1 (by decide) (by decide) (by decide)
  have o02 := h.1 0 2 (by decide) (by decide) (by decide)
  have o03 := h.1 0 3 (by decide) (by decide) (by decide)
  have o20 := h.1 2 0 (by decide) (by decide) (by decide)
  have o21 := h.1 2 1 (by decide) (by decide) (by decide)
  have o23 := h.1 2 3 (by decide) (by decide) (by decide)
  have o30 := h.1 3 0 (by decide) (by decide) (by decide)
  have o31 := h.1 3 1 (by decide) (by decide) (by decide)
  have o32 := h.1 3 2 (by decide) (by decide) (by decide)
  exact rs_off (by omega) (by omega) (by omega) (by omega) (by omega) (by omega) (by omega) (by omega) (by omega)
theorem rs_po_11 (h : rs_M A) : 0 ≤ rs_cf A 1 1 := by
  have e : rs_cf A 1 1 = (A 0 0 + A 0 2 + A 0 3) * (A 2 2 * A 3 3 - (-A 2 3) * (-A 3 2)) + (-A 0 2) * (A 3 3 * (A 2 0 + A 2 2 + A 2 3) + (-A 2 3) * (A 3 0 + A 3 2 + A 3 3)) + (-A 0 3) * (A 2 2 * (A 3 0 + A 3 2 + A 3 3) + (-A 3 2) * (A 2 0 + A 2 2 + A 2 3)) := by
    rw [rs_cf_11]
    unfold rs_d3
    grind
  rw [e]
  have s0 := h.2 0 (by decide)
  have s2 := h.2 2 (by decide)
  have s3 := h.2 3 (by decide)
  have o01 := h.1 0 1 (by decide) (by decide) (by decide)
  have o02 := h.1 0 2 (by decide) (by decide) (by decide)
  have o03 := h.1 0 3 (by decide) (by decide) (by decide)
  have o20 := h.1 2 0 (by decide) (by decide) (by decide)
  have o21 := h.1 2 1 (by decide) (by decide) (by decide)
  have o23 := h.1 2 3 (by decide) (by decide) (by decide)
  have o30 := h.1 3 0 (by decide) (by decide) (by decide)
  have o31 := h.1 3 1 (by decide) (by decide) (by decide)
  have o32 := h.1 3 2 (by decide) (by decide) (by decide)
  exact rs_dia (by omega) (by omega) (by omega) (by omega) (by omega) (by omega) (by omega) (by omega) (by omega) rfl
theorem rs_po_12 (h : rs_M A) : 0 ≤ rs_cf A 1 2 := by
  have e : rs_cf A 1 2 = (-A 2 1) * (A 0 0 * A 3 3 - (-A 0 3) * (-A 3 0)) + (-A 2 0) * ((-A 0 1) * A 3 3 + (-A 0 3) * (-A 3 1)) + (-A 2 3) * ((-A 3 1) * A 0 0 + (-A 3 0) * (-A 0 1)) := by
    rw [rs_cf_12]
    unfold rs_d3
    grind
  rw [e]
  have s0 := h.2 0 (by decide)
  have s3 := h.2 3 (by decide)
  have o01 := h.1 0 1 (by decide) (by decide) (by decide)
  have o02 := h.1 0 2 (by decide) (by decide) (by decide)
  have o03 := h.1 0 3 (by decide) (by decide) (by decide)
  have o20 := h.1 2 0 (by decide) (by decide) (by decide)
  have o21 := h.1 2 1 (by decide) (by decide) (by decide)
  have o23 := h.1 2 3 (by decide) (by decide) (by decide)
  have o30 := h.1 3 0 (by decide) (by decide) (by decide)
  have o31 := h.1 3 1 (by decide) (by decide) (by decide)
  have o32 := h.1 3 2 (by decide) (by decide) (by decide)
  exact rs_off (by omega) (by omega) (by omega) (by omega) (by omega) (by omega) (by omega) (by omega) (by omega)
theorem rs_po_13 (h : rs_M A) : 0 ≤ rs_cf A 1 3 := by
  have e : rs_cf A 1 3 = (-A 3 1) * (A 0 0 * A 2 2 - (-A 0 2) * (-A 2 0)) + (-A 3 0) * ((-A 0 1) * A 2 2 + (-A 0 2) * (-A 2 1)) + (-A 3 2) * ((-A 2 1) * A 0 0 + (-A 2 0) * (-A 0 1)) := by
    rw [rs_cf_13]
    unfold rs_d3
    grind
  rw [e]
  have s0 := h.2 0 (by decide)
  have s2 := h.2 2 (by decide)
  have o01 := h.1 0 1 (by decide) (by decide) (by decide)
  have o02 := h.1 0 2 (by decide) (by decide) (by decide)
  have o03 := h.1 0 3 (by decide) (by decide) (by decide)
  have o20 := h.1 2 0 (by decide) (by decide) (by decide)
  have o21 := h.1 2 1 (by decide) (by decide) (by decide)
  have o23 := h.1 2 3 (by decide) (by decide) (by decide)
  have o30 := h.1 3 0 (by decide) (by decide) (by decide)
  have o31 := h.1 3 1 (by decide) (by decide) (by decide)
  have o32 := h.1 3 2 (by decide) (by decide) (by decide)
  exact rs_off (by omega) (by omega) (by omega) (by omega) (by omega) (by omega) (by omega) (by omega) (by omega)
theorem rs_po_20 (h : rs_M A) : 0 ≤ rs_cf A 2 0 := by
  have e : rs_cf A 2 0 = (-A 0 2) * (A 1 1 * A 3 3 - (-A 1 3) * (-A 3 1)) + (-A 0 1) * ((-A 1 2) * A 3 3 + (-A 1 3) * (-A 3 2)) + (-A 0 3) * ((-A 3 2) * A 1 1 + (-A 3 1) * (-A 1 2)) := by
    rw [rs_cf_20]
    unfold rs_d3
    grind
  rw [e]
  have s1 := h.2 1 (by decide)
  have s3 := h.2 3 (by decide)
  have o01 := h.1 0 1 (by decide) (by decide) (by decide)
  have o02 := h.1 0 2 (by decide) (by decide) (by decide)
  have o03 := h.1 0 3 (by decide) (by decide) (by decide)
  have o10 := h.1 1 0 (by decide) (by decide) (by decide)
  have o12 := h.1 1 2 (by decide) (by decide) (by decide)
  have o13 := h.1 1 3 (by decide) (by decide) (by decide)
  have o30 := h.1 3 0 (by decide) (by decide) (by decide)
  have o31 := h.1 3 1 (by decide) (by decide) (by decide)
  have o32 := h.1 3 2 (by decide) (by decide) (by decide)
  exact rs_off (by omega) (by omega) (by omega) (by omega) (by omega) (by omega) (by omega) (by omega) (by omega)
theorem rs_po_21 (h : rs_M A) : 0 ≤ rs_cf A 2 1 := by
  have e : rs_cf A 2 1 = (-A 1 2) * (A 0 0 * A 3 3 - (-A 0 3) * (-A 3 0)) + (-A 1 0) * ((-A 0 2) * A 3 3 + (-A 0 3) * (-A 3 2)) + (-A 1 3) * ((-A 3 2) * A 0 0 + (-A 3 0) * (-A 0 2)) := by
    rw [rs_cf_21]
    unfold rs_d3
    grind
  rw [e]
  have s0 := h.2 0 (by decide)
  have s3 := h.2 3 (by decide)
  have o01 := h.1 0 1 (by decide) (by decide) (by decide)
  have o02 := h.1 0 2 (by decide) (by decide) (by decide)
  have o03 := h.1 0 3 (by decide) (by decide) (by decide)
  have o10 := h.1 1 0 (by decide) (by decide) (by decide)
  have o12 := h.1 1 2 (by decide) (by decide) (by decide)
  have o13 := h.1 1 3 (by decide) (by decide) (by decide)
  have o30 := h.1 3 0 (by decide) (by decide) (by decide)
  have o31 := h.1 3 1 (by decide) (by decide) (by decide)
  have o32 := h.1 3 2 (by decide) (by decide) (by decide)
  exact rs_off (by omega) (by omega) (by omega) (by omega) (by omega) (by omega) (by omega) (by omega) (by omega)
theorem rs_po_22 (h : rs_M A) : 0 ≤ rs_cf A 2 2 := by
  have e : rs_cf A 2 2 = (A 0 0 + A 0 1 + A 0 3) * (A 1 1 * A 3 3 - (-A 1 3) * (-A 3 1)) + (-A 0 1) * (A 3 3 * (A 1 0 + A 1 1 + A 1 3) + (-A 1 3) * (A 3 0 + A 3 1 + A 3 3)) + (-A 0 3) * (A 1 1 * (A 3 0 + A 3 1 + A 3 3) + (-A 3 1) * (A 1 0 + A 1 1 + A 1 3)) := by
    rw [rs_cf_22]
    unfold rs_d3
    grind
  rw [e]
  have s0 := h.2 0 (by decide)
  have s1 := h.2 1 (by decide)
  have s3 := h.2 3 (by decide)
  have o01 := h.1 0 1 (by decide) (by decide) (by decide)
  have o02 := h.1 0 2 (by decide) (by decide) (by decide)
  have o03 := h.1 0 3 (by decide) (by decide) (by decide)
  have o10 := h.1 1 0 (by decide) (by decide) (by decide)
  have o12 := h.1 1 2 (by decide) (by decide) (by decide)
  have o13 := h.1 1 3 (by decide) (by decide) (by decide)
  have o30 := h.1 3 0 (by decide) (by decide) (by decide)
  have o31 := h.1 3 1 (by decide) (by decide) (by decide)
  have o32 := h.1 3 2 (by decide) (by decide) (by decide)
  exact rs_dia (by omega) (by omega) (by omega) (by omega) (by omega) (by omega) (by omega) (by omega) (by omega) rfl
theorem rs_po_23 (h : rs_M A) : 0 ≤ rs_cf A 2 3 := by
  have e : rs_cf A 2 3 = (-A 3 2) * (A 0 0 * A 1 1 - (-A 0 1) * (-A 1 0)) + (-A 3 0) * ((-A 0 2) * A 1 1 + (-A 0 1) * (-A 1 2)) + (-A 3 1) * ((-A 1 2) * A 0 0 + (-A 1 0) * (-A 0 2)) := by
    rw [rs_cf_23]
    unfold rs_d3
    grind
  rw [e]
  have s0 := h.2 0 (by decide)
  have s1 := h.2 1 (by decide)
  have o01 := h.1 0 1 (by decide) (by decide) (by decide)
  have o02 := h.1 0 2 (by decide) (by decide) (by decide)
  have o03 := h.1 0 3 (by decide) (by decide) (by decide)
  have o10 := h.1 1 0 (by decide) (by decide) (by decide)
  have o12 := h.1 1 2 (by decide) (by decide) (by decide)
  have o13 := h.1 1 3 (by decide) (by decide) (by decide)
  have o30 := h.1 3 0 (by decide) (by decide) (by decide)
  have o31 := h.1 3 1 (by decide) (by decide) (by decide)
  have o32 := h.1 3 2 (by decide) (by decide) (by decide)
  exact rs_off (by omega) (by omega) (by omega) (by omega) (by omega) (by omega) (by omega) (by omega) (by omega)
theorem rs_po_30 (h : rs_M A) : 0 ≤ rs_cf A 3 0 := by
  have e : rs_cf A 3 0 = (-A 0 3) * (A 1 1 * A 2 2 - (-A 1 2) * (-A 2 1)) + (-A 0 1) * ((-A 1 3) * A 2 2 + (-A 1 2) * (-A 2 3)) + (-A 0 2) * ((-A 2 3) * A 1 1 + (-A 2 1) * (-A 1 3)) := by
    rw [rs_cf_30]
    unfold rs_d3
    grind
  rw [e]
  have s1 := h.2 1 (by decide)
  have s2 := h.2 2 (by decide)
  have o01 := h.1 0 1 (by decide) (by decide) (by decide)
  have o02 := h.1 0 2 (by decide) (by decide) (by decide)
  have o03 := h.1 0 3 (by decide) (by decide) (by decide)
  have o10 := h.1 1 0 (by decide) (by decide) (by decide)
  have o12 := h.1 1 2 (by decide) (by decide) (by decide)
  have o13 := h.1 1 3 (by decide) (by decide) (by decide)
  have o20 := h.1 2 0 (by decide) (by decide) (by decide)
  have o21 := h.1 2 1 (by decide) (by decide) (by decide)
  have o23 := h.1 2 3 (by decide) (by decide) (by decide)
  exact rs_off (by omega) (by omega) (by omega) (by omega) (by omega) (by omega) (by omega) (by omega) (by omega)
theorem rs_po_31 (h : rs_M A) : 0 ≤ rs_cf A 3 1 := by
  have e : rs_cf A 3 1 = (-A 1 3) * (A 0 0 * A 2 2 - (-A 0 2) * (-A 2 0)) + (-A 1 0) * ((-A 0 3) * A 2 2 + (-A 0 2) * (-A 2 3)) + (-A 1 2) * ((-A 2 3) * A 0 0 + (-A 2 0) * (-A 0 3)) := by
    rw [rs_cf_31]
    unfold rs_d3
    grind
  rw [e]
  have s0 := h.2 0 (by decide)
  have s2 := h.2 2 (by decide)
  have o01 := h.1 0 1 (by decide) (by decide) (by decide)
  have o02 := h.1 0 2 (by decide) (by decide) (by decide)
  have o03 := h.1 0 3 (by decide) (by decide) (by decide)
  have o10 := h.1 1 0 (by decide) (by decide) (by decide)
  have o12 := h.1 1 2 (by decide) (by decide) (by decide)
  have o13 := h.1 1 3 (by decide) (by decide) (by decide)
  have o20 := h.1 2 0 (by decide) (by decide) (by decide)
  have o21 := h.1 2 1 (by decide) (by decide) (by decide)
  have o23 := h.1 2 3 (by decide) (by decide) (by decide)
  exact rs_off (by omega) (by omega) (by omega) (by omega) (by omega) (by omega) (by omega) (by omega) (by omega)
theorem rs_po_32 (h : rs_M A) : 0 ≤ rs_cf A 3 2 := by
  have e : rs_cf A 3 2 = (-A 2 3) * (A 0 0 * A 1 1 - (-A 0 1) * (-A 1 0)) + (-A 2 0) * ((-A 0 3) * A 1 1 + (-A 0 1) * (-A 1 3)) + (-A 2 1) * ((-A 1 3) * A 0 0 + (-A 1 0) * (-A 0 3)) := by
    rw [rs_cf_32]
    unfold rs_d3
    grind
  rw [e]
  have s0 := h.2 0 (by decide)
  have s1 := h.2 1 (by decide)
  have o01 := h.1 0 1 (by decide) (by decide) (by decide)
  have o02 := h.1 0 2 (by decide) (by decide) (by decide)
  have o03 := h.1 0 3 (by decide) (by decide) (by decide)
  have o10 := h.1 1 0 (by decide) (by decide) (by decide)
  have o12 := h.1 1 2 (by decide) (by decide) (by decide)
  have o13 := h.1 1 3 (by decide) (by decide) (by decide)
  have o20 := h.1 2 0 (by decide) (by decide) (by decide)
  have o21 := h.1 2 1 (by decide) (by decide) (by decide)
  have o23 := h.1 2 3 (by decide) (by decide) (by decide)
  exact rs_off (by omega) (by omega) (by omega) (by omega) (by omega) (by omega) (by omega) (by omega) (by omega)
theorem rs_po_33 (h : rs_M A) : 0 ≤ rs_cf A 3 3 := by
  have e : rs_cf A 3 3 = (A 0 0 + A 0 1 + A 0 2) * (A 1 1 * A 2 2 - (-A 1 2) * (-A 2 1)) + (-A 0 1) * (A 2 2 * (A 1 0 + A 1 1 + A 1 2) + (-A 1 2) * (A 2 0 + A 2 1 + A 2 2)) + (-A 0 2) * (A 1 1 * (A 2 0 + A 2 1 + A 2 2) + (-A 2 1) * (A 1 0 + A 1 1 + A 1 2)) := by
    rw [rs_cf_33]
    unfold rs_d3
    grind
  rw [e]
  have s0 := h.2 0 (by decide)
  have s1 := h.2 1 (by decide)
  have s2 := h.2 2 (by decide)
  have o01 := h.1 0 1 (by decide) (by decide) (by decide)
  have o02 := h.1 0 2 (by decide) (by decide) (by decide)
  have o03 := h.1 0 3 (by decide) (by decide) (by decide)
  have o10 := h.1 1 0 (by decide) (by decide) (by decide)
  have o12 := h.1 1 2 (by decide) (by decide) (by decide)
  have o13 := h.1 1 3 (by decide) (by decide) (by decide)
  have o20 := h.1 2 0 (by decide) (by decide) (by decide)
  have o21 := h.1 2 1 (by decide) (by decide) (by decide)
  have o23 := h.1 2 3 (by decide) (by decide) (by decide)
  exact rs_dia (by omega) (by omega) (by omega) (by omega) (by omega) (by omega) (by omega) (by omega) (by omega) rfl
theorem rs_po (h : rs_M A) {r c : Nat} (hr : r < 4) (hc : c < 4) : 0 ≤ rs_cf A r c := by
  have r' : r = 0 ∨ r = 1 ∨ r = 2 ∨ r = 3 := by omega
  have c' : c = 0 ∨ c = 1 ∨ c = 2 ∨ c = 3 := by omega
  rcases r' with rfl | rfl | rfl | rfl <;> rcases c' with rfl | rfl | rfl | rfl
  · exact rs_po_00 h
  · exact rs_po_01 h
  · exact rs_po_02 h
  · exact rs_po_03 h
  · exact rs_po_10 h
  · exact rs_po_11 h
  · exact rs_po_12 h
  · exact rs_po_13 h
  · exact rs_po_20 h
  · exact rs_po_21 h
  · exact rs_po_22 h
  · exact rs_po_23 h
  · exact rs_po_30 h
  · exact rs_po_31 h
  · exact rs_po_32 h
  · exact rs_po_33 h
theorem rs_ge_1 (h : rs_M A) : rs_cf A 0 1 ≤ rs_cf A 0 0 := by
  have e : rs_cf A 0 0 - rs_cf A 0 1 = (A 1 0 + A 1 1 + A 1 2 + A 1 3) * (A 2 2 * A 3 3 - (-A 2 3) * (-A 3 2)) + (-A 1 2) * (A 3 3 * (A 2 0 + A 2 1 + A 2 2 + A 2 3) + (-A 2 3) * (A 3 0 + A 3 1 + A 3 2 + A 3 3)) + (-A 1 3) * (A 2 2 * (A 3 0 + A 3 1 + A 3 2 + A 3 3) + (-A 3 2) * (A 2 0 + A 2 1 + A 2 2 + A 2 3)) := by
    rw [rs_cf_00, rs_cf_01]
    unfold rs_d3
    grind
  have s1 := h.2 1 (by decide)
  have s2 := h.2 2 (by decide)
  have s3 := h.2 3 (by decide)
  have o10 := h.1 1 0 (by decide) (by decide) (by decide)
  have o12 := h.1 1 2 (by decide) (by decide) (by decide)
  have o13 := h.1 1 3 (by decide) (by decide) (by decide)
  have o20 := h.1 2 0 (by decide) (by decide) (by decide)
  have o21 := h.1 2 1 (by decide) (by decide) (by decide)
  have o23 := h.1 2 3 (by decide) (by decide) (by decide)
  have o30 := h.1 3 0 (by decide) (by decide) (by decide)
  have o31 := h.1 3 1 (by decide) (by decide) (by decide)
  have o32 := h.1 3 2 (by decide) (by decide) (by decide)
  have p : 0 ≤ rs_cf A 0 0 - rs_cf A 0 1 := by
    rw [e]
    exact rs_dia (by omega) (by omega) (by omega) (by omega) (by omega) (by omega) (by omega) (by omega) (by omega) rfl
  omega
theorem rs_ge_2 (h : rs_M A) : rs_cf A 0 2 ≤ rs_cf A 0 0 := by
  have e : rs_cf A 0 0 - rs_cf A 0 2 = (A 2 0 + A 2 1 + A 2 2 + A 2 3) * (A 1 1 * A 3 3 - (-A 1 3) * (-A 3 1)) + (-A 2 1) * (A 3 3 * (A 1 0 + A 1 1 + A 1 2 + A 1 3) + (-A 1 3) * (A 3 0 + A 3 1 + A 3 2 + A 3 3)) + (-A 2 3) * (A 1 1 * (A 3 0 + A 3 1 + A 3 2 + A 3 3) + (-A 3 1) * (A 1 0 + A 1 1 + A 1 2 + A 1 3)) := by
    rw [rs_cf_00, rs_cf_02]
    unfold rs_d3
    grind
  have s1 := h.2 1 (by decide)
  have s2 := h.2 2 (by decide)
  have s3 := h.2 3 (by decide)
  have o10 := h.1 1 0 (by decide) (by decide) (by decide)
  have o12 := h.1 1 2 (by decide) (by decide) (by decide)
  have o13 := h.1 1 3 (by decide) (by decide) (by decide)
  have o20 := h.1 2 0 (by decide) (by decide) (by decide)
  have o21 := h.1 2 1 (by decide) (by decide) (by decide)
  have o23 := h.1 2 3 (by decide) (by decide) (by decide)
  have o30 := h.1 3 0 (by decide) (by decide) (by decide)
  have o31 := h.1 3 1 (by decide) (by decide) (by decide)
  have o32 := h.1 3 2 (by decide) (by decide) (by decide)
  have p : 0 ≤ rs_cf A 0 0 - rs_cf A 0 2 := by
    rw [e]
    exact rs_dia (by omega) (by omega) (by omega) (by omega) (by omega) (by omega) (by omega) (by omega) (by omega) rfl
  omega
theorem rs_ge_3 (h : rs_M A) : rs_cf A 0 3 ≤ rs_cf A 0 0 := by
  have e : rs_cf A 0 0 - rs_cf A 0 3 = (A 3 0 + A 3 1 + A 3 2 + A 3 3) * (A 1 1 * A 2 2 - (-A 1 2) * (-A 2 1)) + (-A 3 1) * (A 2 2 * (A 1 0 + A 1 1 + A 1 2 + A 1 3) + (-A 1 2) * (A 2 0 + A 2 1 + A 2 2 + A 2 3)) + (-A 3 2) * (A 1 1 * (A 2 0 + A 2 1 + A 2 2 + A 2 3) + (-A 2 1) * (A 1 0 + A 1 1 + A 1 2 + A 1 3)) := by
    rw [rs_cf_00, rs_cf_03]
    unfold rs_d3
    grind
  have s1 := h.2 1 (by decide)
  have s2 := h.2 2 (by decide)
  have s3 := h.2 3 (by decide)
  have o10 := h.1 1 0 (by decide) (by decide) (by decide)
  have o12 := h.1 1 2 (by decide) (by decide) (by decide)
  have o13 := h.1 1 3 (by decide) (by decide) (by decide)
  have o20 := h.1 2 0 (by decide) (by decide) (by decide)
  have o21 := h.1 2 1 (by decide) (by decide) (by decide)
  have o23 := h.1 2 3 (by decide) (by decide) (by decide)
  have o30 := h.1 3 0 (by decide) (by decide) (by decide)
  have o31 := h.1 3 1 (by decide) (by decide) (by decide)
  have o32 := h.1 3 2 (by decide) (by decide) (by decide)
  have p : 0 ≤ rs_cf A 0 0 - rs_cf A 0 3 := by
    rw [e]
    exact rs_dia (by omega) (by omega) (by omega) (by omega) (by omega) (by omega) (by omega) (by omega) (by omega) rfl
  omega
def rs_L (A : Nat → Nat → Int) : Int := A 0 0 * A 1 1 * A 2 2 * A 3 3 - A 0 0 * A 1 1 * A 2 3 * A 3 2 - A 0 0 * A 1 2 * A 2 1 * A 3 3 + A 0 0 * A 1 2 * A 2 3 * A 3 1 + A 0 0 * A 1 3 * A 2 1 * A 3 2 - A 0 0 * A 1 3 * A 2 2 * A 3 1 - A 0 1 * A 1 0 * A 2 2 * A 3 3 + A 0 1 * A 1 0 * A 2 3 * A 3 2 + A 0 1 * A 1 2 * A 2 0 * A 3 3 - A 0 1 * A 1 2 * A 2 3 * A 3 0 - A 0 1 * A 1 3 * A 2 0 * A 3 2 + A 0 1 * A 1 3 * A 2 2 * A 3 0 + A 0 2 * A 1 0 * A 2 1 * A 3 3 - A 0 2 * A 1 0 * A 2 3 * A 3 1 - A 0 2 * A 1 1 * A 2 0 * A 3 3 + A 0 2 * A 1 1 * A 2 3 * A 3 0 + A 0 2 * A 1 3 * A 2 0 * A 3 1 - A 0 2 * A 1 3 * A 2 1 * A 3 0 - A 0 3 * A 1 0 * A 2 1 * A 3 2 + A 0 3 * A 1 0 * A 2 2 * A 3 1 + A 0 3 * A 1 1 * A 2 0 * A 3 2 - A 0 3 * A 1 1 * A 2 2 * A 3 0 - A 0 3 * A 1 2 * A 2 0 * A 3 1 + A 0 3 * A 1 2 * A 2 1 * A 3 0
theorem rs_dt_0 : rs_dt A 0 4 = rs_L A := by
  simp only [rs_dt, rs_cf_00, rs_cf_10, rs_cf_20, rs_cf_30]
  unfold rs_d3 rs_L
  grind
theorem rs_dt_1 : rs_dt A 1 4 = rs_L A := by
  simp only [rs_dt, rs_cf_01, rs_cf_11, rs_cf_21, rs_cf_31]
  unfold rs_d3 rs_L
  grind
theorem rs_dt_2 : rs_dt A 2 4 = rs_L A := by
  simp only [rs_dt, rs_cf_02, rs_cf_12, rs_cf_22, rs_cf_32]
  unfold rs_d3 rs_L
  grind
theorem rs_dt_3 : rs_dt A 3 4 = rs_L A := by
  simp only [rs_dt, rs_cf_03, rs_cf_13, rs_cf_23, rs_cf_33]
  unfold rs_d3 rs_L
  grind
theorem rs_dt_L {c : Nat} (hc : c < 4) : rs_dt A c 4 = rs_L A := by
  have c' : c = 0 ∨ c = 1 ∨ c = 2 ∨ c = 3 := by omega
  rcases c' with rfl | rfl | rfl | rfl
  · exact rs_dt_0
  · exact rs_dt_1
  · exact rs_dt_2
  · exact rs_dt_3
theorem rs_row : rs_L A = A 0 0 * rs_cf A 0 0 + A 0 1 * rs_cf A 0 1 + A 0 2 * rs_cf A 0 2 + A 0 3 * rs_cf A 0 3 := by
  simp only [rs_cf_00, rs_cf_01, rs_cf_02, rs_cf_03]
  unfold rs_d3 rs_L
  grind
theorem rs_L0 (h : rs_M A) : 0 ≤ rs_L A := by
  have g1 := rs_ge_1 h
  have g2 := rs_ge_2 h
  have g3 := rs_ge_3 h
  have g0 := rs_po h (r := 0) (c := 0) (by decide) (by decide)
  have s := h.2 0 (by decide)
  have o1 := h.1 0 1 (by decide) (by decide) (by decide)
  have o2 := h.1 0 2 (by decide) (by decide) (by decide)
  have o3 := h.1 0 3 (by decide) (by decide) (by decide)
  rw [rs_row]
  generalize rs_cf A 0 0 = x at *
  generalize rs_cf A 0 1 = y at *
  generalize rs_cf A 0 2 = z at *
  generalize rs_cf A 0 3 = w at *
  have e : A 0 0 * x + A 0 1 * y + A 0 2 * z + A 0 3 * w = (A 0 0 + A 0 1 + A 0 2 + A 0 3) * x + (-A 0 1) * (x - y) + (-A 0 2) * (x - z) + (-A 0 3) * (x - w) := by grind
  rw [e]
  exact Int.add_nonneg (Int.add_nonneg (Int.add_nonneg (Int.mul_nonneg s g0) (Int.mul_nonneg (by omega) (by omega))) (Int.mul_nonneg (by omega) (by omega))) (Int.mul_nonneg (by omega) (by omega))
theorem rs_mb {x y p q : Int} (h1 : -p ≤ x ∧ x ≤ p) (h2 : -q ≤ y ∧ y ≤ q) : -(p * q) ≤ x * y ∧ x * y ≤ p * q := by
  have a1 := Int.mul_nonneg (show 0 ≤ p - x by omega) (show 0 ≤ q + y by omega)
  have a2 := Int.mul_nonneg (show 0 ≤ p + x by omega) (show 0 ≤ q - y by omega)
  have a3 := Int.mul_nonneg (show 0 ≤ p - x by omega) (show 0 ≤ q - y by omega)
  have a4 := Int.mul_nonneg (show 0 ≤ p + x by omega) (show 0 ≤ q + y by omega)
  rw [Int.sub_mul, Int.mul_add, Int.mul_add] at a1
  rw [Int.add_mul, Int.mul_sub, Int.mul_sub] at a2
  rw [Int.sub_mul, Int.mul_sub, Int.mul_sub] at a3
  rw [Int.add_mul, Int.mul_add, Int.mul_add] at a4
  omega
def rs_bd (A : Nat → Nat → Int) : Prop := ∀ i j, i < 4 → j < 4 → -37 ≤ A i j ∧ A i j ≤ 37
theorem rs_r_lt (r : Nat) : rs_r1 r < 4 ∧ rs_r2 r < 4 ∧ rs_r3 r < 4 := by
  unfold rs_r1 rs_r2 rs_r3
  refine ⟨?_, ?_, ?_⟩ <;> split <;> decide
theorem rs_d3_b (h : rs_bd A) {a b c x y z : Nat} (ha : a < 4) (hb : b < 4) (hc : c < 4) (hx : x < 4) (hy : y < 4) (hz : z < 4) : -303918 ≤ rs_d3 A a b c x y z ∧ rs_d3 A a b c x y z ≤ 303918 := by
  have two : ∀ i j k l, i < 4 → j < 4 → k < 4 → l < 4 → -1369 ≤ A i j * A k l ∧ A i j * A k l ≤ 1369 := fun i j k l h1 h2 h3 h4 => rs_mb (p := 37) (q := 37) (h i j h1 h2) (h k l h3 h4)
  have m1 := two b y c z hb hy hc hz
  have m2 := two b z c y hb hz hc hy
  have m3 := two b x c z hb hx hc hz
  have m4 := two b z c x hb hz hc hx
  have m5 := two b x c y hb hx hc hy
  have m6 := two b y c x hb hy hc hx
  have n1 := rs_mb (p := 37) (q := 2738) (h a x ha hx) (show -2738 ≤ A b y * A c z - A b z * A c y ∧ A b y * A c z - A b z * A c y ≤ 2738 by omega)
  have n2 := rs_mb (p := 37) (q := 2738) (h a y ha hy) (show -2738 ≤ A b x * A c z - A b z * A c x ∧ A b x * A c z - A b z * A c x ≤ 2738 by omega)
  have n3 := rs_mb (p := 37) (q := 2738) (h a z ha hz) (show -2738 ≤ A b x * A c y - A b y * A c x ∧ A b x * A c y - A b y * A c x ≤ 2738 by omega)
  unfold rs_d3
  omega
theorem rs_mn_b (h : rs_bd A) (r c : Nat) : -303918 ≤ rs_mn A r c ∧ rs_mn A r c ≤ 303918 := by
  obtain ⟨a1, a2, a3⟩ := rs_r_lt r
  obtain ⟨b1, b2, b3⟩ := rs_r_lt c
  exact rs_d3_b h a1 a2 a3 b1 b2 b3
theorem rs_cf_b (h : rs_bd A) (r c : Nat) : -303918 ≤ rs_cf A r c ∧ rs_cf A r c ≤ 303918 := by
  have := rs_mn_b h r c
  unfold rs_cf
  split <;> omega
theorem rs_dt_b (h : rs_bd A) {c : Nat} (hc : c < 4) : ∀ n : Nat, n ≤ 4 → -(11244966 * (n : Int)) ≤ rs_dt A c n ∧ rs_dt A c n ≤ 11244966 * (n : Int)
  | 0, _ => ⟨by simp [rs_dt], by simp [rs_dt]⟩
  | n + 1, hn => by
    have ih := rs_dt_b h hc n (by omega)
    have m := rs_mb (p := 37) (q := 303918) (h n c (by omega) hc) (rs_cf_b h n c)
    rw [rs_dt]
    omega
end
