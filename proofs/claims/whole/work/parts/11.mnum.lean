/-! the model's numbers: number s holds v -/
theorem sm_in_nI {i n : Nat} (h : i < n) (hn : n ≤ 2147483648) : sm_in (nI i) n = true := by
  unfold sm_in
  rw [Bool.and_eq_true, decide_eq_true_eq, decide_eq_true_eq, nI_toInt (by omega)]
  omega
theorem sm_ite_t {α : Sort _} {b : Bool} {x y : α} (h : b = true) : (if b = true then x else y) = x := if_pos h
def mm (M : sm_St) (L : Nat → Int64) (Z : Nat → Int32) : sm_St := (va_up M.1 6 Z, va_up M.2.1 5 L, M.2.2)
section
variable {M : sm_St} {L L' : Nat → Int64} {Z Z' : Nat → Int32}
theorem mm_Z : (mm M L Z).1 6 = Z := by simp [mm, va_up]
theorem mm_L : (mm M L Z).2.1 5 = L := by simp [mm, va_up]
theorem mm_1 {p : Nat} (h : p ≠ 6) : (mm M L Z).1 p = M.1 p := by simp [mm, va_up, h]
theorem mm_2 {p : Nat} (h : p ≠ 5) : (mm M L Z).2.1 p = M.2.1 p := by simp [mm, va_up, h]
theorem mm_3 : (mm M L Z).2.2 = M.2.2 := rfl
theorem mm_sL {k : Nat} {v : Int64} : sm_sL (mm M L Z) 5 k v = mm M (vp_updL L k v) Z := by
  unfold sm_sL mm
  simp only [bx_uu]
  simp [va_up]
theorem mm_sI {k : Nat} {v : Int32} : sm_sI (mm M L Z) 6 k v = mm M L (upd Z k v) := by
  unfold sm_sI mm
  simp only [bx_uu]
  simp [va_up]
theorem mm_self : mm M (M.2.1 5) (M.1 6) = M := by
  unfold mm
  have h1 : va_up M.1 6 (M.1 6) = M.1 := by funext p; by_cases h : p = 6 <;> simp [va_up, h]
  have h2 : va_up M.2.1 5 (M.2.1 5) = M.2.1 := by funext p; by_cases h : p = 5 <;> simp [va_up, h]
  rw [h1, h2]
end
theorem nm_uu (Z : Nat → Int32) (s : Nat) (a b : Int32) : upd (upd Z s a) s b = upd Z s b := by
  funext j
  by_cases h : j = s <;> simp [upd, h]
theorem nm_us (Z : Nat → Int32) (s : Nat) : upd Z s (Z s) = Z := by
  funext j
  by_cases h : j = s <;> simp [upd, h]
def nm_N (L : Nat → Int64) (Z : Nat → Int32) (s v : Nat) : Prop := nm_nd v ≤ 60 ∧ Z s = nI (nm_nd v) ∧ ∀ k, k < nm_nd v → L (64 * s + k) = lN (nm_dg v k)
/-- n places, the upper ones perhaps 0 -/
def nm_R (L : Nat → Int64) (s n v : Nat) : Prop := v < nm_B ^ n ∧ ∀ k, k < n → L (64 * s + k) = lN (nm_dg v k)
theorem nm_c64 : (64 : Int32) = nI 64 := by decide
theorem nm_c1 : (1 : Int32) = nI 1 := by decide
theorem nm_c0 : (0 : Int32) = nI 0 := by decide
theorem nm_l0 : (0 : Int64) = lN 0 := by decide
theorem nm_l1 : (1 : Int64) = lN 1 := by decide
theorem nm_l2 : (2 : Int64) = lN 2 := by decide
theorem nm_lB : (1073741824 : Int64) = lN 1073741824 := by decide
theorem nm_trimL {M : sm_St} {L : Nat → Int64} {N s v : Nat} (hs : s < 124) : ∀ (n f : Nat) (Z : Nat → Int32), n < f → n ≤ 62 → Z s = nI n → nm_R L s n v → pm_trim_b0 N f (nI s) (mm M L Z) = some (mm M L (upd Z s (nI (nm_nd v)))) := by
  intro n
  induction n with
  | zero =>
    intro f Z hf hn hZ hR
    obtain ⟨f, rfl⟩ : ∃ g, f = g + 1 := ⟨f - 1, by omega⟩
    have hv : v = 0 := by have := hR.1; simp at this; omega
    subst hv
    rw [pm_trim_b0]
    simp only [mm_Z, nI_clamp (show s < 2 ^ 31 by omega), hZ]
    rw [sm_ite_t (sm_in_nI hs (by decide)), if_pos (by decide), nm_nd_0, ← hZ, nm_us]
  | succ n ih =>
    intro f Z hf hn hZ hR
    obtain ⟨f, rfl⟩ : ∃ g, f = g + 1 := ⟨f - 1, by omega⟩
    rw [pm_trim_b0]
    have e : ((64 : Int32) * nI s + nI (n + 1)) - 1 = nI (64 * s + n) := by
      rw [nm_c64, pk_mul, nI_add, nm_c1, pk_sub (by omega)]
      rfl
    simp only [mm_Z, mm_L, mm_sI, nI_clamp (show s < 2 ^ 31 by omega), hZ, e, nI_clamp (show 64 * s + n < 2 ^ 31 by omega), sm_ite_t (sm_in_nI hs (by decide)), sm_ite_t (sm_in_nI (show 64 * s + n < 7936 by omega) (by decide)), hR.2 n (by omega), sm_lt]
    rw [if_neg (nI_nle (by omega) (by omega))]
    by_cases h0 : nm_dg v n = 0
    · rw [if_pos (by rw [h0]; rfl), show nI (n + 1) - 1 = nI n from nI_pred n, ih f _ (by omega) (by omega) (by simp [upd]) ⟨nm_top0 hR.1 h0, fun k hk => hR.2 k (by omega)⟩, nm_uu]
    · rw [if_neg (fun q => h0 ((pk_lEQ (by have := nm_dg_lt v n; omega) (by omega)).mp (by rw [← nm_l0]; exact q))), nm_topn hR.1 h0, ← hZ, nm_us]
theorem nm_trim {M : sm_St} {L : Nat → Int64} {Z : Nat → Int32} {N s n v : Nat} (hN : 64 ≤ N) (hs : s < 124) (hn : n ≤ 62) (hZ : Z s = nI n) (hR : nm_R L s n v) : pm_trim N (mm M L Z) (nI s) = some (mm M L (upd Z s (nI (nm_nd v)))) := by
  unfold pm_trim
  exact nm_trimL hs n N Z (by omega) hn hZ hR
