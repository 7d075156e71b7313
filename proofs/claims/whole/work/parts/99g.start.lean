/-- at the start both hold the same -/
theorem al_R : R al_X0 al_M2 := by
  have m1 : ∀ p, p ≠ 6 → al_M2.1 p = fun _ => 0 := fun p hp => by rw [nP_1 al_M2_n hp]; rfl
  have v23 : va_up (va_up (fun _ => 0) 1 1) 23 1 23 = 1 := rfl
  have hp : ∀ p, hpl al_X0 p := fun p => ⟨fun j hj => ⟨j, hj, by show p + 13 + 1 + 2 * j = _; omega⟩, fun j k hj hk e => by
    have e : p + 13 + 1 + 2 * j = p + 13 + 1 + 2 * k := e
    omega⟩
  refine ⟨fun _ => 0, fun _ => 0, va_up (va_up (fun _ => 0) 1 1) 23 1, fun _ => 0, fun _ => 0, 0, fun k _ => ?_, nP_own al_M2_n, ⟨?_, ⟨⟨fun c hc => absurd hc (Nat.not_lt_zero _), ?_, ?_, ?_⟩, fun j hj => absurd hj (Nat.not_lt_zero _)⟩, ⟨rfl, rfl, rfl, rfl, rfl⟩, fun i hi => absurd hi (Nat.not_lt_zero _), fun i hi => absurd hi (Nat.not_lt_zero _), fun i x hi => absurd hi (Nat.not_lt_zero _), fun i x _ hi hx => ?_, fun k f hk => absurd hk (Nat.not_lt_zero _), xsh_new rfl rfl rfl, fun j hj => absurd hj (Nat.not_lt_zero _)⟩, ⟨fun k _ => ?_, fun i hi => ⟨Nat.zero_le _, ?_, rfl, fun e => ?_⟩⟩, ⟨Nat.zero_le _, rfl, ?_, fun k hk => absurd hk (Nat.not_lt_zero _)⟩, ⟨?_, ?_⟩, ⟨?_, ?_, ?_⟩, hp 1, hp 35, hp 68⟩
  · rw [m1 1 (by decide)]; rfl
  · refine ⟨Nat.zero_le _, Nat.zero_le _, Nat.zero_le _, Nat.zero_le _, Nat.zero_le _, Nat.zero_le _, fun c hc => absurd hc (Nat.not_lt_zero _), fun c x hc => absurd hc (Nat.not_lt_zero _), fun t ht => absurd ht (Nat.not_lt_zero _), fun k hk => absurd hk (Nat.not_lt_zero _)⟩
  · show 0 < va_up (va_up (fun _ => 0) 1 1) 23 1 23
    rw [v23]; decide
  · show sm0 (va_up (va_up (fun _ => 0) 1 1) 23 1 23)
    rw [v23]
    intro d hd h1
    exact absurd (Nat.dvd_one.mp hd) h1
  · show va_up (va_up (fun _ => 0) 1 1) 23 1 23 ≤ _
    rw [v23]; decide
  · rcases (show i = 0 ∨ i = 1 ∨ i = 2 ∨ i = 3 by omega) with rfl | rfl | rfl | rfl <;> rfl
  · rw [m1 2 (by decide)]; rfl
  · rw [m1 3 (by decide)]; rfl
  · cases e
  · rw [m1 0 (by decide)]; rfl
  · refine ⟨rfl, rfl, ⟨?_, fun k hk => absurd hk (Nat.not_lt_zero _)⟩, ⟨?_, fun k hk => ?_⟩, ?_, ?_⟩
    · decide
    · decide
    · have hk : k < 1 := hk
      obtain rfl : k = 0 := by omega
      rfl
    · decide
    · decide
  · rw [m1 0 (by decide)]; rfl
  · rw [m1 4 (by decide)]; rfl
  · rw [m1 4 (by decide)]; rfl
  · rw [m1 4 (by decide)]; rfl
