theorem al_M0_n : nP al_M0 (fun _ => 0) al_M0 := by
  refine ⟨fun _ => 0, fun _ => 0, ?_, fun s _ _ => ?_⟩
  · unfold mm al_M0
    refine Prod.ext ?_ (Prod.ext ?_ rfl)
    · funext p k
      by_cases h : p = 6 <;> simp [va_up, h]
    · funext p k
      by_cases h : p = 5 <;> simp [va_up, h]
  · exact ⟨Nat.zero_le _, rfl, fun k hk => absurd hk (Nat.not_lt_zero _)⟩
theorem al_M1_e : pm_set 4000 al_M0 (1 : Int32) (1 : Int64) = some al_M1 := by
  obtain ⟨S', e, _⟩ := nP_set (N := 4000) (a := 1) (x := 1) (Nat.le_refl _) al_M0_n (by decide) (by decide)
  have e' : pm_set 4000 al_M0 (1 : Int32) (1 : Int64) = some S' := e
  unfold al_M1
  rw [e']
  rfl
theorem al_M1_n : nP al_M0 (va_up (fun _ => 0) 1 1) al_M1 := by
  obtain ⟨S', e, h⟩ := nP_set (N := 4000) (a := 1) (x := 1) (Nat.le_refl _) al_M0_n (by decide) (by decide)
  have e' : pm_set 4000 al_M0 (1 : Int32) (1 : Int64) = some S' := e
  have := al_M1_e
  rw [e'] at this
  rw [← Option.some.inj this]
  exact h
theorem al_M2_e : pm_set 4000 al_M1 (23 : Int32) (1 : Int64) = some al_M2 := by
  obtain ⟨S', e, _⟩ := nP_set (N := 4000) (a := 23) (x := 1) (Nat.le_refl _) al_M1_n (by decide) (by decide)
  have e' : pm_set 4000 al_M1 (23 : Int32) (1 : Int64) = some S' := e
  unfold al_M2
  rw [e']
  rfl
theorem al_M2_n : nP al_M0 (va_up (va_up (fun _ => 0) 1 1) 23 1) al_M2 := by
  obtain ⟨S', e, h⟩ := nP_set (N := 4000) (a := 23) (x := 1) (Nat.le_refl _) al_M1_n (by decide) (by decide)
  have e' : pm_set 4000 al_M1 (23 : Int32) (1 : Int64) = some S' := e
  have := al_M2_e
  rw [e'] at this
  rw [← Option.some.inj this]
  exact h
