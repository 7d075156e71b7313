/-- the array types, out of the tables' words -/
theorem al_ty1 {s : State} {c comp : ClassId} {k : Class} {ty : FieldType} (h2 : s.vm.classes[c]? = some k) (h3 : k.kind = .array comp ty) : ArrOfT s c ty := fun n z => ⟨fun q h => (by cases h), k, h2, comp, h3⟩
theorem al_tys {args : Array Value} {s : State} {D : va_G} (hK : va_K D sm_cl [] s) (w1 : (Cond.arrayClass .int).before args s = true) (w2 : (Cond.arrayClass .long).before args s = true) (w3 : (Cond.arrayClass .boolean).before args s = true) (w4 : (Cond.arrayOver (.object "LentShades$Shades")).before args s = true) (w5 : (Cond.arrayOver (.object "LentShades$House")).before args s = true) (w6 : (Cond.arrayOver (.array .int)).before args s = true) : ∃ cA : Nat → ClassId, va_K D sm_cl (sm_tys cA) s := by
  obtain ⟨c1, k1, m1, a1, b1, d1⟩ := Cond.arrayClass_spec w1
  obtain ⟨c2, k2, m2, a2, b2, d2⟩ := Cond.arrayClass_spec w2
  obtain ⟨c3, k3, m3, a3, b3, d3⟩ := Cond.arrayClass_spec w3
  obtain ⟨m4, c4, k4, f4, _, b4, d4, a4⟩ := Cond.arrayOver_spec w4
  obtain ⟨m5, c5, k5, f5, _, b5, d5, a5⟩ := Cond.arrayOver_spec w5
  obtain ⟨m6, c6, k6, f6, b6, d6, a6⟩ := Cond.arrayOver_specA w6
  refine ⟨fun t => [c1, c2, c3, c4, c5, c6].getD t c1, hK.1, fun k q hk => ?_⟩
  have hl : k < 6 := (List.getElem?_eq_some_iff.mp hk).1
  rcases (show k = 0 ∨ k = 1 ∨ k = 2 ∨ k = 3 ∨ k = 4 ∨ k = 5 by omega) with rfl | rfl | rfl | rfl | rfl | rfl <;> cases hk
  · exact ⟨al_ty1 b1 d1, a1⟩
  · exact ⟨al_ty1 b2 d2, a2⟩
  · exact ⟨al_ty1 b3 d3, a3⟩
  · exact ⟨al_ty1 b4 d4, k4, m4, b4, d4, f4, a4⟩
  · exact ⟨al_ty1 b5 d5, k5, m5, b5, d5, f5, a5⟩
  · exact ⟨al_ty1 b6 d6, a6⟩
