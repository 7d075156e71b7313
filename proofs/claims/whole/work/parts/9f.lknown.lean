/-- the eleven classes are known -/
theorem al_known {args : Array Value} {s : State} (hts : ∀ w ∈ lw_tbl, w.before args s = true) : ∃ D : va_G, va_K D sm_cl [] s := by
  have hg : ∀ w ∈ sm_GW, w.before args s = true := fun w hw => hts w (List.mem_filter.mp hw).1
  obtain ⟨c0, i0, k0⟩ := u_known (C := zc_R0) (T := zc_T0) (N := 3) (n := 3) hg zc_i0 (hts (.instantiable zc_R0 3) (by decide +kernel))
  obtain ⟨c1, i1, k1⟩ := u_known (C := zc_R1) (T := zc_T1) (N := 4) (n := 4) hg zc_i1 (hts (.instantiable zc_R1 4) (by decide +kernel))
  obtain ⟨c2, i2, k2⟩ := u_known (C := zc_R2) (T := zc_T2) (N := 14) (n := 14) hg zc_i2 (hts (.instantiable zc_R2 14) (by decide +kernel))
  obtain ⟨c3, i3, k3⟩ := u_known (C := zc_R3) (T := zc_T3) (N := 7) (n := 7) hg zc_i3 (hts (.instantiable zc_R3 7) (by decide +kernel))
  obtain ⟨c4, i4, k4⟩ := u_known (C := zc_R4) (T := zc_T4) (N := 8) (n := 8) hg zc_i4 (hts (.instantiable zc_R4 8) (by decide +kernel))
  obtain ⟨c5, i5, k5⟩ := u_known (C := zc_R5) (T := zc_T5) (N := 1) (n := 1) hg zc_i5 (hts (.instantiable zc_R5 1) (by decide +kernel))
  obtain ⟨c6, i6, k6⟩ := u_known (C := zc_R6) (T := zc_T6) (N := 2) (n := 2) hg zc_i6 (hts (.instantiable zc_R6 2) (by decide +kernel))
  obtain ⟨c7, i7, k7⟩ := u_known (C := zc_R7) (T := zc_T7) (N := 2) (n := 2) hg zc_i7 (hts (.instantiable zc_R7 2) (by decide +kernel))
  obtain ⟨c8, i8, k8⟩ := u_known (C := zc_R8) (T := zc_T8) (N := 9) (n := 9) hg zc_i8 (hts (.instantiable zc_R8 9) (by decide +kernel))
  obtain ⟨c9, i9, k9⟩ := u_known (C := zc_R9) (T := zc_T9) (N := 14) (n := 14) hg zc_i9 (hts (.instantiable zc_R9 14) (by decide +kernel))
  obtain ⟨c10, i10, k10⟩ := u_known (C := zc_R10) (T := zc_T10) (N := 32) (n := 32) hg zc_i10 (hts (.instantiable zc_R10 32) (by decide +kernel))
  refine ⟨(fun k => [c0, c1, c2, c3, c4, c5, c6, c7, c8, c9, c10].getD k c0, fun k => [i0, i1, i2, i3, i4, i5, i6, i7, i8, i9, i10].getD k i0), fun k q hq => ?_, fun k q h => by simp at h⟩
  have hl : k < 11 := (List.getElem?_eq_some_iff.mp hq).1
  rcases (show k = 0 ∨ k = 1 ∨ k = 2 ∨ k = 3 ∨ k = 4 ∨ k = 5 ∨ k = 6 ∨ k = 7 ∨ k = 8 ∨ k = 9 ∨ k = 10 by omega) with rfl | rfl | rfl | rfl | rfl | rfl | rfl | rfl | rfl | rfl | rfl <;> cases hq
  · exact k0
  · exact k1
  · exact k2
  · exact k3
  · exact k4
  · exact k5
  · exact k6
  · exact k7
  · exact k8
  · exact k9
  · exact k10
