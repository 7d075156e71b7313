theorem al_mem {w : Cond} (i : Nat) (h : lw_tbl[i]? = some w) : w ∈ lw_tbl := List.mem_of_getElem? h
theorem al_exs {args : Array Value} {s : State} (hts : ∀ w ∈ lw_tbl, w.before args s = true) : al_ex s := by
  refine ⟨fun q hq => ?_, va_AO.of (hts _ (al_mem 159 (by decide +kernel))), va_AO.of (hts _ (al_mem 227 (by decide +kernel))), hts (.arrayOver (.array .int)) (al_mem 135 (by decide +kernel))⟩
  simp only [al_nest, List.mem_cons, List.not_mem_nil, or_false] at hq
  rcases hq with rfl | rfl | rfl | rfl | rfl | rfl | rfl
  · exact va_Nw.of rfl (hts _ (al_mem 230 (by decide +kernel)))
  · exact va_Nw.of rfl (hts _ (al_mem 282 (by decide +kernel)))
  · exact va_Nw.of rfl (hts _ (al_mem 300 (by decide +kernel)))
  · exact va_Nw.of rfl (hts _ (al_mem 305 (by decide +kernel)))
  · exact va_Nw.of rfl (hts _ (al_mem 342 (by decide +kernel)))
  · exact va_Nw.of rfl (hts _ (al_mem 353 (by decide +kernel)))
  · exact va_Nw.of rfl (hts _ (al_mem 384 (by decide +kernel)))
