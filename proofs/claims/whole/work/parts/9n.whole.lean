set_option maxHeartbeats 4000000 in
/-- from the entry, for every script of at most 384 ints, the law comes to its end with true -/
theorem whole_start {p : Program} {e : Env} {s : State} {m : MethodId} {below : List Frame} {meth : Method} {c : Code} (l : Launch) (hflags : l.flags = flags0) {b L : Nat} {xs : Nat → Int32} (hL : L ≤ 384) (C0 : lw_At p s m meth c b L xs) : W p l e room_1 s m #[Value.ref b] below meth c s.heap [] 0 0 (lw_Z below #[Value.ref b] s) (entryFrame m ([Value.ref b] : List Value).toArray 4) := by
  obtain ⟨hx, hb, hr, hml, hown, hts, hX, hbl, hlocks, hgv⟩ := id C0
  have hg : ∀ w ∈ sm_GW, w.before #[Value.ref b] s = true := fun w hw => hts w (List.mem_filter.mp hw).1
  obtain ⟨D, hK0⟩ := al_known hts
  obtain ⟨cA, hK⟩ := al_tys hK0 (hg _ wd_158) (hg _ wd_297) (hg _ wd_260) (hts (.arrayOver (.object "LentShades$Shades")) (al_mem 159 (by decide +kernel))) (hts (.arrayOver (.object "LentShades$House")) (al_mem 227 (by decide +kernel))) (hts (.arrayOver (.array .int)) (al_mem 135 (by decide +kernel)))
  obtain ⟨e0, hE⟩ := al_exX hts hgv
  have ok : al_Ok (p, l, e, room_1, s, m, #[Value.ref b], below, meth, c, 4, (D, cA, fun _ => 0)) (fun q => s.heap.size ≤ q) code "LentShadesLaw" 4 14 516 600000 7302250 := ⟨hx, hb, hml, hown, hg, hK, al_exs hts, Nat.le_refl _, Nat.le_refl _, Nat.le_refl _, Nat.le_refl _, hlocks, rfl, fun _ h => h⟩
  have hl := lv_entry ([.ref b]) (n := 4) (Nat.le_of_ble_eq_true rfl)
  rw [lg_entry_eq]
  generalize (lg_sl ([.ref b]) ++ List.replicate (4 - (lg_sl ([.ref b])).length) Slot.unset).toArray = ls at hl ⊢
  refine lw_start (Q := lw_Z below #[Value.ref b] s) (t := xs) hL (hE D cA) hX hbl ok (fun wx wm X S v H locs ls hP hD hS hl => ?_) s.heap [] ls (fun k q h => by simp at h) ⟨fun i j p q h => by simp at h, fun k q h => by simp at h⟩ va_S.rf hl
  refine lv_iconst (v := 1) hx hb d_law_1038 (by decide) ?_
  refine va_forget (fun q hq => hS.2.2 q hq) ?_
  refine W.widen (k := 600000) (n := 7302250) (Nat.le_of_ble_eq_true rfl) (Nat.le_of_ble_eq_true rfl) ?_
  exact lw_ret hx hb hr hlocks d_law_1039
