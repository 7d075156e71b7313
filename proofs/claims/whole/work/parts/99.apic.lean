/-! what is made, as the places see it -/
def al_X0 : sm_St := (fun p => if zx_sh p = (16, 0) then upd (fun _ => 0) 1 1 else if zx_sh p = (0, 100) then upd (fun _ => 0) 80 1 else if p = 106 then upd (fun _ => 0) 0 1 else if p = 104 then upd (fun _ => 0) 3 1 else fun _ => 0, fun _ _ => 0, fun p i => p + 1 + 2 * i)
def al_cel (wc : sm_Wc) (r : Nat → Nat) (p0 i : Nat) : va_E := sm_cel zx_sy (wc.1, wc.2.1, fun p => r (p - p0)) al_X0 (p0 + i)
def al_pic (wc : sm_Wc) (p0 n : Nat) (r : Nat → Nat) : va_W := (List.range n).map (fun i => (r i, al_cel wc r p0 i))
theorem al_pic_at {wc : sm_Wc} {p0 n i : Nat} {r : Nat → Nat} (h : i < n) : (al_pic wc p0 n r)[i]? = some (r i, al_cel wc r p0 i) := by
  unfold al_pic
  rw [List.getElem?_map, List.getElem?_range h]
  rfl
theorem al_pic_of {wc : sm_Wc} {p0 n k : Nat} {r : Nat → Nat} {z : Nat × va_E} (h : (al_pic wc p0 n r)[k]? = some z) : k < n ∧ z = (r k, al_cel wc r p0 k) := by
  have hl : k < n := by
    have := (List.getElem?_eq_some_iff.mp h).1
    simpa [al_pic] using this
  rw [al_pic_at hl] at h
  exact ⟨hl, (Option.some.inj h).symm⟩
/-- cells that can't be told apart -/
def al_sim (e e' : va_E) : Prop := e = e' ∨ ∃ (c : ClassId) (n : Nat) (f f' : Nat → Option Nat), e = .inl (c, n, .inr (.inr (.inr (.inr f)))) ∧ e' = .inl (c, n, .inr (.inr (.inr (.inr f')))) ∧ ∀ j, j < n → f j = f' j
theorem al_sim_at {e e' : va_E} {D : va_G} {cl : List vw_C} {a : Nat} {H : Heap} (h : al_sim e e') (hP : va_at D cl (a, e) H) : va_at D cl (a, e') H := by
  rcases h with rfl | ⟨c, n, f, f', rfl, rfl, hf⟩
  · exact hP
  · have e : vp_cell c (n, .inr (.inr (.inr (.inr f')))) = vp_cell c (n, .inr (.inr (.inr (.inr f)))) := by
      rw [vp_cell_q, vp_cell_q]
      unfold arrV
      congr 2
      funext j
      show va_rf (f' j.1) = va_rf (f j.1)
      rw [hf j.1 j.2]
    show H[a]? = some (vp_cell _ _)
    rw [e]
    exact hP
theorem al_rows {c : ClassId} {n : Nat} {f f' : Nat → Option Nat} (h : ∀ j, j < n → f j = f' j) : al_sim (.inl (c, n, .inr (.inr (.inr (.inr f))))) (.inl (c, n, .inr (.inr (.inr (.inr f'))))) := Or.inr ⟨c, n, f, f', rfl, rfl, h⟩
/-- the cells in the order of their places -/
theorem al_fin {D : va_G} {cl : List vw_C} {A : Nat → Prop} {X : va_W} {H : Heap} {n : Nat} {r : Nat → Nat} {g : Nat → va_E} (π : List Nat) (hn : va_nd π = true) (h : ∀ i, i < n → ∃ k e, π[i]? = some k ∧ X[k]? = some (r i, e) ∧ al_sim e (g i)) (hP : va_P D cl X H) (hD : va_D A X) : va_P D cl ((List.range n).map (fun i => (r i, g i))) H ∧ va_D A ((List.range n).map (fun i => (r i, g i))) := by
  have at0 : ∀ (k : Nat) (z : Nat × va_E), ((List.range n).map (fun i => (r i, g i)))[k]? = some z → k < n ∧ z = (r k, g k) := fun k z hz => by
    rw [List.getElem?_map] at hz
    by_cases hk : k < n
    · rw [List.getElem?_range hk] at hz
      exact ⟨hk, (Option.some.inj hz).symm⟩
    · rw [List.getElem?_eq_none (by rw [List.length_range]; omega)] at hz
      cases hz
  refine ⟨fun k z hz => ?_, fun i j p q hi hj e => ?_, fun k z hz => ?_⟩
  · obtain ⟨hk, rfl⟩ := at0 k z hz
    obtain ⟨k', e, _, hx, hs⟩ := h k hk
    exact al_sim_at hs (hP k' _ hx)
  · obtain ⟨hi', rfl⟩ := at0 i p hi
    obtain ⟨hj', rfl⟩ := at0 j q hj
    obtain ⟨k1, e1, p1, x1, _⟩ := h i hi'
    obtain ⟨k2, e2, p2, x2, _⟩ := h j hj'
    have := hD.1 k1 k2 _ _ x1 x2 e
    subst this
    exact va_nd_inj π hn i j k1 p1 p2
  · obtain ⟨hk, rfl⟩ := at0 k z hz
    obtain ⟨k', e, _, hx, _⟩ := h k hk
    exact hD.2 k' (r k, e) hx
section
variable {x : sm_Cx} {A : Nat → Prop} {X X' : va_W} {c0 s0 : Nat} {Q : State → Prop} {pc : Nat} {lv : List (Nat × Value)} {st : List Value}
theorem al_X (e : X = X') (k : al_W x A X' c0 s0 Q pc lv st) : al_W x A X c0 s0 Q pc lv st := e ▸ k
end
