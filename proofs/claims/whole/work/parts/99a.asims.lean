/-- the same cells, but for what can't be told apart -/
def al_sims : va_W → va_W → Prop
  | [], [] => True
  | z :: X, z' :: X' => (z.1 = z'.1 ∧ al_sim z.2 z'.2) ∧ al_sims X X'
  | _, _ => False
theorem al_sims_at : ∀ {X X' : va_W}, al_sims X X' → ∀ (k : Nat) (z' : Nat × va_E), X'[k]? = some z' → ∃ z, X[k]? = some z ∧ z.1 = z'.1 ∧ al_sim z.2 z'.2
  | [], [], _, k, z', h => by simp at h
  | [], _ :: _, h, _, _, _ => h.elim
  | _ :: _, [], h, _, _, _ => h.elim
  | z :: X, z2 :: X', h, 0, z', e => by
    have e2 : z2 = z' := Option.some.inj e
    subst e2
    exact ⟨z, rfl, h.1⟩
  | z :: X, z2 :: X', h, k + 1, z', e => al_sims_at h.2 k z' e
theorem al_same {D : va_G} {cl : List vw_C} {A : Nat → Prop} {X X' : va_W} {H : Heap} (h : al_sims X X') (hP : va_P D cl X H) (hD : va_D A X) : va_P D cl X' H ∧ va_D A X' := by
  refine ⟨fun k z' hz => ?_, fun i j p q hi hj e => ?_, fun k z' hz => ?_⟩
  · obtain ⟨⟨a, e0⟩, h1, h2, h3⟩ := al_sims_at h k z' hz
    obtain ⟨b, e1⟩ := z'
    have h2 : a = b := h2
    subst h2
    exact al_sim_at h3 (hP k _ h1)
  · obtain ⟨p0, p1, p2, _⟩ := al_sims_at h i p hi
    obtain ⟨q0, q1, q2, _⟩ := al_sims_at h j q hj
    exact hD.1 i j p0 q0 p1 q1 (by rw [p2, q2]; exact e)
  · obtain ⟨z, h1, h2, _⟩ := al_sims_at h k z' hz
    rw [← h2]
    exact hD.2 k z h1
theorem al_sc {a a' : Nat} {e e' : va_E} {X X' : va_W} (h : a = a') (hs : al_sim e e') (t : al_sims X X') : al_sims ((a, e) :: X) ((a', e') :: X') := ⟨⟨h, hs⟩, t⟩
theorem al_sn : al_sims [] [] := trivial
