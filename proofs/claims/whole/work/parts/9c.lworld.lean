theorem al_pic_0 {wc : sm_Wc} {r : Nat → Nat} : al_pic wc 0 147 r = sm_pic zx_sy (wc.1, wc.2.1, r) al_X0 := by
  unfold al_pic sm_pic al_cel
  refine List.map_congr_left (fun i _ => ?_)
  rw [Nat.zero_add]
  rfl
/-- what lies outside may be named as one likes -/
def al_ad (r e : Nat → Nat) : Nat → Nat := fun p => if p < 147 then r p else e p
set_option maxRecDepth 20000 in
theorem al_pic_r {D D1 : va_G} {cA : Nat → ClassId} {r e : Nat → Nat} {cl : List vw_C} {A : Nat → Prop} {H : Heap} (hP : va_P D1 cl (sm_pic zx_sy (D, cA, r) al_X0) H) (hD : va_D A (sm_pic zx_sy (D, cA, r) al_X0)) : va_P D1 cl (sm_pic zx_sy (D, cA, al_ad r e) al_X0) H ∧ va_D A (sm_pic zx_sy (D, cA, al_ad r e) al_X0) := by
  refine al_same ?_ hP hD
  unfold sm_pic
  refine al_sc rfl (Or.inl rfl) ?_
  refine al_sc rfl (Or.inl rfl) ?_
  refine al_sc rfl (Or.inl rfl) ?_
  refine al_sc rfl (Or.inl rfl) ?_
  refine al_sc rfl (Or.inl rfl) ?_
  refine al_sc rfl (Or.inl rfl) ?_
  refine al_sc rfl (Or.inl rfl) ?_
  refine al_sc rfl (al_rows (fun j hj => by have hj : j < 4 := hj; rcases (show j = 0 ∨ j = 1 ∨ j = 2 ∨ j = 3 by omega) with rfl | rfl | rfl | rfl <;> rfl)) ?_
  refine al_sc rfl (Or.inl rfl) ?_
  refine al_sc rfl (Or.inl rfl) ?_
  refine al_sc rfl (Or.inl rfl) ?_
  refine al_sc rfl (Or.inl rfl) ?_
  refine al_sc rfl (Or.inl rfl) ?_
  refine al_sc rfl (Or.inl rfl) ?_
  refine al_sc rfl (al_rows (fun j hj => by have hj : j < 6 := hj; rcases (show j = 0 ∨ j = 1 ∨ j = 2 ∨ j = 3 ∨ j = 4 ∨ j = 5 by omega) with rfl | rfl | rfl | rfl | rfl | rfl <;> rfl)) ?_
  refine al_sc rfl (Or.inl rfl) ?_
  refine al_sc rfl (Or.inl rfl) ?_
  refine al_sc rfl (Or.inl rfl) ?_
  refine al_sc rfl (Or.inl rfl) ?_
  refine al_sc rfl (Or.inl rfl) ?_
  refine al_sc rfl (Or.inl rfl) ?_
  refine al_sc rfl (Or.inl rfl) ?_
  refine al_sc rfl (Or.inl rfl) ?_
  refine al_sc rfl (Or.inl rfl) ?_
  refine al_sc rfl (Or.inl rfl) ?_
  refine al_sc rfl (Or.inl rfl) ?_
  refine al_sc rfl (Or.inl rfl) ?_
  refine al_sc rfl (al_rows (fun j hj => by have hj : j < 6 := hj; rcases (show j = 0 ∨ j = 1 ∨ j = 2 ∨ j = 3 ∨ j = 4 ∨ j = 5 by omega) with rfl | rfl | rfl | rfl | rfl | rfl <;> rfl)) ?_
  refine al_sc rfl (Or.inl rfl) ?_
  refine al_sc rfl (Or.inl rfl) ?_
  refine al_sc rfl (Or.inl rfl) ?_
  refine al_sc rfl (Or.inl rfl) ?_
  refine al_sc rfl (Or.inl rfl) ?_
  refine al_sc rfl (Or.inl rfl) ?_
  refine al_sc rfl (al_rows (fun j hj => by have hj : j < 2 := hj; rcases (show j = 0 ∨ j = 1 by omega) with rfl | rfl <;> rfl)) ?_
  refine al_sc rfl (Or.inl rfl) ?_
  refine al_sc rfl (Or.inl rfl) ?_
  refine al_sc rfl (Or.inl rfl) ?_
  refine al_sc rfl (Or.inl rfl) ?_
  refine al_sc rfl (Or.inl rfl) ?_
  refine al_sc rfl (Or.inl rfl) ?_
  refine al_sc rfl (al_rows (fun j hj => by have hj : j < 4 := hj; rcases (show j = 0 ∨ j = 1 ∨ j = 2 ∨ j = 3 by omega) with rfl | rfl | rfl | rfl <;> rfl)) ?_
  refine al_sc rfl (Or.inl rfl) ?_
  refine al_sc rfl (Or.inl rfl) ?_
  refine al_sc rfl (Or.inl rfl) ?_
  refine al_sc rfl (Or.inl rfl) ?_
  refine al_sc rfl (Or.inl rfl) ?_
  refine al_sc rfl (Or.inl rfl) ?_
  refine al_sc rfl (al_rows (fun j hj => by have hj : j < 6 := hj; rcases (show j = 0 ∨ j = 1 ∨ j = 2 ∨ j = 3 ∨ j = 4 ∨ j = 5 by omega) with rfl | rfl | rfl | rfl | rfl | rfl <;> rfl)) ?_
  refine al_sc rfl (Or.inl rfl) ?_
  refine al_sc rfl (Or.inl rfl) ?_
  refine al_sc rfl (Or.inl rfl) ?_
  refine al_sc rfl (Or.inl rfl) ?_
  refine al_sc rfl (Or.inl rfl) ?_
  refine al_sc rfl (Or.inl rfl) ?_
  refine al_sc rfl (Or.inl rfl) ?_
  refine al_sc rfl (Or.inl rfl) ?_
  refine al_sc rfl (Or.inl rfl) ?_
  refine al_sc rfl (Or.inl rfl) ?_
  refine al_sc rfl (Or.inl rfl) ?_
  refine al_sc rfl (Or.inl rfl) ?_
  refine al_sc rfl (al_rows (fun j hj => by have hj : j < 6 := hj; rcases (show j = 0 ∨ j = 1 ∨ j = 2 ∨ j = 3 ∨ j = 4 ∨ j = 5 by omega) with rfl | rfl | rfl | rfl | rfl | rfl <;> rfl)) ?_
  refine al_sc rfl (Or.inl rfl) ?_
  refine al_sc rfl (Or.inl rfl) ?_
  refine al_sc rfl (Or.inl rfl) ?_
  refine al_sc rfl (Or.inl rfl) ?_
  refine al_sc rfl (Or.inl rfl) ?_
  refine al_sc rfl (Or.inl rfl) ?_
  refine al_sc rfl (Or.inl rfl) ?_
  refine al_sc rfl (Or.inl rfl) ?_
  refine al_sc rfl (Or.inl rfl) ?_
  refine al_sc rfl (Or.inl rfl) ?_
  refine al_sc rfl (Or.inl rfl) ?_
  refine al_sc rfl (Or.inl rfl) ?_
  refine al_sc rfl (al_rows (fun j hj => by have hj : j < 4 := hj; rcases (show j = 0 ∨ j = 1 ∨ j = 2 ∨ j = 3 by omega) with rfl | rfl | rfl | rfl <;> rfl)) ?_
  refine al_sc rfl (Or.inl rfl) ?_
  refine al_sc rfl (Or.inl rfl) ?_
  refine al_sc rfl (Or.inl rfl) ?_
  refine al_sc rfl (Or.inl rfl) ?_
  refine al_sc rfl (Or.inl rfl) ?_
  refine al_sc rfl (Or.inl rfl) ?_
  refine al_sc rfl (al_rows (fun j hj => by have hj : j < 6 := hj; rcases (show j = 0 ∨ j = 1 ∨ j = 2 ∨ j = 3 ∨ j = 4 ∨ j = 5 by omega) with rfl | rfl | rfl | rfl | rfl | rfl <;> rfl)) ?_
  refine al_sc rfl (Or.inl rfl) ?_
  refine al_sc rfl (Or.inl rfl) ?_
  refine al_sc rfl (Or.inl rfl) ?_
  refine al_sc rfl (Or.inl rfl) ?_
  refine al_sc rfl (Or.inl rfl) ?_
  refine al_sc rfl (Or.inl rfl) ?_
  refine al_sc rfl (Or.inl rfl) ?_
  refine al_sc rfl (Or.inl rfl) ?_
  refine al_sc rfl (Or.inl rfl) ?_
  refine al_sc rfl (Or.inl rfl) ?_
  refine al_sc rfl (Or.inl rfl) ?_
  refine al_sc rfl (Or.inl rfl) ?_
  refine al_sc rfl (al_rows (fun j hj => by have hj : j < 6 := hj; rcases (show j = 0 ∨ j = 1 ∨ j = 2 ∨ j = 3 ∨ j = 4 ∨ j = 5 by omega) with rfl | rfl | rfl | rfl | rfl | rfl <;> rfl)) ?_
  refine al_sc rfl (Or.inl rfl) ?_
  refine al_sc rfl (Or.inl rfl) ?_
  refine al_sc rfl (Or.inl rfl) ?_
  refine al_sc rfl (Or.inl rfl) ?_
  refine al_sc rfl (Or.inl rfl) ?_
  refine al_sc rfl (Or.inl rfl) ?_
  refine al_sc rfl (Or.inl rfl) ?_
  refine al_sc rfl (Or.inl rfl) ?_
  refine al_sc rfl (Or.inl rfl) ?_
  refine al_sc rfl (Or.inl rfl) ?_
  refine al_sc rfl (Or.inl rfl) ?_
  refine al_sc rfl (Or.inl rfl) ?_
  refine al_sc rfl (Or.inl rfl) ?_
  refine al_sc rfl (Or.inl rfl) ?_
  refine al_sc rfl (Or.inl rfl) ?_
  refine al_sc rfl (Or.inl rfl) ?_
  refine al_sc rfl (Or.inl rfl) ?_
  refine al_sc rfl (Or.inl rfl) ?_
  refine al_sc rfl (Or.inl rfl) ?_
  refine al_sc rfl (al_rows (fun j hj => by have hj : j < 4 := hj; rcases (show j = 0 ∨ j = 1 ∨ j = 2 ∨ j = 3 by omega) with rfl | rfl | rfl | rfl <;> rfl)) ?_
  refine al_sc rfl (Or.inl rfl) ?_
  refine al_sc rfl (Or.inl rfl) ?_
  refine al_sc rfl (Or.inl rfl) ?_
  refine al_sc rfl (Or.inl rfl) ?_
  refine al_sc rfl (Or.inl rfl) ?_
  refine al_sc rfl (Or.inl rfl) ?_
  refine al_sc rfl (Or.inl rfl) ?_
  refine al_sc rfl (Or.inl rfl) ?_
  refine al_sc rfl (Or.inl rfl) ?_
  refine al_sc rfl (Or.inl rfl) ?_
  refine al_sc rfl (Or.inl rfl) ?_
  refine al_sc rfl (Or.inl rfl) ?_
  refine al_sc rfl (al_rows (fun j hj => by have hj : j < 4 := hj; rcases (show j = 0 ∨ j = 1 ∨ j = 2 ∨ j = 3 by omega) with rfl | rfl | rfl | rfl <;> rfl)) ?_
  refine al_sc rfl (Or.inl rfl) ?_
  refine al_sc rfl (Or.inl rfl) ?_
  refine al_sc rfl (Or.inl rfl) ?_
  refine al_sc rfl (Or.inl rfl) ?_
  refine al_sc rfl (Or.inl rfl) ?_
  refine al_sc rfl (al_rows (fun j hj => by have hj : j < 4 := hj; rcases (show j = 0 ∨ j = 1 ∨ j = 2 ∨ j = 3 by omega) with rfl | rfl | rfl | rfl <;> rfl)) ?_
  refine al_sc rfl (Or.inl rfl) ?_
  refine al_sc rfl (Or.inl rfl) ?_
  refine al_sc rfl (Or.inl rfl) ?_
  refine al_sc rfl (Or.inl rfl) ?_
  refine al_sc rfl (Or.inl rfl) ?_
  refine al_sc rfl (al_rows (fun j hj => by have hj : j < 4 := hj; rcases (show j = 0 ∨ j = 1 ∨ j = 2 ∨ j = 3 by omega) with rfl | rfl | rfl | rfl <;> rfl)) ?_
  refine al_sc rfl (Or.inl rfl) ?_
  refine al_sc rfl (Or.inl rfl) ?_
  refine al_sc rfl (Or.inl rfl) ?_
  refine al_sc rfl (Or.inl rfl) ?_
  refine al_sc rfl (Or.inl rfl) ?_
  refine al_sc rfl (Or.inl rfl) ?_
  refine al_sc rfl (Or.inl rfl) ?_
  exact al_sn
