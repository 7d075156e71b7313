/-- two worlds side by side -/
theorem al_Da {A : Nat → Prop} {X X' : va_W} (e : X.map (fun z => z.1) = X'.map (fun z => z.1)) (h : va_D A X) : va_D A X' := by
  have at0 : ∀ (k : Nat) (z' : Nat × va_E), X'[k]? = some z' → ∃ z, X[k]? = some z ∧ z.1 = z'.1 := fun k z' hz => by
    have h1 : (X'.map (fun z => z.1))[k]? = some z'.1 := by rw [List.getElem?_map, hz]; rfl
    rw [← e, List.getElem?_map] at h1
    cases hx : X[k]? with
    | none => rw [hx] at h1; cases h1
    | some z => rw [hx] at h1; exact ⟨z, rfl, Option.some.inj h1⟩
  refine ⟨fun i j p q hi hj e => ?_, fun k z hz => ?_⟩
  · obtain ⟨p0, p1, p2⟩ := at0 i p hi
    obtain ⟨q0, q1, q2⟩ := at0 j q hj
    exact h.1 i j p0 q0 p1 q1 (by rw [p2, q2]; exact e)
  · obtain ⟨z0, z1, z2⟩ := at0 k z hz
    rw [← z2]
    exact h.2 k z0 z1
theorem al_pic_ad {sy : sm_Sy} {wc : sm_Wc} {S S' : sm_St} {Y : va_W} : (sm_pic sy wc S ++ Y).map (fun z => z.1) = (sm_pic sy wc S' ++ Y).map (fun z => z.1) := by
  rw [List.map_append, List.map_append]
  congr 1
  unfold sm_pic
  rw [List.map_map, List.map_map]
  rfl
theorem al_joinF {D : va_G} {cl : List vw_C} {A : Nat → Prop} {sy : sm_Sy} {wc : sm_Wc} {S S' : sm_St} {Y : va_W} {H H1 : Heap} (hP : va_P D cl (sm_pic sy wc S ++ Y) H) (hD : va_D A (sm_pic sy wc S ++ Y)) (hk : ∀ a : Nat, a < H.size → ¬ sm_wA sy wc a → H1[a]? = H[a]?) (hP1 : va_P D cl (sm_pic sy wc S') H1) : va_P D cl (sm_pic sy wc S' ++ Y) H1 ∧ va_D A (sm_pic sy wc S' ++ Y) := by
  have hlen : (sm_pic sy wc S).length = sy.2.2.1 := by simp [sm_pic]
  have back : ∀ (k : Nat) (z : Nat × va_E), Y[k]? = some z → (sm_pic sy wc S ++ Y)[(sm_pic sy wc S).length + k]? = some z := fun k z hz => by
    rw [List.getElem?_append_right (Nat.le_add_right _ _), Nat.add_sub_cancel_left]
    exact hz
  refine ⟨hP1.app (fun k z hz => ?_), al_Da al_pic_ad hD⟩
  have h1 := hP _ z (back k z hz)
  refine h1.kept (hk z.1 h1.lt (fun hw => ?_))
  obtain ⟨i, hi, e⟩ := hw
  have h2 : (sm_pic sy wc S ++ Y)[i]? = some (wc.2.2 i, sm_cel sy wc S i) := by
    rw [List.getElem?_append_left (by rw [hlen]; exact hi)]
    exact sm_pic_at hi
  have := hD.1 _ i z _ (back k z hz) h2 e
  omega
section
variable {x : sm_Cx} {A : Nat → Prop} {cc : ByteArray} {Y : va_W} {c s c0 s0 : Nat} {Q : State → Prop} {pc : Nat} {lv : List (Nat × Value)} {own : String} {nL fr lo : Nat}
theorem al_swap {X : va_W} {st : List Value} (k : al_W x A (Y ++ X) c0 s0 Q pc lv st) : al_W x A (X ++ Y) c0 s0 Q pc lv st := fun H locs ls hP hD hS hl => k H locs ls (by have h : va_P (xw x).1 sm_cl (([] : va_W) ++ X ++ Y) H := hP; exact va_P.swap h) (by have h : va_D A (([] : va_W) ++ X ++ Y) := hD; exact va_D.swap h) hS hl
/-- a call into the first of the worlds, with an int for answer -/
theorem al_callW {sy : sm_Sy} {wc : sm_Wc} {S : sm_St} {y : MethodName} {b : ByteArray} {mL n i fr' lo' q ci nn : Nat} {T : u_T} {fs : List Value} {As rest : List Value} {stk : List Value} {out : Int32 × sm_St} (hwc : wc.1 = (xw x).1 ∧ wc.2.1 = (xw x).2.1) (ok : al_Ok x A cc own nL fr lo c s) (d : decode cc pc = .ok (.invokevirtual i, 3)) (M : Met (xl x) y (sm_ws y b mL (some .int)) (sm_rm fr' lo') (va_Pc (.ref q :: As) (sm_Wd sy wc S)) (sm_Pi sy wc out) 0 0 (sm_wA sy wc)) (hX : ∀ H : Heap, ∀ locs : List Loc, va_S A (xs x).heap H locs → ∀ U : State, U.heap = H → (xs x).WarmedH U.vm → sy.2.2.2 wc U) (hst : sm_stb sy wc) (h0 : 0 < sy.2.2.1) (hq : wc.2.2 0 = q) (hc0 : sm_cel sy wc S 0 = .inr (ci, fs)) (hcl : sm_cl[ci]? = some (y.cls, T, nn)) (w : Cond.methodLink own i y ∈ sm_GW) (mw : sm_MW y b mL (some .int) n) (hfr : fr' + 1 ≤ fr) (hlo : 8 + (mL + 11) + lo' ≤ lo) (hn : As.length = n) (hstk : stk = As.reverse ++ .ref q :: rest) (hrm : (rest.map fun v => v.category).sum ≤ 8) (hc : c0 ≤ c) (hs : s0 ≤ s) (kk : al_W x A (sm_pic sy wc out.2 ++ Y) c0 s0 Q (pc + 3) lv (.int out.1 :: rest)) : al_W x A (sm_pic sy wc S ++ Y) c0 s0 Q pc lv stk := fun H locs ls hP hD hS hl => by
  have hlen : (sm_pic sy wc S).length = sy.2.2.1 := by simp [sm_pic]
  have front : ∀ (k : Nat) (z : Nat × va_E), (sm_pic sy wc S)[k]? = some z → (sm_pic sy wc S ++ Y)[k]? = some z := fun k z hz => by
    rw [List.getElem?_append_left (List.getElem?_eq_some_iff.mp hz).1]
    exact hz
  have hP0 : va_P (xw x).1 sm_cl (sm_pic sy wc S) H := fun k z hz => hP k z (front k z hz)
  have hA : ∀ a, sm_wA sy wc a → A a := by
    rintro a ⟨i, hi, rfl⟩
    exact hD.2 i _ (front i _ (sm_pic_at hi))
  refine va_calli (va_runV (As := As) (rest := rest) (nL := xn x) ⟨ok.1, ok.2.1, ok.2.2.1, ok.2.2.2.1, ok.2.2.2.2.1⟩ M ⟨⟨rfl, rfl, Nat.le_trans hfr ok.2.2.2.2.2.2.2.1, Nat.le_trans hlo ok.2.2.2.2.2.2.2.2.1, al_pay ok mw.2.2.2.1, List.mem_cons_self, ok.2.2.2.2.1 _ mw.2.2.2.1, ok.2.2.2.2.1 _ mw.2.2.1, mw.2.2.2.2.1, fun sig h => by have hd := mw.2.2.2.2.2; rw [h] at hd; exact (Option.some.inj hd).symm, ok.2.2.2.2.1 _ w⟩, ok.2.2.2.2.1 _ mw.1, ok.2.2.2.2.1 _ mw.2.1⟩ ⟨sm_blind hst, va_recv ok.2.2.2.2.2.1 hP0 hcl (q0 := 0) (by rw [sm_pic_at h0, hq, hc0]), fun U hU hW => ⟨rfl, by rw [hU, hwc.1]; exact hP0, by rw [hwc.1, hwc.2]; exact va_K.moved hW.alike ok.2.2.2.2.2.1, hX H locs hS U hU hW⟩⟩ rfl hn hl.1 hstk (lv_room hrm) d ⟨Nat.le_trans hc (al_okc ok), Nat.le_trans hs (al_oks ok)⟩) hS (fun a _ h => hA a h) hA (fun r u t H1 locs1 ht hvm hw hB hz hk hS1 => ?_)
  obtain ⟨hr, hu⟩ := hw
  subst hr
  subst hu
  have hB1 := hB.1
  rw [ht, hwc.1] at hB1
  obtain ⟨j1, j2⟩ := al_joinF hP hD hk hB1
  exact kk H1 locs1 ls j1 j2 hS1 hl
end
