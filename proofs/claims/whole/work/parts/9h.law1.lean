/-- what holds all through the walk of the law's body -/
def lw_K (x : sm_Cx) (A : Nat → Prop) (b L : Nat) (t : Nat → Int32) (wx wm : sm_Wc) : Prop :=
  al_Ok x A code "LentShadesLaw" 4 14 516 600000 7302250 ∧ va_X b L t (xs x) (xs x).heap ∧ b < (xs x).heap.size ∧ (∀ q : Nat, q < (xs x).heap.size → ¬ A q) ∧ (wx.1 = (xw x).1 ∧ wx.2.1 = (xw x).2.1) ∧ (wm.1 = (xw x).1 ∧ wm.2.1 = (xw x).2.1) ∧ sm_inj zx_sy wx ∧ sm_inj zm_sy wm ∧ zx_ex wx (xs x) ∧ L ≤ 384
abbrev lw_W (wx wm : sm_Wc) (X S : sm_St) : va_W := sm_pic zx_sy wx X ++ sm_pic zm_sy wm S
abbrev lw_V (b : Nat) (wx wm : sm_Wc) (v : Int32) : List (Nat × Value) := [(3, .int v), (2, .ref (wm.2.2 0)), (1, .ref (wx.2.2 0)), (0, .ref b)]
def lw_long (a c : Int32) : Int64 := (a.toInt64 <<< ((32 : Int32).toInt64 &&& 63)) ||| (c.toInt64 &&& 4294967295)
section
variable {x : sm_Cx} {A : Nat → Prop} {b L i : Nat} {t : Nat → Int32} {wx wm : sm_Wc} {c0 s0 pc : Nat} {Q : State → Prop} {X S : sm_St} {Y : va_W} {lv : List (Nat × Value)} {st : List Value}
theorem lw_L (K : lw_K x A b L t wx wm) : L ≤ 384 := K.2.2.2.2.2.2.2.2.2
theorem lw_hX (K : lw_K x A b L t wx wm) : ∀ (H : Heap) (locs : List Loc), va_S A (xs x).heap H locs → ∀ U : State, U.heap = H → (xs x).WarmedH U.vm → zx_sy.2.2.2 wx U := fun H locs hS U hU hW => zx_stb wx (xs x) U K.2.2.2.2.2.2.2.2.1 (fun q hq _ => by rw [hU]; exact hS.2.1 q hq (K.2.2.2.1 q hq)) (Or.inl hW)
/-- a number of the script -/
theorem lw_el {j : Nat} (n : Int) (K : lw_K x A b L t wx wm) (d0 : decode code pc = .ok (.aload_n 0, 1)) (d1 : decode code (pc + 1) = .ok (.iload_n 3, 1)) (d2 : decode code (pc + 2) = .ok (.iconst n, 1)) (d3 : decode code (pc + 3) = .ok (.iadd, 1)) (d4 : decode code (pc + 4) = .ok (.iaload, 1)) (hn : Int32.ofInt n = nI j) (hi : i + j < L) (kk : al_W x A Y c0 s0 Q (pc + 5) (lw_V b wx wm (nI i)) (.int (t (i + j)) :: st)) : al_W x A Y c0 s0 Q pc (lw_V b wx wm (nI i)) st := by
  have hL := lw_L K
  refine al_aload_n 3 K.1 d0 rfl ?_
  refine al_iload_n 0 K.1 d1 rfl ?_
  refine al_iconst (nI j) K.1 d2 hn ?_
  refine al_iadd K.1 d3 ?_
  rw [nI_add]
  refine al_sld K.1 K.2.1 K.2.2.1 (K.2.2.2.1 b K.2.2.1) d4 (vp_in_nI hi (by omega)) ?_
  rw [nI_clamp (n := i + j) (by omega)]
  exact kk
theorem al_lcmpE {a : Int64} {cc : ByteArray} {own : String} {nL fr lo c s : Nat} (ok : al_Ok x A cc own nL fr lo c s) (d : decode cc pc = .ok (.lcmp, 1)) (k : al_W x A Y c0 s0 Q (pc + 1) lv (.int 0 :: st)) : al_W x A Y c0 s0 Q pc lv (.long a :: .long a :: st) := fun H locs ls hP hD hS hl => by
  refine W.lcmp ok.1 ok.2.1 d ?_
  rw [show lg_cmp a a = 0 by simp [lg_cmp]]
  exact k H locs ls hP hD hS hl
theorem al_if0 {cc : ByteArray} {own : String} {nL fr lo c s : Nat} {off : Int} (tgt : Nat) (ok : al_Ok x A cc own nL fr lo c s) (d : decode cc pc = .ok (.ifCond .eq off, 3)) (ht : (pc : Int) + off = (tgt : Int)) (k : al_W x A Y c0 s0 Q tgt lv st) : al_W x A Y c0 s0 Q pc lv (.int 0 :: st) := fun H locs ls hP hD hS hl => lv_if_eq ok.1 ok.2.1 d ht (fun _ => k H locs ls hP hD hS hl) (fun n => absurd rfl n)
/-- a call into the first of the worlds, with a long for answer -/
theorem al_callWl {cc : ByteArray} {own : String} {nL fr lo c s : Nat} {sy : sm_Sy} {wc : sm_Wc} {S : sm_St} {y : MethodName} {b : ByteArray} {mL n i fr' lo' q ci nn : Nat} {T : u_T} {fs : List Value} {As rest : List Value} {stk : List Value} {out : Int64 × sm_St} (hwc : wc.1 = (xw x).1 ∧ wc.2.1 = (xw x).2.1) (ok : al_Ok x A cc own nL fr lo c s) (d : decode cc pc = .ok (.invokevirtual i, 3)) (M : Met (xl x) y (sm_ws y b mL (some .long)) (sm_rm fr' lo') (va_Pc (.ref q :: As) (sm_Wd sy wc S)) (sm_Pl sy wc out) 0 0 (sm_wA sy wc)) (hX : ∀ H : Heap, ∀ locs : List Loc, va_S A (xs x).heap H locs → ∀ U : State, U.heap = H → (xs x).WarmedH U.vm → sy.2.2.2 wc U) (hst : sm_stb sy wc) (h0 : 0 < sy.2.2.1) (hq : wc.2.2 0 = q) (hc0 : sm_cel sy wc S 0 = .inr (ci, fs)) (hcl : sm_cl[ci]? = some (y.cls, T, nn)) (w : Cond.methodLink own i y ∈ sm_GW) (mw : sm_MW y b mL (some .long) n) (hfr : fr' + 1 ≤ fr) (hlo : 8 + (mL + 11) + lo' ≤ lo) (hn : As.length = n) (hstk : stk = As.reverse ++ .ref q :: rest) (hrm : (rest.map fun v => v.category).sum ≤ 8) (hc : c0 ≤ c) (hs : s0 ≤ s) (kk : al_W x A (sm_pic sy wc out.2 ++ Y) c0 s0 Q (pc + 3) lv (.long out.1 :: rest)) : al_W x A (sm_pic sy wc S ++ Y) c0 s0 Q pc lv stk := fun H locs ls hP hD hS hl => by
  have front : ∀ (k : Nat) (z : Nat × va_E), (sm_pic sy wc S)[k]? = some z → (sm_pic sy wc S ++ Y)[k]? = some z := fun k z hz => by
    rw [List.getElem?_append_left (List.getElem?_eq_some_iff.mp hz).1]
    exact hz
  have hP0 : va_P (xw x).1 sm_cl (sm_pic sy wc S) H := fun k z hz => hP k z (front k z hz)
  have hA : ∀ a, sm_wA sy wc a → A a := by
    rintro a ⟨i, hi, rfl⟩
    exact hD.2 i _ (front i _ (sm_pic_at hi))
  refine va_calll (va_runV (As := As) (rest := rest) (nL := xn x) ⟨ok.1, ok.2.1, ok.2.2.1, ok.2.2.2.1, ok.2.2.2.2.1⟩ M ⟨⟨rfl, rfl, Nat.le_trans hfr ok.2.2.2.2.2.2.2.1, Nat.le_trans hlo ok.2.2.2.2.2.2.2.2.1, al_pay ok mw.2.2.2.1, List.mem_cons_self, ok.2.2.2.2.1 _ mw.2.2.2.1, ok.2.2.2.2.1 _ mw.2.2.1, mw.2.2.2.2.1, fun sig h => by have hd := mw.2.2.2.2.2; rw [h] at hd; exact (Option.some.inj hd).symm, ok.2.2.2.2.1 _ w⟩, ok.2.2.2.2.1 _ mw.1, ok.2.2.2.2.1 _ mw.2.1⟩ ⟨sm_blind hst, va_recv ok.2.2.2.2.2.1 hP0 hcl (q0 := 0) (by rw [sm_pic_at h0, hq, hc0]), fun U hU hW => ⟨rfl, by rw [hU, hwc.1]; exact hP0, by rw [hwc.1, hwc.2]; exact va_K.moved hW.alike ok.2.2.2.2.2.1, hX H locs hS U hU hW⟩⟩ rfl hn hl.1 hstk (lv_room hrm) d ⟨Nat.le_trans hc (al_okc ok), Nat.le_trans hs (al_oks ok)⟩) hS (fun a _ h => hA a h) hA (fun r u t H1 locs1 ht hvm hw hB hz hk hS1 => ?_)
  obtain ⟨hr, hu⟩ := hw
  subst hr
  subst hu
  have hB1 := hB.1
  rw [ht, hwc.1] at hB1
  obtain ⟨j1, j2⟩ := al_joinF hP hD hk hB1
  exact kk H1 locs1 ls j1 j2 hS1 hl
theorem lw_o9 {wc : sm_Wc} {X : sm_St} : sm_cel zx_sy wc X 0 = .inr (9, sm_fs wc.2.2 (X.1 0) 0 0 (zx_sy.2.1 9)) := sm_cel_o (m := 0) rfl
theorem lw_o10 {wc : sm_Wc} {X : sm_St} : sm_cel zm_sy wc X 0 = .inr (10, sm_fs wc.2.2 (X.1 0) 0 0 (zm_sy.2.1 10)) := sm_cel_o (m := 0) rfl
section
variable {y : MethodName} {b' : ByteArray} {mL n i' fr' lo' : Nat} {As rest stk : List Value}
theorem lw_cx {out : Int32 × sm_St} (K : lw_K x A b L t wx wm) (d : decode code pc = .ok (.invokevirtual i', 3)) (M : Met (xl x) y (sm_ws y b' mL (some .int)) (sm_rm fr' lo') (va_Pc (.ref (wx.2.2 0) :: As) (sm_Wd zx_sy wx X)) (sm_Pi zx_sy wx out) 0 0 (sm_wA zx_sy wx)) (hy : y.cls = "LentShades") (w : Cond.methodLink "LentShadesLaw" i' y ∈ sm_GW) (mw : sm_MW y b' mL (some .int) n) (hfr : fr' + 1 ≤ 14) (hlo : 8 + (mL + 11) + lo' ≤ 516) (hn : As.length = n) (hstk : stk = As.reverse ++ .ref (wx.2.2 0) :: rest) (hrm : (rest.map fun v => v.category).sum ≤ 8) (hc : c0 ≤ 600000) (hs : s0 ≤ 7302250) (kk : al_W x A (sm_pic zx_sy wx out.2 ++ Y) c0 s0 Q (pc + 3) lv (.int out.1 :: rest)) : al_W x A (sm_pic zx_sy wx X ++ Y) c0 s0 Q pc lv stk :=
  al_callW (ci := 9) (T := zc_T9) (nn := 14) K.2.2.2.2.1 K.1 d M (lw_hX K) (zx_stb wx) (by decide) rfl lw_o9 (by rw [hy]; rfl) w mw hfr hlo hn hstk hrm hc hs kk
theorem lw_cxl {out : Int64 × sm_St} (K : lw_K x A b L t wx wm) (d : decode code pc = .ok (.invokevirtual i', 3)) (M : Met (xl x) y (sm_ws y b' mL (some .long)) (sm_rm fr' lo') (va_Pc (.ref (wx.2.2 0) :: As) (sm_Wd zx_sy wx X)) (sm_Pl zx_sy wx out) 0 0 (sm_wA zx_sy wx)) (hy : y.cls = "LentShades") (w : Cond.methodLink "LentShadesLaw" i' y ∈ sm_GW) (mw : sm_MW y b' mL (some .long) n) (hfr : fr' + 1 ≤ 14) (hlo : 8 + (mL + 11) + lo' ≤ 516) (hn : As.length = n) (hstk : stk = As.reverse ++ .ref (wx.2.2 0) :: rest) (hrm : (rest.map fun v => v.category).sum ≤ 8) (hc : c0 ≤ 600000) (hs : s0 ≤ 7302250) (kk : al_W x A (sm_pic zx_sy wx out.2 ++ Y) c0 s0 Q (pc + 3) lv (.long out.1 :: rest)) : al_W x A (sm_pic zx_sy wx X ++ Y) c0 s0 Q pc lv stk :=
  al_callWl (ci := 9) (T := zc_T9) (nn := 14) K.2.2.2.2.1 K.1 d M (lw_hX K) (zx_stb wx) (by decide) rfl lw_o9 (by rw [hy]; rfl) w mw hfr hlo hn hstk hrm hc hs kk
theorem lw_cm {out : Int32 × sm_St} (K : lw_K x A b L t wx wm) (d : decode code pc = .ok (.invokevirtual i', 3)) (M : Met (xl x) y (sm_ws y b' mL (some .int)) (sm_rm fr' lo') (va_Pc (.ref (wm.2.2 0) :: As) (sm_Wd zm_sy wm S)) (sm_Pi zm_sy wm out) 0 0 (sm_wA zm_sy wm)) (hy : y.cls = "LentShadesModel") (w : Cond.methodLink "LentShadesLaw" i' y ∈ sm_GW) (mw : sm_MW y b' mL (some .int) n) (hfr : fr' + 1 ≤ 14) (hlo : 8 + (mL + 11) + lo' ≤ 516) (hn : As.length = n) (hstk : stk = As.reverse ++ .ref (wm.2.2 0) :: rest) (hrm : (rest.map fun v => v.category).sum ≤ 8) (hc : c0 ≤ 600000) (hs : s0 ≤ 7302250) (kk : al_W x A (sm_pic zm_sy wm out.2 ++ Y) c0 s0 Q (pc + 3) lv (.int out.1 :: rest)) : al_W x A (sm_pic zm_sy wm S ++ Y) c0 s0 Q pc lv stk :=
  al_callW (ci := 10) (T := zc_T10) (nn := 32) K.2.2.2.2.2.1 K.1 d M (fun _ _ _ _ _ _ => trivial) (zm_stb wm) (by decide) rfl lw_o10 (by rw [hy]; rfl) w mw hfr hlo hn hstk hrm hc hs kk
theorem lw_cml {out : Int64 × sm_St} (K : lw_K x A b L t wx wm) (d : decode code pc = .ok (.invokevirtual i', 3)) (M : Met (xl x) y (sm_ws y b' mL (some .long)) (sm_rm fr' lo') (va_Pc (.ref (wm.2.2 0) :: As) (sm_Wd zm_sy wm S)) (sm_Pl zm_sy wm out) 0 0 (sm_wA zm_sy wm)) (hy : y.cls = "LentShadesModel") (w : Cond.methodLink "LentShadesLaw" i' y ∈ sm_GW) (mw : sm_MW y b' mL (some .long) n) (hfr : fr' + 1 ≤ 14) (hlo : 8 + (mL + 11) + lo' ≤ 516) (hn : As.length = n) (hstk : stk = As.reverse ++ .ref (wm.2.2 0) :: rest) (hrm : (rest.map fun v => v.category).sum ≤ 8) (hc : c0 ≤ 600000) (hs : s0 ≤ 7302250) (kk : al_W x A (sm_pic zm_sy wm out.2 ++ Y) c0 s0 Q (pc + 3) lv (.long out.1 :: rest)) : al_W x A (sm_pic zm_sy wm S ++ Y) c0 s0 Q pc lv stk :=
  al_callWl (ci := 10) (T := zc_T10) (nn := 32) K.2.2.2.2.2.1 K.1 d M (fun _ _ _ _ _ _ => trivial) (zm_stb wm) (by decide) rfl lw_o10 (by rw [hy]; rfl) w mw hfr hlo hn hstk hrm hc hs kk
end
end
/-! the two worlds at the start -/
theorem lw_atL {sy : sm_Sy} {wc : sm_Wc} {S : sm_St} {Y : va_W} {i : Nat} (h : i < sy.2.2.1) : (sm_pic sy wc S ++ Y)[i]? = some (wc.2.2 i, sm_cel sy wc S i) := by
  rw [List.getElem?_append_left (by simpa [sm_pic] using h)]
  exact sm_pic_at h
theorem lw_injL {A : Nat → Prop} {sy : sm_Sy} {wc : sm_Wc} {S : sm_St} {Y : va_W} (hD : va_D A (sm_pic sy wc S ++ Y)) : sm_inj sy wc := fun i j hi hj e => hD.1 i j _ _ (lw_atL hi) (lw_atL hj) e
theorem lw_injR {A : Nat → Prop} {sy : sm_Sy} {wc : sm_Wc} {S : sm_St} {Y : va_W} (hD : va_D A (Y ++ sm_pic sy wc S)) : sm_inj sy wc := by
  have h : va_D A (([] : va_W) ++ Y ++ sm_pic sy wc S) := hD
  exact lw_injL (show va_D A (sm_pic sy wc S ++ Y) from va_D.swap h)
theorem lw_ad {D : va_G} {cA f r e : Nat → Nat} {cl : List vw_C} {A : Nat → Prop} {Y : va_W} {H : Heap} (hP : va_P D cl (al_pic (D, cA, f) 0 147 r ++ Y) H) (hD : va_D A (al_pic (D, cA, f) 0 147 r ++ Y)) : va_P D cl (sm_pic zx_sy (D, cA, al_ad r e) al_X0 ++ Y) H ∧ va_D A (sm_pic zx_sy (D, cA, al_ad r e) al_X0 ++ Y) := by
  rw [al_pic_0] at hP hD
  have hP0 : va_P D cl (sm_pic zx_sy (D, cA, r) al_X0) H := fun k z hz => hP k z (by
    rw [List.getElem?_append_left (List.getElem?_eq_some_iff.mp hz).1]
    exact hz)
  have hD0 : va_D A (sm_pic zx_sy (D, cA, r) al_X0) := ⟨fun i j p q hi hj e => hD.1 i j p q (by
    rw [List.getElem?_append_left (List.getElem?_eq_some_iff.mp hi).1]
    exact hi) (by
    rw [List.getElem?_append_left (List.getElem?_eq_some_iff.mp hj).1]
    exact hj) e, fun k z hz => hD.2 k z (by
    rw [List.getElem?_append_left (List.getElem?_eq_some_iff.mp hz).1]
    exact hz)⟩
  obtain ⟨j1, j2⟩ := al_pic_r (e := e) hP0 hD0
  refine ⟨j1.app (fun k z hz => hP ((sm_pic zx_sy (D, cA, r) al_X0).length + k) z (by
    rw [List.getElem?_append_right (Nat.le_add_right _ _), Nat.add_sub_cancel_left]
    exact hz)), al_Da ?_ hD⟩
  rw [List.map_append, List.map_append]
  congr 1
