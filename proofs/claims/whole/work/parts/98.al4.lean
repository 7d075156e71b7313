/-- a contract of a maker: out of the cells W0 come the cells pic -/
def al_Pre (wc : sm_Wc) (W0 : va_W) (sz : Nat) : State → Prop := fun U => U.heap.size = sz ∧ va_P wc.1 sm_cl W0 U.heap ∧ va_K wc.1 sm_cl (sm_tys wc.2.1) U ∧ va_D (fun _ => True) W0 ∧ al_ex U
def al_Ct (l : Launch) (wc : sm_Wc) (y : MethodName) (b : ByteArray) (mL fr lo c s h0 : Nat) (W0 : va_W) (pic : (Nat → Nat) → va_W) : Prop :=
  ∀ sz : Nat, Met l y (sm_ws y b mL none) ({ frames := fr, cells := c, slots := s, locals := lo }) (va_Pc [.ref h0] (al_Pre wc W0 sz)) (va_Qv (fun r : Nat → Nat => r 0 = h0) (fun r t => va_P wc.1 sm_cl (pic r) t.heap ∧ va_D (va_A W0 sz) (pic r)) (va_A W0 sz)) c s (va_A W0 sz)
def al_Q (x : sm_Cx) (A : Nat → Prop) (c s h0 : Nat) (pic : (Nat → Nat) → va_W) : State → Prop := MQ (xb x) (va_Qv (fun r : Nat → Nat => r 0 = h0) (fun r t => va_P (xw x).1 sm_cl (pic r) t.heap ∧ va_D A (pic r)) A) (xa x) (xs x) c s A
theorem al_entry {l : Launch} {wc : sm_Wc} {y : MethodName} {b : ByteArray} {mL fr lo c s h0 : Nat} {W0 : va_W} {pic : (Nat → Nat) → va_W} (hy : plainName y.cls = true) (hlen : 1 ≤ mL) (body : ∀ (x : sm_Cx) (A : Nat → Prop), xw x = wc → xl x = l → (xh x).name = y.name → (xh x).sig.returnType = none → al_Ok x A b y.cls mL fr lo c s → al_W x A W0 0 0 (al_Q x A c s h0 pic) 0 [(0, .ref h0)] []) : al_Ct l wc y b mL fr lo c s h0 W0 pic := by
  intro sz
  refine Met.ofW (cc := b) (maxL := mL) (ret := none) hy rfl ?_
  intro p e s' m args below meth c' s₁ B hml hv
  obtain ⟨rfl, hsz, hP, hK, hD0, hE⟩ := hv
  have hts := atoms_spec (ws := sm_ws y b mL none) B.pre
  have hown : s'.vm.findClass y.cls = some m.cls := findClass_of_methodNamed B.named
  have hnm : meth.name = y.name := (name_of_methodNamed B.named B.method).1
  subst hsz
  have hD := hD0.self (sz := s'.heap.size)
  have hl := lv_entry ([.ref h0]) (n := mL) hlen
  rw [lg_entry_eq]
  generalize (lg_sl ([.ref h0]) ++ List.replicate (mL - (lg_sl ([.ref h0])).length) Slot.unset).toArray = ls at hl ⊢
  exact body (p, l, e, (headSpec (sm_ws y b mL none) ({ frames := fr, cells := c, slots := s, locals := lo })).room, s', m, ([.ref h0] : List Value).toArray, below, meth, c', mL, wc) (va_A W0 s'.heap.size) rfl rfl hnm B.returns ⟨B.exec, B.bytes, hml, hown, fun w hw => hts w (List.mem_cons_of_mem _ hw), hK, hE, Nat.le_refl _, Nat.le_refl _, Nat.le_refl _, Nat.le_refl _, B.notSynchronized, rfl, fun q h => Or.inr h⟩ s'.heap [] ls hP hD va_S.rf hl
section
variable {x : sm_Cx} {A : Nat → Prop} {cc : ByteArray} {X : va_W} {c s c0 s0 c1 s1 : Nat} {Q : State → Prop} {pc : Nat} {lv lv' : List (Nat × Value)} {st : List Value} {own : String} {nL fr lo : Nat}
theorem al_vret {h0 : Nat} {pic : (Nat → Nat) → va_W} (r : Nat → Nat) (hr : (xh x).sig.returnType = none) (ok : al_Ok x A cc own nL fr lo c s) (d : decode cc pc = .ok (.return_, 1)) (h0r : r 0 = h0) (fin : ∀ H, va_P (xw x).1 sm_cl X H → va_D A X → va_P (xw x).1 sm_cl (pic r) H ∧ va_D A (pic r)) : al_W x A X c s (al_Q x A c s h0 pic) pc lv [] := fun H locs ls hP hD hS hl =>
  W.vret ok.1 ok.2.1 hr (fun t ht hW => ⟨⟨r, rfl, h0r, by rw [ht]; exact (fin H hP hD).1, (fin H hP hD).2⟩, hS.F ht⟩) hS.2.2 d ok.2.2.2.2.2.2.2.2.2.2.2.1
theorem al_pay (ok : al_Ok x A cc own nL fr lo c s) {y : MethodName} {b : ByteArray} {mL : Nat} {ret : Option FieldType} (h : Cond.code y b mL ret ∈ sm_GW) : ∀ w ∈ sm_ws y b mL ret, ∀ (a' : Array Value) (U : State), (xs x).WarmedH U.vm → w.before a' U = true := by
  have key : ∀ w ∈ sm_GW, ∀ (a' : Array Value) (U : State), (xs x).WarmedH U.vm → w.before a' U = true := fun w hw a' U hW => word_at hW (good_of_word (List.mem_filter.mp hw).2) (ok.2.2.2.2.1 w hw)
  intro w hw
  rcases List.mem_cons.mp hw with rfl | hw
  · exact key _ h
  · exact key _ hw
theorem al_blind {wc : sm_Wc} {W0 : va_W} {sz h0 : Nat} : FrameBlind (va_Pc [.ref h0] (al_Pre wc W0 sz)) := fun a U g mk q => ⟨q.1, q.2.1, q.2.2.1, va_K.moved (u := U) (U := U.calling g mk a) (Vm.Alike.refl U.vm) q.2.2.2.1, q.2.2.2.2.1, al_ex_vm (u := U) (U := U.calling g mk a) rfl q.2.2.2.2.2⟩
theorem al_one {q : Nat × va_E} {H : Heap} {D : va_G} {cl : List vw_C} (hP : va_P D cl (X ++ [q]) H) (hD : va_D A (X ++ [q])) : va_P D cl [q] H ∧ va_D (fun _ => True) [q] := by
  have last : (X ++ [q])[X.length]? = some q := by simp
  refine ⟨fun k z hz => ?_, fun i j p r hi hj _ => ?_, fun _ _ _ => trivial⟩
  · have h1 : k < 1 := (List.getElem?_eq_some_iff.mp hz).1
    obtain rfl : k = 0 := by omega
    cases hz
    exact hP _ q last
  · have h1 : i < 1 := (List.getElem?_eq_some_iff.mp hi).1
    have h2 : j < 1 := (List.getElem?_eq_some_iff.mp hj).1
    omega
theorem al_freeq {q : Nat × va_E} {H : Heap} {H0 : Heap} {locs : List Loc} (hA : ∀ a : Nat, H0.size ≤ a → A a) (hD : va_D A (X ++ [q])) (hS : va_S A H0 H locs) : ∀ a, va_A [q] H.size a → A a := by
  have last : (X ++ [q])[X.length]? = some q := by simp
  rintro a (⟨k, e, h⟩ | h)
  · have h1 : k < 1 := (List.getElem?_eq_some_iff.mp h).1
    obtain rfl : k = 0 := by omega
    have e0 : q = (a, e) := Option.some.inj h
    have := hD.2 _ q last
    rw [e0] at this
    exact this
  · exact hA a (Nat.le_trans hS.1 h)
/-- a maker is called -/
theorem al_callI {y : MethodName} {b : ByteArray} {mL i fr' lo' cc' ss q : Nat} {e : va_E} {rest : List Value} {pic : (Nat → Nat) → va_W} (ok : al_Ok x A cc own nL fr lo c s) (d : decode cc pc = .ok (.invokespecial i, 3)) (M : al_Ct (xl x) (xw x) y b mL fr' lo' cc' ss q [(q, e)] pic) (w : Cond.methodLink own i y ∈ sm_GW) (w2 : Cond.instanceMethod y ∈ sm_GW) (w3 : Cond.code y b mL none ∈ sm_GW) (w4 : Cond.initialized y.cls ∈ sm_GW) (hn : y.name = "<init>") (hy : y.cls ≠ "java/lang/invoke/MethodHandle" ∧ y.cls ≠ "java/lang/invoke/VarHandle") (hd : (parseMethodDescriptor y.desc).map (fun d => d.parameters.length) = some 0) (hfr : fr' + 1 ≤ fr) (hlo : 8 + (mL + 11) + lo' ≤ lo) (hrm : (rest.map fun v => v.category).sum ≤ 8) (hc1 : c0 + cc' = c1) (hs1 : s0 + ss = s1) (hcl : c1 ≤ c) (hsl : s1 ≤ s) (kk : ∀ r : Nat → Nat, r 0 = q → al_W x A (X ++ pic r) c1 s1 Q (pc + 3) lv rest) : al_W x A (X ++ [(q, e)]) c0 s0 Q pc lv (.ref q :: rest) := fun H locs ls hP hD hS hl => by
  subst hc1
  subst hs1
  obtain ⟨hPc, hDc⟩ := al_one hP hD
  have hF := al_freeq (al_okA ok) hD hS
  refine va_callv (va_runI (As := []) (rest := rest) (nL := xn x) ⟨ok.1, ok.2.1, ok.2.2.1, ok.2.2.2.1, ok.2.2.2.2.1⟩ (M H.size) ⟨⟨rfl, rfl, Nat.le_trans hfr ok.2.2.2.2.2.2.2.1, Nat.le_trans hlo ok.2.2.2.2.2.2.2.2.1, al_pay ok w3, List.mem_cons_self, ok.2.2.2.2.1 _ w3, ok.2.2.2.2.1 _ w4, hy, fun sig h => by rw [h] at hd; exact (Option.some.inj hd).symm, ok.2.2.2.2.1 _ w⟩, hn, ok.2.2.2.2.1 _ w2⟩ ⟨al_blind, fun U hU hW => ⟨rfl, by rw [hU], by rw [hU]; exact hPc, va_K.moved hW.alike ok.2.2.2.2.2.1, hDc, al_ex_mv hW ok.2.2.2.2.2.2.1⟩⟩ rfl rfl hl.1 rfl (lv_room hrm) d ⟨Nat.le_trans hcl (al_okc ok), Nat.le_trans hsl (al_oks ok)⟩) hS (fun a _ h => hF a h) hF (fun u t H1 locs1 ht hvm hw hB hz hk hS1 => ?_)
  obtain ⟨hB1, hB2⟩ := hB
  rw [ht] at hB1
  obtain ⟨j1, j2⟩ := al_join hP hD hk hF hB1 hB2
  exact kk u hw H1 locs1 ls j1 j2 hS1 hl
theorem al_callN {y : MethodName} {b : ByteArray} {mL i fr' lo' cc' ss q : Nat} {e : va_E} {rest : List Value} {pic : (Nat → Nat) → va_W} (ok : al_Ok x A cc own nL fr lo c s) (d : decode cc pc = .ok (.invokespecial i, 3)) (M : al_Ct (xl x) (xw x) y b mL fr' lo' cc' ss q [(q, e)] pic) (w : (own, i, y) ∈ al_nest) (w2 : Cond.instanceMethod y ∈ sm_GW) (w3 : Cond.code y b mL none ∈ sm_GW) (w4 : Cond.initialized y.cls ∈ sm_GW) (hn : y.name = "<init>") (hy : y.cls ≠ "java/lang/invoke/MethodHandle" ∧ y.cls ≠ "java/lang/invoke/VarHandle") (hd : (parseMethodDescriptor y.desc).map (fun d => d.parameters.length) = some 0) (hfr : fr' + 1 ≤ fr) (hlo : 8 + (mL + 11) + lo' ≤ lo) (hrm : (rest.map fun v => v.category).sum ≤ 8) (hc1 : c0 + cc' = c1) (hs1 : s0 + ss = s1) (hcl : c1 ≤ c) (hsl : s1 ≤ s) (kk : ∀ r : Nat → Nat, r 0 = q → al_W x A (X ++ pic r) c1 s1 Q (pc + 3) lv rest) : al_W x A (X ++ [(q, e)]) c0 s0 Q pc lv (.ref q :: rest) := fun H locs ls hP hD hS hl => by
  subst hc1
  subst hs1
  obtain ⟨hPc, hDc⟩ := al_one hP hD
  have hF := al_freeq (al_okA ok) hD hS
  refine va_callv (va_runIN (As := []) (rest := rest) (nL := xn x) (host := "LentShades") ⟨ok.1, ok.2.1, ok.2.2.1, ok.2.2.2.1, ok.2.2.2.2.1⟩ (M H.size) ⟨⟨⟨rfl, rfl, Nat.le_trans hfr ok.2.2.2.2.2.2.2.1, Nat.le_trans hlo ok.2.2.2.2.2.2.2.2.1, al_pay ok w3, List.mem_cons_self⟩, ok.2.2.2.2.1 _ w3, ok.2.2.2.2.1 _ w4, hy, fun sig h => by rw [h] at hd; exact (Option.some.inj hd).symm, va_Nw.use rfl (ok.2.2.2.2.2.2.1.1 _ w)⟩, hn, ok.2.2.2.2.1 _ w2⟩ ⟨al_blind, fun U hU hW => ⟨rfl, by rw [hU], by rw [hU]; exact hPc, va_K.moved hW.alike ok.2.2.2.2.2.1, hDc, al_ex_mv hW ok.2.2.2.2.2.2.1⟩⟩ rfl rfl hl.1 rfl (lv_room hrm) d ⟨Nat.le_trans hcl (al_okc ok), Nat.le_trans hsl (al_oks ok)⟩) hS (fun a _ h => hF a h) hF (fun u t H1 locs1 ht hvm hw hB hz hk hS1 => ?_)
  obtain ⟨hB1, hB2⟩ := hB
  rw [ht] at hB1
  obtain ⟨j1, j2⟩ := al_join hP hD hk hF hB1 hB2
  exact kk u hw H1 locs1 ls j1 j2 hS1 hl
/-- a method of the object itself, over all its cells -/
theorem al_callV {y : MethodName} {b : ByteArray} {mL i fr' lo' q ci n : Nat} {fs : List Value} {T : u_T} {rest : List Value} {pic : (Nat → Nat) → va_W} (ok : al_Ok x A cc own nL fr lo c s) (d : decode cc pc = .ok (.invokevirtual i, 3)) (M : al_Ct (xl x) (xw x) y b mL fr' lo' 0 0 q ((q, .inr (ci, fs)) :: X) pic) (hcl : sm_cl[ci]? = some (y.cls, T, n)) (w : Cond.methodLink own i y ∈ sm_GW) (mw : sm_MW y b mL none 0) (hfr : fr' + 1 ≤ fr) (hlo : 8 + (mL + 11) + lo' ≤ lo) (hrm : (rest.map fun v => v.category).sum ≤ 8) (hc : c0 ≤ c) (hs : s0 ≤ s) (kk : ∀ r : Nat → Nat, r 0 = q → al_W x A (pic r) c0 s0 Q (pc + 3) lv rest) : al_W x A ((q, .inr (ci, fs)) :: X) c0 s0 Q pc lv (.ref q :: rest) := fun H locs ls hP hD hS hl => by
  have hF : ∀ a, va_A ((q, .inr (ci, fs)) :: X) H.size a → A a := by
    rintro a (⟨k, e, h⟩ | h)
    · exact hD.2 k _ h
    · exact al_okA ok a (Nat.le_trans hS.1 h)
  refine va_callv (va_runV (As := []) (rest := rest) (nL := xn x) ⟨ok.1, ok.2.1, ok.2.2.1, ok.2.2.2.1, ok.2.2.2.2.1⟩ (M H.size) ⟨⟨rfl, rfl, Nat.le_trans hfr ok.2.2.2.2.2.2.2.1, Nat.le_trans hlo ok.2.2.2.2.2.2.2.2.1, al_pay ok mw.2.2.2.1, List.mem_cons_self, ok.2.2.2.2.1 _ mw.2.2.2.1, ok.2.2.2.2.1 _ mw.2.2.1, mw.2.2.2.2.1, fun sig h => by have hd := mw.2.2.2.2.2; rw [h] at hd; exact (Option.some.inj hd).symm, ok.2.2.2.2.1 _ w⟩, ok.2.2.2.2.1 _ mw.1, ok.2.2.2.2.1 _ mw.2.1⟩ ⟨al_blind, va_recv ok.2.2.2.2.2.1 hP hcl (q0 := 0) rfl, fun U hU hW => ⟨rfl, by rw [hU], by rw [hU]; exact hP, va_K.moved hW.alike ok.2.2.2.2.2.1, hD.weaken (fun _ _ _ _ => trivial), al_ex_mv hW ok.2.2.2.2.2.2.1⟩⟩ rfl rfl hl.1 rfl (lv_room hrm) d ⟨Nat.le_trans hc (al_okc ok), Nat.le_trans hs (al_oks ok)⟩) hS (fun a _ h => hF a h) hF (fun u t H1 locs1 ht hvm hw hB hz hk hS1 => ?_)
  obtain ⟨hB1, hB2⟩ := hB
  rw [ht] at hB1
  exact kk u hw H1 locs1 ls hB1 (hB2.weaken (fun _ _ _ h => hF _ h)) hS1 hl
end
