theorem al_over_mv {t : FieldType} {u U : State} (hvm : u.vm.Alike U.vm) (h : al_over t u) : al_over t U := by
  have e : (Cond.arrayOver t).before #[] U = (Cond.arrayOver t).before #[] (u.setVm U.vm) := by
    unfold Cond.before Cond.holds
    rfl
  unfold al_over
  rw [e, Cond.arrayOver_setVmC hvm]
  exact h
theorem al_ex_mv {u U : State} (hW : u.WarmedH U.vm) (h : al_ex u) : al_ex U := ⟨fun q hm => va_Nw.warmM hW (h.1 q hm), h.2.1.moved hW.alike, h.2.2.1.moved hW.alike, al_over_mv hW.alike h.2.2.2⟩
theorem al_ex_vm {u U : State} (hv : U.vm = u.vm) (h : al_ex u) : al_ex U := by
  have ha : u.vm.Alike U.vm := by rw [hv]; exact Vm.Alike.refl _
  exact ⟨fun q hm => va_Nw.same rfl hv.symm (h.1 q hm), h.2.1.moved ha, h.2.2.1.moved ha, al_over_mv ha h.2.2.2⟩
section
variable {x : sm_Cx} {A : Nat → Prop} {cc : ByteArray} {X : va_W} {c s c0 s0 c1 s1 : Nat} {Q : State → Prop} {pc : Nat} {lv lv' : List (Nat × Value)} {st : List Value} {own : String} {nL fr lo : Nat}
/-- a field of the object that is made -/
theorem al_putF {k i n ci a : Nat} {C : String} {T : u_T} {v : Value} {fs : List Value} (ok : al_Ok x A cc own nL fr lo c s) (d : decode cc pc = .ok (.putfield i, 3)) (hc : sm_cl[ci]? = some (C, T, n)) (hin : ∀ w ∈ u_ws C T n, w ∈ sm_GW) (ty : Nat → FieldType) (hty : ∀ k, k < n → parseFieldDescriptor (T k).2.2.1 = some (ty k)) (hnm : ∀ a, a < n → ∀ b, b < n → a ≠ b → (T a).2.1 ≠ (T b).2.1) (hk : k < n) (hfin : (T k).2.2.2 = true) (hi : (xh x).name = "<init>") (hdecl : (T k).1 = own) (w : Cond.fieldLink own i (T k).1 (T k).2.1 (T k).2.2.1 ∈ sm_GW) (hnar : narrow (ty k) v = v) (hfit : fits (ty k) v = true) (hl : k < fs.length) (kk : al_W x A ((a, .inr (ci, fs.set k v)) :: X) c0 s0 Q (pc + 3) lv st) : al_W x A ((a, .inr (ci, fs)) :: X) c0 s0 Q pc lv (v :: .ref a :: st) := fun H locs ls hP hD hS hlv =>
  va_putF (ty := ty k) ok.1 ok.2.1 ok.2.2.2.2.1 hin ty hty hnm ok.2.2.2.1 ok.2.2.2.2.2.1 hP hD hS 0 rfl hc k hk (ok.2.2.2.2.1 _ w) (fun _ h => h) hfin hi hdecl (hty k hk) hnar hfit hl d (fun H1 locs1 hP1 hD1 hS1 => kk H1 locs1 ls hP1 hD1 hS1 hlv)
theorem al_putI {k i n ci a : Nat} {C : String} {T : u_T} {v : Value} {fs : List Value} (ok : al_Ok x A cc own nL fr lo c s) (d : decode cc pc = .ok (.putfield i, 3)) (hc : sm_cl[ci]? = some (C, T, n)) (hin : ∀ w ∈ u_ws C T n, w ∈ sm_GW) (ty : Nat → FieldType) (hty : ∀ k, k < n → parseFieldDescriptor (T k).2.2.1 = some (ty k)) (hnm : ∀ a, a < n → ∀ b, b < n → a ≠ b → (T a).2.1 ≠ (T b).2.1) (hk : k < n) (hfin : (T k).2.2.2 = false) (w : Cond.fieldLink own i (T k).1 (T k).2.1 (T k).2.2.1 ∈ sm_GW) (hnar : narrow (ty k) v = v) (hfit : fits (ty k) v = true) (hl : k < fs.length) (kk : al_W x A ((a, .inr (ci, fs.set k v)) :: X) c0 s0 Q (pc + 3) lv st) : al_W x A ((a, .inr (ci, fs)) :: X) c0 s0 Q pc lv (v :: .ref a :: st) := fun H locs ls hP hD hS hlv =>
  va_put (ty := ty k) ok.1 ok.2.1 ok.2.2.2.2.1 hin ty hty hnm ok.2.2.2.1 ok.2.2.2.2.2.1 hP hD hS 0 rfl hc k hk (ok.2.2.2.2.1 _ w) (fun _ h => h) hfin (hty k hk) hnar hfit hl d (fun H1 locs1 hP1 hD1 hS1 => kk H1 locs1 ls hP1 hD1 hS1 hlv)
theorem al_get {k i n ci a : Nat} {C : String} {T : u_T} {v : Value} {fs : List Value} (ok : al_Ok x A cc own nL fr lo c s) (d : decode cc pc = .ok (.getfield i, 3)) (hc : sm_cl[ci]? = some (C, T, n)) (hin : ∀ w ∈ u_ws C T n, w ∈ sm_GW) (hk : k < n) (w : Cond.fieldLink own i (T k).1 (T k).2.1 (T k).2.2.1 ∈ sm_GW) (hv : fs[k]? = some v) (kk : al_W x A ((a, .inr (ci, fs)) :: X) c0 s0 Q (pc + 3) lv (v :: st)) : al_W x A ((a, .inr (ci, fs)) :: X) c0 s0 Q pc lv (.ref a :: st) := fun H locs ls hP hD hS hlv =>
  va_get ok.1 ok.2.1 ok.2.2.2.2.1 hin ok.2.2.2.1 ok.2.2.2.2.2.1 hP 0 rfl hc k hk (ok.2.2.2.2.1 _ w) (fun _ h => h) hv d (kk H locs ls hP hD hS hlv)
theorem al_iast {a n : Nat} {f : Nat → Int32} {i v : Int32} (q0 : Nat) (ok : al_Ok x A cc own nL fr lo c s) (d : decode cc pc = .ok (.iastore, 1)) (ha : X[q0]? = some (a, .inl ((xw x).2.1 0, n, .inl f))) (hin : sm_in i n = true) (kk : al_W x A (X.set q0 (a, .inl ((xw x).2.1 0, n, .inl (upd f i.toNatClampNeg v)))) c0 s0 Q (pc + 1) lv st) : al_W x A X c0 s0 Q pc lv (.int v :: .int i :: .ref a :: st) := fun H locs ls hP hD hS hlv =>
  va_iast ok.1 ok.2.1 ok.2.2.2.2.2.1 hP hD hS q0 0 ha rfl (sm_in_vp hin) d (fun H1 locs1 hP1 hD1 hS1 => kk H1 locs1 ls hP1 hD1 hS1 hlv)
theorem al_aastS {a n b : Nat} {f : Nat → Option Nat} {i : Int32} {vs : List Value} (q0 qk : Nat) (ok : al_Ok x A cc own nL fr lo c s) (d : decode cc pc = .ok (.aastore, 1)) (ha : X[q0]? = some (a, .inl ((xw x).2.1 3, n, .inr (.inr (.inr (.inr f)))))) (hb : X[qk]? = some (b, .inr (6, vs))) (hin : sm_in i n = true) (kk : al_W x A (X.set q0 (a, .inl ((xw x).2.1 3, n, .inr (.inr (.inr (.inr (va_up f i.toNatClampNeg (some b)))))))) c0 s0 Q (pc + 1) lv st) : al_W x A X c0 s0 Q pc lv (.ref b :: .int i :: .ref a :: st) := fun H locs ls hP hD hS hlv =>
  va_astq (r := (zc_R6, zc_T6, 2)) ok.1 ok.2.1 ok.2.2.2.2.2.1 hP hD hS q0 3 qk 6 ha rfl hb rfl (sm_in_vp hin) d (fun H1 locs1 hP1 hD1 hS1 => kk H1 locs1 ls hP1 hD1 hS1 hlv)
theorem al_aastH {a n b : Nat} {f : Nat → Option Nat} {i : Int32} {vs : List Value} (q0 qk : Nat) (ok : al_Ok x A cc own nL fr lo c s) (d : decode cc pc = .ok (.aastore, 1)) (ha : X[q0]? = some (a, .inl ((xw x).2.1 4, n, .inr (.inr (.inr (.inr f)))))) (hb : X[qk]? = some (b, .inr (2, vs))) (hin : sm_in i n = true) (kk : al_W x A (X.set q0 (a, .inl ((xw x).2.1 4, n, .inr (.inr (.inr (.inr (va_up f i.toNatClampNeg (some b)))))))) c0 s0 Q (pc + 1) lv st) : al_W x A X c0 s0 Q pc lv (.ref b :: .int i :: .ref a :: st) := fun H locs ls hP hD hS hlv =>
  va_astq (r := (zc_R2, zc_T2, 14)) ok.1 ok.2.1 ok.2.2.2.2.2.1 hP hD hS q0 4 qk 2 ha rfl hb rfl (sm_in_vp hin) d (fun H1 locs1 hP1 hD1 hS1 => kk H1 locs1 ls hP1 hD1 hS1 hlv)
/-- the object's own base -/
theorem al_obj {a i : Nat} (ok : al_Ok x A cc own nL fr lo c s) (d : decode cc pc = .ok (.invokespecial i, 3)) (w1 : Cond.methodLink own i objectInit ∈ sm_GW) (w2 : Cond.instanceMethod objectInit ∈ sm_GW) (w3 : Cond.code objectInit ⟨#[0xb1]⟩ 1 none ∈ sm_GW) (hfr : 1 ≤ fr) (hlo : 12 ≤ lo) (kk : al_W x A X c0 s0 Q (pc + 3) lv []) : al_W x A X c0 s0 Q pc lv [.ref a] := fun H locs ls hP hD hS hlv =>
  W.objInit ok.1 ok.2.1 ok.2.2.2.1 (ok.2.2.2.2.1 _ w1) (ok.2.2.2.2.1 _ w2) (ok.2.2.2.2.1 _ w3) rfl (by rw [ok.2.2.1]; exact hlv.1) rfl d (Nat.le_trans hfr ok.2.2.2.2.2.2.2.1) (Nat.le_trans hlo ok.2.2.2.2.2.2.2.2.1) (kk H locs ls hP hD hS hlv)
/-- behind a call: the rest, and what the call made -/
theorem al_join {D : va_G} {cl : List vw_C} {w1 : va_W} {q : Nat × va_E} {H H1 : Heap} (hP : va_P D cl (X ++ [q]) H) (hD : va_D A (X ++ [q])) (hk : ∀ a : Nat, a < H.size → ¬ va_A [q] H.size a → H1[a]? = H[a]?) (hF : ∀ a, va_A [q] H.size a → A a) (hP1 : va_P D cl w1 H1) (hD1 : va_D (va_A [q] H.size) w1) : va_P D cl (X ++ w1) H1 ∧ va_D A (X ++ w1) := by
  have at0 : ∀ (k : Nat) (z : Nat × va_E), X[k]? = some z → (X ++ [q])[k]? = some z := fun k z hz => by
    rw [List.getElem?_append_left (List.getElem?_eq_some_iff.mp hz).1]
    exact hz
  have last : (X ++ [q])[X.length]? = some q := by simp
  have far : ∀ (k : Nat) (z : Nat × va_E), X[k]? = some z → z.1 < H.size ∧ ¬ va_A [q] H.size z.1 := fun k z hz => by
    have hlt := (hP k z (at0 k z hz)).lt
    refine ⟨hlt, fun h => ?_⟩
    rcases h with ⟨j, e, hj⟩ | h
    · have hj0 : j < 1 := (List.getElem?_eq_some_iff.mp hj).1
      obtain rfl : j = 0 := by omega
      have e0 : q = (z.1, e) := Option.some.inj hj
      have := hD.1 k X.length z q (at0 k z hz) last (by rw [e0])
      have := (List.getElem?_eq_some_iff.mp hz).1
      omega
    · exact absurd hlt (Nat.not_lt.mpr h)
  have hPX : va_P D cl X H1 := va_P.kept (H := H) (fun k z hz => hP k z (at0 k z hz)) (fun k z hz => hk z.1 (far k z hz).1 (far k z hz).2)
  have hDX : va_D A X := ⟨fun i j p r hi hj e => hD.1 i j p r (at0 i p hi) (at0 j r hj) e, fun k z hz => hD.2 k z (at0 k z hz)⟩
  refine ⟨hPX.app hP1, hDX.app (hD1.weaken (fun _ _ _ h => hF _ h)) (fun i j p r hi hj e => ?_)⟩
  exact (far i p hi).2 (by rw [e]; exact hD1.2 j r hj)
end
