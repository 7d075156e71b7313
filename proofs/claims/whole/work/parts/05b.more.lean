section
variable {x : sm_Cx} {sy : sm_Sy} {cc : ByteArray} {O : Type} {Qf : O → State → Prop} {o o1 o2 : Option O} {S : sm_St} {pc : Nat} {lv lv' : List (Nat × Value)} {st : List Value} {own : String} {nL fr lo : Nat}
theorem sm_tag {q t n : Nat} (h : sy.1 q = (t, n)) : (sy.1 q).1 = t := by rw [h]
theorem sm_topr {v : Nat} {f : Nat → Option O} (k : ∀ v : Nat, sm_Sm x sy cc Qf (f v) S pc lv (.ref ((xw x).2.2 v) :: st)) : sm_Sm x sy cc Qf (sm_lt v f) S pc lv (.ref ((xw x).2.2 v) :: st) := k v
theorem sm_aload_nN {j : Fin 4} (q : Nat) (ok : sm_Ok x sy cc own nL fr lo) (d : decode cc pc = .ok (.aload_n j, 1)) (h : lv[q]? = some ((j : Nat), .null)) (k : sm_Sm x sy cc Qf o S (pc + 1) lv (.null :: st)) : sm_Sm x sy cc Qf o S pc lv st := fun out ho H locs ls hP hS hl => lv_aload_nN ok.1 ok.2.1 d rfl (lv_at hl q h) (k out ho H locs ls hP hS hl)
theorem sm_null (ok : sm_Ok x sy cc own nL fr lo) (d : decode cc pc = .ok (.aconst_null, 1)) (k : sm_Sm x sy cc Qf o S (pc + 1) lv (.null :: st)) : sm_Sm x sy cc Qf o S pc lv st := fun out ho H locs ls hP hS hl => lv_null ok.1 ok.2.1 d (k out ho H locs ls hP hS hl)
theorem sm_ifnullY {off : Int} (tgt : Nat) (ok : sm_Ok x sy cc own nL fr lo) (d : decode cc pc = .ok (.ifnull off, 3)) (ht : (pc : Int) + off = (tgt : Int)) (k : sm_Sm x sy cc Qf o S tgt lv st) : sm_Sm x sy cc Qf o S pc lv (.null :: st) := fun out ho H locs ls hP hS hl => lv_ifnullN ok.1 ok.2.1 d ht (k out ho H locs ls hP hS hl)
theorem sm_ifnullN {off : Int} {a : Nat} (ok : sm_Ok x sy cc own nL fr lo) (d : decode cc pc = .ok (.ifnull off, 3)) (k : sm_Sm x sy cc Qf o S (pc + 3) lv st) : sm_Sm x sy cc Qf o S pc lv (.ref a :: st) := fun out ho H locs ls hP hS hl => lv_ifnull ok.1 ok.2.1 d (k out ho H locs ls hP hS hl)
theorem sm_iushr {a b : Int32} (ok : sm_Ok x sy cc own nL fr lo) (d : decode cc pc = .ok (.iushr, 1)) (k : sm_Sm x sy cc Qf o S (pc + 1) lv (.int ((a.toUInt32 >>> (b.toUInt32 &&& Int32.toUInt32 31)).toInt32) :: st)) : sm_Sm x sy cc Qf o S pc lv (.int b :: .int a :: st) := fun out ho H locs ls hP hS hl => lv_iushr ok.1 ok.2.1 d rfl (k out ho H locs ls hP hS hl)
theorem sm_ldcw {i : Nat} {v : Int32} (ok : sm_Ok x sy cc own nL fr lo) (d : decode cc pc = .ok (.ldc_w i, 3)) (w : Cond.constant own i v ∈ sm_GW) (k : sm_Sm x sy cc Qf o S (pc + 3) lv (.int v :: st)) : sm_Sm x sy cc Qf o S pc lv st := fun out ho H locs ls hP hS hl => lv_ldcw ok.1 ok.2.1 ok.2.2.2.1 (ok.2.2.2.2.1 _ w) d (k out ho H locs ls hP hS hl)
theorem sm_acmp_ne {f b t1 n1 t2 n2 : Nat} {off : Int} (tgt : Nat) (ok : sm_Ok x sy cc own nL fr lo) (d : decode cc pc = .ok (.if_acmp .ne off, 3)) (ht : (pc : Int) + off = (tgt : Int)) (h1 : sy.1 f = (10 + t1, n1)) (h2 : sy.1 b = (10 + t2, n2)) (kt : ¬ f = b → sm_Sm x sy cc Qf o2 S tgt lv st) (kf : f = b → sm_Sm x sy cc Qf o1 S (pc + 3) lv st) : sm_Sm x sy cc Qf (if f = b then o1 else o2) S pc lv (.ref ((xw x).2.2 b) :: .ref ((xw x).2.2 f) :: st) := fun out ho H locs ls hP hS hl =>
  lv_acmp_ne (rx := some ((xw x).2.2 f)) (ry := some ((xw x).2.2 b)) ok.1 ok.2.1 d ht (fun h => by
    have hne : ¬ f = b := fun q => h (by rw [q])
    rw [if_neg hne] at ho
    exact kt hne out ho H locs ls hP hS hl) (fun h => by
    have he : f = b := sm_okj ok f b (sm_okp ok h1 (by omega)) (sm_okp ok h2 (by omega)) (Option.some.inj h)
    rw [if_pos he] at ho
    exact kf he out ho H locs ls hP hS hl)
def sm_cpk (a b n : Int32) (n0 n1 : Nat) : Bool := decide (¬ a < 0) && decide (¬ b < 0) && decide (¬ n < 0) && decide (a.toNatClampNeg + n.toNatClampNeg ≤ n0) && decide (b.toNatClampNeg + n.toNatClampNeg ≤ n1)
theorem sm_acopy {i q0 q1 n0 n1 : Nat} {a b n : Int32} {f : sm_St → Option O} (ok : sm_Ok x sy cc own nL fr lo) (d : decode cc pc = .ok (.invokestatic i, 3)) (w1 : Cond.methodLink own i arraycopyName ∈ sm_GW) (w2 : Cond.native arraycopyName ∈ sm_GW) (w3 : Cond.static arraycopyName ∈ sm_GW) (w4 : Cond.initialized "java/lang/System" ∈ sm_GW) (h0 : sy.1 q0 = (0, n0)) (h1 : sy.1 q1 = (0, n1)) (hf : 1 ≤ fr) (hlo : (st.map fun v => v.category).sum + 18 ≤ lo) (hnf : nativeFrameWords "java/lang/System" "arraycopy" 5 + 11 = 18)
    (kk : ∀ S : sm_St, sm_Sm x sy cc Qf (f S) S (pc + 3) lv st) : sm_Sm x sy cc Qf (if sm_cpk a b n n0 n1 = true then sm_lt (sm_sF S q1 (va_cpy (S.1 q0) (S.1 q1) a.toNatClampNeg b.toNatClampNeg n.toNatClampNeg)) f else none) S pc lv (.int n :: .int b :: .ref ((xw x).2.2 q1) :: .int a :: .ref ((xw x).2.2 q0) :: st) := sm_ck fun hb out ho H locs ls hP hS hl => by
  unfold sm_cpk at hb
  simp only [Bool.and_eq_true, decide_eq_true_eq] at hb
  exact va_copyi (ty := .int) ok.1 ok.2.1 (ok.2.2.1.trans hl.1.symm) ok.2.2.2.1 (ok.2.2.2.2.1 _ w1) (ok.2.2.2.2.1 _ w2) (ok.2.2.2.2.1 _ w3) (ok.2.2.2.2.1 _ w4) (sm_okK ok) hP (sm_okD ok S) hS q0 q1 0 0 (by rw [sm_pic_at (sm_okp ok h0 (by omega)), sm_cel_i h0]) (by rw [sm_pic_at (sm_okp ok h1 (by omega)), sm_cel_i h1]) rfl rfl rfl hb.1.1.1.1 hb.1.1.1.2 hb.1.1.2 hb.1.2 hb.2 (fun _ _ => rfl) (Nat.le_trans hf ok.2.2.2.2.2.2.2.2.1) (by rw [hnf]; exact Nat.le_trans hlo ok.2.2.2.2.2.2.2.2.2.1) d (fun H1 locs1 hP1 _ hS1 => kk _ out ho H1 locs1 ls (by rw [sm_fset (sm_okp ok h1 (by omega)) h1] at hP1; exact hP1) hS1 hl)
theorem sm_nti {v : Int32} {k : Int32} {n : Int} (hk : k.toInt = n) (h : ¬ v = k) : v.toInt ≠ n := fun e => h (Int32.toInt_inj.mp (e.trans hk.symm))
theorem sm_switch3 {v : Int32} {o0 o1 o2 od : Option O} {t0 t1 t2 td len : Nat} {f0 f1 f2 fd : Int} (ok : sm_Ok x sy cc own nL fr lo) (d : decode cc pc = .ok (.tableswitch fd 0 2 #[f0, f1, f2], len)) (h : (pc : Int) + f0 = (t0 : Int) ∧ (pc : Int) + f1 = (t1 : Int) ∧ (pc : Int) + f2 = (t2 : Int) ∧ (pc : Int) + fd = (td : Int)) (k0 : v = 0 → sm_Sm x sy cc Qf o0 S t0 lv st) (k1 : v = 1 → sm_Sm x sy cc Qf o1 S t1 lv st) (k2 : v = 2 → sm_Sm x sy cc Qf o2 S t2 lv st) (kd : True → sm_Sm x sy cc Qf od S td lv st) : sm_Sm x sy cc Qf (if v = 0 then o0 else if v = 1 then o1 else if v = 2 then o2 else od) S pc lv (.int v :: st) := fun out ho H locs ls hP hS hl => by
  obtain ⟨e0, e1, e2, ed⟩ := h
  by_cases c0 : v = 0
  · rw [if_pos c0] at ho; subst c0
    exact lv_tableIn ok.1 ok.2.1 d (by decide) (by decide) (off := f0) rfl e0 (k0 rfl out ho H locs ls hP hS hl)
  rw [if_neg c0] at ho
  by_cases c1 : v = 1
  · rw [if_pos c1] at ho; subst c1
    exact lv_tableIn ok.1 ok.2.1 d (by decide) (by decide) (off := f1) rfl e1 (k1 rfl out ho H locs ls hP hS hl)
  rw [if_neg c1] at ho
  by_cases c2 : v = 2
  · rw [if_pos c2] at ho; subst c2
    exact lv_tableIn ok.1 ok.2.1 d (by decide) (by decide) (off := f2) rfl e2 (k2 rfl out ho H locs ls hP hS hl)
  rw [if_neg c2] at ho
  exact lv_tableOut ok.1 ok.2.1 d (by have := sm_nti (n := 0) rfl c0; have := sm_nti (n := 1) rfl c1; have := sm_nti (n := 2) rfl c2; omega) ed (kd trivial out ho H locs ls hP hS hl)
theorem sm_switch5 {v : Int32} {o0 o1 o2 o3 o4 od : Option O} {t0 t1 t2 t3 t4 td len : Nat} {f0 f1 f2 f3 f4 fd : Int} (ok : sm_Ok x sy cc own nL fr lo) (d : decode cc pc = .ok (.tableswitch fd 0 4 #[f0, f1, f2, f3, f4], len)) (h : (pc : Int) + f0 = (t0 : Int) ∧ (pc : Int) + f1 = (t1 : Int) ∧ (pc : Int) + f2 = (t2 : Int) ∧ (pc : Int) + f3 = (t3 : Int) ∧ (pc : Int) + f4 = (t4 : Int) ∧ (pc : Int) + fd = (td : Int)) (k0 : v = 0 → sm_Sm x sy cc Qf o0 S t0 lv st) (k1 : v = 1 → sm_Sm x sy cc Qf o1 S t1 lv st) (k2 : v = 2 → sm_Sm x sy cc Qf o2 S t2 lv st) (k3 : v = 3 → sm_Sm x sy cc Qf o3 S t3 lv st) (k4 : v = 4 → sm_Sm x sy cc Qf o4 S t4 lv st) (kd : True → sm_Sm x sy cc Qf od S td lv st) : sm_Sm x sy cc Qf (if v = 0 then o0 else if v = 1 then o1 else if v = 2 then o2 else if v = 3 then o3 else if v = 4 then o4 else od) S pc lv (.int v :: st) := fun out ho H locs ls hP hS hl => by
  obtain ⟨e0, e1, e2, e3, e4, ed⟩ := h
  by_cases c0 : v = 0
  · rw [if_pos c0] at ho; subst c0
    exact lv_tableIn ok.1 ok.2.1 d (by decide) (by decide) (off := f0) rfl e0 (k0 rfl out ho H locs ls hP hS hl)
  rw [if_neg c0] at ho
  by_cases c1 : v = 1
  · rw [if_pos c1] at ho; subst c1
    exact lv_tableIn ok.1 ok.2.1 d (by decide) (by decide) (off := f1) rfl e1 (k1 rfl out ho H locs ls hP hS hl)
  rw [if_neg c1] at ho
  by_cases c2 : v = 2
  · rw [if_pos c2] at ho; subst c2
    exact lv_tableIn ok.1 ok.2.1 d (by decide) (by decide) (off := f2) rfl e2 (k2 rfl out ho H locs ls hP hS hl)
  rw [if_neg c2] at ho
  by_cases c3 : v = 3
  · rw [if_pos c3] at ho; subst c3
    exact lv_tableIn ok.1 ok.2.1 d (by decide) (by decide) (off := f3) rfl e3 (k3 rfl out ho H locs ls hP hS hl)
  rw [if_neg c3] at ho
  by_cases c4 : v = 4
  · rw [if_pos c4] at ho; subst c4
    exact lv_tableIn ok.1 ok.2.1 d (by decide) (by decide) (off := f4) rfl e4 (k4 rfl out ho H locs ls hP hS hl)
  rw [if_neg c4] at ho
  exact lv_tableOut ok.1 ok.2.1 d (by have := sm_nti (n := 0) rfl c0; have := sm_nti (n := 1) rfl c1; have := sm_nti (n := 2) rfl c2; have := sm_nti (n := 3) rfl c3; have := sm_nti (n := 4) rfl c4; omega) ed (kd trivial out ho H locs ls hP hS hl)
theorem sm_runSN {y : MethodName} {b : ByteArray} {mL n i fr' lo' : Nat} {ret : Option FieldType} {host : String} {As rest : List Value} {stk : List Value} {H : Heap} {locs : List Loc} {ls : Array Slot} {Qc : Array Value → State → Outcome → State → Prop} (ok : sm_Ok x sy cc own nL fr lo) (d : decode cc pc = .ok (.invokestatic i, 3)) (w : va_Nw (.methodLinkNest own i y host) (xs x)) (mw : sm_MS y b mL ret n) (hfr : fr' + 1 ≤ fr) (hlo : 8 + (mL + 11) + lo' ≤ lo) (hn : As.length = n) (hst : stk = As.reverse ++ rest) (hrm : (rest.map fun v => v.category).sum ≤ 8)
    (hM : Met (xl x) y (sm_ws y b mL ret) (sm_rm fr' lo') (va_Pc As (sm_Wd sy (xw x) S)) Qc 0 0 (sm_wA sy (xw x))) (hP : va_P (xw x).1 sm_cl (sm_pic sy (xw x) S) H) (hS : va_S (sm_wA sy (xw x)) (xs x).heap H locs) (hl : lv_has ls (xn x) lv) :
    va_Run (xp x) (xl x) (xe x) (xR x) (xs x) (xm x) (xa x) (xb x) (xh x) (xc x) H locs 0 0 0 0 (F0 (xm x) pc ls stk) rest (Qc As.toArray) (sm_wA sy (xw x)) :=
  va_runSN (As := As) (rest := rest) (nL := xn x) ⟨ok.1, ok.2.1, ok.2.2.1, ok.2.2.2.1, ok.2.2.2.2.1⟩ hM ⟨⟨⟨rfl, rfl, Nat.le_trans hfr ok.2.2.2.2.2.2.2.2.1, Nat.le_trans hlo ok.2.2.2.2.2.2.2.2.2.1, sm_pay ok mw.2.2.1, List.mem_cons_self⟩, ok.2.2.2.2.1 _ mw.2.2.1, ok.2.2.2.2.1 _ mw.2.1, mw.2.2.2.1, fun sig h => by have hd := mw.2.2.2.2; rw [h] at hd; exact (Option.some.inj hd).symm, va_Nw.use rfl w⟩, ok.2.2.2.2.1 _ mw.1, trivial⟩ ⟨sm_blind ok.2.2.2.2.2.2.2.2.2.2.2.2.2, fun U hU hW => ⟨rfl, by rw [hU]; exact hP, va_K.moved hW.alike (sm_okK ok), sm_okX ok hS hU hW⟩⟩ rfl hn hl.1 hst (lv_room hrm) d ⟨Nat.zero_le _, Nat.zero_le _⟩
theorem sm_callSN_i {y : MethodName} {b : ByteArray} {mL n i fr' lo' : Nat} {ret : Option FieldType} {host : String} {rest : List Value} {stk : List Value} {o' : Option (Int32 × sm_St)} {g : Int32 → sm_St → Option O} (As : List Value) (ok : sm_Ok x sy cc own nL fr lo) (d : decode cc pc = .ok (.invokestatic i, 3)) (w : va_Nw (.methodLinkNest own i y host) (xs x)) (mw : sm_MS y b mL ret n) (hfr : fr' + 1 ≤ fr) (hlo : 8 + (mL + 11) + lo' ≤ lo) (hn : As.length = n) (hst : stk = As.reverse ++ rest) (hrm : (rest.map fun v => v.category).sum ≤ 8) (hM : sm_Ct (xl x) sy (xw x) y b mL ret fr' lo' As S (sm_Pi sy (xw x)) o')
    (kk : ∀ (r : Int32) (S : sm_St), sm_Sm x sy cc Qf (g r S) S (pc + 3) lv (.int r :: rest)) : sm_Sm x sy cc Qf (sm_b2 o' g) S pc lv stk := fun out ho H locs ls hP hS hl => by
  cases ho' : o' with
  | none => rw [ho'] at ho; cases ho
  | some q =>
    rw [ho'] at ho
    exact va_calli (sm_runSN ok d w mw hfr hlo hn hst hrm (hM q ho') hP hS hl) hS (fun _ _ h => h) (fun _ h => h) (fun r u t H1 locs1 ht hvm hw hB hz hk hS1 => by
      obtain ⟨hr, hu⟩ := hw
      subst hr
      subst hu
      exact kk _ _ out ho H1 locs1 ls (by rw [← ht]; exact hB.1) hS1 hl)
theorem sm_callSN_v {y : MethodName} {b : ByteArray} {mL n i fr' lo' : Nat} {ret : Option FieldType} {host : String} {rest : List Value} {stk : List Value} {o' : Option sm_St} {g : sm_St → Option O} (As : List Value) (ok : sm_Ok x sy cc own nL fr lo) (d : decode cc pc = .ok (.invokestatic i, 3)) (w : va_Nw (.methodLinkNest own i y host) (xs x)) (mw : sm_MS y b mL ret n) (hfr : fr' + 1 ≤ fr) (hlo : 8 + (mL + 11) + lo' ≤ lo) (hn : As.length = n) (hst : stk = As.reverse ++ rest) (hrm : (rest.map fun v => v.category).sum ≤ 8) (hM : sm_Ct (xl x) sy (xw x) y b mL ret fr' lo' As S (sm_Pv sy (xw x)) o')
    (kk : ∀ (S : sm_St), sm_Sm x sy cc Qf (g S) S (pc + 3) lv rest) : sm_Sm x sy cc Qf (sm_b1 o' g) S pc lv stk := fun out ho H locs ls hP hS hl => by
  cases ho' : o' with
  | none => rw [ho'] at ho; cases ho
  | some q =>
    rw [ho'] at ho
    exact va_callv (sm_runSN ok d w mw hfr hlo hn hst hrm (hM q ho') hP hS hl) hS (fun _ _ h => h) (fun _ h => h) (fun u t H1 locs1 ht hvm hw hB hz hk hS1 => by
      subst hw
      exact kk _ out ho H1 locs1 ls (by rw [← ht]; exact hB.1) hS1 hl)
end
