/-! constructors: cells one after another -/
def al_nest : List (String × Nat × MethodName) := [("LentShades", 26, ⟨"LentShades$Reader", "<init>", "()V"⟩), ("LentShades", 40, ⟨"LentShades$Sum", "<init>", "()V"⟩), ("LentShades", 47, ⟨"LentShades$Takings", "<init>", "()V"⟩), ("LentShades$Takings", 11, ⟨"LentShades$Sum", "<init>", "()V"⟩), ("LentShades", 54, ⟨"LentShades$Resting", "<init>", "()V"⟩), ("LentShades", 61, ⟨"LentShades$Mover", "<init>", "()V"⟩), ("LentShades", 68, ⟨"LentShades$Chest", "<init>", "()V"⟩)]
def al_over (t : FieldType) (U : State) : Prop := (Cond.arrayOver t).before #[] U = true
/-- what making needs of the tables beyond the good words -/
def al_ex (U : State) : Prop := (∀ q ∈ al_nest, va_Nw (.methodLinkNest q.1 q.2.1 q.2.2 "LentShades") U) ∧ va_AO "LentShades$Shades" U ∧ va_AO "LentShades$House" U ∧ al_over (.array .int) U
def al_Ok (x : sm_Cx) (A : Nat → Prop) (cc : ByteArray) (own : String) (nL fr lo c s : Nat) : Prop :=
  (xp x).tables.exec = Jvm.exec ∧ (xc x).code = cc ∧ (xc x).maxLocals = xn x ∧ (xs x).vm.findClass own = some (xm x).cls ∧ (∀ w ∈ sm_GW, w.before (xa x) (xs x) = true) ∧ va_K (xw x).1 sm_cl (sm_tys (xw x).2.1) (xs x) ∧ al_ex (xs x) ∧ fr ≤ (xR x).frames ∧ lo ≤ (xR x).locals ∧ c ≤ (xR x).cells ∧ s ≤ (xR x).slots ∧ (xh x).locks = false ∧ xn x = nL ∧ ∀ q : Nat, (xs x).heap.size ≤ q → A q
def al_W (x : sm_Cx) (A : Nat → Prop) (X : va_W) (c s : Nat) (Q : State → Prop) (pc : Nat) (lv : List (Nat × Value)) (st : List Value) : Prop := ∀ (H : Heap) (locs : List Loc) (ls : Array Slot), va_P (xw x).1 sm_cl X H → va_D A X → va_S A (xs x).heap H locs → lv_has ls (xn x) lv → W (xp x) (xl x) (xe x) (xR x) (xs x) (xm x) (xa x) (xb x) (xh x) (xc x) H locs c s Q (F0 (xm x) pc ls st)
theorem al_RA {U : State} {c c' : ClassId} {ty : FieldType} (h : va_RA U c ty) (h' : va_RA U c' ty) : c = c' := by
  cases ty with
  | object C =>
    obtain ⟨_, _, _, _, _, e⟩ := h
    obtain ⟨_, _, _, _, _, e'⟩ := h'
    exact Option.some.inj (e.symm.trans e')
  | _ => exact Option.some.inj (Eq.trans (Eq.symm h) h')
theorem al_cls {D : va_G} {cl : List vw_C} {cA : Nat → ClassId} {U : State} {c c' : ClassId} {ty : FieldType} {t : Nat} (h : va_K D cl (sm_tys cA ++ [(c', ty)]) U) (ht : (sm_tys cA)[t]? = some (c, ty)) (hl : t < 6) : c' = c := by
  have h1 := (h.2 6 (c', ty) rfl).2
  have h2 := (h.2 t (c, ty) (by rw [List.getElem?_append_left (show t < (sm_tys cA).length from hl)]; exact ht)).2
  exact al_RA h1 h2
section
variable {x : sm_Cx} {A : Nat → Prop} {cc : ByteArray} {X : va_W} {c s c0 s0 c1 s1 : Nat} {Q : State → Prop} {pc : Nat} {lv lv' : List (Nat × Value)} {st : List Value} {own : String} {nL fr lo : Nat}
theorem al_okA (ok : al_Ok x A cc own nL fr lo c s) : ∀ q : Nat, (xs x).heap.size ≤ q → A q := ok.2.2.2.2.2.2.2.2.2.2.2.2.2
theorem al_okn (ok : al_Ok x A cc own nL fr lo c s) {i : Nat} (h : i < nL) : i < xn x := by rw [ok.2.2.2.2.2.2.2.2.2.2.2.2.1]; exact h
theorem al_okc (ok : al_Ok x A cc own nL fr lo c s) : c ≤ (xR x).cells := ok.2.2.2.2.2.2.2.2.2.1
theorem al_oks (ok : al_Ok x A cc own nL fr lo c s) : s ≤ (xR x).slots := ok.2.2.2.2.2.2.2.2.2.2.1
theorem al_aload_n {j : Fin 4} {v : Nat} (q : Nat) (ok : al_Ok x A cc own nL fr lo c s) (d : decode cc pc = .ok (.aload_n j, 1)) (h : lv[q]? = some ((j : Nat), .ref v)) (k : al_W x A X c0 s0 Q (pc + 1) lv (.ref v :: st)) : al_W x A X c0 s0 Q pc lv st := fun H locs ls hP hD hS hl => lv_aload_n ok.1 ok.2.1 d rfl (lv_at hl q h) (k H locs ls hP hD hS hl)
theorem al_iload_n {j : Fin 4} {v : Int32} (q : Nat) (ok : al_Ok x A cc own nL fr lo c s) (d : decode cc pc = .ok (.iload_n j, 1)) (h : lv[q]? = some ((j : Nat), .int v)) (k : al_W x A X c0 s0 Q (pc + 1) lv (.int v :: st)) : al_W x A X c0 s0 Q pc lv st := fun H locs ls hP hD hS hl => lv_iload_n ok.1 ok.2.1 d rfl (lv_at hl q h) (k H locs ls hP hD hS hl)
theorem al_iconst {n : Int} (v : Int32) (ok : al_Ok x A cc own nL fr lo c s) (d : decode cc pc = .ok (.iconst n, 1)) (hv : Int32.ofInt n = v) (k : al_W x A X c0 s0 Q (pc + 1) lv (.int v :: st)) : al_W x A X c0 s0 Q pc lv st := fun H locs ls hP hD hS hl => lv_iconst ok.1 ok.2.1 d hv (k H locs ls hP hD hS hl)
theorem al_bipush {n : Int} (v : Int32) (ok : al_Ok x A cc own nL fr lo c s) (d : decode cc pc = .ok (.bipush n, 2)) (hv : (Int8.ofInt n).toInt32 = v) (k : al_W x A X c0 s0 Q (pc + 2) lv (.int v :: st)) : al_W x A X c0 s0 Q pc lv st := fun H locs ls hP hD hS hl => lv_bipush ok.1 ok.2.1 d hv (k H locs ls hP hD hS hl)
theorem al_sipush {n : Int} (v : Int32) (ok : al_Ok x A cc own nL fr lo c s) (d : decode cc pc = .ok (.sipush n, 3)) (hv : (Int16.ofInt n).toInt32 = v) (k : al_W x A X c0 s0 Q (pc + 3) lv (.int v :: st)) : al_W x A X c0 s0 Q pc lv st := fun H locs ls hP hD hS hl => lv_sipush ok.1 ok.2.1 d hv (k H locs ls hP hD hS hl)
theorem al_dup {v : Value} (ok : al_Ok x A cc own nL fr lo c s) (d : decode cc pc = .ok (.dup, 1)) (hv : v.category = 1) (k : al_W x A X c0 s0 Q (pc + 1) lv (v :: v :: st)) : al_W x A X c0 s0 Q pc lv (v :: st) := fun H locs ls hP hD hS hl => lv_dup ok.1 ok.2.1 d hv (k H locs ls hP hD hS hl)
theorem al_istore_n {j : Fin 4} {i : Nat} {v : Int32} (ok : al_Ok x A cc own nL fr lo c s) (d : decode cc pc = .ok (.istore_n j, 1)) (hi : (j : Nat) = i) (hn : i < nL) (hL : (i, Value.int v) :: lv.filter (fun q => !(q.1 == i) && !(q.1 + 1 == i && q.2.category == 2)) = lv') (k : al_W x A X c0 s0 Q (pc + 1) lv' st) : al_W x A X c0 s0 Q pc lv (.int v :: st) := fun H locs ls hP hD hS hl => lv_istore_n ok.1 ok.2.1 d hi hl (al_okn ok hn) hL (fun ls' hl' => k H locs ls' hP hD hS hl')
theorem al_iinc {i : Nat} {n : Int} {v w : Int32} (q : Nat) (ok : al_Ok x A cc own nL fr lo c s) (d : decode cc pc = .ok (.iinc i n, 3)) (h : lv[q]? = some (i, .int v)) (hc : v + Int32.ofInt n = w) (hn : i < nL) (hL : (i, Value.int w) :: lv.filter (fun q => !(q.1 == i) && !(q.1 + 1 == i && q.2.category == 2)) = lv') (k : al_W x A X c0 s0 Q (pc + 3) lv' st) : al_W x A X c0 s0 Q pc lv st := fun H locs ls hP hD hS hl => lv_iinc ok.1 ok.2.1 d hl h hc (al_okn ok hn) hL (fun ls' hl' => k H locs ls' hP hD hS hl')
theorem al_goto {off : Int} (tgt : Nat) (ok : al_Ok x A cc own nL fr lo c s) (d : decode cc pc = .ok (.goto off, 3)) (ht : (pc : Int) + off = (tgt : Int)) (k : al_W x A X c0 s0 Q tgt lv st) : al_W x A X c0 s0 Q pc lv st := fun H locs ls hP hD hS hl => lv_goto ok.1 ok.2.1 d ht (k H locs ls hP hD hS hl)
theorem al_geT {a b : Int32} {off : Int} (tgt : Nat) (ok : al_Ok x A cc own nL fr lo c s) (d : decode cc pc = .ok (.if_icmp .ge off, 3)) (ht : (pc : Int) + off = (tgt : Int)) (h : b ≤ a) (k : al_W x A X c0 s0 Q tgt lv st) : al_W x A X c0 s0 Q pc lv (.int b :: .int a :: st) := fun H locs ls hP hD hS hl => lv_icmp_ge ok.1 ok.2.1 d ht (fun _ => k H locs ls hP hD hS hl) (fun n => absurd h n)
theorem al_geF {a b : Int32} {off : Int} (tgt : Nat) (ok : al_Ok x A cc own nL fr lo c s) (d : decode cc pc = .ok (.if_icmp .ge off, 3)) (ht : (pc : Int) + off = (tgt : Int)) (h : ¬ b ≤ a) (k : al_W x A X c0 s0 Q (pc + 3) lv st) : al_W x A X c0 s0 Q pc lv (.int b :: .int a :: st) := fun H locs ls hP hD hS hl => lv_icmp_ge ok.1 ok.2.1 d ht (fun n => absurd n h) (fun _ => k H locs ls hP hD hS hl)
/-- a new object -/
theorem al_new {ci i n : Nat} {C : String} {T : u_T} (fs : List Value) (ok : al_Ok x A cc own nL fr lo c s) (d : decode cc pc = .ok (.new i, 3)) (hc : sm_cl[ci]? = some (C, T, n)) (hin : ∀ w ∈ u_ws C T n, w ∈ sm_GW) (ty : Nat → FieldType) (hty : ∀ k, k < n → parseFieldDescriptor (T k).2.2.1 = some (ty k)) (w1 : Cond.classLink own i C ∈ sm_GW) (w2 : Cond.instantiable C n ∈ sm_GW) (w3 : Cond.initialized C ∈ sm_GW) (hfs : ∀ j, j < n → defaultValue (ty j) = vp_V fs j) (hc1 : c0 + 1 = c1) (hs1 : s0 + n = s1) (hcl : c1 ≤ c) (hsl : s1 ≤ s) (k : ∀ q : Nat, al_W x A (X ++ [(q, .inr (ci, fs))]) c1 s1 Q (pc + 3) lv (.ref q :: st)) : al_W x A X c0 s0 Q pc lv st := fun H locs ls hP hD hS hl => by
  subst hc1
  subst hs1
  exact va_new ok.1 ok.2.1 ok.2.2.2.2.1 hin ty hty ok.2.2.2.1 (ok.2.2.2.2.1 _ w1) (ok.2.2.2.2.1 _ w2) (ok.2.2.2.2.1 _ w3) ok.2.2.2.2.2.1 hP hD hS (al_okA ok) hc hfs (Nat.le_trans hcl (al_okc ok)) (Nat.le_trans hsl (al_oks ok)) d (fun q H1 hP1 hD1 hS1 => k q H1 locs ls hP1 hD1 hS1 hl)
/-- a new array of ints, longs, booleans -/
theorem al_newi {n : Int32} {N : Nat} (ok : al_Ok x A cc own nL fr lo c s) (d : decode cc pc = .ok (.newarray .int, 2)) (w : Cond.arrayClass .int ∈ sm_GW) (hn : ¬ n < 0) (hN : n.toNatClampNeg = N) (hb : N * componentBytes .int ≤ 536870912) (hc1 : c0 + 1 = c1) (hs1 : s0 + N = s1) (hcl : c1 ≤ c) (hsl : s1 ≤ s) (k : ∀ q : Nat, al_W x A (X ++ [(q, .inl ((xw x).2.1 0, N, .inl (fun _ => 0)))]) c1 s1 Q (pc + 2) lv (.ref q :: st)) : al_W x A X c0 s0 Q pc lv (.int n :: st) := fun H locs ls hP hD hS hl => by
  subst hc1
  subst hs1
  refine va_newa (atype := .int) (ty := .int) (a0 := (N, .inl (fun _ => 0))) ok.1 ok.2.1 (ok.2.2.2.2.1 _ w) rfl ok.2.2.2.2.2.1 hP hD hS (al_okA ok) (fun _ => rfl) hn hN hb (Nat.le_trans hcl (al_okc ok)) (Nat.le_trans hsl (al_oks ok)) d (fun q cA H1 hK hP1 hD1 hS1 => ?_)
  have e := al_cls (t := 0) hK rfl (by decide)
  subst e
  exact k q H1 locs ls hP1 hD1 hS1 hl
theorem al_newl {n : Int32} {N : Nat} (ok : al_Ok x A cc own nL fr lo c s) (d : decode cc pc = .ok (.newarray .long, 2)) (w : Cond.arrayClass .long ∈ sm_GW) (hn : ¬ n < 0) (hN : n.toNatClampNeg = N) (hb : N * componentBytes .long ≤ 536870912) (hc1 : c0 + 1 = c1) (hs1 : s0 + N = s1) (hcl : c1 ≤ c) (hsl : s1 ≤ s) (k : ∀ q : Nat, al_W x A (X ++ [(q, .inl ((xw x).2.1 1, N, .inr (.inl (fun _ => 0))))]) c1 s1 Q (pc + 2) lv (.ref q :: st)) : al_W x A X c0 s0 Q pc lv (.int n :: st) := fun H locs ls hP hD hS hl => by
  subst hc1
  subst hs1
  refine va_newa (atype := .long) (ty := .long) (a0 := (N, .inr (.inl (fun _ => 0)))) ok.1 ok.2.1 (ok.2.2.2.2.1 _ w) rfl ok.2.2.2.2.2.1 hP hD hS (al_okA ok) (fun _ => rfl) hn hN hb (Nat.le_trans hcl (al_okc ok)) (Nat.le_trans hsl (al_oks ok)) d (fun q cA H1 hK hP1 hD1 hS1 => ?_)
  have e := al_cls (t := 1) hK rfl (by decide)
  subst e
  exact k q H1 locs ls hP1 hD1 hS1 hl
theorem al_newz {n : Int32} {N : Nat} (ok : al_Ok x A cc own nL fr lo c s) (d : decode cc pc = .ok (.newarray .boolean, 2)) (w : Cond.arrayClass .boolean ∈ sm_GW) (hn : ¬ n < 0) (hN : n.toNatClampNeg = N) (hb : N * componentBytes .boolean ≤ 536870912) (hc1 : c0 + 1 = c1) (hs1 : s0 + N = s1) (hcl : c1 ≤ c) (hsl : s1 ≤ s) (k : ∀ q : Nat, al_W x A (X ++ [(q, .inl ((xw x).2.1 2, N, .inl (fun _ => 0)))]) c1 s1 Q (pc + 2) lv (.ref q :: st)) : al_W x A X c0 s0 Q pc lv (.int n :: st) := fun H locs ls hP hD hS hl => by
  subst hc1
  subst hs1
  refine va_newa (atype := .boolean) (ty := .boolean) (a0 := (N, .inl (fun _ => 0))) ok.1 ok.2.1 (ok.2.2.2.2.1 _ w) rfl ok.2.2.2.2.2.1 hP hD hS (al_okA ok) (fun _ => rfl) hn hN hb (Nat.le_trans hcl (al_okc ok)) (Nat.le_trans hsl (al_oks ok)) d (fun q cA H1 hK hP1 hD1 hS1 => ?_)
  have e := al_cls (t := 2) hK rfl (by decide)
  subst e
  exact k q H1 locs ls hP1 hD1 hS1 hl
/-- a new array of objects -/
theorem al_newS {n : Int32} {N i : Nat} (ok : al_Ok x A cc own nL fr lo c s) (d : decode cc pc = .ok (.anewarray i, 3)) (w : Cond.classLink own i "LentShades$Shades" ∈ sm_GW) (hn : ¬ n < 0) (hN : n.toNatClampNeg = N) (hb : N * 4 ≤ 536870912) (hc1 : c0 + 1 = c1) (hs1 : s0 + N = s1) (hcl : c1 ≤ c) (hsl : s1 ≤ s) (k : ∀ q : Nat, al_W x A (X ++ [(q, .inl ((xw x).2.1 3, N, .inr (.inr (.inr (.inr (fun _ => none))))))]) c1 s1 Q (pc + 3) lv (.ref q :: st)) : al_W x A X c0 s0 Q pc lv (.int n :: st) := fun H locs ls hP hD hS hl => by
  subst hc1
  subst hs1
  refine va_newq ok.1 ok.2.1 ok.2.2.2.1 (ok.2.2.2.2.1 _ w) ok.2.2.2.2.2.2.1.2.1 ok.2.2.2.2.2.1 hP hD hS (al_okA ok) hn hN hb (Nat.le_trans hcl (al_okc ok)) (Nat.le_trans hsl (al_oks ok)) d (fun q cA H1 hK hP1 hD1 hS1 => ?_)
  have e := al_cls (t := 3) hK rfl (by decide)
  subst e
  exact k q H1 locs ls hP1 hD1 hS1 hl
theorem al_newH {n : Int32} {N i : Nat} (ok : al_Ok x A cc own nL fr lo c s) (d : decode cc pc = .ok (.anewarray i, 3)) (w : Cond.classLink own i "LentShades$House" ∈ sm_GW) (hn : ¬ n < 0) (hN : n.toNatClampNeg = N) (hb : N * 4 ≤ 536870912) (hc1 : c0 + 1 = c1) (hs1 : s0 + N = s1) (hcl : c1 ≤ c) (hsl : s1 ≤ s) (k : ∀ q : Nat, al_W x A (X ++ [(q, .inl ((xw x).2.1 4, N, .inr (.inr (.inr (.inr (fun _ => none))))))]) c1 s1 Q (pc + 3) lv (.ref q :: st)) : al_W x A X c0 s0 Q pc lv (.int n :: st) := fun H locs ls hP hD hS hl => by
  subst hc1
  subst hs1
  refine va_newq ok.1 ok.2.1 ok.2.2.2.1 (ok.2.2.2.2.1 _ w) ok.2.2.2.2.2.2.1.2.2.1 ok.2.2.2.2.2.1 hP hD hS (al_okA ok) hn hN hb (Nat.le_trans hcl (al_okc ok)) (Nat.le_trans hsl (al_oks ok)) d (fun q cA H1 hK hP1 hD1 hS1 => ?_)
  have e := al_cls (t := 4) hK rfl (by decide)
  subst e
  exact k q H1 locs ls hP1 hD1 hS1 hl
end
