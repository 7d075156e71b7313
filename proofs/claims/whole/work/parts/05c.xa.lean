def zx_sh : Nat → Nat × Nat := fun p => match p with
  | 0 => (19, 0)
  | 1 => (12, 0)
  | 2 => (0, 4)
  | 3 => (0, 4)
  | 4 => (0, 4)
  | 5 => (0, 4)
  | 6 => (0, 4)
  | 7 => (5, 4)
  | 8 => (0, 8)
  | 9 => (0, 8)
  | 10 => (0, 8)
  | 11 => (0, 8)
  | 12 => (16, 0)
  | 13 => (0, 100)
  | 14 => (3, 6)
  | 15 => (16, 0)
  | 16 => (0, 100)
  | 17 => (16, 0)
  | 18 => (0, 100)
  | 19 => (16, 0)
  | 20 => (0, 100)
  | 21 => (16, 0)
  | 22 => (0, 100)
  | 23 => (16, 0)
  | 24 => (0, 100)
  | 25 => (16, 0)
  | 26 => (0, 100)
  | 27 => (5, 6)
  | 28 => (0, 4)
  | 29 => (0, 4)
  | 30 => (0, 4)
  | 31 => (0, 4)
  | 32 => (0, 4)
  | 33 => (0, 4)
  | 34 => (4, 2)
  | 35 => (12, 0)
  | 36 => (0, 4)
  | 37 => (0, 4)
  | 38 => (0, 4)
  | 39 => (0, 4)
  | 40 => (0, 4)
  | 41 => (5, 4)
  | 42 => (0, 8)
  | 43 => (0, 8)
  | 44 => (0, 8)
  | 45 => (0, 8)
  | 46 => (16, 0)
  | 47 => (0, 100)
  | 48 => (3, 6)
  | 49 => (16, 0)
  | 50 => (0, 100)
  | 51 => (16, 0)
  | 52 => (0, 100)
  | 53 => (16, 0)
  | 54 => (0, 100)
  | 55 => (16, 0)
  | 56 => (0, 100)
  | 57 => (16, 0)
  | 58 => (0, 100)
  | 59 => (16, 0)
  | 60 => (0, 100)
  | 61 => (5, 6)
  | 62 => (0, 4)
  | 63 => (0, 4)
  | 64 => (0, 4)
  | 65 => (0, 4)
  | 66 => (0, 4)
  | 67 => (0, 4)
  | 68 => (12, 0)
  | 69 => (0, 4)
  | 70 => (0, 4)
  | 71 => (0, 4)
  | 72 => (0, 4)
  | 73 => (0, 4)
  | 74 => (5, 4)
  | 75 => (0, 8)
  | 76 => (0, 8)
  | 77 => (0, 8)
  | 78 => (0, 8)
  | 79 => (16, 0)
  | 80 => (0, 100)
  | 81 => (3, 6)
  | 82 => (16, 0)
  | 83 => (0, 100)
  | 84 => (16, 0)
  | 85 => (0, 100)
  | 86 => (16, 0)
  | 87 => (0, 100)
  | 88 => (16, 0)
  | 89 => (0, 100)
  | 90 => (16, 0)
  | 91 => (0, 100)
  | 92 => (16, 0)
  | 93 => (0, 100)
  | 94 => (5, 6)
  | 95 => (0, 4)
  | 96 => (0, 4)
  | 97 => (0, 4)
  | 98 => (0, 4)
  | 99 => (0, 4)
  | 100 => (0, 4)
  | 101 => (2, 2)
  | 102 => (14, 0)
  | 103 => (0, 200)
  | 104 => (11, 0)
  | 105 => (0, 20)
  | 106 => (0, 20)
  | 107 => (17, 0)
  | 108 => (1, 5)
  | 109 => (1, 20)
  | 110 => (18, 0)
  | 111 => (17, 0)
  | 112 => (1, 5)
  | 113 => (1, 20)
  | 114 => (5, 4)
  | 115 => (0, 5)
  | 116 => (0, 5)
  | 117 => (0, 5)
  | 118 => (0, 5)
  | 119 => (0, 4)
  | 120 => (2, 4)
  | 121 => (0, 4)
  | 122 => (16, 0)
  | 123 => (0, 100)
  | 124 => (16, 0)
  | 125 => (0, 100)
  | 126 => (15, 0)
  | 127 => (5, 4)
  | 128 => (0, 4)
  | 129 => (0, 4)
  | 130 => (0, 4)
  | 131 => (0, 4)
  | 132 => (13, 0)
  | 133 => (5, 4)
  | 134 => (0, 8)
  | 135 => (0, 8)
  | 136 => (0, 8)
  | 137 => (0, 8)
  | 138 => (10, 0)
  | 139 => (5, 4)
  | 140 => (0, 8)
  | 141 => (0, 8)
  | 142 => (0, 8)
  | 143 => (0, 8)
  | 144 => (0, 4)
  | 145 => (0, 4)
  | 146 => (0, 4)
  | _ => (9, 0)
def zx_fl : Nat → List (Option Nat) := fun c => match c with
  | 0 => [some 1, some 6, some 7]
  | 1 => [some 1, some 2, none, none]
  | 2 => [some 1, some 2, some 3, some 4, some 5, some 6, some 11, some 13, some 26, none, none, none, none, none]
  | 3 => [some 1, none, none, none, none, none, none]
  | 4 => [some 1, none, none, none, none, none, none, none]
  | 5 => [some 1]
  | 6 => [some 1, none]
  | 7 => [some 1, some 2]
  | 8 => [some 1, some 4, some 9, some 10, some 11, none, none, some 12, some 14]
  | 9 => [some 1, some 34, some 101, some 102, some 104, some 107, some 110, some 126, some 132, some 138, some 146, none, none, none]
  | _ => []
def zx_A (wc : sm_Wc) : Nat → Prop := fun q => ∃ i, i < 147 ∧ q = wc.2.2 i
def zx_nest : List (String × Nat × MethodName) := [("LentShades$Reader", 77, ⟨"LentShades", "putHours", "([[IIII)V"⟩), ("LentShades$Takings", 65, ⟨"LentShades", "greatestDivisor", "(II)I"⟩), ("LentShades$Fraction", 44, ⟨"LentShades", "greatestDivisor", "(II)I"⟩), ("LentShades$Mover", 108, ⟨"LentShades", "putHours", "([[IIII)V"⟩), ("LentShades$Chest", 43, ⟨"LentShades", "putHours", "([[IIII)V"⟩)]
def zx_pr : List Int32 := [2, 3, 5, 7, 11, 13, 17, 19, 23, 29, 31, 37]
def zx_by : List (List Int32) := [[99, 108, 111, 116, 104], [116, 104, 105, 110, 103], [116, 111, 117, 99, 104]]
def zx_ss : List (Nat × String) := [(93, "cloth"), (99, "thing"), (101, "touch")]
/-- what the class needs of what lies outside its own cells -/
def zx_ex (wc : sm_Wc) (U : State) : Prop :=
  (∀ q ∈ zx_nest, va_Nw (.methodLinkNest q.1 q.2.1 q.2.2 "LentShades") U) ∧
  (va_Z "LentShades$Fraction" "PRIMES" "[I" (.ref (wc.2.2 1000)) (zx_A wc) U U.heap ∧ va_T .int (wc.2.2 1000) 12 (fun j => .int (zx_pr.getD j 0)) (zx_A wc) U U.heap) ∧
  (va_Z "java/lang/String" "COMPACT_STRINGS" "Z" (.int 1) (zx_A wc) U U.heap ∧ va_Zq "jdk/internal/util/Preconditions" "SIOOBE_FORMATTER" "Ljava/util/function/BiFunction;" (zx_A wc) U U.heap) ∧
  vk_S 3 [5, 5, 5] zx_by (fun i => wc.2.2 (1001 + i)) (fun i => wc.2.2 (1004 + i)) (zx_A wc) U U.heap ∧
  ∀ (i : Nat) (q : Nat × String), zx_ss[i]? = some q → vk_R "LentShades$Reader" q.1 q.2 (wc.2.2 (1001 + i)) U
abbrev zx_sy : sm_Sy := (zx_sh, zx_fl, 147, zx_ex)
theorem zx_stb : ∀ wc, sm_stb zx_sy wc := by
  intro wc u U h hq hv
  have hvm : u.vm.Alike U.vm := by
    rcases hv with hv | hv
    · exact hv.alike
    · rw [hv]; exact Vm.Alike.refl _
  have hq' : ∀ a : Nat, a < u.heap.size → ¬ zx_A wc a → U.heap[a]? = u.heap[a]? := hq
  obtain ⟨h1, ⟨h2, h3⟩, ⟨h4, h5⟩, h6, h7⟩ := h
  refine ⟨fun q hm => ?_, ⟨(va_Z.moved hvm h2).kept hq', (va_T.moved hvm h3).kept hq'⟩, ⟨(va_Z.moved hvm h4).kept hq', (va_Zq.moved hvm h5).kept hq'⟩, (vk_S.moved hvm h6).kept hq', fun i q hi => ?_⟩
  · rcases hv with hv | hv
    · exact va_Nw.warmM hv (h1 q hm)
    · exact va_Nw.same rfl hv.symm (h1 q hm)
  · rcases hv with hv | hv
    · exact vk_R.warm hv (h7 i q hi)
    · exact vk_R.same hv (h7 i q hi)
section
variable {x : sm_Cx} {cc : ByteArray} {O : Type} {Qf : O → State → Prop} {o o1 o2 : Option O} {S : sm_St} {pc : Nat} {lv lv' : List (Nat × Value)} {st : List Value} {own : String} {nL fr lo : Nat}
theorem zx_okE (ok : sm_Ok x zx_sy cc own nL fr lo) : zx_ex (xw x) (xs x) := ok.2.2.2.2.2.2.2.2.2.2.2.2.1
theorem zx_nw (ok : sm_Ok x zx_sy cc own nL fr lo) (k : Nat) {q : String × Nat × MethodName} (h : zx_nest[k]? = some q) : va_Nw (.methodLinkNest q.1 q.2.1 q.2.2 "LentShades") (xs x) := (zx_okE ok).1 q (List.mem_of_getElem? h)
theorem sm_gsP {i : Nat} (ok : sm_Ok x zx_sy cc own nL fr lo) (d : decode cc pc = .ok (.getstatic i, 3)) (w : Cond.fieldLink own i "LentShades$Fraction" "PRIMES" "[I" ∈ sm_GW) (k : sm_Sm x zx_sy cc Qf o S (pc + 3) lv (.ref ((xw x).2.2 1000) :: st)) : sm_Sm x zx_sy cc Qf o S pc lv st := fun out ho H locs ls hP hS hl => va_gets ok.1 ok.2.1 (zx_okE ok).2.1.1 hS ok.2.2.2.1 (ok.2.2.2.2.1 _ w) (fun _ h => h) d (k out ho H locs ls hP hS hl)
theorem sm_gsC {i : Nat} (ok : sm_Ok x zx_sy cc own nL fr lo) (d : decode cc pc = .ok (.getstatic i, 3)) (w : Cond.fieldLink own i "java/lang/String" "COMPACT_STRINGS" "Z" ∈ sm_GW) (k : sm_Sm x zx_sy cc Qf o S (pc + 3) lv (.int 1 :: st)) : sm_Sm x zx_sy cc Qf o S pc lv st := fun out ho H locs ls hP hS hl => va_gets ok.1 ok.2.1 (zx_okE ok).2.2.1.1 hS ok.2.2.2.1 (ok.2.2.2.2.1 _ w) (fun _ h => h) d (k out ho H locs ls hP hS hl)
theorem sm_gsF {i : Nat} (ok : sm_Ok x zx_sy cc own nL fr lo) (d : decode cc pc = .ok (.getstatic i, 3)) (w : Cond.fieldLink own i "jdk/internal/util/Preconditions" "SIOOBE_FORMATTER" "Ljava/util/function/BiFunction;" ∈ sm_GW) (k : ∀ f : Option Nat, sm_Sm x zx_sy cc Qf o S (pc + 3) lv (va_rf f :: st)) : sm_Sm x zx_sy cc Qf o S pc lv st := fun out ho H locs ls hP hS hl => by
  rcases (zx_okE ok).2.2.1.2 with h | ⟨t, h⟩
  · exact va_gets ok.1 ok.2.1 h hS ok.2.2.2.1 (ok.2.2.2.2.1 _ w) (fun _ h => h) d (k none out ho H locs ls hP hS hl)
  · exact va_gets ok.1 ok.2.1 h hS ok.2.2.2.1 (ok.2.2.2.2.1 _ w) (fun _ h => h) d (k (some t) out ho H locs ls hP hS hl)
theorem sm_alP (ok : sm_Ok x zx_sy cc own nL fr lo) (d : decode cc pc = .ok (.arraylength, 1)) (k : sm_Sm x zx_sy cc Qf o S (pc + 1) lv (.int 12 :: st)) : sm_Sm x zx_sy cc Qf o S pc lv (.ref ((xw x).2.2 1000) :: st) := fun out ho H locs ls hP hS hl => va_tlen ok.1 ok.2.1 (zx_okE ok).2.1.2 hS (by decide) d (k out ho H locs ls hP hS hl)
theorem sm_iaP {i : Int32} (ok : sm_Ok x zx_sy cc own nL fr lo) (d : decode cc pc = .ok (.iaload, 1)) (k : sm_Sm x zx_sy cc Qf o S (pc + 1) lv (.int (zx_pr.getD i.toNatClampNeg 0) :: st)) : sm_Sm x zx_sy cc Qf (if sm_in i 12 = true then o else none) S pc lv (.int i :: .ref ((xw x).2.2 1000) :: st) := sm_ck fun hb out ho H locs ls hP hS hl => va_ti ok.1 ok.2.1 (zx_okE ok).2.1.2 hS (sm_in_vp hb) rfl d (k out ho H locs ls hP hS hl)
theorem zx_s5 : ∀ w, w < 3 → ([5, 5, 5] : List Nat).getD w 0 = 5 := by decide
theorem sm_alS {w : Nat} (ok : sm_Ok x zx_sy cc own nL fr lo) (d : decode cc pc = .ok (.arraylength, 1)) (hw : w < 3) (k : sm_Sm x zx_sy cc Qf o S (pc + 1) lv (.int 5 :: st)) : sm_Sm x zx_sy cc Qf o S pc lv (.ref ((xw x).2.2 (1004 + w)) :: st) := fun out ho H locs ls hP hS hl => va_tlen ok.1 ok.2.1 ((zx_okE ok).2.2.2.1.1 w hw).2.2.2 hS (by rw [zx_s5 w hw]; decide) d (k out ho H locs ls hP hS hl)
theorem sm_baS {w : Nat} {i : Int32} (ok : sm_Ok x zx_sy cc own nL fr lo) (d : decode cc pc = .ok (.baload, 1)) (hw : w < 3) (k : sm_Sm x zx_sy cc Qf o S (pc + 1) lv (.int ((zx_by.getD w []).getD i.toNatClampNeg 0) :: st)) : sm_Sm x zx_sy cc Qf (if sm_in i 5 = true then o else none) S pc lv (.int i :: .ref ((xw x).2.2 (1004 + w)) :: st) := sm_ck fun hb out ho H locs ls hP hS hl => va_tb ok.1 ok.2.1 ((zx_okE ok).2.2.2.1.1 w hw).2.2.2 hS (by rw [zx_s5 w hw]; exact sm_in_vp hb) rfl d (k out ho H locs ls hP hS hl)
theorem sm_gfV {w i : Nat} (ok : sm_Ok x zx_sy cc own nL fr lo) (d : decode cc pc = .ok (.getfield i, 3)) (hw : w < 3) (hk : Cond.fieldLink own i "java/lang/String" "value" "[B" ∈ sm_GW) (k : sm_Sm x zx_sy cc Qf o S (pc + 3) lv (.ref ((xw x).2.2 (1004 + w)) :: st)) : sm_Sm x zx_sy cc Qf o S pc lv (.ref ((xw x).2.2 (1001 + w)) :: st) := fun out ho H locs ls hP hS hl => vk_getf ok.1 ok.2.1 ((zx_okE ok).2.2.2.1.1 w hw).2.2.1 hS ok.2.2.2.1 (ok.2.2.2.2.1 _ hk) (fun _ h => h) d (k out ho H locs ls hP hS hl)
theorem sm_gfK {w i : Nat} (ok : sm_Ok x zx_sy cc own nL fr lo) (d : decode cc pc = .ok (.getfield i, 3)) (hw : w < 3) (hk : Cond.fieldLink own i "java/lang/String" "coder" "B" ∈ sm_GW) (k : sm_Sm x zx_sy cc Qf o S (pc + 3) lv (.int 0 :: st)) : sm_Sm x zx_sy cc Qf o S pc lv (.ref ((xw x).2.2 (1001 + w)) :: st) := fun out ho H locs ls hP hS hl => vk_getf ok.1 ok.2.1 ((zx_okE ok).2.2.2.1.1 w hw).2.1 hS ok.2.2.2.1 (ok.2.2.2.2.1 _ hk) (fun _ h => h) d (k out ho H locs ls hP hS hl)
theorem sm_ldcS {w i : Nat} {tx : String} (ok : sm_Ok x zx_sy cc "LentShades$Reader" nL fr lo) (d : decode cc pc = .ok (.ldc i, 2)) (h : zx_ss[w]? = some (i, tx)) (k : sm_Sm x zx_sy cc Qf o S (pc + 2) lv (.ref ((xw x).2.2 (1001 + w)) :: st)) : sm_Sm x zx_sy cc Qf o S pc lv st := fun out ho H locs ls hP hS hl => va_ldcS ok.1 ok.2.1 ok.2.2.2.1 ((zx_okE ok).2.2.2.2 w (i, tx) h) d (k out ho H locs ls hP hS hl)
theorem sm_i2c {a : Int32} (ok : sm_Ok x zx_sy cc own nL fr lo) (d : decode cc pc = .ok (.i2c, 1)) (k : sm_Sm x zx_sy cc Qf o S (pc + 1) lv (.int ((a.toUInt32 % 65536).toInt32) :: st)) : sm_Sm x zx_sy cc Qf o S pc lv (.int a :: st) := fun out ho H locs ls hP hS hl => lv_i2c ok.1 ok.2.1 d rfl (k out ho H locs ls hP hS hl)
/-- an answer of a small kind is looked at by the program -/
def sm_rn (ty : FieldType) (v : Int32) (S : sm_St) : Option (Int32 × sm_St) := if vp_nar ty v = v then some (v, S) else none
theorem sm_nret {v : Int32} {ty : FieldType} (ok : sm_Ok x zx_sy cc own nL fr lo) (d : decode cc pc = .ok (.ireturn, 1)) (hr : (xh x).sig.returnType = some ty) (hn : narrow ty (.int v) = .int (vp_nar ty v)) : sm_Sm x zx_sy cc (sm_Q x zx_sy (sm_Pi zx_sy (xw x))) (sm_rn ty v S) S pc lv [.int v] := by
  intro out ho H locs ls hP hS hl
  unfold sm_rn at ho
  by_cases h : vp_nar ty v = v
  · rw [if_pos h] at ho
    cases ho
    rw [h] at hn
    exact W.zret ok.1 ok.2.1 hr hn (fun t ht hW => ⟨⟨v, S, rfl, ⟨rfl, rfl⟩, by rw [ht]; exact hP, va_K.moved hW.alike (sm_okK ok), sm_okX ok hS ht hW⟩, hS.F ht⟩) hS.2.2 d ok.2.2.2.2.2.2.2.2.2.2.1
  · rw [if_neg h] at ho; cases ho
/-- a call on a text -/
theorem sm_callT_i {y : MethodName} {b : ByteArray} {mL n i fr' lo' w : Nat} {ret : Option FieldType} {rest : List Value} {stk : List Value} {o' : Option (Int32 × sm_St)} {g : Int32 → sm_St → Option O} (As : List Value) (ok : sm_Ok x zx_sy cc own nL fr lo) (d : decode cc pc = .ok (.invokevirtual i, 3)) (wl : Cond.methodLink own i y ∈ sm_GW) (mw : sm_MW y b mL ret n) (hw : w < 3) (hy : y.cls = "java/lang/String") (hfr : fr' + 1 ≤ fr) (hlo : 8 + (mL + 11) + lo' ≤ lo) (hn : As.length = n) (hst : stk = As.reverse ++ .ref ((xw x).2.2 (1001 + w)) :: rest) (hrm : (rest.map fun v => v.category).sum ≤ 8) (hM : sm_Ct (xl x) zx_sy (xw x) y b mL ret fr' lo' (.ref ((xw x).2.2 (1001 + w)) :: As) S (sm_Pi zx_sy (xw x)) o')
    (kk : ∀ (r : Int32) (S : sm_St), sm_Sm x zx_sy cc Qf (g r S) S (pc + 3) lv (.int r :: rest)) : sm_Sm x zx_sy cc Qf (sm_b2 o' g) S pc lv stk := fun out ho H locs ls hP hS hl => by
  cases ho' : o' with
  | none => rw [ho'] at ho; cases ho
  | some q =>
    rw [ho'] at ho
    exact va_calli (va_runV (As := As) (rest := rest) (nL := xn x) (C := y.cls) ⟨ok.1, ok.2.1, ok.2.2.1, ok.2.2.2.1, ok.2.2.2.2.1⟩ (hM q ho') ⟨sm_cw ok mw.2.2.2.1 mw.2.2.1 mw.2.2.2.2.1 mw.2.2.2.2.2 wl hfr hlo, ok.2.2.2.2.1 _ mw.1, ok.2.2.2.2.1 _ mw.2.1⟩ ⟨sm_blind ok.2.2.2.2.2.2.2.2.2.2.2.2.2, by rw [hy]; exact vk_recv (i := w) (adK := fun i => (xw x).2.2 (1001 + i)) (zx_okE ok).2.2.2.1 hw hS, fun U hU hW => ⟨rfl, by rw [hU]; exact hP, va_K.moved hW.alike (sm_okK ok), sm_okX ok hS hU hW⟩⟩ rfl hn hl.1 hst (lv_room hrm) d ⟨Nat.zero_le _, Nat.zero_le _⟩) hS (fun _ _ h => h) (fun _ h => h) (fun r u t H1 locs1 ht hvm hw hB hz hk hS1 => by
      obtain ⟨hr, hu⟩ := hw
      subst hr
      subst hu
      exact kk _ _ out ho H1 locs1 ls (by rw [← ht]; exact hB.1) hS1 hl)
end

theorem zx_ok : ∀ p, (zx_sy.1 p).1 ≠ 9 → p < zx_sy.2.2.1 := by
  intro p h
  rcases Nat.lt_or_ge p 147 with q | q
  · exact q
  · obtain ⟨k, rfl⟩ := Nat.exists_eq_add_of_le q
    exact absurd (show (zx_sh (147 + k)).1 = 9 by simp [zx_sh, Nat.add_comm]) h
theorem zx_lt {p t n : Nat} (h : zx_sy.1 p = (t, n)) (ht : t ≠ 9) : p < 147 := zx_ok p (by rw [h]; exact ht)
theorem zx_all (P : Nat → Bool) (h : (List.range 147).all P = true) {p : Nat} (hp : p < 147) : P p = true := List.all_eq_true.mp h p (List.mem_range.mpr hp)
theorem zx_House_1 {p : Nat} (h : zx_sy.1 p = (12, 0)) : zx_sy.1 (p + 1) = (0, 4) := by
  have h1 := zx_all (fun p => !decide (zx_sh p = (12, 0)) || decide (zx_sh (p + 1) = (0, 4))) (by decide +kernel) (zx_lt h (by decide))
  simpa [show zx_sh p = (12, 0) from h] using h1
theorem zx_House_11 {p : Nat} (h : zx_sy.1 p = (12, 0)) : zx_sy.1 (p + 11) = (16, 0) := by
  have h1 := zx_all (fun p => !decide (zx_sh p = (12, 0)) || decide (zx_sh (p + 11) = (16, 0))) (by decide +kernel) (zx_lt h (by decide))
  simpa [show zx_sh p = (12, 0) from h] using h1
theorem zx_House_13 {p : Nat} (h : zx_sy.1 p = (12, 0)) : zx_sy.1 (p + 13) = (3, 6) := by
  have h1 := zx_all (fun p => !decide (zx_sh p = (12, 0)) || decide (zx_sh (p + 13) = (3, 6))) (by decide +kernel) (zx_lt h (by decide))
  simpa [show zx_sh p = (12, 0) from h] using h1
theorem zx_House_2 {p : Nat} (h : zx_sy.1 p = (12, 0)) : zx_sy.1 (p + 2) = (0, 4) := by
  have h1 := zx_all (fun p => !decide (zx_sh p = (12, 0)) || decide (zx_sh (p + 2) = (0, 4))) (by decide +kernel) (zx_lt h (by decide))
  simpa [show zx_sh p = (12, 0) from h] using h1
theorem zx_House_26 {p : Nat} (h : zx_sy.1 p = (12, 0)) : zx_sy.1 (p + 26) = (5, 6) := by
  have h1 := zx_all (fun p => !decide (zx_sh p = (12, 0)) || decide (zx_sh (p + 26) = (5, 6))) (by decide +kernel) (zx_lt h (by decide))
  simpa [show zx_sh p = (12, 0) from h] using h1
theorem zx_House_3 {p : Nat} (h : zx_sy.1 p = (12, 0)) : zx_sy.1 (p + 3) = (0, 4) := by
  have h1 := zx_all (fun p => !decide (zx_sh p = (12, 0)) || decide (zx_sh (p + 3) = (0, 4))) (by decide +kernel) (zx_lt h (by decide))
  simpa [show zx_sh p = (12, 0) from h] using h1
theorem zx_House_4 {p : Nat} (h : zx_sy.1 p = (12, 0)) : zx_sy.1 (p + 4) = (0, 4) := by
  have h1 := zx_all (fun p => !decide (zx_sh p = (12, 0)) || decide (zx_sh (p + 4) = (0, 4))) (by decide +kernel) (zx_lt h (by decide))
  simpa [show zx_sh p = (12, 0) from h] using h1
theorem zx_House_5 {p : Nat} (h : zx_sy.1 p = (12, 0)) : zx_sy.1 (p + 5) = (0, 4) := by
  have h1 := zx_all (fun p => !decide (zx_sh p = (12, 0)) || decide (zx_sh (p + 5) = (0, 4))) (by decide +kernel) (zx_lt h (by decide))
  simpa [show zx_sh p = (12, 0) from h] using h1
theorem zx_House_6 {p : Nat} (h : zx_sy.1 p = (12, 0)) : zx_sy.1 (p + 6) = (5, 4) := by
  have h1 := zx_all (fun p => !decide (zx_sh p = (12, 0)) || decide (zx_sh (p + 6) = (5, 4))) (by decide +kernel) (zx_lt h (by decide))
  simpa [show zx_sh p = (12, 0) from h] using h1
theorem zx_Shades_1 {p : Nat} (h : zx_sy.1 p = (16, 0)) : zx_sy.1 (p + 1) = (0, 100) := by
  have h1 := zx_all (fun p => !decide (zx_sh p = (16, 0)) || decide (zx_sh (p + 1) = (0, 100))) (by decide +kernel) (zx_lt h (by decide))
  simpa [show zx_sh p = (16, 0) from h] using h1
theorem zx_Sum_1 {p : Nat} (h : zx_sy.1 p = (17, 0)) : zx_sy.1 (p + 1) = (1, 5) := by
  have h1 := zx_all (fun p => !decide (zx_sh p = (17, 0)) || decide (zx_sh (p + 1) = (1, 5))) (by decide +kernel) (zx_lt h (by decide))
  simpa [show zx_sh p = (17, 0) from h] using h1
theorem zx_Sum_2 {p : Nat} (h : zx_sy.1 p = (17, 0)) : zx_sy.1 (p + 2) = (1, 20) := by
  have h1 := zx_all (fun p => !decide (zx_sh p = (17, 0)) || decide (zx_sh (p + 2) = (1, 20))) (by decide +kernel) (zx_lt h (by decide))
  simpa [show zx_sh p = (17, 0) from h] using h1
theorem zx_lti {i : Int32} {n : Nat} (h : sm_in i n = true) : i.toNatClampNeg < n := Nat.not_le.mp fun q => sm_in_vp h (Or.inr q)
theorem zx_rows (p n k : Nat) (h : (List.range n).all (fun j => decide (zx_sh (p + 1 + j) = (0, k))) = true) {i : Int32} (hb : sm_in i n = true) : zx_sy.1 (p + 1 + i.toNatClampNeg) = (0, k) := of_decide_eq_true (List.all_eq_true.mp h _ (List.mem_range.mpr (zx_lti hb)))
def zx_rl (q : Nat) : Nat := (zx_sh (q + 1)).2
theorem zx_rowq {q n : Nat} (h : zx_sy.1 q = (5, n)) {i : Int32} (hb : sm_in i n = true) : zx_sy.1 (q + 1 + i.toNatClampNeg) = (0, zx_rl q) := by
  have h1 := zx_all (fun p => !decide ((zx_sh p).1 = 5) || (List.range (zx_sh p).2).all (fun j => decide (zx_sh (p + 1 + j) = (0, zx_rl p)))) (by decide +kernel) (zx_lt h (by decide))
  have e : zx_sh q = (5, n) := h
  simp only [e, decide_true, Bool.not_true, Bool.false_or] at h1
  exact of_decide_eq_true (List.all_eq_true.mp h1 _ (List.mem_range.mpr (zx_lti hb)))
theorem zx_hrow6 {p : Nat} (h : zx_sy.1 p = (12, 0)) {i : Int32} (hb : sm_in i 4 = true) : zx_sy.1 (p + 7 + i.toNatClampNeg) = (0, 8) := by
  have h1 := zx_all (fun p => !decide (zx_sh p = (12, 0)) || (List.range 4).all (fun j => decide (zx_sh (p + 7 + j) = (0, 8)))) (by decide +kernel) (zx_lt h (by decide))
  have e : zx_sh p = (12, 0) := h
  simp only [e, decide_true, Bool.not_true, Bool.false_or] at h1
  exact of_decide_eq_true (List.all_eq_true.mp h1 _ (List.mem_range.mpr (zx_lti hb)))
theorem zx_hrow26 {p : Nat} (h : zx_sy.1 p = (12, 0)) {i : Int32} (hb : sm_in i 6 = true) : zx_sy.1 (p + 27 + i.toNatClampNeg) = (0, 4) := by
  have h1 := zx_all (fun p => !decide (zx_sh p = (12, 0)) || (List.range 6).all (fun j => decide (zx_sh (p + 27 + j) = (0, 4)))) (by decide +kernel) (zx_lt h (by decide))
  have e : zx_sh p = (12, 0) := h
  simp only [e, decide_true, Bool.not_true, Bool.false_or] at h1
  exact of_decide_eq_true (List.all_eq_true.mp h1 _ (List.mem_range.mpr (zx_lti hb)))
theorem zx_img {i : Int32} (hb : sm_in i 2 = true) : zx_sy.1 (35 + 33 * i.toNatClampNeg) = (12, 0) := of_decide_eq_true (List.all_eq_true.mp (show (List.range 2).all (fun j => decide (zx_sh (35 + 33 * j) = (12, 0))) = true by decide +kernel) _ (List.mem_range.mpr (zx_lti hb)))
