theorem al_outer (c : ClassId) (N h0 : Nat) : ∀ i : Nat, Jvm.Free.Multi.outerC c N h0 i = arrV c N (fun j => va_rf (if j < i then some (h0 + 1 + j) else none))
  | 0 => by
    show ({ cls := c, slots := Array.replicate N .null, vm := .none } : Cell) = _
    rw [arrV_new]
    exact congrArg (arrV c N) (funext fun j => by simp [va_rf])
  | i + 1 => by
    show (Jvm.Free.Multi.outerC c N h0 i).setSlot i (.ref (h0 + 1 + i)) = _
    rw [al_outer c N h0 i, arrV_store]
    refine congrArg (arrV c N) (funext fun j => ?_)
    by_cases e : j = i
    · subst e
      simp [updV, va_rf]
    · by_cases h : j < i
      · simp [updV, e, h, show j < i + 1 by omega]
      · simp [updV, e, h, show ¬ j < i + 1 by omega]
/-- a table of rows, new -/
def al_mn (cA : Nat → ClassId) (q : Nat) (r : Nat → Nat) (N K : Nat) : va_W := (q, .inl (cA 5, N, .inr (.inr (.inr (.inr (fun i => if i < N then some (r i) else none)))))) :: (List.range N).map (fun i => (r i, .inl (cA 0, K, .inl (fun _ => 0))))
theorem al_mn_at {cA : Nat → ClassId} {q : Nat} {r : Nat → Nat} {N K k : Nat} {z : Nat × va_E} (h : (al_mn cA q r N K)[k]? = some z) : (k = 0 ∧ z = (q, .inl (cA 5, N, .inr (.inr (.inr (.inr (fun i => if i < N then some (r i) else none))))))) ∨ ∃ j, j < N ∧ k = j + 1 ∧ z = (r j, .inl (cA 0, K, .inl (fun _ => 0))) := by
  cases k with
  | zero => exact Or.inl ⟨rfl, (Option.some.inj h).symm⟩
  | succ j =>
    right
    have h2 : ((List.range N).map (fun i => ((r i, .inl (cA 0, K, .inl (fun _ => 0))) : Nat × va_E)))[j]? = some z := h
    rw [List.getElem?_map] at h2
    by_cases hj : j < N
    · rw [List.getElem?_range hj] at h2
      exact ⟨j, hj, rfl, (Option.some.inj h2).symm⟩
    · rw [List.getElem?_eq_none (by rw [List.length_range]; omega)] at h2
      cases h2
section
variable {x : sm_Cx} {A : Nat → Prop} {cc : ByteArray} {X : va_W} {c s c0 s0 c1 s1 : Nat} {Q : State → Prop} {pc : Nat} {lv lv' : List (Nat × Value)} {st : List Value} {own : String} {nL fr lo : Nat}
theorem al_mna {n k : Int32} {N K i : Nat} (ok : al_Ok x A cc own nL fr lo c s) (d : decode cc pc = .ok (.multianewarray i 2, 4)) (w : Cond.classLink own i "[[I" ∈ sm_GW) (w2 : Cond.arrayClass .int ∈ sm_GW) (hn : ¬ n < 0) (hk : ¬ k < 0) (hN : n.toNatClampNeg = N) (hK : k.toNatClampNeg = K) (hb1 : N * 4 ≤ 536870912) (hb2 : K * componentBytes .int ≤ 536870912) (hb3 : K ≤ 536870912) (hc1 : c0 + 1 + N = c1) (hs1 : s0 + N + N * K = s1) (hcl : c1 ≤ c) (hsl : s1 ≤ s) (kk : ∀ (q : Nat) (r : Nat → Nat), al_W x A (X ++ al_mn (xw x).2.1 q r N K) c1 s1 Q (pc + 4) lv (.ref q :: st)) : al_W x A X c0 s0 Q pc lv (.int k :: .int n :: st) := by
  subst hc1
  subst hs1
  subst hN
  subst hK
  intro H locs ls hP hD hS hl T hT Xs
  have es : "[" ++ (FieldType.array .int).toString = "[[I" := by decide
  have okK := ok.2.2.2.2.2.1
  have hc9 := al_okc ok
  have hs9 := al_oks ok
  obtain ⟨vm₁, cA, comp, -, fA, fC, -, -, X', step⟩ := Xs.multianewarray2F (ty := .int) ok.1 ok.2.2.2.1 (by rw [es]; exact ok.2.2.2.2.1 _ w) ok.2.2.2.2.2.2.1.2.2.2 (ok.2.2.2.2.1 _ w2) (g := F0 (xm x) pc ls (.int k :: .int n :: st)) rfl (by rw [ok.2.1]; exact d) rfl hn hk hb1 hb2 hb3 rfl rfl (by omega) (by omega)
  have eA : cA = (xw x).2.1 5 := Option.some.inj (fA.symm.trans (okK.2 5 ((xw x).2.1 5, .array .int) rfl).2)
  have eC : comp = (xw x).2.1 0 := Option.some.inj (fC.symm.trans (okK.2 0 ((xw x).2.1 0, .int) rfl).2)
  subst eA
  subst eC
  have hTh : (T.setVm vm₁).heap = H := hT
  obtain ⟨f1, f2, -, -⟩ := Jvm.Free.Multi.fill_facts (T.setVm vm₁) ((xw x).2.1 5) ((xw x).2.1 0) n.toNatClampNeg k.toNatClampNeg (defaultValue .int) n.toNatClampNeg
  have f3 : ∀ a : Nat, a < H.size → (Jvm.Free.Multi.fill (T.setVm vm₁) ((xw x).2.1 5) ((xw x).2.1 0) n.toNatClampNeg k.toNatClampNeg (defaultValue .int) n.toNatClampNeg).heap[a]? = H[a]? := fun a ha => by
    rw [Jvm.Free.Multi.fill_old (T.setVm vm₁) _ _ _ _ _ (a := a) (by rw [hTh]; exact ha), hTh]
  have f4 := Jvm.Free.Multi.fill_inner (T.setVm vm₁) ((xw x).2.1 5) ((xw x).2.1 0) n.toNatClampNeg k.toNatClampNeg (defaultValue .int) n.toNatClampNeg
  generalize Jvm.Free.Multi.fill (T.setVm vm₁) ((xw x).2.1 5) ((xw x).2.1 0) n.toNatClampNeg k.toNatClampNeg (defaultValue .int) n.toNatClampNeg = F at X' step f1 f2 f3 f4
  rw [hTh] at f1 f2 f4
  rw [al_outer] at f2
  have hlt : ∀ (j : Nat) (z : Nat × va_E), X[j]? = some z → z.1 < H.size := fun j z hz => (hP j z hz).lt
  have P1 : va_P (xw x).1 sm_cl (X ++ al_mn (xw x).2.1 H.size (fun i => H.size + 1 + i) n.toNatClampNeg k.toNatClampNeg) F.heap := by
    refine (hP.kept (fun j z hz => f3 z.1 (hlt j z hz))).app (fun j z hz => ?_)
    rcases al_mn_at hz with ⟨_, rfl⟩ | ⟨j', hj, _, rfl⟩
    · show F.heap[H.size]? = some (vp_cell _ _)
      rw [vp_cell_q]
      exact f2
    · show F.heap[H.size + 1 + j']? = some (vp_cell _ _)
      rw [f4 j' hj, vp_cell_i]
      show some ({ cls := _, slots := Array.replicate _ (.int 0), vm := .none } : Cell) = _
      rw [arrV_new]
  have ad : ∀ (j : Nat) (z : Nat × va_E), (al_mn (xw x).2.1 H.size (fun i => H.size + 1 + i) n.toNatClampNeg k.toNatClampNeg)[j]? = some z → z.1 = H.size + j := fun j z hz => by
    rcases al_mn_at hz with ⟨rfl, rfl⟩ | ⟨j', hj, rfl, rfl⟩
    · rfl
    · show H.size + 1 + j' = _
      omega
  have D1 : va_D A (X ++ al_mn (xw x).2.1 H.size (fun i => H.size + 1 + i) n.toNatClampNeg k.toNatClampNeg) := by
    refine hD.app ⟨fun i j p q hi hj e => ?_, fun j z hz => al_okA ok _ (Nat.le_trans hS.1 (by rw [ad j z hz]; omega))⟩ (fun i j p q hi hj e => ?_)
    · have e1 := ad i p hi
      have e2 := ad j q hj
      omega
    · have e1 := hlt i p hi
      have e2 := ad j q hj
      omega
  have S1 : va_S A (xs x).heap F.heap locs := ⟨Nat.le_trans hS.1 (by omega), fun a h1 h2 => (f3 a (Nat.lt_of_lt_of_le h1 hS.1)).trans (hS.2.1 a h1 h2), hS.2.2⟩
  obtain ⟨t, t1, t2⟩ := kk H.size (fun i => H.size + 1 + i) F.heap locs ls P1 D1 S1 hl F rfl X'
  have hs : T.heap.size = H.size := by rw [hT]
  rw [hs] at step
  exact ⟨t, step t t1, t2⟩
end
