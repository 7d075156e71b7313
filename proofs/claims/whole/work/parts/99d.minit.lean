section
variable {x : sm_Cx} {A : Nat → Prop} {cc : ByteArray} {c s c0 s0 : Nat} {Q : State → Prop} {pc : Nat} {lv : List (Nat × Value)} {st : List Value} {own : String} {nL fr lo : Nat}
theorem al_lconst {X : va_W} {n : Fin 2} (v : Int64) (ok : al_Ok x A cc own nL fr lo c s) (d : decode cc pc = .ok (.lconst n, 1)) (hv : Int64.ofNat (n : Nat) = v) (k : al_W x A X c0 s0 Q (pc + 1) lv (.long v :: st)) : al_W x A X c0 s0 Q pc lv st := fun H locs ls hP hD hS hl => lv_lconst ok.1 ok.2.1 d hv (k H locs ls hP hD hS hl)
/-- the reference's own method is called while it is made -/
theorem al_callM {N i : Nat} {S S' : sm_St} {r : Nat → Nat} {v1 : Int32} {v2 : Int64} {rest : List Value} (ok : al_Ok x A cc own nL fr lo c s) (d : decode cc pc = .ok (.invokevirtual i, 3)) (he : pm_set N S v1 v2 = some S') (w : Cond.methodLink own i ym_set ∈ sm_GW) (hfr : 1 ≤ fr) (hlo : 25 ≤ lo) (hrm : (rest.map fun v => v.category).sum ≤ 8) (hc : c0 ≤ c) (hs : s0 ≤ s) (kk : al_W x A (sm_pic zm_sy ((xw x).1, (xw x).2.1, r) S') c0 s0 Q (pc + 3) lv rest) : al_W x A (sm_pic zm_sy ((xw x).1, (xw x).2.1, r) S) c0 s0 Q pc lv (.long v2 :: .int v1 :: .ref (r 0) :: rest) := fun H locs ls hP hD hS hl => by
  have hj : sm_inj zm_sy ((xw x).1, (xw x).2.1, r) := fun i j hi hj e => hD.1 i j _ _ (sm_pic_at hi) (sm_pic_at hj) e
  have hA : ∀ a, sm_wA zm_sy ((xw x).1, (xw x).2.1, r) a → A a := by
    rintro a ⟨i, hi, rfl⟩
    exact hD.2 i _ (sm_pic_at hi)
  have M := cm_set (l := xl x) hj N S v1 v2 S' he
  have mw := mwm_set
  refine va_callv (va_runV (As := [.int v1, .long v2]) (rest := rest) (nL := xn x) ⟨ok.1, ok.2.1, ok.2.2.1, ok.2.2.2.1, ok.2.2.2.2.1⟩ M ⟨⟨rfl, rfl, Nat.le_trans hfr ok.2.2.2.2.2.2.2.1, Nat.le_trans hlo ok.2.2.2.2.2.2.2.2.1, al_pay ok mw.2.2.2.1, List.mem_cons_self, ok.2.2.2.2.1 _ mw.2.2.2.1, ok.2.2.2.2.1 _ mw.2.2.1, mw.2.2.2.2.1, fun sig h => by have hd := mw.2.2.2.2.2; rw [h] at hd; exact (Option.some.inj hd).symm, ok.2.2.2.2.1 _ w⟩, ok.2.2.2.2.1 _ mw.1, ok.2.2.2.2.1 _ mw.2.1⟩ ⟨sm_blind (zm_stb _), va_recv (ci := 10) (q := (zc_R10, zc_T10, 32)) ok.2.2.2.2.2.1 hP rfl (q0 := 0) (sm_pic_at (by decide)), fun U hU hW => ⟨rfl, by rw [hU]; exact hP, va_K.moved hW.alike ok.2.2.2.2.2.1, trivial⟩⟩ rfl rfl hl.1 rfl (lv_room hrm) d ⟨Nat.le_trans hc (al_okc ok), Nat.le_trans hs (al_oks ok)⟩) hS (fun a _ h => hA a h) hA (fun u t H1 locs1 ht hvm hw hB hz hk hS1 => ?_)
  subst hw
  have hB1 := hB.1
  rw [ht] at hB1
  exact kk H1 locs1 ls hB1 ((sm_D hj u).weaken (fun _ _ _ h => hA _ h)) hS1 hl
end
def al_M0 : sm_St := (fun _ _ => 0, fun _ _ => 0, fun _ _ => 0)
def al_M1 : sm_St := (pm_set 4000 al_M0 1 1).getD al_M0
def al_M2 : sm_St := (pm_set 4000 al_M1 23 1).getD al_M0
