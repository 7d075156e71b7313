section
variable {x : sm_Cx} {A : Nat → Prop} {b L i : Nat} {t : Nat → Int32} {wx wm : sm_Wc} {c0 s0 : Nat} {Q : State → Prop} {X S : sm_St}
set_option maxRecDepth 20000 in
/-- the start of the walk: both objects are made -/
theorem lw_start (hL : L ≤ 384) {p : Program} {l : Launch} {e : Env} {s : State} {m : MethodId} {below : List Frame} {meth : Method} {c : Code} {D : va_G} {cA : Nat → ClassId} {e0 : Nat → Nat} (hE : ∀ (r : Nat → Nat), (∀ i, i < 147 → s.heap.size ≤ r i) → zx_ex (D, cA, al_ad r e0) s) (hX : va_X b L t s s.heap) (hbl : b < s.heap.size) (ok : al_Ok (p, l, e, room_1, s, m, #[Value.ref b], below, meth, c, 4, (D, cA, fun _ => 0)) (fun q => s.heap.size ≤ q) code "LentShadesLaw" 4 14 516 600000 7302250)
    (he : ∀ (wx wm : sm_Wc) (X S : sm_St) (v : Int32), al_W (p, l, e, room_1, s, m, #[Value.ref b], below, meth, c, 4, (D, cA, fun _ => 0)) (fun q => s.heap.size ≤ q) (lw_W wx wm X S) 168 11852 Q 1038 (lw_V b wx wm v) []) : al_W (p, l, e, room_1, s, m, #[Value.ref b], below, meth, c, 4, (D, cA, fun _ => 0)) (fun q => s.heap.size ≤ q) [] 0 0 Q 0 [(0, .ref b)] [] := by
  refine al_new (ci := 9) (c1 := 1) (s1 := 14) [.null, .null, .null, .null, .null, .null, .null, .null, .null, .null, .null, .int 0, .int 0, .int 0] ok d_law_0 rfl zc_i9 zc_y9 zc_t9 wd_120 wd_121 wd_102 al_d9 rfl rfl (by decide) (by decide) (fun qx => ?_)
  refine al_dup ok d_law_3 rfl ?_
  refine al_callI (X := []) (c1 := 147) (s1 := 3148) ok d_law_4 (a_L_init (h0 := qx)) wd_122 wd_123 wd_124 wd_102 rfl (by decide) (by decide +kernel) (by decide) (by decide) (Nat.le_of_ble_eq_true rfl) rfl rfl (by decide) (by decide) (fun r hr => ?_)
  refine al_astore_n (lv' := [(1, .ref qx), (0, .ref b)]) ok d_law_7 rfl (by decide) rfl ?_
  refine al_new (ci := 10) (c1 := 148) (s1 := 3180) [.null, .null, .null, .null, .null, .null, .int 0, .null, .null, .null, .null, .null, .null, .int 0, .null, .null, .int 0, .int 0, .null, .null, .null, .int 0, .int 0, .int 0, .int 0, .int 0, .null, .null, .null, .int 0, .int 0, .int 0] ok d_law_8 rfl zc_i10 zc_y10 zc_t10 wd_992 wd_993 wd_112 al_d10 rfl rfl (by decide) (by decide) (fun qm => ?_)
  refine al_dup ok d_law_11 rfl ?_
  refine al_callI (c1 := 168) (s1 := 11852) ok d_law_12 (a_M_init (h0 := qm)) wd_994 wd_995 wd_996 wd_112 rfl (by decide) (by decide +kernel) (by decide) (by decide) (Nat.le_of_ble_eq_true rfl) rfl rfl (by decide) (by decide) (fun r2 hr2 => ?_)
  refine al_astore_n (lv' := [(2, .ref qm), (1, .ref qx), (0, .ref b)]) ok d_law_15 rfl (by decide) rfl ?_
  refine al_iconst (nI 0) ok d_law_16 (by decide) ?_
  refine al_istore_n (lv' := [(3, .int (nI 0)), (2, .ref qm), (1, .ref qx), (0, .ref b)]) ok d_law_17 rfl (by decide) rfl ?_
  subst hr
  subst hr2
  intro H locs ls hP hD hS hl
  have hP : va_P D sm_cl (al_pic (D, cA, fun _ => 0) 0 147 r ++ sm_pic zm_sy (D, cA, r2) al_M2) H := hP
  have hD : va_D (fun q => s.heap.size ≤ q) (al_pic (D, cA, fun _ => 0) 0 147 r ++ sm_pic zm_sy (D, cA, r2) al_M2) := hD
  obtain ⟨hP1, hD1⟩ := lw_ad (e := e0) hP hD
  have hjx := lw_injL hD1
  have hjm := lw_injR hD1
  have hge : ∀ i, i < 147 → s.heap.size ≤ r i := fun i hi => by
    have h := hD1.2 i _ (lw_atL hi)
    have h : s.heap.size ≤ al_ad r e0 i := h
    rw [al_ad_r hi] at h
    exact h
  have K : lw_K (p, l, e, room_1, s, m, #[Value.ref b], below, meth, c, 4, (D, cA, fun _ => 0)) (fun q => s.heap.size ≤ q) b L t (D, cA, al_ad r e0) (D, cA, r2) := ⟨ok, hX, hbl, fun q h => Nat.not_le.mpr h, ⟨rfl, rfl⟩, ⟨rfl, rfl⟩, hjx, hjm, hE r hge, hL⟩
  refine lw_loop K (by decide) (by decide) (he _ _) 64 0 al_X0 al_M2 al_R (Nat.zero_le L) (by omega) H locs ls hP1 hD1 hS ?_
  show lv_has ls 4 [(3, .int (nI 0)), (2, .ref (r2 0)), (1, .ref (al_ad r e0 0)), (0, .ref b)]
  rw [al_ad_r (by decide)]
  exact hl
end
