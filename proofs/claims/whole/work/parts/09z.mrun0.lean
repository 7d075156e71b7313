set_option maxHeartbeats 4000000 in
set_option maxRecDepth 20000 in
theorem tm_in {x : sm_Cx} (ok : sm_Ok x zm_sy prog_12_method_3_code "LentShadesModel" 6 0 0) (hr : (xh x).sig.returnType = (some .boolean)) (N : Nat) (S : sm_St) (v0 : Int64) (v2 : Int64) (v4 : Int64) : sm_Sm x zm_sy prog_12_method_3_code (sm_Q x zm_sy (sm_Pi zm_sy (xw x))) (pm_in N S v0 v2 v4) S 0 [(0, .long v0), (2, .long v2), (4, .long v4)] [] := by
  unfold pm_in
  refine sm_lload_n (pc := 0) 0 ok dm_in_0 rfl ?_
  refine sm_lload_n (pc := 1) 1 ok dm_in_1 rfl ?_
  refine sm_lif_lt (pc := 2) 17 ok dm_in_2 dm_in_3 (by decide) (fun _ => ?_) (fun _ => ?_)
  · refine sm_iconst (pc := 17) (0 : Int32) ok dm_in_17 zk_0 ?_
    exact sm_zret (pc := 18) ok dm_in_18 hr rfl
  · refine sm_lload_n (pc := 6) 0 ok dm_in_6 rfl ?_
    refine sm_lload (pc := 7) 2 ok dm_in_7 rfl ?_
    refine sm_lif_gt (pc := 9) 17 ok dm_in_9 dm_in_10 (by decide) (fun _ => ?_) (fun _ => ?_)
    · refine sm_iconst (pc := 17) (0 : Int32) ok dm_in_17 zk_0 ?_
      exact sm_zret (pc := 18) ok dm_in_18 hr rfl
    · refine sm_iconst (pc := 13) (1 : Int32) ok dm_in_13 zk_1 ?_
      refine sm_goto (pc := 14) 18 ok dm_in_14 (by decide) ?_
      exact sm_zret (pc := 18) ok dm_in_18 hr rfl
theorem cm_in {l : Launch} {wc : sm_Wc} (hj : sm_inj zm_sy wc) (N : Nat) (S : sm_St) (v0 : Int64) (v2 : Int64) (v4 : Int64) : sm_Ct l zm_sy wc ym_in prog_12_method_3_code 6 (some .boolean) 0 0 [.long v0, .long v2, .long v4] S (sm_Pi zm_sy wc) (pm_in N S v0 v2 v4) :=
  sm_entry (Pq := fun wc => sm_Pi zm_sy wc) (fun wc => [.long v0, .long v2, .long v4]) (lv := fun wc => [(0, .long v0), (2, .long v2), (4, .long v4)]) (by decide) hj zm_ok zm_stb (fun _ => Nat.le_of_ble_eq_true rfl) (fun _ => rfl) (fun x _ ok hr => tm_in ok hr N S v0 v2 v4)
set_option maxHeartbeats 4000000 in
set_option maxRecDepth 20000 in
theorem tm_bad {x : sm_Cx} (ok : sm_Ok x zm_sy prog_12_method_4_code "LentShadesModel" 2 0 0) (hr : (xh x).sig.returnType = (some .int)) (N : Nat) (S : sm_St) (v1 : Int32) : sm_Sm x zm_sy prog_12_method_4_code (sm_Q x zm_sy (sm_Pi zm_sy (xw x))) (pm_bad N S v1) S 0 [(0, .ref ((xw x).2.2 0)), (1, .int v1)] [] := by
  unfold pm_bad
  refine sm_aload_n (pc := 0) 0 ok dm_bad_0 rfl ?_
  refine sm_getR (pc := 1) (ci := 10) (k := 3) ok dm_bad_1 rfl rfl zc_i10 (by decide) rfl wd_1006 ?_
  refine sm_iconst (pc := 4) (0 : Int32) ok dm_bad_4 zk_0 ?_
  refine sm_dup2 (pc := 5) ok dm_bad_5 rfl rfl ?_
  refine sm_iald (pc := 6) ok dm_bad_6 rfl ?_
  refine sm_iconst (pc := 7) (1 : Int32) ok dm_bad_7 zk_1 ?_
  refine sm_iadd (pc := 8) ok dm_bad_8 ?_
  refine sm_iast (pc := 9) ok dm_bad_9 rfl (fun S_1 => ?_)
  refine sm_iload_n (pc := 10) 1 ok dm_bad_10 rfl ?_
  exact sm_iret (pc := 11) ok dm_bad_11 hr
theorem cm_bad {l : Launch} {wc : sm_Wc} (hj : sm_inj zm_sy wc) (N : Nat) (S : sm_St) (v1 : Int32) : sm_Ct l zm_sy wc ym_bad prog_12_method_4_code 2 (some .int) 0 0 [.ref (wc.2.2 0), .int v1] S (sm_Pi zm_sy wc) (pm_bad N S v1) :=
  sm_entry (Pq := fun wc => sm_Pi zm_sy wc) (fun wc => [.ref (wc.2.2 0), .int v1]) (lv := fun wc => [(0, .ref (wc.2.2 0)), (1, .int v1)]) (by decide) hj zm_ok zm_stb (fun _ => Nat.le_of_ble_eq_true rfl) (fun _ => rfl) (fun x _ ok hr => tm_bad ok hr N S v1)
set_option maxHeartbeats 4000000 in
set_option maxRecDepth 20000 in
theorem tm_no {x : sm_Cx} (ok : sm_Ok x zm_sy prog_12_method_5_code "LentShadesModel" 1 0 0) (hr : (xh x).sig.returnType = (some .int)) (N : Nat) (S : sm_St) : sm_Sm x zm_sy prog_12_method_5_code (sm_Q x zm_sy (sm_Pi zm_sy (xw x))) (pm_no N S) S 0 [(0, .ref ((xw x).2.2 0))] [] := by
  unfold pm_no
  refine sm_aload_n (pc := 0) 0 ok dm_no_0 rfl ?_
  refine sm_getR (pc := 1) (ci := 10) (k := 3) ok dm_no_1 rfl rfl zc_i10 (by decide) rfl wd_1006 ?_
  refine sm_iconst (pc := 4) (1 : Int32) ok dm_no_4 zk_1 ?_
  refine sm_dup2 (pc := 5) ok dm_no_5 rfl rfl ?_
  refine sm_iald (pc := 6) ok dm_no_6 rfl ?_
  refine sm_iconst (pc := 7) (1 : Int32) ok dm_no_7 zk_1 ?_
  refine sm_iadd (pc := 8) ok dm_no_8 ?_
  refine sm_iast (pc := 9) ok dm_no_9 rfl (fun S_1 => ?_)
  refine sm_bipush (pc := 10) (-3 : Int32) ok dm_no_10 zb_m3 ?_
  exact sm_iret (pc := 12) ok dm_no_12 hr
theorem cm_no {l : Launch} {wc : sm_Wc} (hj : sm_inj zm_sy wc) (N : Nat) (S : sm_St) : sm_Ct l zm_sy wc ym_no prog_12_method_5_code 1 (some .int) 0 0 [.ref (wc.2.2 0)] S (sm_Pi zm_sy wc) (pm_no N S) :=
  sm_entry (Pq := fun wc => sm_Pi zm_sy wc) (fun wc => [.ref (wc.2.2 0)]) (lv := fun wc => [(0, .ref (wc.2.2 0))]) (by decide) hj zm_ok zm_stb (fun _ => Nat.le_of_ble_eq_true rfl) (fun _ => rfl) (fun x _ ok hr => tm_no ok hr N S)
set_option maxHeartbeats 4000000 in
set_option maxRecDepth 20000 in
theorem tm_full {x : sm_Cx} (ok : sm_Ok x zm_sy prog_12_method_6_code "LentShadesModel" 1 0 0) (hr : (xh x).sig.returnType = (some .int)) (N : Nat) (S : sm_St) : sm_Sm x zm_sy prog_12_method_6_code (sm_Q x zm_sy (sm_Pi zm_sy (xw x))) (pm_full N S) S 0 [(0, .ref ((xw x).2.2 0))] [] := by
  unfold pm_full
  refine sm_aload_n (pc := 0) 0 ok dm_full_0 rfl ?_
  refine sm_getR (pc := 1) (ci := 10) (k := 3) ok dm_full_1 rfl rfl zc_i10 (by decide) rfl wd_1006 ?_
  refine sm_iconst (pc := 4) (2 : Int32) ok dm_full_4 zk_2 ?_
  refine sm_dup2 (pc := 5) ok dm_full_5 rfl rfl ?_
  refine sm_iald (pc := 6) ok dm_full_6 rfl ?_
  refine sm_iconst (pc := 7) (1 : Int32) ok dm_full_7 zk_1 ?_
  refine sm_iadd (pc := 8) ok dm_full_8 ?_
  refine sm_iast (pc := 9) ok dm_full_9 rfl (fun S_1 => ?_)
  refine sm_bipush (pc := 10) (-4 : Int32) ok dm_full_10 zb_m4 ?_
  exact sm_iret (pc := 12) ok dm_full_12 hr
theorem cm_full {l : Launch} {wc : sm_Wc} (hj : sm_inj zm_sy wc) (N : Nat) (S : sm_St) : sm_Ct l zm_sy wc ym_full prog_12_method_6_code 1 (some .int) 0 0 [.ref (wc.2.2 0)] S (sm_Pi zm_sy wc) (pm_full N S) :=
  sm_entry (Pq := fun wc => sm_Pi zm_sy wc) (fun wc => [.ref (wc.2.2 0)]) (lv := fun wc => [(0, .ref (wc.2.2 0))]) (by decide) hj zm_ok zm_stb (fun _ => Nat.le_of_ble_eq_true rfl) (fun _ => rfl) (fun x _ ok hr => tm_full ok hr N S)
set_option maxHeartbeats 4000000 in
set_option maxRecDepth 20000 in
theorem tm_set_b10 {x : sm_Cx} (ok : sm_Ok x zm_sy prog_12_method_7_code "LentShadesModel" 6 0 0) (hr : (xh x).sig.returnType = none) (N : Nat) : ∀ (n : Nat) (v1 : Int32) (v4 : Int64) (S : sm_St), sm_Sm x zm_sy prog_12_method_7_code (sm_Q x zm_sy (sm_Pv zm_sy (xw x))) (pm_set_b10 N n v1 v4 S) S 10 [(0, .ref ((xw x).2.2 0)), (1, .int v1), (4, .long v4)] [] := by
  intro n
  induction n with
  | zero =>
    intro v1 v4 S
    exact sm_none
  | succ n ih =>
    intro v1 v4 S
    show sm_Sm x zm_sy prog_12_method_7_code (sm_Q x zm_sy (sm_Pv zm_sy (xw x))) (if v4 ≤ (0 : Int64) then (some S) else (if sm_in v1 124 = true then (if sm_in (((64 : Int32) * v1) + (S.1 6 v1.toNatClampNeg)) 7936 = true then sm_lt (sm_sL S 5 (((64 : Int32) * v1) + (S.1 6 v1.toNatClampNeg)).toNatClampNeg (v4 - v4 / (1073741824 : Int64) * (1073741824 : Int64))) (fun (S_3 : sm_St) => sm_lt (v4 / (1073741824 : Int64)) (fun (v4_4 : Int64) => if sm_in v1 124 = true then (if sm_in v1 124 = true then sm_lt (sm_sI S_3 6 v1.toNatClampNeg ((S_3.1 6 v1.toNatClampNeg) + (1 : Int32))) (fun (S_5 : sm_St) => (pm_set_b10 N n) v1 v4_4 S_5) else none) else none)) else none) else none)) S 10 [(0, .ref ((xw x).2.2 0)), (1, .int v1), (4, .long v4)] []
    refine sm_lload (pc := 10) 2 ok dm_set_10 rfl ?_
    refine sm_lconst (pc := 12) (0 : Int64) ok dm_set_12 zl_0 ?_
    refine sm_lif_le (pc := 13) 60 ok dm_set_13 dm_set_14 (by decide) (fun _ => ?_) (fun _ => ?_)
    · exact sm_vret (pc := 60) ok dm_set_60 hr
    · refine sm_aload_n (pc := 17) 0 ok dm_set_17 rfl ?_
      refine sm_getR (pc := 18) (ci := 10) (k := 4) ok dm_set_18 rfl rfl zc_i10 (by decide) rfl wd_1007 ?_
      refine sm_bipush (pc := 21) (64 : Int32) ok dm_set_21 zb_64 ?_
      refine sm_iload_n (pc := 23) 1 ok dm_set_23 rfl ?_
      refine sm_imul (pc := 24) ok dm_set_24 ?_
      refine sm_aload_n (pc := 25) 0 ok dm_set_25 rfl ?_
      refine sm_getR (pc := 26) (ci := 10) (k := 5) ok dm_set_26 rfl rfl zc_i10 (by decide) rfl wd_1008 ?_
      refine sm_iload_n (pc := 29) 1 ok dm_set_29 rfl ?_
      refine sm_iald (pc := 30) ok dm_set_30 rfl ?_
      refine sm_iadd (pc := 31) ok dm_set_31 ?_
      refine sm_lload (pc := 32) 2 ok dm_set_32 rfl ?_
      refine sm_ldc2 (pc := 34) ok dm_set_34 wd_1002 ?_
      refine sm_lremc (pc := 37) ok dm_set_37 (by decide) ?_
      refine sm_last (pc := 38) ok dm_set_38 rfl (fun S_3 => ?_)
      refine sm_lload (pc := 39) 2 ok dm_set_39 rfl ?_
      refine sm_ldc2 (pc := 41) ok dm_set_41 wd_1002 ?_
      refine sm_ldivc (pc := 44) ok dm_set_44 (by decide) ?_
      refine sm_lstore (pc := 45) (i := 4) ok dm_set_45 (by decide) (fun v => [(4, .long v), (0, .ref ((xw x).2.2 0)), (1, .int v1)]) (fun _ => rfl) (fun v4_4 => ?_)
      refine sm_aload_n (pc := 47) 1 ok dm_set_47 rfl ?_
      refine sm_getR (pc := 48) (ci := 10) (k := 5) ok dm_set_48 rfl rfl zc_i10 (by decide) rfl wd_1008 ?_
      refine sm_iload_n (pc := 51) 2 ok dm_set_51 rfl ?_
      refine sm_dup2 (pc := 52) ok dm_set_52 rfl rfl ?_
      refine sm_iald (pc := 53) ok dm_set_53 rfl ?_
      refine sm_iconst (pc := 54) (1 : Int32) ok dm_set_54 zk_1 ?_
      refine sm_iadd (pc := 55) ok dm_set_55 ?_
      refine sm_iast (pc := 56) ok dm_set_56 rfl (fun S_5 => ?_)
      refine sm_goto (pc := 57) 10 ok dm_set_57 (by decide) ?_
      refine sm_lv [1, 2, 0] rfl ?_
      exact ih _ _ _
set_option maxHeartbeats 4000000 in
set_option maxRecDepth 20000 in
theorem tm_set {x : sm_Cx} (ok : sm_Ok x zm_sy prog_12_method_7_code "LentShadesModel" 6 0 0) (hr : (xh x).sig.returnType = none) (N : Nat) (S : sm_St) (v1 : Int32) (v2 : Int64) : sm_Sm x zm_sy prog_12_method_7_code (sm_Q x zm_sy (sm_Pv zm_sy (xw x))) (pm_set N S v1 v2) S 0 [(0, .ref ((xw x).2.2 0)), (1, .int v1), (2, .long v2)] [] := by
  unfold pm_set
  refine sm_lload_n (pc := 0) 2 ok dm_set_0 rfl ?_
  refine sm_lstore (pc := 1) (i := 4) ok dm_set_1 (by decide) (fun v => [(4, .long v), (0, .ref ((xw x).2.2 0)), (1, .int v1), (2, .long v2)]) (fun _ => rfl) (fun v4_1 => ?_)
  refine sm_aload_n (pc := 3) 1 ok dm_set_3 rfl ?_
  refine sm_getR (pc := 4) (ci := 10) (k := 5) ok dm_set_4 rfl rfl zc_i10 (by decide) rfl wd_1008 ?_
  refine sm_iload_n (pc := 7) 2 ok dm_set_7 rfl ?_
  refine sm_iconst (pc := 8) (0 : Int32) ok dm_set_8 zk_0 ?_
  refine sm_iast (pc := 9) ok dm_set_9 rfl (fun S_2 => ?_)
  refine sm_lv [1, 2, 0] rfl ?_
  exact tm_set_b10 ok hr N N _ _ _
theorem cm_set {l : Launch} {wc : sm_Wc} (hj : sm_inj zm_sy wc) (N : Nat) (S : sm_St) (v1 : Int32) (v2 : Int64) : sm_Ct l zm_sy wc ym_set prog_12_method_7_code 6 none 0 0 [.ref (wc.2.2 0), .int v1, .long v2] S (sm_Pv zm_sy wc) (pm_set N S v1 v2) :=
  sm_entry (Pq := fun wc => sm_Pv zm_sy wc) (fun wc => [.ref (wc.2.2 0), .int v1, .long v2]) (lv := fun wc => [(0, .ref (wc.2.2 0)), (1, .int v1), (2, .long v2)]) (by decide) hj zm_ok zm_stb (fun _ => Nat.le_of_ble_eq_true rfl) (fun _ => rfl) (fun x _ ok hr => tm_set ok hr N S v1 v2)
set_option maxHeartbeats 4000000 in
set_option maxRecDepth 20000 in
theorem tm_copy_b2 {x : sm_Cx} (ok : sm_Ok x zm_sy prog_12_method_8_code "LentShadesModel" 4 0 0) (hr : (xh x).sig.returnType = none) (N : Nat) : ∀ (n : Nat) (v1 : Int32) (v2 : Int32) (v3 : Int32) (S : sm_St), sm_Sm x zm_sy prog_12_method_8_code (sm_Q x zm_sy (sm_Pv zm_sy (xw x))) (pm_copy_b2 N n v1 v2 v3 S) S 2 [(0, .ref ((xw x).2.2 0)), (1, .int v1), (2, .int v2), (3, .int v3)] [] := by
  intro n
  induction n with
  | zero =>
    intro v1 v2 v3 S
    exact sm_none
  | succ n ih =>
    intro v1 v2 v3 S
    show sm_Sm x zm_sy prog_12_method_8_code (sm_Q x zm_sy (sm_Pv zm_sy (xw x))) (if sm_in v2 124 = true then (if (S.1 6 v2.toNatClampNeg) ≤ v3 then (if sm_in v2 124 = true then (if sm_in v1 124 = true then sm_lt (sm_sI S 6 v1.toNatClampNeg (S.1 6 v2.toNatClampNeg)) (fun (S_2 : sm_St) => some S_2) else none) else none) else (if sm_in (((64 : Int32) * v2) + v3) 7936 = true then (if sm_in (((64 : Int32) * v1) + v3) 7936 = true then sm_lt (sm_sL S 5 (((64 : Int32) * v1) + v3).toNatClampNeg (S.2.1 5 (((64 : Int32) * v2) + v3).toNatClampNeg)) (fun (S_3 : sm_St) => sm_lt (v3 + (1 : Int32)) (fun (v3_4 : Int32) => (pm_copy_b2 N n) v1 v2 v3_4 S_3)) else none) else none)) else none) S 2 [(0, .ref ((xw x).2.2 0)), (1, .int v1), (2, .int v2), (3, .int v3)] []
    refine sm_iload_n (pc := 2) 3 ok dm_copy_2 rfl ?_
    refine sm_aload_n (pc := 3) 0 ok dm_copy_3 rfl ?_
    refine sm_getR (pc := 4) (ci := 10) (k := 5) ok dm_copy_4 rfl rfl zc_i10 (by decide) rfl wd_1008 ?_
    refine sm_iload_n (pc := 7) 2 ok dm_copy_7 rfl ?_
    refine sm_iald (pc := 8) ok dm_copy_8 rfl ?_
    refine sm_icmp_ge (pc := 9) 40 ok dm_copy_9 (by decide) (fun _ => ?_) (fun _ => ?_)
    · refine sm_aload_n (pc := 40) 0 ok dm_copy_40 rfl ?_
      refine sm_getR (pc := 41) (ci := 10) (k := 5) ok dm_copy_41 rfl rfl zc_i10 (by decide) rfl wd_1008 ?_
      refine sm_iload_n (pc := 44) 1 ok dm_copy_44 rfl ?_
      refine sm_aload_n (pc := 45) 0 ok dm_copy_45 rfl ?_
      refine sm_getR (pc := 46) (ci := 10) (k := 5) ok dm_copy_46 rfl rfl zc_i10 (by decide) rfl wd_1008 ?_
      refine sm_iload_n (pc := 49) 2 ok dm_copy_49 rfl ?_
      refine sm_iald (pc := 50) ok dm_copy_50 rfl ?_
      refine sm_iast (pc := 51) ok dm_copy_51 rfl (fun S_2 => ?_)
      exact sm_vret (pc := 52) ok dm_copy_52 hr
    · refine sm_aload_n (pc := 12) 0 ok dm_copy_12 rfl ?_
      refine sm_getR (pc := 13) (ci := 10) (k := 4) ok dm_copy_13 rfl rfl zc_i10 (by decide) rfl wd_1007 ?_
      refine sm_bipush (pc := 16) (64 : Int32) ok dm_copy_16 zb_64 ?_
      refine sm_iload_n (pc := 18) 1 ok dm_copy_18 rfl ?_
      refine sm_imul (pc := 19) ok dm_copy_19 ?_
      refine sm_iload_n (pc := 20) 3 ok dm_copy_20 rfl ?_
      refine sm_iadd (pc := 21) ok dm_copy_21 ?_
      refine sm_aload_n (pc := 22) 0 ok dm_copy_22 rfl ?_
      refine sm_getR (pc := 23) (ci := 10) (k := 4) ok dm_copy_23 rfl rfl zc_i10 (by decide) rfl wd_1007 ?_
      refine sm_bipush (pc := 26) (64 : Int32) ok dm_copy_26 zb_64 ?_
      refine sm_iload_n (pc := 28) 2 ok dm_copy_28 rfl ?_
      refine sm_imul (pc := 29) ok dm_copy_29 ?_
      refine sm_iload_n (pc := 30) 3 ok dm_copy_30 rfl ?_
      refine sm_iadd (pc := 31) ok dm_copy_31 ?_
      refine sm_lald (pc := 32) ok dm_copy_32 rfl ?_
      refine sm_last (pc := 33) ok dm_copy_33 rfl (fun S_3 => ?_)
      refine sm_iinc (pc := 34) (i := 3) 3 (1 : Int32) ok dm_copy_34 rfl zk_1 (by decide) (fun v => [(3, .int v), (0, .ref ((xw x).2.2 0)), (1, .int v1), (2, .int v2)]) (fun _ => rfl) (fun v3_4 => ?_)
      refine sm_goto (pc := 37) 2 ok dm_copy_37 (by decide) ?_
      refine sm_lv [1, 2, 3, 0] rfl ?_
      exact ih _ _ _ _
set_option maxHeartbeats 4000000 in
set_option maxRecDepth 20000 in
theorem tm_copy {x : sm_Cx} (ok : sm_Ok x zm_sy prog_12_method_8_code "LentShadesModel" 4 0 0) (hr : (xh x).sig.returnType = none) (N : Nat) (S : sm_St) (v1 : Int32) (v2 : Int32) : sm_Sm x zm_sy prog_12_method_8_code (sm_Q x zm_sy (sm_Pv zm_sy (xw x))) (pm_copy N S v1 v2) S 0 [(0, .ref ((xw x).2.2 0)), (1, .int v1), (2, .int v2)] [] := by
  unfold pm_copy
  refine sm_iconst (pc := 0) (0 : Int32) ok dm_copy_0 zk_0 ?_
  refine sm_istore_n (pc := 1) (i := 3) ok dm_copy_1 rfl (by decide) (fun v => [(3, .int v), (0, .ref ((xw x).2.2 0)), (1, .int v1), (2, .int v2)]) (fun _ => rfl) (fun v3_1 => ?_)
  refine sm_lv [1, 2, 3, 0] rfl ?_
  exact tm_copy_b2 ok hr N N _ _ _ _
theorem cm_copy {l : Launch} {wc : sm_Wc} (hj : sm_inj zm_sy wc) (N : Nat) (S : sm_St) (v1 : Int32) (v2 : Int32) : sm_Ct l zm_sy wc ym_copy prog_12_method_8_code 4 none 0 0 [.ref (wc.2.2 0), .int v1, .int v2] S (sm_Pv zm_sy wc) (pm_copy N S v1 v2) :=
  sm_entry (Pq := fun wc => sm_Pv zm_sy wc) (fun wc => [.ref (wc.2.2 0), .int v1, .int v2]) (lv := fun wc => [(0, .ref (wc.2.2 0)), (1, .int v1), (2, .int v2)]) (by decide) hj zm_ok zm_stb (fun _ => Nat.le_of_ble_eq_true rfl) (fun _ => rfl) (fun x _ ok hr => tm_copy ok hr N S v1 v2)
set_option maxHeartbeats 4000000 in
set_option maxRecDepth 20000 in
theorem tm_trim_b0 {x : sm_Cx} (ok : sm_Ok x zm_sy prog_12_method_9_code "LentShadesModel" 2 0 0) (hr : (xh x).sig.returnType = none) (N : Nat) : ∀ (n : Nat) (v1 : Int32) (S : sm_St), sm_Sm x zm_sy prog_12_method_9_code (sm_Q x zm_sy (sm_Pv zm_sy (xw x))) (pm_trim_b0 N n v1 S) S 0 [(0, .ref ((xw x).2.2 0)), (1, .int v1)] [] := by
  intro n
  induction n with
  | zero =>
    intro v1 S
    exact sm_none
  | succ n ih =>
    intro v1 S
    show sm_Sm x zm_sy prog_12_method_9_code (sm_Q x zm_sy (sm_Pv zm_sy (xw x))) (if sm_in v1 124 = true then (if (S.1 6 v1.toNatClampNeg) ≤ 0 then (some S) else (if sm_in v1 124 = true then (if sm_in ((((64 : Int32) * v1) + (S.1 6 v1.toNatClampNeg)) - (1 : Int32)) 7936 = true then (if (S.2.1 5 ((((64 : Int32) * v1) + (S.1 6 v1.toNatClampNeg)) - (1 : Int32)).toNatClampNeg) = (0 : Int64) then (if sm_in v1 124 = true then (if sm_in v1 124 = true then sm_lt (sm_sI S 6 v1.toNatClampNeg ((S.1 6 v1.toNatClampNeg) - (1 : Int32))) (fun (S_1 : sm_St) => (pm_trim_b0 N n) v1 S_1) else none) else none) else (some S)) else none) else none)) else none) S 0 [(0, .ref ((xw x).2.2 0)), (1, .int v1)] []
    refine sm_aload_n (pc := 0) 0 ok dm_trim_0 rfl ?_
    refine sm_getR (pc := 1) (ci := 10) (k := 5) ok dm_trim_1 rfl rfl zc_i10 (by decide) rfl wd_1008 ?_
    refine sm_iload_n (pc := 4) 1 ok dm_trim_4 rfl ?_
    refine sm_iald (pc := 5) ok dm_trim_5 rfl ?_
    refine sm_if_le (pc := 6) 45 ok dm_trim_6 (by decide) (fun _ => ?_) (fun _ => ?_)
    · exact sm_vret (pc := 45) ok dm_trim_45 hr
    · refine sm_aload_n (pc := 9) 0 ok dm_trim_9 rfl ?_
      refine sm_getR (pc := 10) (ci := 10) (k := 4) ok dm_trim_10 rfl rfl zc_i10 (by decide) rfl wd_1007 ?_
      refine sm_bipush (pc := 13) (64 : Int32) ok dm_trim_13 zb_64 ?_
      refine sm_iload_n (pc := 15) 1 ok dm_trim_15 rfl ?_
      refine sm_imul (pc := 16) ok dm_trim_16 ?_
      refine sm_aload_n (pc := 17) 0 ok dm_trim_17 rfl ?_
      refine sm_getR (pc := 18) (ci := 10) (k := 5) ok dm_trim_18 rfl rfl zc_i10 (by decide) rfl wd_1008 ?_
      refine sm_iload_n (pc := 21) 1 ok dm_trim_21 rfl ?_
      refine sm_iald (pc := 22) ok dm_trim_22 rfl ?_
      refine sm_iadd (pc := 23) ok dm_trim_23 ?_
      refine sm_iconst (pc := 24) (1 : Int32) ok dm_trim_24 zk_1 ?_
      refine sm_isub (pc := 25) ok dm_trim_25 ?_
      refine sm_lald (pc := 26) ok dm_trim_26 rfl ?_
      refine sm_lconst (pc := 27) (0 : Int64) ok dm_trim_27 zl_0 ?_
      refine sm_lif_ne (pc := 28) 45 ok dm_trim_28 dm_trim_29 (by decide) (fun _ => ?_) (fun _ => ?_)
      · exact sm_vret (pc := 45) ok dm_trim_45 hr
      · refine sm_aload_n (pc := 32) 0 ok dm_trim_32 rfl ?_
        refine sm_getR (pc := 33) (ci := 10) (k := 5) ok dm_trim_33 rfl rfl zc_i10 (by decide) rfl wd_1008 ?_
        refine sm_iload_n (pc := 36) 1 ok dm_trim_36 rfl ?_
        refine sm_dup2 (pc := 37) ok dm_trim_37 rfl rfl ?_
        refine sm_iald (pc := 38) ok dm_trim_38 rfl ?_
        refine sm_iconst (pc := 39) (1 : Int32) ok dm_trim_39 zk_1 ?_
        refine sm_isub (pc := 40) ok dm_trim_40 ?_
        refine sm_iast (pc := 41) ok dm_trim_41 rfl (fun S_1 => ?_)
        refine sm_goto (pc := 42) 0 ok dm_trim_42 (by decide) ?_
        exact ih _ _
set_option maxHeartbeats 4000000 in
set_option maxRecDepth 20000 in
theorem tm_trim {x : sm_Cx} (ok : sm_Ok x zm_sy prog_12_method_9_code "LentShadesModel" 2 0 0) (hr : (xh x).sig.returnType = none) (N : Nat) (S : sm_St) (v1 : Int32) : sm_Sm x zm_sy prog_12_method_9_code (sm_Q x zm_sy (sm_Pv zm_sy (xw x))) (pm_trim N S v1) S 0 [(0, .ref ((xw x).2.2 0)), (1, .int v1)] [] := by
  unfold pm_trim
  exact tm_trim_b0 ok hr N N _ _
theorem cm_trim {l : Launch} {wc : sm_Wc} (hj : sm_inj zm_sy wc) (N : Nat) (S : sm_St) (v1 : Int32) : sm_Ct l zm_sy wc ym_trim prog_12_method_9_code 2 none 0 0 [.ref (wc.2.2 0), .int v1] S (sm_Pv zm_sy wc) (pm_trim N S v1) :=
  sm_entry (Pq := fun wc => sm_Pv zm_sy wc) (fun wc => [.ref (wc.2.2 0), .int v1]) (lv := fun wc => [(0, .ref (wc.2.2 0)), (1, .int v1)]) (by decide) hj zm_ok zm_stb (fun _ => Nat.le_of_ble_eq_true rfl) (fun _ => rfl) (fun x _ ok hr => tm_trim ok hr N S v1)
set_option maxHeartbeats 4000000 in
set_option maxRecDepth 20000 in
theorem tm_times_b103 {x : sm_Cx} (ok : sm_Ok x zm_sy prog_12_method_10_code "LentShadesModel" 9 1 21) (hr : (xh x).sig.returnType = none) (N : Nat) (v1 : Int32) (S : sm_St) : sm_Sm x zm_sy prog_12_method_10_code (sm_Q x zm_sy (sm_Pv zm_sy (xw x))) (pm_times_b103 N v1 S) S 103 [(0, .ref ((xw x).2.2 0)), (1, .int v1)] [] := by
  unfold pm_times_b103
  refine sm_aload_n (pc := 103) 0 ok dm_times_103 rfl ?_
  refine sm_iload_n (pc := 104) 1 ok dm_times_104 rfl ?_
  refine sm_callV_v (pc := 105) (ci := 10) [.int v1] ok dm_times_105 wd_1134 mwm_trim rfl rfl (Nat.le_of_ble_eq_true rfl) (Nat.le_of_ble_eq_true rfl) rfl rfl (Nat.le_of_ble_eq_true rfl) (cm_trim (sm_okj ok) N S v1) (fun S_9 => ?_)
  exact sm_vret (pc := 108) ok dm_times_108 hr
set_option maxHeartbeats 4000000 in
set_option maxRecDepth 20000 in
theorem tm_times_b6 {x : sm_Cx} (ok : sm_Ok x zm_sy prog_12_method_10_code "LentShadesModel" 9 1 21) (hr : (xh x).sig.returnType = none) (N : Nat) : ∀ (n : Nat) (v1 : Int32) (v2 : Int64) (v4 : Int64) (v6 : Int32) (S : sm_St), sm_Sm x zm_sy prog_12_method_10_code (sm_Q x zm_sy (sm_Pv zm_sy (xw x))) (pm_times_b6 N n v1 v2 v4 v6 S) S 6 [(0, .ref ((xw x).2.2 0)), (1, .int v1), (2, .long v2), (4, .long v4), (6, .int v6)] [] := by
  intro n
  induction n with
  | zero =>
    intro v1 v2 v4 v6 S
    exact sm_none
  | succ n ih =>
    intro v1 v2 v4 v6 S
    show sm_Sm x zm_sy prog_12_method_10_code (sm_Q x zm_sy (sm_Pv zm_sy (xw x))) (if sm_in v1 124 = true then (if (S.1 6 v1.toNatClampNeg) ≤ v6 then (if v4 ≤ (0 : Int64) then (pm_times_b103 N v1 S) else (if sm_in v1 124 = true then (if sm_in (((64 : Int32) * v1) + (S.1 6 v1.toNatClampNeg)) 7936 = true then sm_lt (sm_sL S 5 (((64 : Int32) * v1) + (S.1 6 v1.toNatClampNeg)).toNatClampNeg v4) (fun (S_3 : sm_St) => if sm_in v1 124 = true then (if sm_in v1 124 = true then sm_lt (sm_sI S_3 6 v1.toNatClampNeg ((S_3.1 6 v1.toNatClampNeg) + (1 : Int32))) (fun (S_4 : sm_St) => pm_times_b103 N v1 S_4) else none) else none) else none) else none)) else (if sm_in (((64 : Int32) * v1) + v6) 7936 = true then (sm_lt (((S.2.1 5 (((64 : Int32) * v1) + v6).toNatClampNeg) * v2) + v4) (fun (v7_5 : Int64) => if sm_in (((64 : Int32) * v1) + v6) 7936 = true then sm_lt (sm_sL S 5 (((64 : Int32) * v1) + v6).toNatClampNeg (v7_5 - v7_5 / (1073741824 : Int64) * (1073741824 : Int64))) (fun (S_6 : sm_St) => sm_lt (v7_5 / (1073741824 : Int64)) (fun (v4_7 : Int64) => sm_lt (v6 + (1 : Int32)) (fun (v6_8 : Int32) => (pm_times_b6 N n) v1 v2 v4_7 v6_8 S_6))) else none)) else none)) else none) S 6 [(0, .ref ((xw x).2.2 0)), (1, .int v1), (2, .long v2), (4, .long v4), (6, .int v6)] []
    refine sm_iload (pc := 6) 4 ok dm_times_6 rfl ?_
    refine sm_aload_n (pc := 8) 0 ok dm_times_8 rfl ?_
    refine sm_getR (pc := 9) (ci := 10) (k := 5) ok dm_times_9 rfl rfl zc_i10 (by decide) rfl wd_1008 ?_
    refine sm_iload_n (pc := 12) 1 ok dm_times_12 rfl ?_
    refine sm_iald (pc := 13) ok dm_times_13 rfl ?_
    refine sm_icmp_ge (pc := 14) 68 ok dm_times_14 (by decide) (fun _ => ?_) (fun _ => ?_)
    · refine sm_lload (pc := 68) 3 ok dm_times_68 rfl ?_
      refine sm_lconst (pc := 70) (0 : Int64) ok dm_times_70 zl_0 ?_
      refine sm_lif_le (pc := 71) 103 ok dm_times_71 dm_times_72 (by decide) (fun _ => ?_) (fun _ => ?_)
      · refine sm_lv [0, 1] rfl ?_
        exact tm_times_b103 ok hr N _ _
      · refine sm_aload_n (pc := 75) 0 ok dm_times_75 rfl ?_
        refine sm_getR (pc := 76) (ci := 10) (k := 4) ok dm_times_76 rfl rfl zc_i10 (by decide) rfl wd_1007 ?_
        refine sm_bipush (pc := 79) (64 : Int32) ok dm_times_79 zb_64 ?_
        refine sm_iload_n (pc := 81) 1 ok dm_times_81 rfl ?_
        refine sm_imul (pc := 82) ok dm_times_82 ?_
        refine sm_aload_n (pc := 83) 0 ok dm_times_83 rfl ?_
        refine sm_getR (pc := 84) (ci := 10) (k := 5) ok dm_times_84 rfl rfl zc_i10 (by decide) rfl wd_1008 ?_
        refine sm_iload_n (pc := 87) 1 ok dm_times_87 rfl ?_
        refine sm_iald (pc := 88) ok dm_times_88 rfl ?_
        refine sm_iadd (pc := 89) ok dm_times_89 ?_
        refine sm_lload (pc := 90) 3 ok dm_times_90 rfl ?_
        refine sm_last (pc := 92) ok dm_times_92 rfl (fun S_3 => ?_)
        refine sm_aload_n (pc := 93) 0 ok dm_times_93 rfl ?_
        refine sm_getR (pc := 94) (ci := 10) (k := 5) ok dm_times_94 rfl rfl zc_i10 (by decide) rfl wd_1008 ?_
        refine sm_iload_n (pc := 97) 1 ok dm_times_97 rfl ?_
        refine sm_dup2 (pc := 98) ok dm_times_98 rfl rfl ?_
        refine sm_iald (pc := 99) ok dm_times_99 rfl ?_
        refine sm_iconst (pc := 100) (1 : Int32) ok dm_times_100 zk_1 ?_
        refine sm_iadd (pc := 101) ok dm_times_101 ?_
        refine sm_iast (pc := 102) ok dm_times_102 rfl (fun S_4 => ?_)
        refine sm_lv [0, 1] rfl ?_
        exact tm_times_b103 ok hr N _ _
    · refine sm_aload_n (pc := 17) 0 ok dm_times_17 rfl ?_
      refine sm_getR (pc := 18) (ci := 10) (k := 4) ok dm_times_18 rfl rfl zc_i10 (by decide) rfl wd_1007 ?_
      refine sm_bipush (pc := 21) (64 : Int32) ok dm_times_21 zb_64 ?_
      refine sm_iload_n (pc := 23) 1 ok dm_times_23 rfl ?_
      refine sm_imul (pc := 24) ok dm_times_24 ?_
      refine sm_iload (pc := 25) 4 ok dm_times_25 rfl ?_
      refine sm_iadd (pc := 27) ok dm_times_27 ?_
      refine sm_lald (pc := 28) ok dm_times_28 rfl ?_
      refine sm_lload_n (pc := 29) 2 ok dm_times_29 rfl ?_
      refine sm_lmul (pc := 30) ok dm_times_30 ?_
      refine sm_lload (pc := 31) 3 ok dm_times_31 rfl ?_
      refine sm_ladd (pc := 33) ok dm_times_33 ?_
      refine sm_lstore (pc := 34) (i := 7) ok dm_times_34 (by decide) (fun v => [(7, .long v), (0, .ref ((xw x).2.2 0)), (1, .int v1), (2, .long v2), (4, .long v4), (6, .int v6)]) (fun _ => rfl) (fun v7_5 => ?_)
      refine sm_aload_n (pc := 36) 1 ok dm_times_36 rfl ?_
      refine sm_getR (pc := 37) (ci := 10) (k := 4) ok dm_times_37 rfl rfl zc_i10 (by decide) rfl wd_1007 ?_
      refine sm_bipush (pc := 40) (64 : Int32) ok dm_times_40 zb_64 ?_
      refine sm_iload_n (pc := 42) 2 ok dm_times_42 rfl ?_
      refine sm_imul (pc := 43) ok dm_times_43 ?_
      refine sm_iload (pc := 44) 5 ok dm_times_44 rfl ?_
      refine sm_iadd (pc := 46) ok dm_times_46 ?_
      refine sm_lload (pc := 47) 0 ok dm_times_47 rfl ?_
      refine sm_ldc2 (pc := 49) ok dm_times_49 wd_1002 ?_
      refine sm_lremc (pc := 52) ok dm_times_52 (by decide) ?_
      refine sm_last (pc := 53) ok dm_times_53 rfl (fun S_6 => ?_)
      refine sm_lload (pc := 54) 0 ok dm_times_54 rfl ?_
      refine sm_ldc2 (pc := 56) ok dm_times_56 wd_1002 ?_
      refine sm_ldivc (pc := 59) ok dm_times_59 (by decide) ?_
      refine sm_lstore (pc := 60) (i := 4) ok dm_times_60 (by decide) (fun v => [(4, .long v), (7, .long v7_5), (0, .ref ((xw x).2.2 0)), (1, .int v1), (2, .long v2), (6, .int v6)]) (fun _ => rfl) (fun v4_7 => ?_)
      refine sm_iinc (pc := 62) (i := 6) 5 (1 : Int32) ok dm_times_62 rfl zk_1 (by decide) (fun v => [(6, .int v), (4, .long v4_7), (7, .long v7_5), (0, .ref ((xw x).2.2 0)), (1, .int v1), (2, .long v2)]) (fun _ => rfl) (fun v6_8 => ?_)
      refine sm_goto (pc := 65) 6 ok dm_times_65 (by decide) ?_
      refine sm_lv [3, 4, 5, 1, 0] rfl ?_
      exact ih _ _ _ _ _
set_option maxHeartbeats 4000000 in
set_option maxRecDepth 20000 in
theorem tm_times {x : sm_Cx} (ok : sm_Ok x zm_sy prog_12_method_10_code "LentShadesModel" 9 1 21) (hr : (xh x).sig.returnType = none) (N : Nat) (S : sm_St) (v1 : Int32) (v2 : Int64) : sm_Sm x zm_sy prog_12_method_10_code (sm_Q x zm_sy (sm_Pv zm_sy (xw x))) (pm_times N S v1 v2) S 0 [(0, .ref ((xw x).2.2 0)), (1, .int v1), (2, .long v2)] [] := by
  unfold pm_times
  refine sm_lconst (pc := 0) (0 : Int64) ok dm_times_0 zl_0 ?_
  refine sm_lstore (pc := 1) (i := 4) ok dm_times_1 (by decide) (fun v => [(4, .long v), (0, .ref ((xw x).2.2 0)), (1, .int v1), (2, .long v2)]) (fun _ => rfl) (fun v4_1 => ?_)
  refine sm_iconst (pc := 3) (0 : Int32) ok dm_times_3 zk_0 ?_
  refine sm_istore (pc := 4) (i := 6) ok dm_times_4 (by decide) (fun v => [(6, .int v), (4, .long v4_1), (0, .ref ((xw x).2.2 0)), (1, .int v1), (2, .long v2)]) (fun _ => rfl) (fun v6_2 => ?_)
  refine sm_lv [2, 3, 4, 1, 0] rfl ?_
  exact tm_times_b6 ok hr N N _ _ _ _ _
theorem cm_times {l : Launch} {wc : sm_Wc} (hj : sm_inj zm_sy wc) (N : Nat) (S : sm_St) (v1 : Int32) (v2 : Int64) : sm_Ct l zm_sy wc ym_times prog_12_method_10_code 9 none 1 21 [.ref (wc.2.2 0), .int v1, .long v2] S (sm_Pv zm_sy wc) (pm_times N S v1 v2) :=
  sm_entry (Pq := fun wc => sm_Pv zm_sy wc) (fun wc => [.ref (wc.2.2 0), .int v1, .long v2]) (lv := fun wc => [(0, .ref (wc.2.2 0)), (1, .int v1), (2, .long v2)]) (by decide) hj zm_ok zm_stb (fun _ => Nat.le_of_ble_eq_true rfl) (fun _ => rfl) (fun x _ ok hr => tm_times ok hr N S v1 v2)
set_option maxHeartbeats 4000000 in
set_option maxRecDepth 20000 in
theorem tm_compare_b45 {x : sm_Cx} (ok : sm_Ok x zm_sy prog_12_method_11_code "LentShadesModel" 6 0 0) (hr : (xh x).sig.returnType = (some .int)) (N : Nat) : ∀ (n : Nat) (v1 : Int32) (v2 : Int32) (v3 : Int32) (S : sm_St), sm_Sm x zm_sy prog_12_method_11_code (sm_Q x zm_sy (sm_Pi zm_sy (xw x))) (pm_compare_b45 N n v1 v2 v3 S) S 45 [(0, .ref ((xw x).2.2 0)), (1, .int v1), (2, .int v2), (3, .int v3)] [] := by
  intro n
  induction n with
  | zero =>
    intro v1 v2 v3 S
    exact sm_none
  | succ n ih =>
    intro v1 v2 v3 S
    show sm_Sm x zm_sy prog_12_method_11_code (sm_Q x zm_sy (sm_Pi zm_sy (xw x))) (if v3 < 0 then (some ((0 : Int32), S)) else (if sm_in (((64 : Int32) * v1) + v3) 7936 = true then (if sm_in (((64 : Int32) * v2) + v3) 7936 = true then (sm_lt ((S.2.1 5 (((64 : Int32) * v1) + v3).toNatClampNeg) - (S.2.1 5 (((64 : Int32) * v2) + v3).toNatClampNeg)) (fun (v4_2 : Int64) => if v4_2 = (0 : Int64) then (sm_lt (v3 + (-1 : Int32)) (fun (v3_3 : Int32) => (pm_compare_b45 N n) v1 v2 v3_3 S)) else (if (0 : Int64) ≤ v4_2 then (some ((1 : Int32), S)) else (some ((-1 : Int32), S))))) else none) else none)) S 45 [(0, .ref ((xw x).2.2 0)), (1, .int v1), (2, .int v2), (3, .int v3)] []
    refine sm_iload_n (pc := 45) 3 ok dm_compare_45 rfl ?_
    refine sm_if_lt (pc := 46) 100 ok dm_compare_46 (by decide) (fun _ => ?_) (fun _ => ?_)
    · refine sm_iconst (pc := 100) (0 : Int32) ok dm_compare_100 zk_0 ?_
      exact sm_iret (pc := 101) ok dm_compare_101 hr
    · refine sm_aload_n (pc := 49) 0 ok dm_compare_49 rfl ?_
      refine sm_getR (pc := 50) (ci := 10) (k := 4) ok dm_compare_50 rfl rfl zc_i10 (by decide) rfl wd_1007 ?_
      refine sm_bipush (pc := 53) (64 : Int32) ok dm_compare_53 zb_64 ?_
      refine sm_iload_n (pc := 55) 1 ok dm_compare_55 rfl ?_
      refine sm_imul (pc := 56) ok dm_compare_56 ?_
      refine sm_iload_n (pc := 57) 3 ok dm_compare_57 rfl ?_
      refine sm_iadd (pc := 58) ok dm_compare_58 ?_
      refine sm_lald (pc := 59) ok dm_compare_59 rfl ?_
      refine sm_aload_n (pc := 60) 0 ok dm_compare_60 rfl ?_
      refine sm_getR (pc := 61) (ci := 10) (k := 4) ok dm_compare_61 rfl rfl zc_i10 (by decide) rfl wd_1007 ?_
      refine sm_bipush (pc := 64) (64 : Int32) ok dm_compare_64 zb_64 ?_
      refine sm_iload_n (pc := 66) 2 ok dm_compare_66 rfl ?_
      refine sm_imul (pc := 67) ok dm_compare_67 ?_
      refine sm_iload_n (pc := 68) 3 ok dm_compare_68 rfl ?_
      refine sm_iadd (pc := 69) ok dm_compare_69 ?_
      refine sm_lald (pc := 70) ok dm_compare_70 rfl ?_
      refine sm_lsub (pc := 71) ok dm_compare_71 ?_
      refine sm_lstore (pc := 72) (i := 4) ok dm_compare_72 (by decide) (fun v => [(4, .long v), (0, .ref ((xw x).2.2 0)), (1, .int v1), (2, .int v2), (3, .int v3)]) (fun _ => rfl) (fun v4_2 => ?_)
      refine sm_lload (pc := 74) 0 ok dm_compare_74 rfl ?_
      refine sm_lconst (pc := 76) (0 : Int64) ok dm_compare_76 zl_0 ?_
      refine sm_lif_eq (pc := 77) 94 ok dm_compare_77 dm_compare_78 (by decide) (fun _ => ?_) (fun _ => ?_)
      · refine sm_iinc (pc := 94) (i := 3) 4 (-1 : Int32) ok dm_compare_94 rfl zk_m1 (by decide) (fun v => [(3, .int v), (4, .long v4_2), (0, .ref ((xw x).2.2 0)), (1, .int v1), (2, .int v2)]) (fun _ => rfl) (fun v3_3 => ?_)
        refine sm_goto (pc := 97) 45 ok dm_compare_97 (by decide) ?_
        refine sm_lv [2, 3, 4, 0] rfl ?_
        exact ih _ _ _ _
      · refine sm_lload (pc := 81) 0 ok dm_compare_81 rfl ?_
        refine sm_lconst (pc := 83) (0 : Int64) ok dm_compare_83 zl_0 ?_
        refine sm_lif_ge (pc := 84) 92 ok dm_compare_84 dm_compare_85 (by decide) (fun _ => ?_) (fun _ => ?_)
        · refine sm_iconst (pc := 92) (1 : Int32) ok dm_compare_92 zk_1 ?_
          exact sm_iret (pc := 93) ok dm_compare_93 hr
        · refine sm_iconst (pc := 88) (-1 : Int32) ok dm_compare_88 zk_m1 ?_
          refine sm_goto (pc := 89) 93 ok dm_compare_89 (by decide) ?_
          exact sm_iret (pc := 93) ok dm_compare_93 hr
set_option maxHeartbeats 4000000 in
set_option maxRecDepth 20000 in
theorem tm_compare {x : sm_Cx} (ok : sm_Ok x zm_sy prog_12_method_11_code "LentShadesModel" 6 0 0) (hr : (xh x).sig.returnType = (some .int)) (N : Nat) (S : sm_St) (v1 : Int32) (v2 : Int32) : sm_Sm x zm_sy prog_12_method_11_code (sm_Q x zm_sy (sm_Pi zm_sy (xw x))) (pm_compare N S v1 v2) S 0 [(0, .ref ((xw x).2.2 0)), (1, .int v1), (2, .int v2)] [] := by
  unfold pm_compare
  refine sm_aload_n (pc := 0) 0 ok dm_compare_0 rfl ?_
  refine sm_getR (pc := 1) (ci := 10) (k := 5) ok dm_compare_1 rfl rfl zc_i10 (by decide) rfl wd_1008 ?_
  refine sm_iload_n (pc := 4) 1 ok dm_compare_4 rfl ?_
  refine sm_iald (pc := 5) ok dm_compare_5 rfl ?_
  refine sm_aload_n (pc := 6) 0 ok dm_compare_6 rfl ?_
  refine sm_getR (pc := 7) (ci := 10) (k := 5) ok dm_compare_7 rfl rfl zc_i10 (by decide) rfl wd_1008 ?_
  refine sm_iload_n (pc := 10) 2 ok dm_compare_10 rfl ?_
  refine sm_iald (pc := 11) ok dm_compare_11 rfl ?_
  refine sm_icmp_eq (pc := 12) 36 ok dm_compare_12 (by decide) (fun _ => ?_) (fun _ => ?_)
  · refine sm_aload_n (pc := 36) 0 ok dm_compare_36 rfl ?_
    refine sm_getR (pc := 37) (ci := 10) (k := 5) ok dm_compare_37 rfl rfl zc_i10 (by decide) rfl wd_1008 ?_
    refine sm_iload_n (pc := 40) 1 ok dm_compare_40 rfl ?_
    refine sm_iald (pc := 41) ok dm_compare_41 rfl ?_
    refine sm_iconst (pc := 42) (1 : Int32) ok dm_compare_42 zk_1 ?_
    refine sm_isub (pc := 43) ok dm_compare_43 ?_
    refine sm_istore_n (pc := 44) (i := 3) ok dm_compare_44 rfl (by decide) (fun v => [(3, .int v), (0, .ref ((xw x).2.2 0)), (1, .int v1), (2, .int v2)]) (fun _ => rfl) (fun v3_1 => ?_)
    refine sm_lv [1, 2, 3, 0] rfl ?_
    exact tm_compare_b45 ok hr N N _ _ _ _
  · refine sm_aload_n (pc := 15) 0 ok dm_compare_15 rfl ?_
    refine sm_getR (pc := 16) (ci := 10) (k := 5) ok dm_compare_16 rfl rfl zc_i10 (by decide) rfl wd_1008 ?_
    refine sm_iload_n (pc := 19) 1 ok dm_compare_19 rfl ?_
    refine sm_iald (pc := 20) ok dm_compare_20 rfl ?_
    refine sm_aload_n (pc := 21) 0 ok dm_compare_21 rfl ?_
    refine sm_getR (pc := 22) (ci := 10) (k := 5) ok dm_compare_22 rfl rfl zc_i10 (by decide) rfl wd_1008 ?_
    refine sm_iload_n (pc := 25) 2 ok dm_compare_25 rfl ?_
    refine sm_iald (pc := 26) ok dm_compare_26 rfl ?_
    refine sm_icmp_ge (pc := 27) 34 ok dm_compare_27 (by decide) (fun _ => ?_) (fun _ => ?_)
    · refine sm_iconst (pc := 34) (1 : Int32) ok dm_compare_34 zk_1 ?_
      exact sm_iret (pc := 35) ok dm_compare_35 hr
    · refine sm_iconst (pc := 30) (-1 : Int32) ok dm_compare_30 zk_m1 ?_
      refine sm_goto (pc := 31) 35 ok dm_compare_31 (by decide) ?_
      exact sm_iret (pc := 35) ok dm_compare_35 hr
theorem cm_compare {l : Launch} {wc : sm_Wc} (hj : sm_inj zm_sy wc) (N : Nat) (S : sm_St) (v1 : Int32) (v2 : Int32) : sm_Ct l zm_sy wc ym_compare prog_12_method_11_code 6 (some .int) 0 0 [.ref (wc.2.2 0), .int v1, .int v2] S (sm_Pi zm_sy wc) (pm_compare N S v1 v2) :=
  sm_entry (Pq := fun wc => sm_Pi zm_sy wc) (fun wc => [.ref (wc.2.2 0), .int v1, .int v2]) (lv := fun wc => [(0, .ref (wc.2.2 0)), (1, .int v1), (2, .int v2)]) (by decide) hj zm_ok zm_stb (fun _ => Nat.le_of_ble_eq_true rfl) (fun _ => rfl) (fun x _ ok hr => tm_compare ok hr N S v1 v2)
set_option maxHeartbeats 4000000 in
set_option maxRecDepth 20000 in
theorem tm_add_b98 {x : sm_Cx} (ok : sm_Ok x zm_sy prog_12_method_12_code "LentShadesModel" 9 1 21) (hr : (xh x).sig.returnType = none) (N : Nat) {r37 : Int32 → Int32 → Int64 → Int32 → Int32 → sm_St → Option (sm_St)} (h37 : ∀ (v1 : Int32) (v2 : Int32) (v3 : Int64) (v5 : Int32) (v6 : Int32) (S : sm_St), sm_Sm x zm_sy prog_12_method_12_code (sm_Q x zm_sy (sm_Pv zm_sy (xw x))) (r37 v1 v2 v3 v5 v6 S) S 37 [(0, .ref ((xw x).2.2 0)), (1, .int v1), (2, .int v2), (3, .long v3), (5, .int v5), (6, .int v6)] []) (v1 : Int32) (v2 : Int32) (v3 : Int64) (v5 : Int32) (v6 : Int32) (s0 : Int64) (s1 : Int64) (S : sm_St) : sm_Sm x zm_sy prog_12_method_12_code (sm_Q x zm_sy (sm_Pv zm_sy (xw x))) (pm_add_b98 N r37 v1 v2 v3 v5 v6 s0 s1 S) S 98 [(0, .ref ((xw x).2.2 0)), (1, .int v1), (2, .int v2), (3, .long v3), (5, .int v5), (6, .int v6)] [.long s1, .long s0] := by
  unfold pm_add_b98
  refine sm_ladd (pc := 98) ok dm_add_98 ?_
  refine sm_lload_n (pc := 99) 3 ok dm_add_99 rfl ?_
  refine sm_ladd (pc := 100) ok dm_add_100 ?_
  refine sm_lstore (pc := 101) (i := 7) ok dm_add_101 (by decide) (fun v => [(7, .long v), (0, .ref ((xw x).2.2 0)), (1, .int v1), (2, .int v2), (3, .long v3), (5, .int v5), (6, .int v6)]) (fun _ => rfl) (fun v7_7 => ?_)
  refine sm_aload_n (pc := 103) 1 ok dm_add_103 rfl ?_
  refine sm_getR (pc := 104) (ci := 10) (k := 4) ok dm_add_104 rfl rfl zc_i10 (by decide) rfl wd_1007 ?_
  refine sm_bipush (pc := 107) (64 : Int32) ok dm_add_107 zb_64 ?_
  refine sm_iload_n (pc := 109) 2 ok dm_add_109 rfl ?_
  refine sm_imul (pc := 110) ok dm_add_110 ?_
  refine sm_iload (pc := 111) 6 ok dm_add_111 rfl ?_
  refine sm_iadd (pc := 113) ok dm_add_113 ?_
  refine sm_lload (pc := 114) 0 ok dm_add_114 rfl ?_
  refine sm_ldc2 (pc := 116) ok dm_add_116 wd_1002 ?_
  refine sm_lremc (pc := 119) ok dm_add_119 (by decide) ?_
  refine sm_last (pc := 120) ok dm_add_120 rfl (fun S_8 => ?_)
  refine sm_lload (pc := 121) 0 ok dm_add_121 rfl ?_
  refine sm_ldc2 (pc := 123) ok dm_add_123 wd_1002 ?_
  refine sm_ldivc (pc := 126) ok dm_add_126 (by decide) ?_
  refine sm_lstore_n (pc := 127) (i := 3) ok dm_add_127 rfl (by decide) (fun v => [(3, .long v), (7, .long v7_7), (0, .ref ((xw x).2.2 0)), (1, .int v1), (2, .int v2), (5, .int v5), (6, .int v6)]) (fun _ => rfl) (fun v3_9 => ?_)
  refine sm_iinc (pc := 128) (i := 6) 6 (1 : Int32) ok dm_add_128 rfl zk_1 (by decide) (fun v => [(6, .int v), (3, .long v3_9), (7, .long v7_7), (0, .ref ((xw x).2.2 0)), (1, .int v1), (2, .int v2), (5, .int v5)]) (fun _ => rfl) (fun v6_10 => ?_)
  refine sm_goto (pc := 131) 37 ok dm_add_131 (by decide) ?_
  refine sm_lv [3, 4, 5, 1, 6, 0] rfl ?_
  exact h37 _ _ _ _ _ _
set_option maxHeartbeats 4000000 in
set_option maxRecDepth 20000 in
theorem tm_add_b71 {x : sm_Cx} (ok : sm_Ok x zm_sy prog_12_method_12_code "LentShadesModel" 9 1 21) (hr : (xh x).sig.returnType = none) (N : Nat) {r37 : Int32 → Int32 → Int64 → Int32 → Int32 → sm_St → Option (sm_St)} (h37 : ∀ (v1 : Int32) (v2 : Int32) (v3 : Int64) (v5 : Int32) (v6 : Int32) (S : sm_St), sm_Sm x zm_sy prog_12_method_12_code (sm_Q x zm_sy (sm_Pv zm_sy (xw x))) (r37 v1 v2 v3 v5 v6 S) S 37 [(0, .ref ((xw x).2.2 0)), (1, .int v1), (2, .int v2), (3, .long v3), (5, .int v5), (6, .int v6)] []) (v1 : Int32) (v2 : Int32) (v3 : Int64) (v5 : Int32) (v6 : Int32) (s0 : Int64) (S : sm_St) : sm_Sm x zm_sy prog_12_method_12_code (sm_Q x zm_sy (sm_Pv zm_sy (xw x))) (pm_add_b71 N r37 v1 v2 v3 v5 v6 s0 S) S 71 [(0, .ref ((xw x).2.2 0)), (1, .int v1), (2, .int v2), (3, .long v3), (5, .int v5), (6, .int v6)] [.long s0] := by
  unfold pm_add_b71
  refine sm_iload (pc := 71) 5 ok dm_add_71 rfl ?_
  refine sm_aload_n (pc := 73) 0 ok dm_add_73 rfl ?_
  refine sm_getR (pc := 74) (ci := 10) (k := 5) ok dm_add_74 rfl rfl zc_i10 (by decide) rfl wd_1008 ?_
  refine sm_iload_n (pc := 77) 2 ok dm_add_77 rfl ?_
  refine sm_iald (pc := 78) ok dm_add_78 rfl ?_
  refine sm_icmp_ge (pc := 79) 97 ok dm_add_79 (by decide) (fun _ => ?_) (fun _ => ?_)
  · refine sm_lconst (pc := 97) (0 : Int64) ok dm_add_97 zl_0 ?_
    exact tm_add_b98 ok hr N h37 _ _ _ _ _ _ _ _
  · refine sm_aload_n (pc := 82) 0 ok dm_add_82 rfl ?_
    refine sm_getR (pc := 83) (ci := 10) (k := 4) ok dm_add_83 rfl rfl zc_i10 (by decide) rfl wd_1007 ?_
    refine sm_bipush (pc := 86) (64 : Int32) ok dm_add_86 zb_64 ?_
    refine sm_iload_n (pc := 88) 2 ok dm_add_88 rfl ?_
    refine sm_imul (pc := 89) ok dm_add_89 ?_
    refine sm_iload (pc := 90) 5 ok dm_add_90 rfl ?_
    refine sm_iadd (pc := 92) ok dm_add_92 ?_
    refine sm_lald (pc := 93) ok dm_add_93 rfl ?_
    refine sm_goto (pc := 94) 98 ok dm_add_94 (by decide) ?_
    exact tm_add_b98 ok hr N h37 _ _ _ _ _ _ _ _
set_option maxHeartbeats 4000000 in
set_option maxRecDepth 20000 in
theorem tm_add_b37 {x : sm_Cx} (ok : sm_Ok x zm_sy prog_12_method_12_code "LentShadesModel" 9 1 21) (hr : (xh x).sig.returnType = none) (N : Nat) : ∀ (n : Nat) (v1 : Int32) (v2 : Int32) (v3 : Int64) (v5 : Int32) (v6 : Int32) (S : sm_St), sm_Sm x zm_sy prog_12_method_12_code (sm_Q x zm_sy (sm_Pv zm_sy (xw x))) (pm_add_b37 N n v1 v2 v3 v5 v6 S) S 37 [(0, .ref ((xw x).2.2 0)), (1, .int v1), (2, .int v2), (3, .long v3), (5, .int v5), (6, .int v6)] [] := by
  intro n
  induction n with
  | zero =>
    intro v1 v2 v3 v5 v6 S
    exact sm_none
  | succ n ih =>
    intro v1 v2 v3 v5 v6 S
    show sm_Sm x zm_sy prog_12_method_12_code (sm_Q x zm_sy (sm_Pv zm_sy (xw x))) (if v5 ≤ v6 then (if sm_in (((64 : Int32) * v1) + v5) 7936 = true then sm_lt (sm_sL S 5 (((64 : Int32) * v1) + v5).toNatClampNeg v3) (fun (S_4 : sm_St) => if sm_in v1 124 = true then sm_lt (sm_sI S_4 6 v1.toNatClampNeg (v5 + (1 : Int32))) (fun (S_5 : sm_St) => sm_b1 (pm_trim N S_5 v1) (fun (S_6 : sm_St) => some S_6)) else none) else none) else (if sm_in v1 124 = true then (if (S.1 6 v1.toNatClampNeg) ≤ v6 then (pm_add_b71 N (pm_add_b37 N n) v1 v2 v3 v5 v6 (0 : Int64) S) else (if sm_in (((64 : Int32) * v1) + v6) 7936 = true then (pm_add_b71 N (pm_add_b37 N n) v1 v2 v3 v5 v6 (S.2.1 5 (((64 : Int32) * v1) + v6).toNatClampNeg) S) else none)) else none)) S 37 [(0, .ref ((xw x).2.2 0)), (1, .int v1), (2, .int v2), (3, .long v3), (5, .int v5), (6, .int v6)] []
    refine sm_iload (pc := 37) 5 ok dm_add_37 rfl ?_
    refine sm_iload (pc := 39) 4 ok dm_add_39 rfl ?_
    refine sm_icmp_ge (pc := 41) 134 ok dm_add_41 (by decide) (fun _ => ?_) (fun _ => ?_)
    · refine sm_aload_n (pc := 134) 0 ok dm_add_134 rfl ?_
      refine sm_getR (pc := 135) (ci := 10) (k := 4) ok dm_add_135 rfl rfl zc_i10 (by decide) rfl wd_1007 ?_
      refine sm_bipush (pc := 138) (64 : Int32) ok dm_add_138 zb_64 ?_
      refine sm_iload_n (pc := 140) 1 ok dm_add_140 rfl ?_
      refine sm_imul (pc := 141) ok dm_add_141 ?_
      refine sm_iload (pc := 142) 4 ok dm_add_142 rfl ?_
      refine sm_iadd (pc := 144) ok dm_add_144 ?_
      refine sm_lload_n (pc := 145) 3 ok dm_add_145 rfl ?_
      refine sm_last (pc := 146) ok dm_add_146 rfl (fun S_4 => ?_)
      refine sm_aload_n (pc := 147) 0 ok dm_add_147 rfl ?_
      refine sm_getR (pc := 148) (ci := 10) (k := 5) ok dm_add_148 rfl rfl zc_i10 (by decide) rfl wd_1008 ?_
      refine sm_iload_n (pc := 151) 1 ok dm_add_151 rfl ?_
      refine sm_iload (pc := 152) 4 ok dm_add_152 rfl ?_
      refine sm_iconst (pc := 154) (1 : Int32) ok dm_add_154 zk_1 ?_
      refine sm_iadd (pc := 155) ok dm_add_155 ?_
      refine sm_iast (pc := 156) ok dm_add_156 rfl (fun S_5 => ?_)
      refine sm_aload_n (pc := 157) 0 ok dm_add_157 rfl ?_
      refine sm_iload_n (pc := 158) 1 ok dm_add_158 rfl ?_
      refine sm_callV_v (pc := 159) (ci := 10) [.int v1] ok dm_add_159 wd_1134 mwm_trim rfl rfl (Nat.le_of_ble_eq_true rfl) (Nat.le_of_ble_eq_true rfl) rfl rfl (Nat.le_of_ble_eq_true rfl) (cm_trim (sm_okj ok) N S_5 v1) (fun S_6 => ?_)
      exact sm_vret (pc := 162) ok dm_add_162 hr
    · refine sm_iload (pc := 44) 5 ok dm_add_44 rfl ?_
      refine sm_aload_n (pc := 46) 0 ok dm_add_46 rfl ?_
      refine sm_getR (pc := 47) (ci := 10) (k := 5) ok dm_add_47 rfl rfl zc_i10 (by decide) rfl wd_1008 ?_
      refine sm_iload_n (pc := 50) 1 ok dm_add_50 rfl ?_
      refine sm_iald (pc := 51) ok dm_add_51 rfl ?_
      refine sm_icmp_ge (pc := 52) 70 ok dm_add_52 (by decide) (fun _ => ?_) (fun _ => ?_)
      · refine sm_lconst (pc := 70) (0 : Int64) ok dm_add_70 zl_0 ?_
        exact tm_add_b71 ok hr N ih _ _ _ _ _ _ _
      · refine sm_aload_n (pc := 55) 0 ok dm_add_55 rfl ?_
        refine sm_getR (pc := 56) (ci := 10) (k := 4) ok dm_add_56 rfl rfl zc_i10 (by decide) rfl wd_1007 ?_
        refine sm_bipush (pc := 59) (64 : Int32) ok dm_add_59 zb_64 ?_
        refine sm_iload_n (pc := 61) 1 ok dm_add_61 rfl ?_
        refine sm_imul (pc := 62) ok dm_add_62 ?_
        refine sm_iload (pc := 63) 5 ok dm_add_63 rfl ?_
        refine sm_iadd (pc := 65) ok dm_add_65 ?_
        refine sm_lald (pc := 66) ok dm_add_66 rfl ?_
        refine sm_goto (pc := 67) 71 ok dm_add_67 (by decide) ?_
        exact tm_add_b71 ok hr N ih _ _ _ _ _ _ _
set_option maxHeartbeats 4000000 in
set_option maxRecDepth 20000 in
theorem tm_add_b32 {x : sm_Cx} (ok : sm_Ok x zm_sy prog_12_method_12_code "LentShadesModel" 9 1 21) (hr : (xh x).sig.returnType = none) (N : Nat) (v1 : Int32) (v2 : Int32) (v3 : Int64) (s0 : Int32) (S : sm_St) : sm_Sm x zm_sy prog_12_method_12_code (sm_Q x zm_sy (sm_Pv zm_sy (xw x))) (pm_add_b32 N v1 v2 v3 s0 S) S 32 [(0, .ref ((xw x).2.2 0)), (1, .int v1), (2, .int v2), (3, .long v3)] [.int s0] := by
  unfold pm_add_b32
  refine sm_istore (pc := 32) (i := 5) ok dm_add_32 (by decide) (fun v => [(5, .int v), (0, .ref ((xw x).2.2 0)), (1, .int v1), (2, .int v2), (3, .long v3)]) (fun _ => rfl) (fun v5_2 => ?_)
  refine sm_iconst (pc := 34) (0 : Int32) ok dm_add_34 zk_0 ?_
  refine sm_istore (pc := 35) (i := 6) ok dm_add_35 (by decide) (fun v => [(6, .int v), (5, .int v5_2), (0, .ref ((xw x).2.2 0)), (1, .int v1), (2, .int v2), (3, .long v3)]) (fun _ => rfl) (fun v6_3 => ?_)
  refine sm_lv [2, 3, 4, 5, 1, 0] rfl ?_
  exact tm_add_b37 ok hr N N _ _ _ _ _ _
set_option maxHeartbeats 4000000 in
set_option maxRecDepth 20000 in
theorem tm_add {x : sm_Cx} (ok : sm_Ok x zm_sy prog_12_method_12_code "LentShadesModel" 9 1 21) (hr : (xh x).sig.returnType = none) (N : Nat) (S : sm_St) (v1 : Int32) (v2 : Int32) : sm_Sm x zm_sy prog_12_method_12_code (sm_Q x zm_sy (sm_Pv zm_sy (xw x))) (pm_add N S v1 v2) S 0 [(0, .ref ((xw x).2.2 0)), (1, .int v1), (2, .int v2)] [] := by
  unfold pm_add
  refine sm_lconst (pc := 0) (0 : Int64) ok dm_add_0 zl_0 ?_
  refine sm_lstore_n (pc := 1) (i := 3) ok dm_add_1 rfl (by decide) (fun v => [(3, .long v), (0, .ref ((xw x).2.2 0)), (1, .int v1), (2, .int v2)]) (fun _ => rfl) (fun v3_1 => ?_)
  refine sm_aload_n (pc := 2) 1 ok dm_add_2 rfl ?_
  refine sm_getR (pc := 3) (ci := 10) (k := 5) ok dm_add_3 rfl rfl zc_i10 (by decide) rfl wd_1008 ?_
  refine sm_iload_n (pc := 6) 2 ok dm_add_6 rfl ?_
  refine sm_iald (pc := 7) ok dm_add_7 rfl ?_
  refine sm_aload_n (pc := 8) 1 ok dm_add_8 rfl ?_
  refine sm_getR (pc := 9) (ci := 10) (k := 5) ok dm_add_9 rfl rfl zc_i10 (by decide) rfl wd_1008 ?_
  refine sm_iload_n (pc := 12) 3 ok dm_add_12 rfl ?_
  refine sm_iald (pc := 13) ok dm_add_13 rfl ?_
  refine sm_icmp_le (pc := 14) 26 ok dm_add_14 (by decide) (fun _ => ?_) (fun _ => ?_)
  · refine sm_aload_n (pc := 26) 1 ok dm_add_26 rfl ?_
    refine sm_getR (pc := 27) (ci := 10) (k := 5) ok dm_add_27 rfl rfl zc_i10 (by decide) rfl wd_1008 ?_
    refine sm_iload_n (pc := 30) 3 ok dm_add_30 rfl ?_
    refine sm_iald (pc := 31) ok dm_add_31 rfl ?_
    refine sm_lv [1, 2, 3, 0] rfl ?_
    exact tm_add_b32 ok hr N _ _ _ _ _
  · refine sm_aload_n (pc := 17) 1 ok dm_add_17 rfl ?_
    refine sm_getR (pc := 18) (ci := 10) (k := 5) ok dm_add_18 rfl rfl zc_i10 (by decide) rfl wd_1008 ?_
    refine sm_iload_n (pc := 21) 2 ok dm_add_21 rfl ?_
    refine sm_iald (pc := 22) ok dm_add_22 rfl ?_
    refine sm_goto (pc := 23) 32 ok dm_add_23 (by decide) ?_
    refine sm_lv [1, 2, 3, 0] rfl ?_
    exact tm_add_b32 ok hr N _ _ _ _ _
theorem cm_add {l : Launch} {wc : sm_Wc} (hj : sm_inj zm_sy wc) (N : Nat) (S : sm_St) (v1 : Int32) (v2 : Int32) : sm_Ct l zm_sy wc ym_add prog_12_method_12_code 9 none 1 21 [.ref (wc.2.2 0), .int v1, .int v2] S (sm_Pv zm_sy wc) (pm_add N S v1 v2) :=
  sm_entry (Pq := fun wc => sm_Pv zm_sy wc) (fun wc => [.ref (wc.2.2 0), .int v1, .int v2]) (lv := fun wc => [(0, .ref (wc.2.2 0)), (1, .int v1), (2, .int v2)]) (by decide) hj zm_ok zm_stb (fun _ => Nat.le_of_ble_eq_true rfl) (fun _ => rfl) (fun x _ ok hr => tm_add ok hr N S v1 v2)
set_option maxHeartbeats 4000000 in
set_option maxRecDepth 20000 in
theorem tm_take_b72 {x : sm_Cx} (ok : sm_Ok x zm_sy prog_12_method_13_code "LentShadesModel" 8 1 21) (hr : (xh x).sig.returnType = none) (N : Nat) {r5 : Int32 → Int32 → Int64 → Int32 → sm_St → Option (sm_St)} (h5 : ∀ (v1 : Int32) (v2 : Int32) (v3 : Int64) (v5 : Int32) (S : sm_St), sm_Sm x zm_sy prog_12_method_13_code (sm_Q x zm_sy (sm_Pv zm_sy (xw x))) (r5 v1 v2 v3 v5 S) S 5 [(0, .ref ((xw x).2.2 0)), (1, .int v1), (2, .int v2), (3, .long v3), (5, .int v5)] []) (v1 : Int32) (v2 : Int32) (v5 : Int32) (v6 : Int64) (s0 : Int64) (S : sm_St) : sm_Sm x zm_sy prog_12_method_13_code (sm_Q x zm_sy (sm_Pv zm_sy (xw x))) (pm_take_b72 N r5 v1 v2 v5 v6 s0 S) S 72 [(0, .ref ((xw x).2.2 0)), (1, .int v1), (2, .int v2), (5, .int v5), (6, .long v6)] [.long s0] := by
  unfold pm_take_b72
  refine sm_lstore_n (pc := 72) (i := 3) ok dm_take_72 rfl (by decide) (fun v => [(3, .long v), (0, .ref ((xw x).2.2 0)), (1, .int v1), (2, .int v2), (5, .int v5), (6, .long v6)]) (fun _ => rfl) (fun v3_5 => ?_)
  refine sm_aload_n (pc := 73) 1 ok dm_take_73 rfl ?_
  refine sm_getR (pc := 74) (ci := 10) (k := 4) ok dm_take_74 rfl rfl zc_i10 (by decide) rfl wd_1007 ?_
  refine sm_bipush (pc := 77) (64 : Int32) ok dm_take_77 zb_64 ?_
  refine sm_iload_n (pc := 79) 2 ok dm_take_79 rfl ?_
  refine sm_imul (pc := 80) ok dm_take_80 ?_
  refine sm_iload (pc := 81) 4 ok dm_take_81 rfl ?_
  refine sm_iadd (pc := 83) ok dm_take_83 ?_
  refine sm_lload (pc := 84) 5 ok dm_take_84 rfl ?_
  refine sm_lload_n (pc := 86) 0 ok dm_take_86 rfl ?_
  refine sm_ldc2 (pc := 87) ok dm_take_87 wd_1002 ?_
  refine sm_lmul (pc := 90) ok dm_take_90 ?_
  refine sm_ladd (pc := 91) ok dm_take_91 ?_
  refine sm_last (pc := 92) ok dm_take_92 rfl (fun S_6 => ?_)
  refine sm_iinc (pc := 93) (i := 5) 4 (1 : Int32) ok dm_take_93 rfl zk_1 (by decide) (fun v => [(5, .int v), (3, .long v3_5), (0, .ref ((xw x).2.2 0)), (1, .int v1), (2, .int v2), (6, .long v6)]) (fun _ => rfl) (fun v5_7 => ?_)
  refine sm_goto (pc := 96) 5 ok dm_take_96 (by decide) ?_
  refine sm_lv [2, 3, 4, 1, 0] rfl ?_
  exact h5 _ _ _ _ _
set_option maxHeartbeats 4000000 in
set_option maxRecDepth 20000 in
theorem tm_take_b55 {x : sm_Cx} (ok : sm_Ok x zm_sy prog_12_method_13_code "LentShadesModel" 8 1 21) (hr : (xh x).sig.returnType = none) (N : Nat) {r5 : Int32 → Int32 → Int64 → Int32 → sm_St → Option (sm_St)} (h5 : ∀ (v1 : Int32) (v2 : Int32) (v3 : Int64) (v5 : Int32) (S : sm_St), sm_Sm x zm_sy prog_12_method_13_code (sm_Q x zm_sy (sm_Pv zm_sy (xw x))) (r5 v1 v2 v3 v5 S) S 5 [(0, .ref ((xw x).2.2 0)), (1, .int v1), (2, .int v2), (3, .long v3), (5, .int v5)] []) (v1 : Int32) (v2 : Int32) (v3 : Int64) (v5 : Int32) (s0 : Int64) (s1 : Int64) (S : sm_St) : sm_Sm x zm_sy prog_12_method_13_code (sm_Q x zm_sy (sm_Pv zm_sy (xw x))) (pm_take_b55 N r5 v1 v2 v3 v5 s0 s1 S) S 55 [(0, .ref ((xw x).2.2 0)), (1, .int v1), (2, .int v2), (3, .long v3), (5, .int v5)] [.long s1, .long s0] := by
  unfold pm_take_b55
  refine sm_lsub (pc := 55) ok dm_take_55 ?_
  refine sm_lload_n (pc := 56) 3 ok dm_take_56 rfl ?_
  refine sm_lsub (pc := 57) ok dm_take_57 ?_
  refine sm_lstore (pc := 58) (i := 6) ok dm_take_58 (by decide) (fun v => [(6, .long v), (0, .ref ((xw x).2.2 0)), (1, .int v1), (2, .int v2), (3, .long v3), (5, .int v5)]) (fun _ => rfl) (fun v6_4 => ?_)
  refine sm_lload (pc := 60) 0 ok dm_take_60 rfl ?_
  refine sm_lconst (pc := 62) (0 : Int64) ok dm_take_62 zl_0 ?_
  refine sm_lif_ge (pc := 63) 71 ok dm_take_63 dm_take_64 (by decide) (fun _ => ?_) (fun _ => ?_)
  · refine sm_lconst (pc := 71) (0 : Int64) ok dm_take_71 zl_0 ?_
    refine sm_lv [1, 2, 3, 5, 0] rfl ?_
    exact tm_take_b72 ok hr N h5 _ _ _ _ _ _
  · refine sm_lconst (pc := 67) (1 : Int64) ok dm_take_67 zl_1 ?_
    refine sm_goto (pc := 68) 72 ok dm_take_68 (by decide) ?_
    refine sm_lv [1, 2, 3, 5, 0] rfl ?_
    exact tm_take_b72 ok hr N h5 _ _ _ _ _ _
set_option maxHeartbeats 4000000 in
set_option maxRecDepth 20000 in
theorem tm_take_b5 {x : sm_Cx} (ok : sm_Ok x zm_sy prog_12_method_13_code "LentShadesModel" 8 1 21) (hr : (xh x).sig.returnType = none) (N : Nat) : ∀ (n : Nat) (v1 : Int32) (v2 : Int32) (v3 : Int64) (v5 : Int32) (S : sm_St), sm_Sm x zm_sy prog_12_method_13_code (sm_Q x zm_sy (sm_Pv zm_sy (xw x))) (pm_take_b5 N n v1 v2 v3 v5 S) S 5 [(0, .ref ((xw x).2.2 0)), (1, .int v1), (2, .int v2), (3, .long v3), (5, .int v5)] [] := by
  intro n
  induction n with
  | zero =>
    intro v1 v2 v3 v5 S
    exact sm_none
  | succ n ih =>
    intro v1 v2 v3 v5 S
    show sm_Sm x zm_sy prog_12_method_13_code (sm_Q x zm_sy (sm_Pv zm_sy (xw x))) (if sm_in v1 124 = true then (if (S.1 6 v1.toNatClampNeg) ≤ v5 then (sm_b1 (pm_trim N S v1) (fun (S_3 : sm_St) => some S_3)) else (if sm_in (((64 : Int32) * v1) + v5) 7936 = true then (if sm_in v2 124 = true then (if (S.1 6 v2.toNatClampNeg) ≤ v5 then (pm_take_b55 N (pm_take_b5 N n) v1 v2 v3 v5 (S.2.1 5 (((64 : Int32) * v1) + v5).toNatClampNeg) (0 : Int64) S) else (if sm_in (((64 : Int32) * v2) + v5) 7936 = true then (pm_take_b55 N (pm_take_b5 N n) v1 v2 v3 v5 (S.2.1 5 (((64 : Int32) * v1) + v5).toNatClampNeg) (S.2.1 5 (((64 : Int32) * v2) + v5).toNatClampNeg) S) else none)) else none) else none)) else none) S 5 [(0, .ref ((xw x).2.2 0)), (1, .int v1), (2, .int v2), (3, .long v3), (5, .int v5)] []
    refine sm_iload (pc := 5) 4 ok dm_take_5 rfl ?_
    refine sm_aload_n (pc := 7) 0 ok dm_take_7 rfl ?_
    refine sm_getR (pc := 8) (ci := 10) (k := 5) ok dm_take_8 rfl rfl zc_i10 (by decide) rfl wd_1008 ?_
    refine sm_iload_n (pc := 11) 1 ok dm_take_11 rfl ?_
    refine sm_iald (pc := 12) ok dm_take_12 rfl ?_
    refine sm_icmp_ge (pc := 13) 99 ok dm_take_13 (by decide) (fun _ => ?_) (fun _ => ?_)
    · refine sm_aload_n (pc := 99) 0 ok dm_take_99 rfl ?_
      refine sm_iload_n (pc := 100) 1 ok dm_take_100 rfl ?_
      refine sm_callV_v (pc := 101) (ci := 10) [.int v1] ok dm_take_101 wd_1134 mwm_trim rfl rfl (Nat.le_of_ble_eq_true rfl) (Nat.le_of_ble_eq_true rfl) rfl rfl (Nat.le_of_ble_eq_true rfl) (cm_trim (sm_okj ok) N S v1) (fun S_3 => ?_)
      exact sm_vret (pc := 104) ok dm_take_104 hr
    · refine sm_aload_n (pc := 16) 0 ok dm_take_16 rfl ?_
      refine sm_getR (pc := 17) (ci := 10) (k := 4) ok dm_take_17 rfl rfl zc_i10 (by decide) rfl wd_1007 ?_
      refine sm_bipush (pc := 20) (64 : Int32) ok dm_take_20 zb_64 ?_
      refine sm_iload_n (pc := 22) 1 ok dm_take_22 rfl ?_
      refine sm_imul (pc := 23) ok dm_take_23 ?_
      refine sm_iload (pc := 24) 4 ok dm_take_24 rfl ?_
      refine sm_iadd (pc := 26) ok dm_take_26 ?_
      refine sm_lald (pc := 27) ok dm_take_27 rfl ?_
      refine sm_iload (pc := 28) 4 ok dm_take_28 rfl ?_
      refine sm_aload_n (pc := 30) 0 ok dm_take_30 rfl ?_
      refine sm_getR (pc := 31) (ci := 10) (k := 5) ok dm_take_31 rfl rfl zc_i10 (by decide) rfl wd_1008 ?_
      refine sm_iload_n (pc := 34) 2 ok dm_take_34 rfl ?_
      refine sm_iald (pc := 35) ok dm_take_35 rfl ?_
      refine sm_icmp_ge (pc := 36) 54 ok dm_take_36 (by decide) (fun _ => ?_) (fun _ => ?_)
      · refine sm_lconst (pc := 54) (0 : Int64) ok dm_take_54 zl_0 ?_
        exact tm_take_b55 ok hr N ih _ _ _ _ _ _ _
      · refine sm_aload_n (pc := 39) 0 ok dm_take_39 rfl ?_
        refine sm_getR (pc := 40) (ci := 10) (k := 4) ok dm_take_40 rfl rfl zc_i10 (by decide) rfl wd_1007 ?_
        refine sm_bipush (pc := 43) (64 : Int32) ok dm_take_43 zb_64 ?_
        refine sm_iload_n (pc := 45) 2 ok dm_take_45 rfl ?_
        refine sm_imul (pc := 46) ok dm_take_46 ?_
        refine sm_iload (pc := 47) 4 ok dm_take_47 rfl ?_
        refine sm_iadd (pc := 49) ok dm_take_49 ?_
        refine sm_lald (pc := 50) ok dm_take_50 rfl ?_
        refine sm_goto (pc := 51) 55 ok dm_take_51 (by decide) ?_
        exact tm_take_b55 ok hr N ih _ _ _ _ _ _ _
set_option maxHeartbeats 4000000 in
set_option maxRecDepth 20000 in
theorem tm_take {x : sm_Cx} (ok : sm_Ok x zm_sy prog_12_method_13_code "LentShadesModel" 8 1 21) (hr : (xh x).sig.returnType = none) (N : Nat) (S : sm_St) (v1 : Int32) (v2 : Int32) : sm_Sm x zm_sy prog_12_method_13_code (sm_Q x zm_sy (sm_Pv zm_sy (xw x))) (pm_take N S v1 v2) S 0 [(0, .ref ((xw x).2.2 0)), (1, .int v1), (2, .int v2)] [] := by
  unfold pm_take
  refine sm_lconst (pc := 0) (0 : Int64) ok dm_take_0 zl_0 ?_
  refine sm_lstore_n (pc := 1) (i := 3) ok dm_take_1 rfl (by decide) (fun v => [(3, .long v), (0, .ref ((xw x).2.2 0)), (1, .int v1), (2, .int v2)]) (fun _ => rfl) (fun v3_1 => ?_)
  refine sm_iconst (pc := 2) (0 : Int32) ok dm_take_2 zk_0 ?_
  refine sm_istore (pc := 3) (i := 5) ok dm_take_3 (by decide) (fun v => [(5, .int v), (3, .long v3_1), (0, .ref ((xw x).2.2 0)), (1, .int v1), (2, .int v2)]) (fun _ => rfl) (fun v5_2 => ?_)
  refine sm_lv [2, 3, 4, 1, 0] rfl ?_
  exact tm_take_b5 ok hr N N _ _ _ _ _
theorem cm_take {l : Launch} {wc : sm_Wc} (hj : sm_inj zm_sy wc) (N : Nat) (S : sm_St) (v1 : Int32) (v2 : Int32) : sm_Ct l zm_sy wc ym_take prog_12_method_13_code 8 none 1 21 [.ref (wc.2.2 0), .int v1, .int v2] S (sm_Pv zm_sy wc) (pm_take N S v1 v2) :=
  sm_entry (Pq := fun wc => sm_Pv zm_sy wc) (fun wc => [.ref (wc.2.2 0), .int v1, .int v2]) (lv := fun wc => [(0, .ref (wc.2.2 0)), (1, .int v1), (2, .int v2)]) (by decide) hj zm_ok zm_stb (fun _ => Nat.le_of_ble_eq_true rfl) (fun _ => rfl) (fun x _ ok hr => tm_take ok hr N S v1 v2)
set_option maxHeartbeats 4000000 in
set_option maxRecDepth 20000 in
theorem tm_halve_b12 {x : sm_Cx} (ok : sm_Ok x zm_sy prog_12_method_14_code "LentShadesModel" 7 1 21) (hr : (xh x).sig.returnType = none) (N : Nat) : ∀ (n : Nat) (v1 : Int32) (v2 : Int64) (v4 : Int32) (S : sm_St), sm_Sm x zm_sy prog_12_method_14_code (sm_Q x zm_sy (sm_Pv zm_sy (xw x))) (pm_halve_b12 N n v1 v2 v4 S) S 12 [(0, .ref ((xw x).2.2 0)), (1, .int v1), (2, .long v2), (4, .int v4)] [] := by
  intro n
  induction n with
  | zero =>
    intro v1 v2 v4 S
    exact sm_none
  | succ n ih =>
    intro v1 v2 v4 S
    show sm_Sm x zm_sy prog_12_method_14_code (sm_Q x zm_sy (sm_Pv zm_sy (xw x))) (if v4 < 0 then (sm_b1 (pm_trim N S v1) (fun (S_3 : sm_St) => some S_3)) else (if sm_in (((64 : Int32) * v1) + v4) 7936 = true then (sm_lt ((S.2.1 5 (((64 : Int32) * v1) + v4).toNatClampNeg) + (v2 * (1073741824 : Int64))) (fun (v5_4 : Int64) => if sm_in (((64 : Int32) * v1) + v4) 7936 = true then sm_lt (sm_sL S 5 (((64 : Int32) * v1) + v4).toNatClampNeg (v5_4 / (2 : Int64))) (fun (S_5 : sm_St) => sm_lt (v5_4 - v5_4 / (2 : Int64) * (2 : Int64)) (fun (v2_6 : Int64) => sm_lt (v4 + (-1 : Int32)) (fun (v4_7 : Int32) => (pm_halve_b12 N n) v1 v2_6 v4_7 S_5))) else none)) else none)) S 12 [(0, .ref ((xw x).2.2 0)), (1, .int v1), (2, .long v2), (4, .int v4)] []
    refine sm_iload (pc := 12) 3 ok dm_halve_12 rfl ?_
    refine sm_if_lt (pc := 14) 68 ok dm_halve_14 (by decide) (fun _ => ?_) (fun _ => ?_)
    · refine sm_aload_n (pc := 68) 0 ok dm_halve_68 rfl ?_
      refine sm_iload_n (pc := 69) 1 ok dm_halve_69 rfl ?_
      refine sm_callV_v (pc := 70) (ci := 10) [.int v1] ok dm_halve_70 wd_1134 mwm_trim rfl rfl (Nat.le_of_ble_eq_true rfl) (Nat.le_of_ble_eq_true rfl) rfl rfl (Nat.le_of_ble_eq_true rfl) (cm_trim (sm_okj ok) N S v1) (fun S_3 => ?_)
      exact sm_vret (pc := 73) ok dm_halve_73 hr
    · refine sm_aload_n (pc := 17) 0 ok dm_halve_17 rfl ?_
      refine sm_getR (pc := 18) (ci := 10) (k := 4) ok dm_halve_18 rfl rfl zc_i10 (by decide) rfl wd_1007 ?_
      refine sm_bipush (pc := 21) (64 : Int32) ok dm_halve_21 zb_64 ?_
      refine sm_iload_n (pc := 23) 1 ok dm_halve_23 rfl ?_
      refine sm_imul (pc := 24) ok dm_halve_24 ?_
      refine sm_iload (pc := 25) 3 ok dm_halve_25 rfl ?_
      refine sm_iadd (pc := 27) ok dm_halve_27 ?_
      refine sm_lald (pc := 28) ok dm_halve_28 rfl ?_
      refine sm_lload_n (pc := 29) 2 ok dm_halve_29 rfl ?_
      refine sm_ldc2 (pc := 30) ok dm_halve_30 wd_1002 ?_
      refine sm_lmul (pc := 33) ok dm_halve_33 ?_
      refine sm_ladd (pc := 34) ok dm_halve_34 ?_
      refine sm_lstore (pc := 35) (i := 5) ok dm_halve_35 (by decide) (fun v => [(5, .long v), (0, .ref ((xw x).2.2 0)), (1, .int v1), (2, .long v2), (4, .int v4)]) (fun _ => rfl) (fun v5_4 => ?_)
      refine sm_aload_n (pc := 37) 1 ok dm_halve_37 rfl ?_
      refine sm_getR (pc := 38) (ci := 10) (k := 4) ok dm_halve_38 rfl rfl zc_i10 (by decide) rfl wd_1007 ?_
      refine sm_bipush (pc := 41) (64 : Int32) ok dm_halve_41 zb_64 ?_
      refine sm_iload_n (pc := 43) 2 ok dm_halve_43 rfl ?_
      refine sm_imul (pc := 44) ok dm_halve_44 ?_
      refine sm_iload (pc := 45) 4 ok dm_halve_45 rfl ?_
      refine sm_iadd (pc := 47) ok dm_halve_47 ?_
      refine sm_lload (pc := 48) 0 ok dm_halve_48 rfl ?_
      refine sm_ldc2 (pc := 50) ok dm_halve_50 wd_1244 ?_
      refine sm_ldivc (pc := 53) ok dm_halve_53 (by decide) ?_
      refine sm_last (pc := 54) ok dm_halve_54 rfl (fun S_5 => ?_)
      refine sm_lload (pc := 55) 0 ok dm_halve_55 rfl ?_
      refine sm_ldc2 (pc := 57) ok dm_halve_57 wd_1244 ?_
      refine sm_lremc (pc := 60) ok dm_halve_60 (by decide) ?_
      refine sm_lstore_n (pc := 61) (i := 2) ok dm_halve_61 rfl (by decide) (fun v => [(2, .long v), (5, .long v5_4), (0, .ref ((xw x).2.2 0)), (1, .int v1), (4, .int v4)]) (fun _ => rfl) (fun v2_6 => ?_)
      refine sm_iinc (pc := 62) (i := 4) 4 (-1 : Int32) ok dm_halve_62 rfl zk_m1 (by decide) (fun v => [(4, .int v), (2, .long v2_6), (5, .long v5_4), (0, .ref ((xw x).2.2 0)), (1, .int v1)]) (fun _ => rfl) (fun v4_7 => ?_)
      refine sm_goto (pc := 65) 12 ok dm_halve_65 (by decide) ?_
      refine sm_lv [3, 4, 1, 0] rfl ?_
      exact ih _ _ _ _
set_option maxHeartbeats 4000000 in
set_option maxRecDepth 20000 in
theorem tm_halve {x : sm_Cx} (ok : sm_Ok x zm_sy prog_12_method_14_code "LentShadesModel" 7 1 21) (hr : (xh x).sig.returnType = none) (N : Nat) (S : sm_St) (v1 : Int32) : sm_Sm x zm_sy prog_12_method_14_code (sm_Q x zm_sy (sm_Pv zm_sy (xw x))) (pm_halve N S v1) S 0 [(0, .ref ((xw x).2.2 0)), (1, .int v1)] [] := by
  unfold pm_halve
  refine sm_lconst (pc := 0) (0 : Int64) ok dm_halve_0 zl_0 ?_
  refine sm_lstore_n (pc := 1) (i := 2) ok dm_halve_1 rfl (by decide) (fun v => [(2, .long v), (0, .ref ((xw x).2.2 0)), (1, .int v1)]) (fun _ => rfl) (fun v2_1 => ?_)
  refine sm_aload_n (pc := 2) 1 ok dm_halve_2 rfl ?_
  refine sm_getR (pc := 3) (ci := 10) (k := 5) ok dm_halve_3 rfl rfl zc_i10 (by decide) rfl wd_1008 ?_
  refine sm_iload_n (pc := 6) 2 ok dm_halve_6 rfl ?_
  refine sm_iald (pc := 7) ok dm_halve_7 rfl ?_
  refine sm_iconst (pc := 8) (1 : Int32) ok dm_halve_8 zk_1 ?_
  refine sm_isub (pc := 9) ok dm_halve_9 ?_
  refine sm_istore (pc := 10) (i := 4) ok dm_halve_10 (by decide) (fun v => [(4, .int v), (2, .long v2_1), (0, .ref ((xw x).2.2 0)), (1, .int v1)]) (fun _ => rfl) (fun v4_2 => ?_)
  refine sm_lv [2, 3, 1, 0] rfl ?_
  exact tm_halve_b12 ok hr N N _ _ _ _
theorem cm_halve {l : Launch} {wc : sm_Wc} (hj : sm_inj zm_sy wc) (N : Nat) (S : sm_St) (v1 : Int32) : sm_Ct l zm_sy wc ym_halve prog_12_method_14_code 7 none 1 21 [.ref (wc.2.2 0), .int v1] S (sm_Pv zm_sy wc) (pm_halve N S v1) :=
  sm_entry (Pq := fun wc => sm_Pv zm_sy wc) (fun wc => [.ref (wc.2.2 0), .int v1]) (lv := fun wc => [(0, .ref (wc.2.2 0)), (1, .int v1)]) (by decide) hj zm_ok zm_stb (fun _ => Nat.le_of_ble_eq_true rfl) (fun _ => rfl) (fun x _ ok hr => tm_halve ok hr N S v1)
set_option maxHeartbeats 4000000 in
set_option maxRecDepth 20000 in
theorem tm_isEven_b27 {x : sm_Cx} (ok : sm_Ok x zm_sy prog_12_method_15_code "LentShadesModel" 2 0 0) (hr : (xh x).sig.returnType = (some .boolean)) (N : Nat) (S : sm_St) : sm_Sm x zm_sy prog_12_method_15_code (sm_Q x zm_sy (sm_Pi zm_sy (xw x))) (pm_isEven_b27 N S) S 27 [] [] := by
  unfold pm_isEven_b27
  refine sm_iconst (pc := 27) (1 : Int32) ok dm_isEven_27 zk_1 ?_
  refine sm_goto (pc := 28) 32 ok dm_isEven_28 (by decide) ?_
  exact sm_zret (pc := 32) ok dm_isEven_32 hr rfl
set_option maxHeartbeats 4000000 in
set_option maxRecDepth 20000 in
theorem tm_isEven {x : sm_Cx} (ok : sm_Ok x zm_sy prog_12_method_15_code "LentShadesModel" 2 0 0) (hr : (xh x).sig.returnType = (some .boolean)) (N : Nat) (S : sm_St) (v1 : Int32) : sm_Sm x zm_sy prog_12_method_15_code (sm_Q x zm_sy (sm_Pi zm_sy (xw x))) (pm_isEven N S v1) S 0 [(0, .ref ((xw x).2.2 0)), (1, .int v1)] [] := by
  unfold pm_isEven
  refine sm_aload_n (pc := 0) 0 ok dm_isEven_0 rfl ?_
  refine sm_getR (pc := 1) (ci := 10) (k := 5) ok dm_isEven_1 rfl rfl zc_i10 (by decide) rfl wd_1008 ?_
  refine sm_iload_n (pc := 4) 1 ok dm_isEven_4 rfl ?_
  refine sm_iald (pc := 5) ok dm_isEven_5 rfl ?_
  refine sm_if_eq (pc := 6) 27 ok dm_isEven_6 (by decide) (fun _ => ?_) (fun _ => ?_)
  · refine sm_lv [] rfl ?_
    exact tm_isEven_b27 ok hr N _
  · refine sm_aload_n (pc := 9) 0 ok dm_isEven_9 rfl ?_
    refine sm_getR (pc := 10) (ci := 10) (k := 4) ok dm_isEven_10 rfl rfl zc_i10 (by decide) rfl wd_1007 ?_
    refine sm_bipush (pc := 13) (64 : Int32) ok dm_isEven_13 zb_64 ?_
    refine sm_iload_n (pc := 15) 1 ok dm_isEven_15 rfl ?_
    refine sm_imul (pc := 16) ok dm_isEven_16 ?_
    refine sm_lald (pc := 17) ok dm_isEven_17 rfl ?_
    refine sm_ldc2 (pc := 18) ok dm_isEven_18 wd_1244 ?_
    refine sm_lremc (pc := 21) ok dm_isEven_21 (by decide) ?_
    refine sm_lconst (pc := 22) (0 : Int64) ok dm_isEven_22 zl_0 ?_
    refine sm_lif_ne (pc := 23) 31 ok dm_isEven_23 dm_isEven_24 (by decide) (fun _ => ?_) (fun _ => ?_)
    · refine sm_iconst (pc := 31) (0 : Int32) ok dm_isEven_31 zk_0 ?_
      exact sm_zret (pc := 32) ok dm_isEven_32 hr rfl
    · refine sm_lv [] rfl ?_
      exact tm_isEven_b27 ok hr N _
theorem cm_isEven {l : Launch} {wc : sm_Wc} (hj : sm_inj zm_sy wc) (N : Nat) (S : sm_St) (v1 : Int32) : sm_Ct l zm_sy wc ym_isEven prog_12_method_15_code 2 (some .boolean) 0 0 [.ref (wc.2.2 0), .int v1] S (sm_Pi zm_sy wc) (pm_isEven N S v1) :=
  sm_entry (Pq := fun wc => sm_Pi zm_sy wc) (fun wc => [.ref (wc.2.2 0), .int v1]) (lv := fun wc => [(0, .ref (wc.2.2 0)), (1, .int v1)]) (by decide) hj zm_ok zm_stb (fun _ => Nat.le_of_ble_eq_true rfl) (fun _ => rfl) (fun x _ ok hr => tm_isEven ok hr N S v1)
set_option maxHeartbeats 4000000 in
set_option maxRecDepth 20000 in
theorem tm_findDivisor_b128 {x : sm_Cx} (ok : sm_Ok x zm_sy prog_12_method_16_code "LentShadesModel" 5 2 49) (hr : (xh x).sig.returnType = none) (N : Nat) : ∀ (n : Nat) (v3 : Int32) (v4 : Int32) (S : sm_St), sm_Sm x zm_sy prog_12_method_16_code (sm_Q x zm_sy (sm_Pv zm_sy (xw x))) (pm_findDivisor_b128 N n v3 v4 S) S 128 [(0, .ref ((xw x).2.2 0)), (3, .int v3), (4, .int v4)] [] := by
  intro n
  induction n with
  | zero =>
    intro v3 v4 S
    exact sm_none
  | succ n ih =>
    intro v3 v4 S
    show sm_Sm x zm_sy prog_12_method_16_code (sm_Q x zm_sy (sm_Pv zm_sy (xw x))) (if v3 ≤ v4 then (some S) else (sm_b1 (pm_times N S (4 : Int32) (2 : Int64)) (fun (S_24 : sm_St) => sm_lt (v4 + (1 : Int32)) (fun (v4_25 : Int32) => (pm_findDivisor_b128 N n) v3 v4_25 S_24)))) S 128 [(0, .ref ((xw x).2.2 0)), (3, .int v3), (4, .int v4)] []
    refine sm_iload (pc := 128) 2 ok dm_findDivisor_128 rfl ?_
    refine sm_iload_n (pc := 130) 1 ok dm_findDivisor_130 rfl ?_
    refine sm_icmp_ge (pc := 131) 148 ok dm_findDivisor_131 (by decide) (fun _ => ?_) (fun _ => ?_)
    · exact sm_vret (pc := 148) ok dm_findDivisor_148 hr
    · refine sm_aload_n (pc := 134) 0 ok dm_findDivisor_134 rfl ?_
      refine sm_iconst (pc := 135) (4 : Int32) ok dm_findDivisor_135 zk_4 ?_
      refine sm_ldc2 (pc := 136) ok dm_findDivisor_136 wd_1244 ?_
      refine sm_callV_v (pc := 139) (ci := 10) [.int (4 : Int32), .long (2 : Int64)] ok dm_findDivisor_139 wd_1130 mwm_times rfl rfl (Nat.le_of_ble_eq_true rfl) (Nat.le_of_ble_eq_true rfl) rfl rfl (Nat.le_of_ble_eq_true rfl) (cm_times (sm_okj ok) N S (4 : Int32) (2 : Int64)) (fun S_24 => ?_)
      refine sm_iinc (pc := 142) (i := 4) 2 (1 : Int32) ok dm_findDivisor_142 rfl zk_1 (by decide) (fun v => [(4, .int v), (0, .ref ((xw x).2.2 0)), (3, .int v3)]) (fun _ => rfl) (fun v4_25 => ?_)
      refine sm_goto (pc := 145) 128 ok dm_findDivisor_145 (by decide) ?_
      refine sm_lv [1, 2, 0] rfl ?_
      exact ih _ _ _
set_option maxHeartbeats 4000000 in
set_option maxRecDepth 20000 in
theorem tm_findDivisor_b116 {x : sm_Cx} (ok : sm_Ok x zm_sy prog_12_method_16_code "LentShadesModel" 5 2 49) (hr : (xh x).sig.returnType = none) (N : Nat) {r46 : Int32 → sm_St → Option (sm_St)} (h46 : ∀ (v3 : Int32) (S : sm_St), sm_Sm x zm_sy prog_12_method_16_code (sm_Q x zm_sy (sm_Pv zm_sy (xw x))) (r46 v3 S) S 46 [(0, .ref ((xw x).2.2 0)), (3, .int v3)] []) (v3 : Int32) (S : sm_St) : sm_Sm x zm_sy prog_12_method_16_code (sm_Q x zm_sy (sm_Pv zm_sy (xw x))) (pm_findDivisor_b116 N r46 v3 S) S 116 [(0, .ref ((xw x).2.2 0)), (3, .int v3)] [] := by
  unfold pm_findDivisor_b116
  refine sm_aload_n (pc := 116) 0 ok dm_findDivisor_116 rfl ?_
  refine sm_iconst (pc := 117) (5 : Int32) ok dm_findDivisor_117 zk_5 ?_
  refine sm_iconst (pc := 118) (4 : Int32) ok dm_findDivisor_118 zk_4 ?_
  refine sm_callV_v (pc := 119) (ci := 10) [.int (5 : Int32), .int (4 : Int32)] ok dm_findDivisor_119 wd_1249 mwm_take rfl rfl (Nat.le_of_ble_eq_true rfl) (Nat.le_of_ble_eq_true rfl) rfl rfl (Nat.le_of_ble_eq_true rfl) (cm_take (sm_okj ok) N S (5 : Int32) (4 : Int32)) (fun S_23 => ?_)
  refine sm_goto (pc := 122) 46 ok dm_findDivisor_122 (by decide) ?_
  exact h46 _ _
set_option maxHeartbeats 4000000 in
set_option maxRecDepth 20000 in
theorem tm_findDivisor_b71 {x : sm_Cx} (ok : sm_Ok x zm_sy prog_12_method_16_code "LentShadesModel" 5 2 49) (hr : (xh x).sig.returnType = none) (N : Nat) {r46 : Int32 → sm_St → Option (sm_St)} (h46 : ∀ (v3 : Int32) (S : sm_St), sm_Sm x zm_sy prog_12_method_16_code (sm_Q x zm_sy (sm_Pv zm_sy (xw x))) (r46 v3 S) S 46 [(0, .ref ((xw x).2.2 0)), (3, .int v3)] []) : ∀ (n : Nat) (v3 : Int32) (S : sm_St), sm_Sm x zm_sy prog_12_method_16_code (sm_Q x zm_sy (sm_Pv zm_sy (xw x))) (pm_findDivisor_b71 N r46 n v3 S) S 71 [(0, .ref ((xw x).2.2 0)), (3, .int v3)] [] := by
  intro n
  induction n with
  | zero =>
    intro v3 S
    exact sm_none
  | succ n ih =>
    intro v3 S
    show sm_Sm x zm_sy prog_12_method_16_code (sm_Q x zm_sy (sm_Pv zm_sy (xw x))) (sm_b2 (pm_isEven N S (5 : Int32)) (fun (r_16 : Int32) (S_15 : sm_St) => if r_16 = 0 then (sm_b2 (pm_compare N S_15 (4 : Int32) (5 : Int32)) (fun (r_18 : Int32) (S_17 : sm_St) => if r_18 ≤ 0 then (pm_findDivisor_b116 N r46 v3 S_17) else (sm_b1 (pm_copy N S_17 (6 : Int32) (4 : Int32)) (fun (S_19 : sm_St) => sm_b1 (pm_copy N S_19 (4 : Int32) (5 : Int32)) (fun (S_20 : sm_St) => sm_b1 (pm_copy N S_20 (5 : Int32) (6 : Int32)) (fun (S_21 : sm_St) => pm_findDivisor_b116 N r46 v3 S_21)))))) else (sm_b1 (pm_halve N S_15 (5 : Int32)) (fun (S_22 : sm_St) => (pm_findDivisor_b71 N r46 n) v3 S_22)))) S 71 [(0, .ref ((xw x).2.2 0)), (3, .int v3)] []
    refine sm_aload_n (pc := 71) 0 ok dm_findDivisor_71 rfl ?_
    refine sm_iconst (pc := 72) (5 : Int32) ok dm_findDivisor_72 zk_5 ?_
    refine sm_callV_i (pc := 73) (ci := 10) [.int (5 : Int32)] ok dm_findDivisor_73 wd_1240 mwm_isEven rfl rfl (Nat.le_of_ble_eq_true rfl) (Nat.le_of_ble_eq_true rfl) rfl rfl (Nat.le_of_ble_eq_true rfl) (cm_isEven (sm_okj ok) N S (5 : Int32)) (fun r_16 S_15 => ?_)
    refine sm_if_eq (pc := 76) 87 ok dm_findDivisor_76 (by decide) (fun _ => ?_) (fun _ => ?_)
    · refine sm_aload_n (pc := 87) 0 ok dm_findDivisor_87 rfl ?_
      refine sm_iconst (pc := 88) (4 : Int32) ok dm_findDivisor_88 zk_4 ?_
      refine sm_iconst (pc := 89) (5 : Int32) ok dm_findDivisor_89 zk_5 ?_
      refine sm_callV_i (pc := 90) (ci := 10) [.int (4 : Int32), .int (5 : Int32)] ok dm_findDivisor_90 wd_1224 mwm_compare rfl rfl (Nat.le_of_ble_eq_true rfl) (Nat.le_of_ble_eq_true rfl) rfl rfl (Nat.le_of_ble_eq_true rfl) (cm_compare (sm_okj ok) N S_15 (4 : Int32) (5 : Int32)) (fun r_18 S_17 => ?_)
      refine sm_if_le (pc := 93) 116 ok dm_findDivisor_93 (by decide) (fun _ => ?_) (fun _ => ?_)
      · exact tm_findDivisor_b116 ok hr N h46 _ _
      · refine sm_aload_n (pc := 96) 0 ok dm_findDivisor_96 rfl ?_
        refine sm_bipush (pc := 97) (6 : Int32) ok dm_findDivisor_97 zb_6 ?_
        refine sm_iconst (pc := 99) (4 : Int32) ok dm_findDivisor_99 zk_4 ?_
        refine sm_callV_v (pc := 100) (ci := 10) [.int (6 : Int32), .int (4 : Int32)] ok dm_findDivisor_100 wd_1126 mwm_copy rfl rfl (Nat.le_of_ble_eq_true rfl) (Nat.le_of_ble_eq_true rfl) rfl rfl (Nat.le_of_ble_eq_true rfl) (cm_copy (sm_okj ok) N S_17 (6 : Int32) (4 : Int32)) (fun S_19 => ?_)
        refine sm_aload_n (pc := 103) 0 ok dm_findDivisor_103 rfl ?_
        refine sm_iconst (pc := 104) (4 : Int32) ok dm_findDivisor_104 zk_4 ?_
        refine sm_iconst (pc := 105) (5 : Int32) ok dm_findDivisor_105 zk_5 ?_
        refine sm_callV_v (pc := 106) (ci := 10) [.int (4 : Int32), .int (5 : Int32)] ok dm_findDivisor_106 wd_1126 mwm_copy rfl rfl (Nat.le_of_ble_eq_true rfl) (Nat.le_of_ble_eq_true rfl) rfl rfl (Nat.le_of_ble_eq_true rfl) (cm_copy (sm_okj ok) N S_19 (4 : Int32) (5 : Int32)) (fun S_20 => ?_)
        refine sm_aload_n (pc := 109) 0 ok dm_findDivisor_109 rfl ?_
        refine sm_iconst (pc := 110) (5 : Int32) ok dm_findDivisor_110 zk_5 ?_
        refine sm_bipush (pc := 111) (6 : Int32) ok dm_findDivisor_111 zb_6 ?_
        refine sm_callV_v (pc := 113) (ci := 10) [.int (5 : Int32), .int (6 : Int32)] ok dm_findDivisor_113 wd_1126 mwm_copy rfl rfl (Nat.le_of_ble_eq_true rfl) (Nat.le_of_ble_eq_true rfl) rfl rfl (Nat.le_of_ble_eq_true rfl) (cm_copy (sm_okj ok) N S_20 (5 : Int32) (6 : Int32)) (fun S_21 => ?_)
        exact tm_findDivisor_b116 ok hr N h46 _ _
    · refine sm_aload_n (pc := 79) 0 ok dm_findDivisor_79 rfl ?_
      refine sm_iconst (pc := 80) (5 : Int32) ok dm_findDivisor_80 zk_5 ?_
      refine sm_callV_v (pc := 81) (ci := 10) [.int (5 : Int32)] ok dm_findDivisor_81 wd_1245 mwm_halve rfl rfl (Nat.le_of_ble_eq_true rfl) (Nat.le_of_ble_eq_true rfl) rfl rfl (Nat.le_of_ble_eq_true rfl) (cm_halve (sm_okj ok) N S_15 (5 : Int32)) (fun S_22 => ?_)
      refine sm_goto (pc := 84) 71 ok dm_findDivisor_84 (by decide) ?_
      exact ih _ _
set_option maxHeartbeats 4000000 in
set_option maxRecDepth 20000 in
theorem tm_findDivisor_b55 {x : sm_Cx} (ok : sm_Ok x zm_sy prog_12_method_16_code "LentShadesModel" 5 2 49) (hr : (xh x).sig.returnType = none) (N : Nat) {r46 : Int32 → sm_St → Option (sm_St)} (h46 : ∀ (v3 : Int32) (S : sm_St), sm_Sm x zm_sy prog_12_method_16_code (sm_Q x zm_sy (sm_Pv zm_sy (xw x))) (r46 v3 S) S 46 [(0, .ref ((xw x).2.2 0)), (3, .int v3)] []) : ∀ (n : Nat) (v3 : Int32) (S : sm_St), sm_Sm x zm_sy prog_12_method_16_code (sm_Q x zm_sy (sm_Pv zm_sy (xw x))) (pm_findDivisor_b55 N r46 n v3 S) S 55 [(0, .ref ((xw x).2.2 0)), (3, .int v3)] [] := by
  intro n
  induction n with
  | zero =>
    intro v3 S
    exact sm_none
  | succ n ih =>
    intro v3 S
    show sm_Sm x zm_sy prog_12_method_16_code (sm_Q x zm_sy (sm_Pv zm_sy (xw x))) (sm_b2 (pm_isEven N S (4 : Int32)) (fun (r_13 : Int32) (S_12 : sm_St) => if r_13 = 0 then (pm_findDivisor_b71 N r46 N v3 S_12) else (sm_b1 (pm_halve N S_12 (4 : Int32)) (fun (S_14 : sm_St) => (pm_findDivisor_b55 N r46 n) v3 S_14)))) S 55 [(0, .ref ((xw x).2.2 0)), (3, .int v3)] []
    refine sm_aload_n (pc := 55) 0 ok dm_findDivisor_55 rfl ?_
    refine sm_iconst (pc := 56) (4 : Int32) ok dm_findDivisor_56 zk_4 ?_
    refine sm_callV_i (pc := 57) (ci := 10) [.int (4 : Int32)] ok dm_findDivisor_57 wd_1240 mwm_isEven rfl rfl (Nat.le_of_ble_eq_true rfl) (Nat.le_of_ble_eq_true rfl) rfl rfl (Nat.le_of_ble_eq_true rfl) (cm_isEven (sm_okj ok) N S (4 : Int32)) (fun r_13 S_12 => ?_)
    refine sm_if_eq (pc := 60) 71 ok dm_findDivisor_60 (by decide) (fun _ => ?_) (fun _ => ?_)
    · exact tm_findDivisor_b71 ok hr N h46 N _ _
    · refine sm_aload_n (pc := 63) 0 ok dm_findDivisor_63 rfl ?_
      refine sm_iconst (pc := 64) (4 : Int32) ok dm_findDivisor_64 zk_4 ?_
      refine sm_callV_v (pc := 65) (ci := 10) [.int (4 : Int32)] ok dm_findDivisor_65 wd_1245 mwm_halve rfl rfl (Nat.le_of_ble_eq_true rfl) (Nat.le_of_ble_eq_true rfl) rfl rfl (Nat.le_of_ble_eq_true rfl) (cm_halve (sm_okj ok) N S_12 (4 : Int32)) (fun S_14 => ?_)
      refine sm_goto (pc := 68) 55 ok dm_findDivisor_68 (by decide) ?_
      exact ih _ _
set_option maxHeartbeats 4000000 in
set_option maxRecDepth 20000 in
theorem tm_findDivisor_b46 {x : sm_Cx} (ok : sm_Ok x zm_sy prog_12_method_16_code "LentShadesModel" 5 2 49) (hr : (xh x).sig.returnType = none) (N : Nat) : ∀ (n : Nat) (v3 : Int32) (S : sm_St), sm_Sm x zm_sy prog_12_method_16_code (sm_Q x zm_sy (sm_Pv zm_sy (xw x))) (pm_findDivisor_b46 N n v3 S) S 46 [(0, .ref ((xw x).2.2 0)), (3, .int v3)] [] := by
  intro n
  induction n with
  | zero =>
    intro v3 S
    exact sm_none
  | succ n ih =>
    intro v3 S
    show sm_Sm x zm_sy prog_12_method_16_code (sm_Q x zm_sy (sm_Pv zm_sy (xw x))) (if sm_in (5 : Int32) 124 = true then (if (S.1 6 (5 : Int32).toNatClampNeg) ≤ 0 then (sm_lt (0 : Int32) (fun (v4_11 : Int32) => pm_findDivisor_b128 N N v3 v4_11 S)) else (pm_findDivisor_b55 N (pm_findDivisor_b46 N n) N v3 S)) else none) S 46 [(0, .ref ((xw x).2.2 0)), (3, .int v3)] []
    refine sm_aload_n (pc := 46) 0 ok dm_findDivisor_46 rfl ?_
    refine sm_getR (pc := 47) (ci := 10) (k := 5) ok dm_findDivisor_47 rfl rfl zc_i10 (by decide) rfl wd_1008 ?_
    refine sm_iconst (pc := 50) (5 : Int32) ok dm_findDivisor_50 zk_5 ?_
    refine sm_iald (pc := 51) ok dm_findDivisor_51 rfl ?_
    refine sm_if_le (pc := 52) 125 ok dm_findDivisor_52 (by decide) (fun _ => ?_) (fun _ => ?_)
    · refine sm_iconst (pc := 125) (0 : Int32) ok dm_findDivisor_125 zk_0 ?_
      refine sm_istore (pc := 126) (i := 4) ok dm_findDivisor_126 (by decide) (fun v => [(4, .int v), (0, .ref ((xw x).2.2 0)), (3, .int v3)]) (fun _ => rfl) (fun v4_11 => ?_)
      refine sm_lv [1, 2, 0] rfl ?_
      exact tm_findDivisor_b128 ok hr N N _ _ _
    · exact tm_findDivisor_b55 ok hr N ih N _ _
set_option maxHeartbeats 4000000 in
set_option maxRecDepth 20000 in
theorem tm_findDivisor_b14 {x : sm_Cx} (ok : sm_Ok x zm_sy prog_12_method_16_code "LentShadesModel" 5 2 49) (hr : (xh x).sig.returnType = none) (N : Nat) : ∀ (n : Nat) (v3 : Int32) (S : sm_St), sm_Sm x zm_sy prog_12_method_16_code (sm_Q x zm_sy (sm_Pv zm_sy (xw x))) (pm_findDivisor_b14 N n v3 S) S 14 [(0, .ref ((xw x).2.2 0)), (3, .int v3)] [] := by
  intro n
  induction n with
  | zero =>
    intro v3 S
    exact sm_none
  | succ n ih =>
    intro v3 S
    show sm_Sm x zm_sy prog_12_method_16_code (sm_Q x zm_sy (sm_Pv zm_sy (xw x))) (sm_b2 (pm_isEven N S (4 : Int32)) (fun (r_5 : Int32) (S_4 : sm_St) => if r_5 = 0 then (pm_findDivisor_b46 N N v3 S_4) else (sm_b2 (pm_isEven N S_4 (5 : Int32)) (fun (r_7 : Int32) (S_6 : sm_St) => if r_7 = 0 then (pm_findDivisor_b46 N N v3 S_6) else (sm_b1 (pm_halve N S_6 (4 : Int32)) (fun (S_8 : sm_St) => sm_b1 (pm_halve N S_8 (5 : Int32)) (fun (S_9 : sm_St) => sm_lt (v3 + (1 : Int32)) (fun (v3_10 : Int32) => (pm_findDivisor_b14 N n) v3_10 S_9)))))))) S 14 [(0, .ref ((xw x).2.2 0)), (3, .int v3)] []
    refine sm_aload_n (pc := 14) 0 ok dm_findDivisor_14 rfl ?_
    refine sm_iconst (pc := 15) (4 : Int32) ok dm_findDivisor_15 zk_4 ?_
    refine sm_callV_i (pc := 16) (ci := 10) [.int (4 : Int32)] ok dm_findDivisor_16 wd_1240 mwm_isEven rfl rfl (Nat.le_of_ble_eq_true rfl) (Nat.le_of_ble_eq_true rfl) rfl rfl (Nat.le_of_ble_eq_true rfl) (cm_isEven (sm_okj ok) N S (4 : Int32)) (fun r_5 S_4 => ?_)
    refine sm_if_eq (pc := 19) 46 ok dm_findDivisor_19 (by decide) (fun _ => ?_) (fun _ => ?_)
    · exact tm_findDivisor_b46 ok hr N N _ _
    · refine sm_aload_n (pc := 22) 0 ok dm_findDivisor_22 rfl ?_
      refine sm_iconst (pc := 23) (5 : Int32) ok dm_findDivisor_23 zk_5 ?_
      refine sm_callV_i (pc := 24) (ci := 10) [.int (5 : Int32)] ok dm_findDivisor_24 wd_1240 mwm_isEven rfl rfl (Nat.le_of_ble_eq_true rfl) (Nat.le_of_ble_eq_true rfl) rfl rfl (Nat.le_of_ble_eq_true rfl) (cm_isEven (sm_okj ok) N S_4 (5 : Int32)) (fun r_7 S_6 => ?_)
      refine sm_if_eq (pc := 27) 46 ok dm_findDivisor_27 (by decide) (fun _ => ?_) (fun _ => ?_)
      · exact tm_findDivisor_b46 ok hr N N _ _
      · refine sm_aload_n (pc := 30) 0 ok dm_findDivisor_30 rfl ?_
        refine sm_iconst (pc := 31) (4 : Int32) ok dm_findDivisor_31 zk_4 ?_
        refine sm_callV_v (pc := 32) (ci := 10) [.int (4 : Int32)] ok dm_findDivisor_32 wd_1245 mwm_halve rfl rfl (Nat.le_of_ble_eq_true rfl) (Nat.le_of_ble_eq_true rfl) rfl rfl (Nat.le_of_ble_eq_true rfl) (cm_halve (sm_okj ok) N S_6 (4 : Int32)) (fun S_8 => ?_)
        refine sm_aload_n (pc := 35) 0 ok dm_findDivisor_35 rfl ?_
        refine sm_iconst (pc := 36) (5 : Int32) ok dm_findDivisor_36 zk_5 ?_
        refine sm_callV_v (pc := 37) (ci := 10) [.int (5 : Int32)] ok dm_findDivisor_37 wd_1245 mwm_halve rfl rfl (Nat.le_of_ble_eq_true rfl) (Nat.le_of_ble_eq_true rfl) rfl rfl (Nat.le_of_ble_eq_true rfl) (cm_halve (sm_okj ok) N S_8 (5 : Int32)) (fun S_9 => ?_)
        refine sm_iinc (pc := 40) (i := 3) 1 (1 : Int32) ok dm_findDivisor_40 rfl zk_1 (by decide) (fun v => [(3, .int v), (0, .ref ((xw x).2.2 0))]) (fun _ => rfl) (fun v3_10 => ?_)
        refine sm_goto (pc := 43) 14 ok dm_findDivisor_43 (by decide) ?_
        refine sm_lv [1, 0] rfl ?_
        exact ih _ _
set_option maxHeartbeats 4000000 in
set_option maxRecDepth 20000 in
theorem tm_findDivisor {x : sm_Cx} (ok : sm_Ok x zm_sy prog_12_method_16_code "LentShadesModel" 5 2 49) (hr : (xh x).sig.returnType = none) (N : Nat) (S : sm_St) (v1 : Int32) (v2 : Int32) : sm_Sm x zm_sy prog_12_method_16_code (sm_Q x zm_sy (sm_Pv zm_sy (xw x))) (pm_findDivisor N S v1 v2) S 0 [(0, .ref ((xw x).2.2 0)), (1, .int v1), (2, .int v2)] [] := by
  unfold pm_findDivisor
  refine sm_aload_n (pc := 0) 0 ok dm_findDivisor_0 rfl ?_
  refine sm_iconst (pc := 1) (4 : Int32) ok dm_findDivisor_1 zk_4 ?_
  refine sm_iload_n (pc := 2) 1 ok dm_findDivisor_2 rfl ?_
  refine sm_callV_v (pc := 3) (ci := 10) [.int (4 : Int32), .int v1] ok dm_findDivisor_3 wd_1126 mwm_copy rfl rfl (Nat.le_of_ble_eq_true rfl) (Nat.le_of_ble_eq_true rfl) rfl rfl (Nat.le_of_ble_eq_true rfl) (cm_copy (sm_okj ok) N S (4 : Int32) v1) (fun S_1 => ?_)
  refine sm_aload_n (pc := 6) 0 ok dm_findDivisor_6 rfl ?_
  refine sm_iconst (pc := 7) (5 : Int32) ok dm_findDivisor_7 zk_5 ?_
  refine sm_iload_n (pc := 8) 2 ok dm_findDivisor_8 rfl ?_
  refine sm_callV_v (pc := 9) (ci := 10) [.int (5 : Int32), .int v2] ok dm_findDivisor_9 wd_1126 mwm_copy rfl rfl (Nat.le_of_ble_eq_true rfl) (Nat.le_of_ble_eq_true rfl) rfl rfl (Nat.le_of_ble_eq_true rfl) (cm_copy (sm_okj ok) N S_1 (5 : Int32) v2) (fun S_2 => ?_)
  refine sm_iconst (pc := 12) (0 : Int32) ok dm_findDivisor_12 zk_0 ?_
  refine sm_istore_n (pc := 13) (i := 3) ok dm_findDivisor_13 rfl (by decide) (fun v => [(3, .int v), (0, .ref ((xw x).2.2 0)), (1, .int v1), (2, .int v2)]) (fun _ => rfl) (fun v3_3 => ?_)
  refine sm_lv [1, 0] rfl ?_
  exact tm_findDivisor_b14 ok hr N N _ _
theorem cm_findDivisor {l : Launch} {wc : sm_Wc} (hj : sm_inj zm_sy wc) (N : Nat) (S : sm_St) (v1 : Int32) (v2 : Int32) : sm_Ct l zm_sy wc ym_findDivisor prog_12_method_16_code 5 none 2 49 [.ref (wc.2.2 0), .int v1, .int v2] S (sm_Pv zm_sy wc) (pm_findDivisor N S v1 v2) :=
  sm_entry (Pq := fun wc => sm_Pv zm_sy wc) (fun wc => [.ref (wc.2.2 0), .int v1, .int v2]) (lv := fun wc => [(0, .ref (wc.2.2 0)), (1, .int v1), (2, .int v2)]) (by decide) hj zm_ok zm_stb (fun _ => Nat.le_of_ble_eq_true rfl) (fun _ => rfl) (fun x _ ok hr => tm_findDivisor ok hr N S v1 v2)
set_option maxHeartbeats 4000000 in
set_option maxRecDepth 20000 in
theorem tm_addOne {x : sm_Cx} (ok : sm_Ok x zm_sy prog_12_method_18_code "LentShadesModel" 1 1 25) (hr : (xh x).sig.returnType = none) (N : Nat) (S : sm_St) : sm_Sm x zm_sy prog_12_method_18_code (sm_Q x zm_sy (sm_Pv zm_sy (xw x))) (pm_addOne N S) S 0 [(0, .ref ((xw x).2.2 0))] [] := by
  unfold pm_addOne
  refine sm_aload_n (pc := 0) 0 ok dm_addOne_0 rfl ?_
  refine sm_getR (pc := 1) (ci := 10) (k := 5) ok dm_addOne_1 rfl rfl zc_i10 (by decide) rfl wd_1008 ?_
  refine sm_iconst (pc := 4) (5 : Int32) ok dm_addOne_4 zk_5 ?_
  refine sm_iald (pc := 5) ok dm_addOne_5 rfl ?_
  refine sm_if_ne (pc := 6) 18 ok dm_addOne_6 (by decide) (fun _ => ?_) (fun _ => ?_)
  · refine sm_aload_n (pc := 18) 0 ok dm_addOne_18 rfl ?_
    refine sm_getR (pc := 19) (ci := 10) (k := 4) ok dm_addOne_19 rfl rfl zc_i10 (by decide) rfl wd_1007 ?_
    refine sm_sipush (pc := 22) (320 : Int32) ok dm_addOne_22 zs_320 ?_
    refine sm_dup2 (pc := 25) ok dm_addOne_25 rfl rfl ?_
    refine sm_lald (pc := 26) ok dm_addOne_26 rfl ?_
    refine sm_lconst (pc := 27) (1 : Int64) ok dm_addOne_27 zl_1 ?_
    refine sm_ladd (pc := 28) ok dm_addOne_28 ?_
    refine sm_last (pc := 29) ok dm_addOne_29 rfl (fun S_1 => ?_)
    exact sm_vret (pc := 30) ok dm_addOne_30 hr
  · refine sm_aload_n (pc := 9) 0 ok dm_addOne_9 rfl ?_
    refine sm_iconst (pc := 10) (5 : Int32) ok dm_addOne_10 zk_5 ?_
    refine sm_lconst (pc := 11) (1 : Int64) ok dm_addOne_11 zl_1 ?_
    refine sm_callV_v (pc := 12) (ci := 10) [.int (5 : Int32), .long (1 : Int64)] ok dm_addOne_12 wd_998 mwm_set rfl rfl (Nat.le_of_ble_eq_true rfl) (Nat.le_of_ble_eq_true rfl) rfl rfl (Nat.le_of_ble_eq_true rfl) (cm_set (sm_okj ok) N S (5 : Int32) (1 : Int64)) (fun S_2 => ?_)
    refine sm_goto (pc := 15) 30 ok dm_addOne_15 (by decide) ?_
    exact sm_vret (pc := 30) ok dm_addOne_30 hr
theorem cm_addOne {l : Launch} {wc : sm_Wc} (hj : sm_inj zm_sy wc) (N : Nat) (S : sm_St) : sm_Ct l zm_sy wc ym_addOne prog_12_method_18_code 1 none 1 25 [.ref (wc.2.2 0)] S (sm_Pv zm_sy wc) (pm_addOne N S) :=
  sm_entry (Pq := fun wc => sm_Pv zm_sy wc) (fun wc => [.ref (wc.2.2 0)]) (lv := fun wc => [(0, .ref (wc.2.2 0))]) (by decide) hj zm_ok zm_stb (fun _ => Nat.le_of_ble_eq_true rfl) (fun _ => rfl) (fun x _ ok hr => tm_addOne ok hr N S)
set_option maxHeartbeats 4000000 in
set_option maxRecDepth 20000 in
theorem tm_divide_b127 {x : sm_Cx} (ok : sm_Ok x zm_sy prog_12_method_17_code "LentShadesModel" 7 2 49) (hr : (xh x).sig.returnType = none) (N : Nat) {r50 : Int32 → Int32 → sm_St → Option (sm_St)} {r61 : Int32 → Int32 → Int64 → Int32 → sm_St → Option (sm_St)} (h50 : ∀ (v1 : Int32) (v3 : Int32) (S : sm_St), sm_Sm x zm_sy prog_12_method_17_code (sm_Q x zm_sy (sm_Pv zm_sy (xw x))) (r50 v1 v3 S) S 50 [(0, .ref ((xw x).2.2 0)), (1, .int v1), (3, .int v3)] []) (h61 : ∀ (v1 : Int32) (v3 : Int32) (v4 : Int64) (v6 : Int32) (S : sm_St), sm_Sm x zm_sy prog_12_method_17_code (sm_Q x zm_sy (sm_Pv zm_sy (xw x))) (r61 v1 v3 v4 v6 S) S 61 [(0, .ref ((xw x).2.2 0)), (1, .int v1), (3, .int v3), (4, .long v4), (6, .int v6)] []) (v1 : Int32) (v3 : Int32) (v4 : Int64) (v6 : Int32) (S : sm_St) : sm_Sm x zm_sy prog_12_method_17_code (sm_Q x zm_sy (sm_Pv zm_sy (xw x))) (pm_divide_b127 N r50 r61 v1 v3 v4 v6 S) S 127 [(0, .ref ((xw x).2.2 0)), (1, .int v1), (3, .int v3), (4, .long v4), (6, .int v6)] [] := by
  unfold pm_divide_b127
  refine sm_iinc (pc := 127) (i := 6) 4 (-1 : Int32) ok dm_divide_127 rfl zk_m1 (by decide) (fun v => [(6, .int v), (0, .ref ((xw x).2.2 0)), (1, .int v1), (3, .int v3), (4, .long v4)]) (fun _ => rfl) (fun v6_20 => ?_)
  refine sm_goto (pc := 130) 61 ok dm_divide_130 (by decide) ?_
  refine sm_lv [1, 2, 3, 4, 0] rfl ?_
  exact h61 _ _ _ _ _
set_option maxHeartbeats 4000000 in
set_option maxRecDepth 20000 in
theorem tm_divide_b98 {x : sm_Cx} (ok : sm_Ok x zm_sy prog_12_method_17_code "LentShadesModel" 7 2 49) (hr : (xh x).sig.returnType = none) (N : Nat) {r50 : Int32 → Int32 → sm_St → Option (sm_St)} {r61 : Int32 → Int32 → Int64 → Int32 → sm_St → Option (sm_St)} (h50 : ∀ (v1 : Int32) (v3 : Int32) (S : sm_St), sm_Sm x zm_sy prog_12_method_17_code (sm_Q x zm_sy (sm_Pv zm_sy (xw x))) (r50 v1 v3 S) S 50 [(0, .ref ((xw x).2.2 0)), (1, .int v1), (3, .int v3)] []) (h61 : ∀ (v1 : Int32) (v3 : Int32) (v4 : Int64) (v6 : Int32) (S : sm_St), sm_Sm x zm_sy prog_12_method_17_code (sm_Q x zm_sy (sm_Pv zm_sy (xw x))) (r61 v1 v3 v4 v6 S) S 61 [(0, .ref ((xw x).2.2 0)), (1, .int v1), (3, .int v3), (4, .long v4), (6, .int v6)] []) (v1 : Int32) (v3 : Int32) (v4 : Int64) (v6 : Int32) (S : sm_St) : sm_Sm x zm_sy prog_12_method_17_code (sm_Q x zm_sy (sm_Pv zm_sy (xw x))) (pm_divide_b98 N r50 r61 v1 v3 v4 v6 S) S 98 [(0, .ref ((xw x).2.2 0)), (1, .int v1), (3, .int v3), (4, .long v4), (6, .int v6)] [] := by
  unfold pm_divide_b98
  refine sm_ldc2 (pc := 98) ok dm_divide_98 wd_1244 ?_
  refine sm_lload (pc := 101) 3 ok dm_divide_101 rfl ?_
  refine sm_lmul (pc := 103) ok dm_divide_103 ?_
  refine sm_lstore (pc := 104) (i := 4) ok dm_divide_104 (by decide) (fun v => [(4, .long v), (0, .ref ((xw x).2.2 0)), (1, .int v1), (3, .int v3), (6, .int v6)]) (fun _ => rfl) (fun v4_15 => ?_)
  refine sm_aload_n (pc := 106) 1 ok dm_divide_106 rfl ?_
  refine sm_iconst (pc := 107) (5 : Int32) ok dm_divide_107 zk_5 ?_
  refine sm_iconst (pc := 108) (4 : Int32) ok dm_divide_108 zk_4 ?_
  refine sm_callV_i (pc := 109) (ci := 10) [.int (5 : Int32), .int (4 : Int32)] ok dm_divide_109 wd_1224 mwm_compare rfl rfl (Nat.le_of_ble_eq_true rfl) (Nat.le_of_ble_eq_true rfl) rfl rfl (Nat.le_of_ble_eq_true rfl) (cm_compare (sm_okj ok) N S (5 : Int32) (4 : Int32)) (fun r_17 S_16 => ?_)
  refine sm_if_lt (pc := 112) 127 ok dm_divide_112 (by decide) (fun _ => ?_) (fun _ => ?_)
  · refine sm_lv [1, 2, 3, 0, 4] rfl ?_
    exact tm_divide_b127 ok hr N h50 h61 _ _ _ _ _
  · refine sm_aload_n (pc := 115) 1 ok dm_divide_115 rfl ?_
    refine sm_iconst (pc := 116) (5 : Int32) ok dm_divide_116 zk_5 ?_
    refine sm_iconst (pc := 117) (4 : Int32) ok dm_divide_117 zk_4 ?_
    refine sm_callV_v (pc := 118) (ci := 10) [.int (5 : Int32), .int (4 : Int32)] ok dm_divide_118 wd_1249 mwm_take rfl rfl (Nat.le_of_ble_eq_true rfl) (Nat.le_of_ble_eq_true rfl) rfl rfl (Nat.le_of_ble_eq_true rfl) (cm_take (sm_okj ok) N S_16 (5 : Int32) (4 : Int32)) (fun S_18 => ?_)
    refine sm_lload (pc := 121) 0 ok dm_divide_121 rfl ?_
    refine sm_lconst (pc := 123) (1 : Int64) ok dm_divide_123 zl_1 ?_
    refine sm_ladd (pc := 124) ok dm_divide_124 ?_
    refine sm_lstore (pc := 125) (i := 4) ok dm_divide_125 (by decide) (fun v => [(4, .long v), (0, .ref ((xw x).2.2 0)), (1, .int v1), (3, .int v3), (6, .int v6)]) (fun _ => rfl) (fun v4_19 => ?_)
    refine sm_lv [1, 2, 3, 0, 4] rfl ?_
    exact tm_divide_b127 ok hr N h50 h61 _ _ _ _ _
set_option maxHeartbeats 4000000 in
set_option maxRecDepth 20000 in
theorem tm_divide_b61 {x : sm_Cx} (ok : sm_Ok x zm_sy prog_12_method_17_code "LentShadesModel" 7 2 49) (hr : (xh x).sig.returnType = none) (N : Nat) {r50 : Int32 → Int32 → sm_St → Option (sm_St)} (h50 : ∀ (v1 : Int32) (v3 : Int32) (S : sm_St), sm_Sm x zm_sy prog_12_method_17_code (sm_Q x zm_sy (sm_Pv zm_sy (xw x))) (r50 v1 v3 S) S 50 [(0, .ref ((xw x).2.2 0)), (1, .int v1), (3, .int v3)] []) : ∀ (n : Nat) (v1 : Int32) (v3 : Int32) (v4 : Int64) (v6 : Int32) (S : sm_St), sm_Sm x zm_sy prog_12_method_17_code (sm_Q x zm_sy (sm_Pv zm_sy (xw x))) (pm_divide_b61 N r50 n v1 v3 v4 v6 S) S 61 [(0, .ref ((xw x).2.2 0)), (1, .int v1), (3, .int v3), (4, .long v4), (6, .int v6)] [] := by
  intro n
  induction n with
  | zero =>
    intro v1 v3 v4 v6 S
    exact sm_none
  | succ n ih =>
    intro v1 v3 v4 v6 S
    show sm_Sm x zm_sy prog_12_method_17_code (sm_Q x zm_sy (sm_Pv zm_sy (xw x))) (if v6 < 0 then (if sm_in (((64 : Int32) * v1) + v3) 7936 = true then sm_lt (sm_sL S 5 (((64 : Int32) * v1) + v3).toNatClampNeg v4) (fun (S_11 : sm_St) => sm_lt (v3 + (-1 : Int32)) (fun (v3_12 : Int32) => r50 v1 v3_12 S_11)) else none) else (sm_b1 (pm_times N S (5 : Int32) (2 : Int64)) (fun (S_13 : sm_St) => if sm_in ((384 : Int32) + v3) 7936 = true then (if (((S_13.2.1 5 ((384 : Int32) + v3).toNatClampNeg) >>> (v6.toInt64 &&& 63)) &&& (1 : Int64)) = (1 : Int64) then (sm_b1 (pm_addOne N S_13) (fun (S_14 : sm_St) => pm_divide_b98 N r50 (pm_divide_b61 N r50 n) v1 v3 v4 v6 S_14)) else (pm_divide_b98 N r50 (pm_divide_b61 N r50 n) v1 v3 v4 v6 S_13)) else none))) S 61 [(0, .ref ((xw x).2.2 0)), (1, .int v1), (3, .int v3), (4, .long v4), (6, .int v6)] []
    refine sm_iload (pc := 61) 4 ok dm_divide_61 rfl ?_
    refine sm_if_lt (pc := 63) 133 ok dm_divide_63 (by decide) (fun _ => ?_) (fun _ => ?_)
    · refine sm_aload_n (pc := 133) 0 ok dm_divide_133 rfl ?_
      refine sm_getR (pc := 134) (ci := 10) (k := 4) ok dm_divide_134 rfl rfl zc_i10 (by decide) rfl wd_1007 ?_
      refine sm_bipush (pc := 137) (64 : Int32) ok dm_divide_137 zb_64 ?_
      refine sm_iload_n (pc := 139) 1 ok dm_divide_139 rfl ?_
      refine sm_imul (pc := 140) ok dm_divide_140 ?_
      refine sm_iload_n (pc := 141) 2 ok dm_divide_141 rfl ?_
      refine sm_iadd (pc := 142) ok dm_divide_142 ?_
      refine sm_lload (pc := 143) 3 ok dm_divide_143 rfl ?_
      refine sm_last (pc := 145) ok dm_divide_145 rfl (fun S_11 => ?_)
      refine sm_iinc (pc := 146) (i := 3) 2 (-1 : Int32) ok dm_divide_146 rfl zk_m1 (by decide) (fun v => [(3, .int v), (0, .ref ((xw x).2.2 0)), (1, .int v1), (4, .long v4), (6, .int v6)]) (fun _ => rfl) (fun v3_12 => ?_)
      refine sm_goto (pc := 149) 50 ok dm_divide_149 (by decide) ?_
      refine sm_lv [1, 2, 0] rfl ?_
      exact h50 _ _ _
    · refine sm_aload_n (pc := 66) 0 ok dm_divide_66 rfl ?_
      refine sm_iconst (pc := 67) (5 : Int32) ok dm_divide_67 zk_5 ?_
      refine sm_ldc2 (pc := 68) ok dm_divide_68 wd_1244 ?_
      refine sm_callV_v (pc := 71) (ci := 10) [.int (5 : Int32), .long (2 : Int64)] ok dm_divide_71 wd_1130 mwm_times rfl rfl (Nat.le_of_ble_eq_true rfl) (Nat.le_of_ble_eq_true rfl) rfl rfl (Nat.le_of_ble_eq_true rfl) (cm_times (sm_okj ok) N S (5 : Int32) (2 : Int64)) (fun S_13 => ?_)
      refine sm_aload_n (pc := 74) 0 ok dm_divide_74 rfl ?_
      refine sm_getR (pc := 75) (ci := 10) (k := 4) ok dm_divide_75 rfl rfl zc_i10 (by decide) rfl wd_1007 ?_
      refine sm_sipush (pc := 78) (384 : Int32) ok dm_divide_78 zs_384 ?_
      refine sm_iload_n (pc := 81) 2 ok dm_divide_81 rfl ?_
      refine sm_iadd (pc := 82) ok dm_divide_82 ?_
      refine sm_lald (pc := 83) ok dm_divide_83 rfl ?_
      refine sm_iload (pc := 84) 4 ok dm_divide_84 rfl ?_
      refine sm_lshr (pc := 86) ok dm_divide_86 ?_
      refine sm_lconst (pc := 87) (1 : Int64) ok dm_divide_87 zl_1 ?_
      refine sm_land (pc := 88) ok dm_divide_88 ?_
      refine sm_lconst (pc := 89) (1 : Int64) ok dm_divide_89 zl_1 ?_
      refine sm_lif_ne (pc := 90) 98 ok dm_divide_90 dm_divide_91 (by decide) (fun _ => ?_) (fun _ => ?_)
      · exact tm_divide_b98 ok hr N h50 ih _ _ _ _ _
      · refine sm_aload_n (pc := 94) 0 ok dm_divide_94 rfl ?_
        refine sm_callV_v (pc := 95) (ci := 10) [] ok dm_divide_95 wd_1257 mwm_addOne rfl rfl (Nat.le_of_ble_eq_true rfl) (Nat.le_of_ble_eq_true rfl) rfl rfl (Nat.le_of_ble_eq_true rfl) (cm_addOne (sm_okj ok) N S_13) (fun S_14 => ?_)
        exact tm_divide_b98 ok hr N h50 ih _ _ _ _ _
set_option maxHeartbeats 4000000 in
set_option maxRecDepth 20000 in
theorem tm_divide_b50 {x : sm_Cx} (ok : sm_Ok x zm_sy prog_12_method_17_code "LentShadesModel" 7 2 49) (hr : (xh x).sig.returnType = none) (N : Nat) : ∀ (n : Nat) (v1 : Int32) (v3 : Int32) (S : sm_St), sm_Sm x zm_sy prog_12_method_17_code (sm_Q x zm_sy (sm_Pv zm_sy (xw x))) (pm_divide_b50 N n v1 v3 S) S 50 [(0, .ref ((xw x).2.2 0)), (1, .int v1), (3, .int v3)] [] := by
  intro n
  induction n with
  | zero =>
    intro v1 v3 S
    exact sm_none
  | succ n ih =>
    intro v1 v3 S
    show sm_Sm x zm_sy prog_12_method_17_code (sm_Q x zm_sy (sm_Pv zm_sy (xw x))) (if v3 < 0 then (sm_b1 (pm_trim N S v1) (fun (S_8 : sm_St) => some S_8)) else (sm_lt (0 : Int64) (fun (v4_9 : Int64) => sm_lt (29 : Int32) (fun (v6_10 : Int32) => pm_divide_b61 N (pm_divide_b50 N n) N v1 v3 v4_9 v6_10 S)))) S 50 [(0, .ref ((xw x).2.2 0)), (1, .int v1), (3, .int v3)] []
    refine sm_iload_n (pc := 50) 2 ok dm_divide_50 rfl ?_
    refine sm_if_lt (pc := 51) 152 ok dm_divide_51 (by decide) (fun _ => ?_) (fun _ => ?_)
    · refine sm_aload_n (pc := 152) 0 ok dm_divide_152 rfl ?_
      refine sm_iload_n (pc := 153) 1 ok dm_divide_153 rfl ?_
      refine sm_callV_v (pc := 154) (ci := 10) [.int v1] ok dm_divide_154 wd_1134 mwm_trim rfl rfl (Nat.le_of_ble_eq_true rfl) (Nat.le_of_ble_eq_true rfl) rfl rfl (Nat.le_of_ble_eq_true rfl) (cm_trim (sm_okj ok) N S v1) (fun S_8 => ?_)
      exact sm_vret (pc := 157) ok dm_divide_157 hr
    · refine sm_lconst (pc := 54) (0 : Int64) ok dm_divide_54 zl_0 ?_
      refine sm_lstore (pc := 55) (i := 4) ok dm_divide_55 (by decide) (fun v => [(4, .long v), (0, .ref ((xw x).2.2 0)), (1, .int v1), (3, .int v3)]) (fun _ => rfl) (fun v4_9 => ?_)
      refine sm_bipush (pc := 57) (29 : Int32) ok dm_divide_57 zb_29 ?_
      refine sm_istore (pc := 59) (i := 6) ok dm_divide_59 (by decide) (fun v => [(6, .int v), (4, .long v4_9), (0, .ref ((xw x).2.2 0)), (1, .int v1), (3, .int v3)]) (fun _ => rfl) (fun v6_10 => ?_)
      refine sm_lv [2, 3, 4, 1, 0] rfl ?_
      exact tm_divide_b61 ok hr N ih N _ _ _ _ _
set_option maxHeartbeats 4000000 in
set_option maxRecDepth 20000 in
theorem tm_divide_b23 {x : sm_Cx} (ok : sm_Ok x zm_sy prog_12_method_17_code "LentShadesModel" 7 2 49) (hr : (xh x).sig.returnType = none) (N : Nat) : ∀ (n : Nat) (v1 : Int32) (v2 : Int32) (v3 : Int32) (S : sm_St), sm_Sm x zm_sy prog_12_method_17_code (sm_Q x zm_sy (sm_Pv zm_sy (xw x))) (pm_divide_b23 N n v1 v2 v3 S) S 23 [(0, .ref ((xw x).2.2 0)), (1, .int v1), (2, .int v2), (3, .int v3)] [] := by
  intro n
  induction n with
  | zero =>
    intro v1 v2 v3 S
    exact sm_none
  | succ n ih =>
    intro v1 v2 v3 S
    show sm_Sm x zm_sy prog_12_method_17_code (sm_Q x zm_sy (sm_Pv zm_sy (xw x))) (if v2 ≤ v3 then (sm_lt (v2 - (1 : Int32)) (fun (v3_5 : Int32) => pm_divide_b50 N N v1 v3_5 S)) else (if sm_in (((64 : Int32) * v1) + v3) 7936 = true then sm_lt (sm_sL S 5 (((64 : Int32) * v1) + v3).toNatClampNeg (0 : Int64)) (fun (S_6 : sm_St) => sm_lt (v3 + (1 : Int32)) (fun (v3_7 : Int32) => (pm_divide_b23 N n) v1 v2 v3_7 S_6)) else none)) S 23 [(0, .ref ((xw x).2.2 0)), (1, .int v1), (2, .int v2), (3, .int v3)] []
    refine sm_iload_n (pc := 23) 3 ok dm_divide_23 rfl ?_
    refine sm_iload_n (pc := 24) 2 ok dm_divide_24 rfl ?_
    refine sm_icmp_ge (pc := 25) 46 ok dm_divide_25 (by decide) (fun _ => ?_) (fun _ => ?_)
    · refine sm_iload_n (pc := 46) 2 ok dm_divide_46 rfl ?_
      refine sm_iconst (pc := 47) (1 : Int32) ok dm_divide_47 zk_1 ?_
      refine sm_isub (pc := 48) ok dm_divide_48 ?_
      refine sm_istore_n (pc := 49) (i := 3) ok dm_divide_49 rfl (by decide) (fun v => [(3, .int v), (0, .ref ((xw x).2.2 0)), (1, .int v1), (2, .int v2)]) (fun _ => rfl) (fun v3_5 => ?_)
      refine sm_lv [1, 2, 0] rfl ?_
      exact tm_divide_b50 ok hr N N _ _ _
    · refine sm_aload_n (pc := 28) 0 ok dm_divide_28 rfl ?_
      refine sm_getR (pc := 29) (ci := 10) (k := 4) ok dm_divide_29 rfl rfl zc_i10 (by decide) rfl wd_1007 ?_
      refine sm_bipush (pc := 32) (64 : Int32) ok dm_divide_32 zb_64 ?_
      refine sm_iload_n (pc := 34) 1 ok dm_divide_34 rfl ?_
      refine sm_imul (pc := 35) ok dm_divide_35 ?_
      refine sm_iload_n (pc := 36) 3 ok dm_divide_36 rfl ?_
      refine sm_iadd (pc := 37) ok dm_divide_37 ?_
      refine sm_lconst (pc := 38) (0 : Int64) ok dm_divide_38 zl_0 ?_
      refine sm_last (pc := 39) ok dm_divide_39 rfl (fun S_6 => ?_)
      refine sm_iinc (pc := 40) (i := 3) 3 (1 : Int32) ok dm_divide_40 rfl zk_1 (by decide) (fun v => [(3, .int v), (0, .ref ((xw x).2.2 0)), (1, .int v1), (2, .int v2)]) (fun _ => rfl) (fun v3_7 => ?_)
      refine sm_goto (pc := 43) 23 ok dm_divide_43 (by decide) ?_
      refine sm_lv [1, 2, 3, 0] rfl ?_
      exact ih _ _ _ _
set_option maxHeartbeats 4000000 in
set_option maxRecDepth 20000 in
theorem tm_divide {x : sm_Cx} (ok : sm_Ok x zm_sy prog_12_method_17_code "LentShadesModel" 7 2 49) (hr : (xh x).sig.returnType = none) (N : Nat) (S : sm_St) (v1 : Int32) : sm_Sm x zm_sy prog_12_method_17_code (sm_Q x zm_sy (sm_Pv zm_sy (xw x))) (pm_divide N S v1) S 0 [(0, .ref ((xw x).2.2 0)), (1, .int v1)] [] := by
  unfold pm_divide
  refine sm_aload_n (pc := 0) 0 ok dm_divide_0 rfl ?_
  refine sm_bipush (pc := 1) (6 : Int32) ok dm_divide_1 zb_6 ?_
  refine sm_iload_n (pc := 3) 1 ok dm_divide_3 rfl ?_
  refine sm_callV_v (pc := 4) (ci := 10) [.int (6 : Int32), .int v1] ok dm_divide_4 wd_1126 mwm_copy rfl rfl (Nat.le_of_ble_eq_true rfl) (Nat.le_of_ble_eq_true rfl) rfl rfl (Nat.le_of_ble_eq_true rfl) (cm_copy (sm_okj ok) N S (6 : Int32) v1) (fun S_1 => ?_)
  refine sm_aload_n (pc := 7) 0 ok dm_divide_7 rfl ?_
  refine sm_iconst (pc := 8) (5 : Int32) ok dm_divide_8 zk_5 ?_
  refine sm_lconst (pc := 9) (0 : Int64) ok dm_divide_9 zl_0 ?_
  refine sm_callV_v (pc := 10) (ci := 10) [.int (5 : Int32), .long (0 : Int64)] ok dm_divide_10 wd_998 mwm_set rfl rfl (Nat.le_of_ble_eq_true rfl) (Nat.le_of_ble_eq_true rfl) rfl rfl (Nat.le_of_ble_eq_true rfl) (cm_set (sm_okj ok) N S_1 (5 : Int32) (0 : Int64)) (fun S_2 => ?_)
  refine sm_aload_n (pc := 13) 0 ok dm_divide_13 rfl ?_
  refine sm_getR (pc := 14) (ci := 10) (k := 5) ok dm_divide_14 rfl rfl zc_i10 (by decide) rfl wd_1008 ?_
  refine sm_bipush (pc := 17) (6 : Int32) ok dm_divide_17 zb_6 ?_
  refine sm_iald (pc := 19) ok dm_divide_19 rfl ?_
  refine sm_istore_n (pc := 20) (i := 2) ok dm_divide_20 rfl (by decide) (fun v => [(2, .int v), (0, .ref ((xw x).2.2 0)), (1, .int v1)]) (fun _ => rfl) (fun v2_3 => ?_)
  refine sm_iconst (pc := 21) (0 : Int32) ok dm_divide_21 zk_0 ?_
  refine sm_istore_n (pc := 22) (i := 3) ok dm_divide_22 rfl (by decide) (fun v => [(3, .int v), (2, .int v2_3), (0, .ref ((xw x).2.2 0)), (1, .int v1)]) (fun _ => rfl) (fun v3_4 => ?_)
  refine sm_lv [2, 3, 1, 0] rfl ?_
  exact tm_divide_b23 ok hr N N _ _ _ _
theorem cm_divide {l : Launch} {wc : sm_Wc} (hj : sm_inj zm_sy wc) (N : Nat) (S : sm_St) (v1 : Int32) : sm_Ct l zm_sy wc ym_divide prog_12_method_17_code 7 none 2 49 [.ref (wc.2.2 0), .int v1] S (sm_Pv zm_sy wc) (pm_divide N S v1) :=
  sm_entry (Pq := fun wc => sm_Pv zm_sy wc) (fun wc => [.ref (wc.2.2 0), .int v1]) (lv := fun wc => [(0, .ref (wc.2.2 0)), (1, .int v1)]) (by decide) hj zm_ok zm_stb (fun _ => Nat.le_of_ble_eq_true rfl) (fun _ => rfl) (fun x _ ok hr => tm_divide ok hr N S v1)
set_option maxHeartbeats 4000000 in
set_option maxRecDepth 20000 in
theorem tm_tell_b65 {x : sm_Cx} (ok : sm_Ok x zm_sy prog_12_method_19_code "LentShadesModel" 4 3 75) (hr : (xh x).sig.returnType = none) (N : Nat) (s1 : Int32) (S : sm_St) : sm_Sm x zm_sy prog_12_method_19_code (sm_Q x zm_sy (sm_Pv zm_sy (xw x))) (pm_tell_b65 N s1 S) S 65 [] [.int s1, .ref ((xw x).2.2 0)] := by
  unfold pm_tell_b65
  refine sm_putI (pc := 65) (ci := 10) (k := 6) ok dm_tell_65 rfl rfl zc_i10 zc_y10 zc_t10 zc_n10 (by decide) rfl rfl rfl wd_1009 (fun S_9 => ?_)
  exact sm_vret (pc := 68) ok dm_tell_68 hr
set_option maxHeartbeats 4000000 in
set_option maxRecDepth 20000 in
theorem tm_tell {x : sm_Cx} (ok : sm_Ok x zm_sy prog_12_method_19_code "LentShadesModel" 4 3 75) (hr : (xh x).sig.returnType = none) (N : Nat) (S : sm_St) (v1 : Int32) (v2 : Int32) (v3 : Int32) : sm_Sm x zm_sy prog_12_method_19_code (sm_Q x zm_sy (sm_Pv zm_sy (xw x))) (pm_tell N S v1 v2 v3) S 0 [(0, .ref ((xw x).2.2 0)), (1, .int v1), (2, .int v2), (3, .int v3)] [] := by
  unfold pm_tell
  refine sm_aload_n (pc := 0) 0 ok dm_tell_0 rfl ?_
  refine sm_getR (pc := 1) (ci := 10) (k := 5) ok dm_tell_1 rfl rfl zc_i10 (by decide) rfl wd_1008 ?_
  refine sm_iload_n (pc := 4) 1 ok dm_tell_4 rfl ?_
  refine sm_iald (pc := 5) ok dm_tell_5 rfl ?_
  refine sm_if_ne (pc := 6) 27 ok dm_tell_6 (by decide) (fun _ => ?_) (fun _ => ?_)
  · refine sm_aload_n (pc := 27) 0 ok dm_tell_27 rfl ?_
    refine sm_iload_n (pc := 28) 1 ok dm_tell_28 rfl ?_
    refine sm_iload_n (pc := 29) 2 ok dm_tell_29 rfl ?_
    refine sm_callV_v (pc := 30) (ci := 10) [.int v1, .int v2] ok dm_tell_30 wd_1236 mwm_findDivisor rfl rfl (Nat.le_of_ble_eq_true rfl) (Nat.le_of_ble_eq_true rfl) rfl rfl (Nat.le_of_ble_eq_true rfl) (cm_findDivisor (sm_okj ok) N S v1 v2) (fun S_1 => ?_)
    refine sm_aload_n (pc := 33) 0 ok dm_tell_33 rfl ?_
    refine sm_iconst (pc := 34) (0 : Int32) ok dm_tell_34 zk_0 ?_
    refine sm_iload_n (pc := 35) 1 ok dm_tell_35 rfl ?_
    refine sm_callV_v (pc := 36) (ci := 10) [.int (0 : Int32), .int v1] ok dm_tell_36 wd_1126 mwm_copy rfl rfl (Nat.le_of_ble_eq_true rfl) (Nat.le_of_ble_eq_true rfl) rfl rfl (Nat.le_of_ble_eq_true rfl) (cm_copy (sm_okj ok) N S_1 (0 : Int32) v1) (fun S_2 => ?_)
    refine sm_aload_n (pc := 39) 0 ok dm_tell_39 rfl ?_
    refine sm_iconst (pc := 40) (0 : Int32) ok dm_tell_40 zk_0 ?_
    refine sm_callV_v (pc := 41) (ci := 10) [.int (0 : Int32)] ok dm_tell_41 wd_1253 mwm_divide rfl rfl (Nat.le_of_ble_eq_true rfl) (Nat.le_of_ble_eq_true rfl) rfl rfl (Nat.le_of_ble_eq_true rfl) (cm_divide (sm_okj ok) N S_2 (0 : Int32)) (fun S_3 => ?_)
    refine sm_aload_n (pc := 44) 0 ok dm_tell_44 rfl ?_
    refine sm_iconst (pc := 45) (1 : Int32) ok dm_tell_45 zk_1 ?_
    refine sm_iload_n (pc := 46) 2 ok dm_tell_46 rfl ?_
    refine sm_callV_v (pc := 47) (ci := 10) [.int (1 : Int32), .int v2] ok dm_tell_47 wd_1126 mwm_copy rfl rfl (Nat.le_of_ble_eq_true rfl) (Nat.le_of_ble_eq_true rfl) rfl rfl (Nat.le_of_ble_eq_true rfl) (cm_copy (sm_okj ok) N S_3 (1 : Int32) v2) (fun S_4 => ?_)
    refine sm_aload_n (pc := 50) 0 ok dm_tell_50 rfl ?_
    refine sm_iconst (pc := 51) (1 : Int32) ok dm_tell_51 zk_1 ?_
    refine sm_callV_v (pc := 52) (ci := 10) [.int (1 : Int32)] ok dm_tell_52 wd_1253 mwm_divide rfl rfl (Nat.le_of_ble_eq_true rfl) (Nat.le_of_ble_eq_true rfl) rfl rfl (Nat.le_of_ble_eq_true rfl) (cm_divide (sm_okj ok) N S_4 (1 : Int32)) (fun S_5 => ?_)
    refine sm_aload_n (pc := 55) 0 ok dm_tell_55 rfl ?_
    refine sm_iload_n (pc := 56) 3 ok dm_tell_56 rfl ?_
    refine sm_if_eq (pc := 57) 64 ok dm_tell_57 (by decide) (fun _ => ?_) (fun _ => ?_)
    · refine sm_iconst (pc := 64) (1 : Int32) ok dm_tell_64 zk_1 ?_
      refine sm_lv [] rfl ?_
      exact tm_tell_b65 ok hr N _ _
    · refine sm_iconst (pc := 60) (-1 : Int32) ok dm_tell_60 zk_m1 ?_
      refine sm_goto (pc := 61) 65 ok dm_tell_61 (by decide) ?_
      refine sm_lv [] rfl ?_
      exact tm_tell_b65 ok hr N _ _
  · refine sm_aload_n (pc := 9) 0 ok dm_tell_9 rfl ?_
    refine sm_iconst (pc := 10) (0 : Int32) ok dm_tell_10 zk_0 ?_
    refine sm_lconst (pc := 11) (0 : Int64) ok dm_tell_11 zl_0 ?_
    refine sm_callV_v (pc := 12) (ci := 10) [.int (0 : Int32), .long (0 : Int64)] ok dm_tell_12 wd_998 mwm_set rfl rfl (Nat.le_of_ble_eq_true rfl) (Nat.le_of_ble_eq_true rfl) rfl rfl (Nat.le_of_ble_eq_true rfl) (cm_set (sm_okj ok) N S (0 : Int32) (0 : Int64)) (fun S_6 => ?_)
    refine sm_aload_n (pc := 15) 0 ok dm_tell_15 rfl ?_
    refine sm_iconst (pc := 16) (1 : Int32) ok dm_tell_16 zk_1 ?_
    refine sm_lconst (pc := 17) (1 : Int64) ok dm_tell_17 zl_1 ?_
    refine sm_callV_v (pc := 18) (ci := 10) [.int (1 : Int32), .long (1 : Int64)] ok dm_tell_18 wd_998 mwm_set rfl rfl (Nat.le_of_ble_eq_true rfl) (Nat.le_of_ble_eq_true rfl) rfl rfl (Nat.le_of_ble_eq_true rfl) (cm_set (sm_okj ok) N S_6 (1 : Int32) (1 : Int64)) (fun S_7 => ?_)
    refine sm_aload_n (pc := 21) 0 ok dm_tell_21 rfl ?_
    refine sm_iconst (pc := 22) (0 : Int32) ok dm_tell_22 zk_0 ?_
    refine sm_putI (pc := 23) (ci := 10) (k := 6) ok dm_tell_23 rfl rfl zc_i10 zc_y10 zc_t10 zc_n10 (by decide) rfl rfl rfl wd_1009 (fun S_8 => ?_)
    exact sm_vret (pc := 26) ok dm_tell_26 hr
theorem cm_tell {l : Launch} {wc : sm_Wc} (hj : sm_inj zm_sy wc) (N : Nat) (S : sm_St) (v1 : Int32) (v2 : Int32) (v3 : Int32) : sm_Ct l zm_sy wc ym_tell prog_12_method_19_code 4 none 3 75 [.ref (wc.2.2 0), .int v1, .int v2, .int v3] S (sm_Pv zm_sy wc) (pm_tell N S v1 v2 v3) :=
  sm_entry (Pq := fun wc => sm_Pv zm_sy wc) (fun wc => [.ref (wc.2.2 0), .int v1, .int v2, .int v3]) (lv := fun wc => [(0, .ref (wc.2.2 0)), (1, .int v1), (2, .int v2), (3, .int v3)]) (by decide) hj zm_ok zm_stb (fun _ => Nat.le_of_ble_eq_true rfl) (fun _ => rfl) (fun x _ ok hr => tm_tell ok hr N S v1 v2 v3)
set_option maxHeartbeats 4000000 in
set_option maxRecDepth 20000 in
theorem tm_cloths {x : sm_Cx} (ok : sm_Ok x zm_sy prog_12_method_21_code "LentShadesModel" 1 0 0) (hr : (xh x).sig.returnType = (some .int)) (N : Nat) (S : sm_St) : sm_Sm x zm_sy prog_12_method_21_code (sm_Q x zm_sy (sm_Pi zm_sy (xw x))) (pm_cloths N S) S 0 [(0, .ref ((xw x).2.2 0))] [] := by
  unfold pm_cloths
  refine sm_aload_n (pc := 0) 0 ok dm_cloths_0 rfl ?_
  refine sm_getR (pc := 1) (ci := 10) (k := 0) ok dm_cloths_1 rfl rfl zc_i10 (by decide) rfl wd_1003 ?_
  refine sm_bipush (pc := 4) (76 : Int32) ok dm_cloths_4 zb_76 ?_
  refine sm_iald (pc := 6) ok dm_cloths_6 rfl ?_
  exact sm_iret (pc := 7) ok dm_cloths_7 hr
theorem cm_cloths {l : Launch} {wc : sm_Wc} (hj : sm_inj zm_sy wc) (N : Nat) (S : sm_St) : sm_Ct l zm_sy wc ym_cloths prog_12_method_21_code 1 (some .int) 0 0 [.ref (wc.2.2 0)] S (sm_Pi zm_sy wc) (pm_cloths N S) :=
  sm_entry (Pq := fun wc => sm_Pi zm_sy wc) (fun wc => [.ref (wc.2.2 0)]) (lv := fun wc => [(0, .ref (wc.2.2 0))]) (by decide) hj zm_ok zm_stb (fun _ => Nat.le_of_ble_eq_true rfl) (fun _ => rfl) (fun x _ ok hr => tm_cloths ok hr N S)
set_option maxHeartbeats 4000000 in
set_option maxRecDepth 20000 in
theorem tm_things {x : sm_Cx} (ok : sm_Ok x zm_sy prog_12_method_22_code "LentShadesModel" 1 0 0) (hr : (xh x).sig.returnType = (some .int)) (N : Nat) (S : sm_St) : sm_Sm x zm_sy prog_12_method_22_code (sm_Q x zm_sy (sm_Pi zm_sy (xw x))) (pm_things N S) S 0 [(0, .ref ((xw x).2.2 0))] [] := by
  unfold pm_things
  refine sm_aload_n (pc := 0) 0 ok dm_things_0 rfl ?_
  refine sm_getR (pc := 1) (ci := 10) (k := 0) ok dm_things_1 rfl rfl zc_i10 (by decide) rfl wd_1003 ?_
  refine sm_bipush (pc := 4) (77 : Int32) ok dm_things_4 zb_77 ?_
  refine sm_iald (pc := 6) ok dm_things_6 rfl ?_
  exact sm_iret (pc := 7) ok dm_things_7 hr
theorem cm_things {l : Launch} {wc : sm_Wc} (hj : sm_inj zm_sy wc) (N : Nat) (S : sm_St) : sm_Ct l zm_sy wc ym_things prog_12_method_22_code 1 (some .int) 0 0 [.ref (wc.2.2 0)] S (sm_Pi zm_sy wc) (pm_things N S) :=
  sm_entry (Pq := fun wc => sm_Pi zm_sy wc) (fun wc => [.ref (wc.2.2 0)]) (lv := fun wc => [(0, .ref (wc.2.2 0))]) (by decide) hj zm_ok zm_stb (fun _ => Nat.le_of_ble_eq_true rfl) (fun _ => rfl) (fun x _ ok hr => tm_things ok hr N S)
set_option maxHeartbeats 4000000 in
set_option maxRecDepth 20000 in
theorem tm_isCloth {x : sm_Cx} (ok : sm_Ok x zm_sy prog_12_method_23_code "LentShadesModel" 2 1 25) (hr : (xh x).sig.returnType = (some .boolean)) (N : Nat) (S : sm_St) (v1 : Int32) : sm_Sm x zm_sy prog_12_method_23_code (sm_Q x zm_sy (sm_Pi zm_sy (xw x))) (pm_isCloth N S v1) S 0 [(0, .ref ((xw x).2.2 0)), (1, .int v1)] [] := by
  unfold pm_isCloth
  refine sm_iload_n (pc := 0) 1 ok dm_isCloth_0 rfl ?_
  refine sm_i2l (pc := 1) ok dm_isCloth_1 ?_
  refine sm_lconst (pc := 2) (0 : Int64) ok dm_isCloth_2 zl_0 ?_
  refine sm_aload_n (pc := 3) 0 ok dm_isCloth_3 rfl ?_
  refine sm_callV_i (pc := 4) (ci := 10) [] ok dm_isCloth_4 wd_1114 mwm_cloths rfl rfl (Nat.le_of_ble_eq_true rfl) (Nat.le_of_ble_eq_true rfl) rfl rfl (Nat.le_of_ble_eq_true rfl) (cm_cloths (sm_okj ok) N S) (fun r_2 S_1 => ?_)
  refine sm_iconst (pc := 7) (1 : Int32) ok dm_isCloth_7 zk_1 ?_
  refine sm_isub (pc := 8) ok dm_isCloth_8 ?_
  refine sm_i2l (pc := 9) ok dm_isCloth_9 ?_
  refine sm_callS_i (pc := 10) [.long (v1.toInt64), .long (0 : Int64), .long ((r_2 - (1 : Int32)).toInt64)] ok dm_isCloth_10 wd_1105 mwm_in (Nat.le_of_ble_eq_true rfl) (Nat.le_of_ble_eq_true rfl) rfl rfl (Nat.le_of_ble_eq_true rfl) (cm_in (sm_okj ok) N S_1 (v1.toInt64) (0 : Int64) ((r_2 - (1 : Int32)).toInt64)) (fun r_4 S_3 => ?_)
  exact sm_zretc (pc := 13) ok dm_isCloth_13 hr
theorem cm_isCloth {l : Launch} {wc : sm_Wc} (hj : sm_inj zm_sy wc) (N : Nat) (S : sm_St) (v1 : Int32) : sm_Ct l zm_sy wc ym_isCloth prog_12_method_23_code 2 (some .boolean) 1 25 [.ref (wc.2.2 0), .int v1] S (sm_Pi zm_sy wc) (pm_isCloth N S v1) :=
  sm_entry (Pq := fun wc => sm_Pi zm_sy wc) (fun wc => [.ref (wc.2.2 0), .int v1]) (lv := fun wc => [(0, .ref (wc.2.2 0)), (1, .int v1)]) (by decide) hj zm_ok zm_stb (fun _ => Nat.le_of_ble_eq_true rfl) (fun _ => rfl) (fun x _ ok hr => tm_isCloth ok hr N S v1)
set_option maxHeartbeats 4000000 in
set_option maxRecDepth 20000 in
theorem tm_isThing {x : sm_Cx} (ok : sm_Ok x zm_sy prog_12_method_24_code "LentShadesModel" 2 1 25) (hr : (xh x).sig.returnType = (some .boolean)) (N : Nat) (S : sm_St) (v1 : Int32) : sm_Sm x zm_sy prog_12_method_24_code (sm_Q x zm_sy (sm_Pi zm_sy (xw x))) (pm_isThing N S v1) S 0 [(0, .ref ((xw x).2.2 0)), (1, .int v1)] [] := by
  unfold pm_isThing
  refine sm_iload_n (pc := 0) 1 ok dm_isThing_0 rfl ?_
  refine sm_i2l (pc := 1) ok dm_isThing_1 ?_
  refine sm_lconst (pc := 2) (0 : Int64) ok dm_isThing_2 zl_0 ?_
  refine sm_aload_n (pc := 3) 0 ok dm_isThing_3 rfl ?_
  refine sm_callV_i (pc := 4) (ci := 10) [] ok dm_isThing_4 wd_1142 mwm_things rfl rfl (Nat.le_of_ble_eq_true rfl) (Nat.le_of_ble_eq_true rfl) rfl rfl (Nat.le_of_ble_eq_true rfl) (cm_things (sm_okj ok) N S) (fun r_2 S_1 => ?_)
  refine sm_iconst (pc := 7) (1 : Int32) ok dm_isThing_7 zk_1 ?_
  refine sm_isub (pc := 8) ok dm_isThing_8 ?_
  refine sm_i2l (pc := 9) ok dm_isThing_9 ?_
  refine sm_callS_i (pc := 10) [.long (v1.toInt64), .long (0 : Int64), .long ((r_2 - (1 : Int32)).toInt64)] ok dm_isThing_10 wd_1105 mwm_in (Nat.le_of_ble_eq_true rfl) (Nat.le_of_ble_eq_true rfl) rfl rfl (Nat.le_of_ble_eq_true rfl) (cm_in (sm_okj ok) N S_1 (v1.toInt64) (0 : Int64) ((r_2 - (1 : Int32)).toInt64)) (fun r_4 S_3 => ?_)
  exact sm_zretc (pc := 13) ok dm_isThing_13 hr
theorem cm_isThing {l : Launch} {wc : sm_Wc} (hj : sm_inj zm_sy wc) (N : Nat) (S : sm_St) (v1 : Int32) : sm_Ct l zm_sy wc ym_isThing prog_12_method_24_code 2 (some .boolean) 1 25 [.ref (wc.2.2 0), .int v1] S (sm_Pi zm_sy wc) (pm_isThing N S v1) :=
  sm_entry (Pq := fun wc => sm_Pi zm_sy wc) (fun wc => [.ref (wc.2.2 0), .int v1]) (lv := fun wc => [(0, .ref (wc.2.2 0)), (1, .int v1)]) (by decide) hj zm_ok zm_stb (fun _ => Nat.le_of_ble_eq_true rfl) (fun _ => rfl) (fun x _ ok hr => tm_isThing ok hr N S v1)
set_option maxHeartbeats 4000000 in
set_option maxRecDepth 20000 in
theorem tm_isNumber_b26 {x : sm_Cx} (ok : sm_Ok x zm_sy prog_12_method_25_code "LentShadesModel" 2 2 46) (hr : (xh x).sig.returnType = (some .boolean)) (N : Nat) (S : sm_St) : sm_Sm x zm_sy prog_12_method_25_code (sm_Q x zm_sy (sm_Pi zm_sy (xw x))) (pm_isNumber_b26 N S) S 26 [] [] := by
  unfold pm_isNumber_b26
  refine sm_iconst (pc := 26) (1 : Int32) ok dm_isNumber_26 zk_1 ?_
  refine sm_goto (pc := 27) 31 ok dm_isNumber_27 (by decide) ?_
  exact sm_zret (pc := 31) ok dm_isNumber_31 hr rfl
set_option maxHeartbeats 4000000 in
set_option maxRecDepth 20000 in
theorem tm_isNumber {x : sm_Cx} (ok : sm_Ok x zm_sy prog_12_method_25_code "LentShadesModel" 2 2 46) (hr : (xh x).sig.returnType = (some .boolean)) (N : Nat) (S : sm_St) (v1 : Int32) : sm_Sm x zm_sy prog_12_method_25_code (sm_Q x zm_sy (sm_Pi zm_sy (xw x))) (pm_isNumber N S v1) S 0 [(0, .ref ((xw x).2.2 0)), (1, .int v1)] [] := by
  unfold pm_isNumber
  refine sm_aload_n (pc := 0) 0 ok dm_isNumber_0 rfl ?_
  refine sm_iload_n (pc := 1) 1 ok dm_isNumber_1 rfl ?_
  refine sm_callV_i (pc := 2) (ci := 10) [.int v1] ok dm_isNumber_2 wd_1154 mwm_isCloth rfl rfl (Nat.le_of_ble_eq_true rfl) (Nat.le_of_ble_eq_true rfl) rfl rfl (Nat.le_of_ble_eq_true rfl) (cm_isCloth (sm_okj ok) N S v1) (fun r_2 S_1 => ?_)
  refine sm_if_ne (pc := 5) 26 ok dm_isNumber_5 (by decide) (fun _ => ?_) (fun _ => ?_)
  · refine sm_lv [] rfl ?_
    exact tm_isNumber_b26 ok hr N _
  · refine sm_iload_n (pc := 8) 1 ok dm_isNumber_8 rfl ?_
    refine sm_i2l (pc := 9) ok dm_isNumber_9 ?_
    refine sm_ldc2 (pc := 10) ok dm_isNumber_10 wd_1104 ?_
    refine sm_iconst (pc := 13) (3 : Int32) ok dm_isNumber_13 zk_3 ?_
    refine sm_aload_n (pc := 14) 0 ok dm_isNumber_14 rfl ?_
    refine sm_callV_i (pc := 15) (ci := 10) [] ok dm_isNumber_15 wd_1142 mwm_things rfl rfl (Nat.le_of_ble_eq_true rfl) (Nat.le_of_ble_eq_true rfl) rfl rfl (Nat.le_of_ble_eq_true rfl) (cm_things (sm_okj ok) N S_1) (fun r_4 S_3 => ?_)
    refine sm_iadd (pc := 18) ok dm_isNumber_18 ?_
    refine sm_i2l (pc := 19) ok dm_isNumber_19 ?_
    refine sm_callS_i (pc := 20) [.long (v1.toInt64), .long (4 : Int64), .long (((3 : Int32) + r_4).toInt64)] ok dm_isNumber_20 wd_1105 mwm_in (Nat.le_of_ble_eq_true rfl) (Nat.le_of_ble_eq_true rfl) rfl rfl (Nat.le_of_ble_eq_true rfl) (cm_in (sm_okj ok) N S_3 (v1.toInt64) (4 : Int64) (((3 : Int32) + r_4).toInt64)) (fun r_6 S_5 => ?_)
    refine sm_if_eq (pc := 23) 30 ok dm_isNumber_23 (by decide) (fun _ => ?_) (fun _ => ?_)
    · refine sm_iconst (pc := 30) (0 : Int32) ok dm_isNumber_30 zk_0 ?_
      exact sm_zret (pc := 31) ok dm_isNumber_31 hr rfl
    · refine sm_lv [] rfl ?_
      exact tm_isNumber_b26 ok hr N _
theorem cm_isNumber {l : Launch} {wc : sm_Wc} (hj : sm_inj zm_sy wc) (N : Nat) (S : sm_St) (v1 : Int32) : sm_Ct l zm_sy wc ym_isNumber prog_12_method_25_code 2 (some .boolean) 2 46 [.ref (wc.2.2 0), .int v1] S (sm_Pi zm_sy wc) (pm_isNumber N S v1) :=
  sm_entry (Pq := fun wc => sm_Pi zm_sy wc) (fun wc => [.ref (wc.2.2 0), .int v1]) (lv := fun wc => [(0, .ref (wc.2.2 0)), (1, .int v1)]) (by decide) hj zm_ok zm_stb (fun _ => Nat.le_of_ble_eq_true rfl) (fun _ => rfl) (fun x _ ok hr => tm_isNumber ok hr N S v1)
set_option maxHeartbeats 4000000 in
set_option maxRecDepth 20000 in
theorem tm_kindOf {x : sm_Cx} (ok : sm_Ok x zm_sy prog_12_method_26_code "LentShadesModel" 2 0 0) (hr : (xh x).sig.returnType = (some .int)) (N : Nat) (S : sm_St) (v1 : Int32) : sm_Sm x zm_sy prog_12_method_26_code (sm_Q x zm_sy (sm_Pi zm_sy (xw x))) (pm_kindOf N S v1) S 0 [(0, .ref ((xw x).2.2 0)), (1, .int v1)] [] := by
  unfold pm_kindOf
  refine sm_aload_n (pc := 0) 0 ok dm_kindOf_0 rfl ?_
  refine sm_getR (pc := 1) (ci := 10) (k := 0) ok dm_kindOf_1 rfl rfl zc_i10 (by decide) rfl wd_1003 ?_
  refine sm_iconst (pc := 4) (0 : Int32) ok dm_kindOf_4 zk_0 ?_
  refine sm_iconst (pc := 5) (4 : Int32) ok dm_kindOf_5 zk_4 ?_
  refine sm_iload_n (pc := 6) 1 ok dm_kindOf_6 rfl ?_
  refine sm_imul (pc := 7) ok dm_kindOf_7 ?_
  refine sm_iadd (pc := 8) ok dm_kindOf_8 ?_
  refine sm_iald (pc := 9) ok dm_kindOf_9 rfl ?_
  exact sm_iret (pc := 10) ok dm_kindOf_10 hr
theorem cm_kindOf {l : Launch} {wc : sm_Wc} (hj : sm_inj zm_sy wc) (N : Nat) (S : sm_St) (v1 : Int32) : sm_Ct l zm_sy wc ym_kindOf prog_12_method_26_code 2 (some .int) 0 0 [.ref (wc.2.2 0), .int v1] S (sm_Pi zm_sy wc) (pm_kindOf N S v1) :=
  sm_entry (Pq := fun wc => sm_Pi zm_sy wc) (fun wc => [.ref (wc.2.2 0), .int v1]) (lv := fun wc => [(0, .ref (wc.2.2 0)), (1, .int v1)]) (by decide) hj zm_ok zm_stb (fun _ => Nat.le_of_ble_eq_true rfl) (fun _ => rfl) (fun x _ ok hr => tm_kindOf ok hr N S v1)
set_option maxHeartbeats 4000000 in
set_option maxRecDepth 20000 in
theorem tm_layCloth_b54 {x : sm_Cx} (ok : sm_Ok x zm_sy prog_12_method_28_code "LentShadesModel" 5 0 0) (hr : (xh x).sig.returnType = none) (N : Nat) : ∀ (n : Nat) (v1 : Int32) (v4 : Int32) (S : sm_St), sm_Sm x zm_sy prog_12_method_28_code (sm_Q x zm_sy (sm_Pv zm_sy (xw x))) (pm_layCloth_b54 N n v1 v4 S) S 54 [(0, .ref ((xw x).2.2 0)), (1, .int v1), (4, .int v4)] [] := by
  intro n
  induction n with
  | zero =>
    intro v1 v4 S
    exact sm_none
  | succ n ih =>
    intro v1 v4 S
    show sm_Sm x zm_sy prog_12_method_28_code (sm_Q x zm_sy (sm_Pv zm_sy (xw x))) (if (8 : Int32) ≤ v4 then (some S) else (if sm_in (((16 : Int32) + ((8 : Int32) * v1)) + v4) 81 = true then sm_lt (sm_sI S 1 (((16 : Int32) + ((8 : Int32) * v1)) + v4).toNatClampNeg (0 : Int32)) (fun (S_6 : sm_St) => sm_lt (v4 + (1 : Int32)) (fun (v4_7 : Int32) => (pm_layCloth_b54 N n) v1 v4_7 S_6)) else none)) S 54 [(0, .ref ((xw x).2.2 0)), (1, .int v1), (4, .int v4)] []
    refine sm_iload (pc := 54) 2 ok dm_layCloth_54 rfl ?_
    refine sm_bipush (pc := 56) (8 : Int32) ok dm_layCloth_56 zb_8 ?_
    refine sm_icmp_ge (pc := 58) 83 ok dm_layCloth_58 (by decide) (fun _ => ?_) (fun _ => ?_)
    · exact sm_vret (pc := 83) ok dm_layCloth_83 hr
    · refine sm_aload_n (pc := 61) 0 ok dm_layCloth_61 rfl ?_
      refine sm_getR (pc := 62) (ci := 10) (k := 0) ok dm_layCloth_62 rfl rfl zc_i10 (by decide) rfl wd_1003 ?_
      refine sm_bipush (pc := 65) (16 : Int32) ok dm_layCloth_65 zb_16 ?_
      refine sm_bipush (pc := 67) (8 : Int32) ok dm_layCloth_67 zb_8 ?_
      refine sm_iload_n (pc := 69) 1 ok dm_layCloth_69 rfl ?_
      refine sm_imul (pc := 70) ok dm_layCloth_70 ?_
      refine sm_iadd (pc := 71) ok dm_layCloth_71 ?_
      refine sm_iload (pc := 72) 2 ok dm_layCloth_72 rfl ?_
      refine sm_iadd (pc := 74) ok dm_layCloth_74 ?_
      refine sm_iconst (pc := 75) (0 : Int32) ok dm_layCloth_75 zk_0 ?_
      refine sm_iast (pc := 76) ok dm_layCloth_76 rfl (fun S_6 => ?_)
      refine sm_iinc (pc := 77) (i := 4) 2 (1 : Int32) ok dm_layCloth_77 rfl zk_1 (by decide) (fun v => [(4, .int v), (0, .ref ((xw x).2.2 0)), (1, .int v1)]) (fun _ => rfl) (fun v4_7 => ?_)
      refine sm_goto (pc := 80) 54 ok dm_layCloth_80 (by decide) ?_
      refine sm_lv [1, 2, 0] rfl ?_
      exact ih _ _ _
set_option maxHeartbeats 4000000 in
set_option maxRecDepth 20000 in
theorem tm_layCloth {x : sm_Cx} (ok : sm_Ok x zm_sy prog_12_method_28_code "LentShadesModel" 5 0 0) (hr : (xh x).sig.returnType = none) (N : Nat) (S : sm_St) (v1 : Int32) (v2 : Int32) (v3 : Int32) : sm_Sm x zm_sy prog_12_method_28_code (sm_Q x zm_sy (sm_Pv zm_sy (xw x))) (pm_layCloth N S v1 v2 v3) S 0 [(0, .ref ((xw x).2.2 0)), (1, .int v1), (2, .int v2), (3, .int v3)] [] := by
  unfold pm_layCloth
  refine sm_aload_n (pc := 0) 0 ok dm_layCloth_0 rfl ?_
  refine sm_getR (pc := 1) (ci := 10) (k := 0) ok dm_layCloth_1 rfl rfl zc_i10 (by decide) rfl wd_1003 ?_
  refine sm_iconst (pc := 4) (0 : Int32) ok dm_layCloth_4 zk_0 ?_
  refine sm_iconst (pc := 5) (4 : Int32) ok dm_layCloth_5 zk_4 ?_
  refine sm_iload_n (pc := 6) 1 ok dm_layCloth_6 rfl ?_
  refine sm_imul (pc := 7) ok dm_layCloth_7 ?_
  refine sm_iadd (pc := 8) ok dm_layCloth_8 ?_
  refine sm_iload_n (pc := 9) 2 ok dm_layCloth_9 rfl ?_
  refine sm_iast (pc := 10) ok dm_layCloth_10 rfl (fun S_1 => ?_)
  refine sm_aload_n (pc := 11) 0 ok dm_layCloth_11 rfl ?_
  refine sm_getR (pc := 12) (ci := 10) (k := 0) ok dm_layCloth_12 rfl rfl zc_i10 (by decide) rfl wd_1003 ?_
  refine sm_iconst (pc := 15) (0 : Int32) ok dm_layCloth_15 zk_0 ?_
  refine sm_iconst (pc := 16) (4 : Int32) ok dm_layCloth_16 zk_4 ?_
  refine sm_iload_n (pc := 17) 1 ok dm_layCloth_17 rfl ?_
  refine sm_imul (pc := 18) ok dm_layCloth_18 ?_
  refine sm_iadd (pc := 19) ok dm_layCloth_19 ?_
  refine sm_iconst (pc := 20) (1 : Int32) ok dm_layCloth_20 zk_1 ?_
  refine sm_iadd (pc := 21) ok dm_layCloth_21 ?_
  refine sm_iload_n (pc := 22) 3 ok dm_layCloth_22 rfl ?_
  refine sm_iast (pc := 23) ok dm_layCloth_23 rfl (fun S_2 => ?_)
  refine sm_aload_n (pc := 24) 0 ok dm_layCloth_24 rfl ?_
  refine sm_getR (pc := 25) (ci := 10) (k := 0) ok dm_layCloth_25 rfl rfl zc_i10 (by decide) rfl wd_1003 ?_
  refine sm_iconst (pc := 28) (0 : Int32) ok dm_layCloth_28 zk_0 ?_
  refine sm_iconst (pc := 29) (4 : Int32) ok dm_layCloth_29 zk_4 ?_
  refine sm_iload_n (pc := 30) 1 ok dm_layCloth_30 rfl ?_
  refine sm_imul (pc := 31) ok dm_layCloth_31 ?_
  refine sm_iadd (pc := 32) ok dm_layCloth_32 ?_
  refine sm_iconst (pc := 33) (2 : Int32) ok dm_layCloth_33 zk_2 ?_
  refine sm_iadd (pc := 34) ok dm_layCloth_34 ?_
  refine sm_iconst (pc := 35) (0 : Int32) ok dm_layCloth_35 zk_0 ?_
  refine sm_iast (pc := 36) ok dm_layCloth_36 rfl (fun S_3 => ?_)
  refine sm_aload_n (pc := 37) 0 ok dm_layCloth_37 rfl ?_
  refine sm_getR (pc := 38) (ci := 10) (k := 0) ok dm_layCloth_38 rfl rfl zc_i10 (by decide) rfl wd_1003 ?_
  refine sm_iconst (pc := 41) (0 : Int32) ok dm_layCloth_41 zk_0 ?_
  refine sm_iconst (pc := 42) (4 : Int32) ok dm_layCloth_42 zk_4 ?_
  refine sm_iload_n (pc := 43) 1 ok dm_layCloth_43 rfl ?_
  refine sm_imul (pc := 44) ok dm_layCloth_44 ?_
  refine sm_iadd (pc := 45) ok dm_layCloth_45 ?_
  refine sm_iconst (pc := 46) (3 : Int32) ok dm_layCloth_46 zk_3 ?_
  refine sm_iadd (pc := 47) ok dm_layCloth_47 ?_
  refine sm_bipush (pc := 48) (12 : Int32) ok dm_layCloth_48 zb_12 ?_
  refine sm_iast (pc := 50) ok dm_layCloth_50 rfl (fun S_4 => ?_)
  refine sm_iconst (pc := 51) (0 : Int32) ok dm_layCloth_51 zk_0 ?_
  refine sm_istore (pc := 52) (i := 4) ok dm_layCloth_52 (by decide) (fun v => [(4, .int v), (0, .ref ((xw x).2.2 0)), (1, .int v1), (2, .int v2), (3, .int v3)]) (fun _ => rfl) (fun v4_5 => ?_)
  refine sm_lv [1, 2, 0] rfl ?_
  exact tm_layCloth_b54 ok hr N N _ _ _
theorem cm_layCloth {l : Launch} {wc : sm_Wc} (hj : sm_inj zm_sy wc) (N : Nat) (S : sm_St) (v1 : Int32) (v2 : Int32) (v3 : Int32) : sm_Ct l zm_sy wc ym_layCloth prog_12_method_28_code 5 none 0 0 [.ref (wc.2.2 0), .int v1, .int v2, .int v3] S (sm_Pv zm_sy wc) (pm_layCloth N S v1 v2 v3) :=
  sm_entry (Pq := fun wc => sm_Pv zm_sy wc) (fun wc => [.ref (wc.2.2 0), .int v1, .int v2, .int v3]) (lv := fun wc => [(0, .ref (wc.2.2 0)), (1, .int v1), (2, .int v2), (3, .int v3)]) (by decide) hj zm_ok zm_stb (fun _ => Nat.le_of_ble_eq_true rfl) (fun _ => rfl) (fun x _ ok hr => tm_layCloth ok hr N S v1 v2 v3)
set_option maxHeartbeats 4000000 in
set_option maxRecDepth 20000 in
theorem tm_cloth_b36 {x : sm_Cx} (ok : sm_Ok x zm_sy prog_12_method_27_code "LentShadesModel" 5 2 49) (hr : (xh x).sig.returnType = (some .int)) (N : Nat) (S : sm_St) : sm_Sm x zm_sy prog_12_method_27_code (sm_Q x zm_sy (sm_Pi zm_sy (xw x))) (pm_cloth_b36 N S) S 36 [(0, .ref ((xw x).2.2 0))] [] := by
  unfold pm_cloth_b36
  refine sm_aload_n (pc := 36) 0 ok dm_cloth_36 rfl ?_
  refine sm_bipush (pc := 37) (-2 : Int32) ok dm_cloth_37 zb_m2 ?_
  refine sm_callV_i (pc := 39) (ci := 10) [.int (-2 : Int32)] ok dm_cloth_39 wd_1110 mwm_bad rfl rfl (Nat.le_of_ble_eq_true rfl) (Nat.le_of_ble_eq_true rfl) rfl rfl (Nat.le_of_ble_eq_true rfl) (cm_bad (sm_okj ok) N S (-2 : Int32)) (fun r_18 S_17 => ?_)
  exact sm_iret (pc := 42) ok dm_cloth_42 hr
set_option maxHeartbeats 4000000 in
set_option maxRecDepth 20000 in
theorem tm_cloth {x : sm_Cx} (ok : sm_Ok x zm_sy prog_12_method_27_code "LentShadesModel" 5 2 49) (hr : (xh x).sig.returnType = (some .int)) (N : Nat) (S : sm_St) (v1 : Int32) (v2 : Int32) (v3 : Int32) : sm_Sm x zm_sy prog_12_method_27_code (sm_Q x zm_sy (sm_Pi zm_sy (xw x))) (pm_cloth N S v1 v2 v3) S 0 [(0, .ref ((xw x).2.2 0)), (1, .int v1), (2, .int v2), (3, .int v3)] [] := by
  unfold pm_cloth
  refine sm_iload_n (pc := 0) 1 ok dm_cloth_0 rfl ?_
  refine sm_i2l (pc := 1) ok dm_cloth_1 ?_
  refine sm_lconst (pc := 2) (0 : Int64) ok dm_cloth_2 zl_0 ?_
  refine sm_ldc2 (pc := 3) ok dm_cloth_3 wd_1104 ?_
  refine sm_callS_i (pc := 6) [.long (v1.toInt64), .long (0 : Int64), .long (4 : Int64)] ok dm_cloth_6 wd_1105 mwm_in (Nat.le_of_ble_eq_true rfl) (Nat.le_of_ble_eq_true rfl) rfl rfl (Nat.le_of_ble_eq_true rfl) (cm_in (sm_okj ok) N S (v1.toInt64) (0 : Int64) (4 : Int64)) (fun r_2 S_1 => ?_)
  refine sm_if_eq (pc := 9) 36 ok dm_cloth_9 (by decide) (fun _ => ?_) (fun _ => ?_)
  · refine sm_lv [0] rfl ?_
    exact tm_cloth_b36 ok hr N _
  · refine sm_iload_n (pc := 12) 2 ok dm_cloth_12 rfl ?_
    refine sm_i2l (pc := 13) ok dm_cloth_13 ?_
    refine sm_lconst (pc := 14) (0 : Int64) ok dm_cloth_14 zl_0 ?_
    refine sm_ldc2 (pc := 15) ok dm_cloth_15 wd_1108 ?_
    refine sm_callS_i (pc := 18) [.long (v2.toInt64), .long (0 : Int64), .long (3 : Int64)] ok dm_cloth_18 wd_1105 mwm_in (Nat.le_of_ble_eq_true rfl) (Nat.le_of_ble_eq_true rfl) rfl rfl (Nat.le_of_ble_eq_true rfl) (cm_in (sm_okj ok) N S_1 (v2.toInt64) (0 : Int64) (3 : Int64)) (fun r_4 S_3 => ?_)
    refine sm_if_eq (pc := 21) 36 ok dm_cloth_21 (by decide) (fun _ => ?_) (fun _ => ?_)
    · refine sm_lv [0] rfl ?_
      exact tm_cloth_b36 ok hr N _
    · refine sm_iload_n (pc := 24) 3 ok dm_cloth_24 rfl ?_
      refine sm_i2l (pc := 25) ok dm_cloth_25 ?_
      refine sm_lconst (pc := 26) (0 : Int64) ok dm_cloth_26 zl_0 ?_
      refine sm_ldc2 (pc := 27) ok dm_cloth_27 wd_1109 ?_
      refine sm_callS_i (pc := 30) [.long (v3.toInt64), .long (0 : Int64), .long (12 : Int64)] ok dm_cloth_30 wd_1105 mwm_in (Nat.le_of_ble_eq_true rfl) (Nat.le_of_ble_eq_true rfl) rfl rfl (Nat.le_of_ble_eq_true rfl) (cm_in (sm_okj ok) N S_3 (v3.toInt64) (0 : Int64) (12 : Int64)) (fun r_6 S_5 => ?_)
      refine sm_if_ne (pc := 33) 43 ok dm_cloth_33 (by decide) (fun _ => ?_) (fun _ => ?_)
      · refine sm_aload_n (pc := 43) 0 ok dm_cloth_43 rfl ?_
        refine sm_callV_i (pc := 44) (ci := 10) [] ok dm_cloth_44 wd_1114 mwm_cloths rfl rfl (Nat.le_of_ble_eq_true rfl) (Nat.le_of_ble_eq_true rfl) rfl rfl (Nat.le_of_ble_eq_true rfl) (cm_cloths (sm_okj ok) N S_5) (fun r_8 S_7 => ?_)
        refine sm_istore (pc := 47) (i := 4) ok dm_cloth_47 (by decide) (fun v => [(4, .int v), (0, .ref ((xw x).2.2 0)), (1, .int v1), (2, .int v2), (3, .int v3)]) (fun _ => rfl) (fun v4_9 => ?_)
        refine sm_iload (pc := 49) 0 ok dm_cloth_49 rfl ?_
        refine sm_iconst (pc := 51) (4 : Int32) ok dm_cloth_51 zk_4 ?_
        refine sm_icmp_ne (pc := 52) 60 ok dm_cloth_52 (by decide) (fun _ => ?_) (fun _ => ?_)
        · refine sm_aload_n (pc := 60) 1 ok dm_cloth_60 rfl ?_
          refine sm_iload (pc := 61) 0 ok dm_cloth_61 rfl ?_
          refine sm_iload_n (pc := 63) 2 ok dm_cloth_63 rfl ?_
          refine sm_iload_n (pc := 64) 3 ok dm_cloth_64 rfl ?_
          refine sm_callV_v (pc := 65) (ci := 10) [.int v4_9, .int v1, .int v2] ok dm_cloth_65 wd_1122 mwm_layCloth rfl rfl (Nat.le_of_ble_eq_true rfl) (Nat.le_of_ble_eq_true rfl) rfl rfl (Nat.le_of_ble_eq_true rfl) (cm_layCloth (sm_okj ok) N S_7 v4_9 v1 v2) (fun S_10 => ?_)
          refine sm_aload_n (pc := 68) 1 ok dm_cloth_68 rfl ?_
          refine sm_bipush (pc := 69) (19 : Int32) ok dm_cloth_69 zb_19 ?_
          refine sm_iload (pc := 71) 0 ok dm_cloth_71 rfl ?_
          refine sm_iadd (pc := 73) ok dm_cloth_73 ?_
          refine sm_bipush (pc := 74) (23 : Int32) ok dm_cloth_74 zb_23 ?_
          refine sm_callV_v (pc := 76) (ci := 10) [.int ((19 : Int32) + v4_9), .int (23 : Int32)] ok dm_cloth_76 wd_1126 mwm_copy rfl rfl (Nat.le_of_ble_eq_true rfl) (Nat.le_of_ble_eq_true rfl) rfl rfl (Nat.le_of_ble_eq_true rfl) (cm_copy (sm_okj ok) N S_10 ((19 : Int32) + v4_9) (23 : Int32)) (fun S_11 => ?_)
          refine sm_aload_n (pc := 79) 1 ok dm_cloth_79 rfl ?_
          refine sm_bipush (pc := 80) (19 : Int32) ok dm_cloth_80 zb_19 ?_
          refine sm_iload (pc := 82) 0 ok dm_cloth_82 rfl ?_
          refine sm_iadd (pc := 84) ok dm_cloth_84 ?_
          refine sm_iload_n (pc := 85) 4 ok dm_cloth_85 rfl ?_
          refine sm_i2l (pc := 86) ok dm_cloth_86 ?_
          refine sm_callV_v (pc := 87) (ci := 10) [.int ((19 : Int32) + v4_9), .long (v3.toInt64)] ok dm_cloth_87 wd_1130 mwm_times rfl rfl (Nat.le_of_ble_eq_true rfl) (Nat.le_of_ble_eq_true rfl) rfl rfl (Nat.le_of_ble_eq_true rfl) (cm_times (sm_okj ok) N S_11 ((19 : Int32) + v4_9) (v3.toInt64)) (fun S_12 => ?_)
          refine sm_aload_n (pc := 90) 1 ok dm_cloth_90 rfl ?_
          refine sm_getR (pc := 91) (ci := 10) (k := 0) ok dm_cloth_91 rfl rfl zc_i10 (by decide) rfl wd_1003 ?_
          refine sm_bipush (pc := 94) (76 : Int32) ok dm_cloth_94 zb_76 ?_
          refine sm_dup2 (pc := 96) ok dm_cloth_96 rfl rfl ?_
          refine sm_iald (pc := 97) ok dm_cloth_97 rfl ?_
          refine sm_iconst (pc := 98) (1 : Int32) ok dm_cloth_98 zk_1 ?_
          refine sm_iadd (pc := 99) ok dm_cloth_99 ?_
          refine sm_iast (pc := 100) ok dm_cloth_100 rfl (fun S_13 => ?_)
          refine sm_aload_n (pc := 101) 1 ok dm_cloth_101 rfl ?_
          refine sm_getR (pc := 102) (ci := 10) (k := 0) ok dm_cloth_102 rfl rfl zc_i10 (by decide) rfl wd_1003 ?_
          refine sm_bipush (pc := 105) (79 : Int32) ok dm_cloth_105 zb_79 ?_
          refine sm_iconst (pc := 107) (0 : Int32) ok dm_cloth_107 zk_0 ?_
          refine sm_iast (pc := 108) ok dm_cloth_108 rfl (fun S_14 => ?_)
          refine sm_iload (pc := 109) 0 ok dm_cloth_109 rfl ?_
          exact sm_iret (pc := 111) ok dm_cloth_111 hr
        · refine sm_aload_n (pc := 55) 1 ok dm_cloth_55 rfl ?_
          refine sm_callV_i (pc := 56) (ci := 10) [] ok dm_cloth_56 wd_1118 mwm_full rfl rfl (Nat.le_of_ble_eq_true rfl) (Nat.le_of_ble_eq_true rfl) rfl rfl (Nat.le_of_ble_eq_true rfl) (cm_full (sm_okj ok) N S_7) (fun r_16 S_15 => ?_)
          exact sm_iret (pc := 59) ok dm_cloth_59 hr
      · refine sm_lv [0] rfl ?_
        exact tm_cloth_b36 ok hr N _
theorem cm_cloth {l : Launch} {wc : sm_Wc} (hj : sm_inj zm_sy wc) (N : Nat) (S : sm_St) (v1 : Int32) (v2 : Int32) (v3 : Int32) : sm_Ct l zm_sy wc ym_cloth prog_12_method_27_code 5 (some .int) 2 49 [.ref (wc.2.2 0), .int v1, .int v2, .int v3] S (sm_Pi zm_sy wc) (pm_cloth N S v1 v2 v3) :=
  sm_entry (Pq := fun wc => sm_Pi zm_sy wc) (fun wc => [.ref (wc.2.2 0), .int v1, .int v2, .int v3]) (lv := fun wc => [(0, .ref (wc.2.2 0)), (1, .int v1), (2, .int v2), (3, .int v3)]) (by decide) hj zm_ok zm_stb (fun _ => Nat.le_of_ble_eq_true rfl) (fun _ => rfl) (fun x _ ok hr => tm_cloth ok hr N S v1 v2 v3)
