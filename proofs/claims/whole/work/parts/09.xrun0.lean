set_option maxHeartbeats 4000000 in
set_option maxRecDepth 20000 in
theorem tx_L_within {x : sm_Cx} (ok : sm_Ok x zx_sy prog_1_method_41_code "LentShades" 2 0 0) (hr : (xh x).sig.returnType = (some .boolean)) (N : Nat) (S : sm_St) (v0 : Int32) (v1 : Int32) : sm_Sm x zx_sy prog_1_method_41_code (sm_Q x zx_sy (sm_Pi zx_sy (xw x))) (px_L_within N S v0 v1) S 0 [(0, .int v0), (1, .int v1)] [] := by
  unfold px_L_within
  refine sm_iload_n (pc := 0) 0 ok dx_L_within_0 rfl ?_
  refine sm_if_lt (pc := 1) 13 ok dx_L_within_1 (by decide) (fun _ => ?_) (fun _ => ?_)
  · refine sm_iconst (pc := 13) (0 : Int32) ok dx_L_within_13 zk_0 ?_
    exact sm_zret (pc := 14) ok dx_L_within_14 hr rfl
  · refine sm_iload_n (pc := 4) 0 ok dx_L_within_4 rfl ?_
    refine sm_iload_n (pc := 5) 1 ok dx_L_within_5 rfl ?_
    refine sm_icmp_gt (pc := 6) 13 ok dx_L_within_6 (by decide) (fun _ => ?_) (fun _ => ?_)
    · refine sm_iconst (pc := 13) (0 : Int32) ok dx_L_within_13 zk_0 ?_
      exact sm_zret (pc := 14) ok dx_L_within_14 hr rfl
    · refine sm_iconst (pc := 9) (1 : Int32) ok dx_L_within_9 zk_1 ?_
      refine sm_goto (pc := 10) 14 ok dx_L_within_10 (by decide) ?_
      exact sm_zret (pc := 14) ok dx_L_within_14 hr rfl
theorem cx_L_within {l : Launch} {wc : sm_Wc} (hj : sm_inj zx_sy wc) (N : Nat) (S : sm_St) (v0 : Int32) (v1 : Int32) : sm_Ct l zx_sy wc yx_L_within prog_1_method_41_code 2 (some .boolean) 0 0 [.int v0, .int v1] S (sm_Pi zx_sy wc) (px_L_within N S v0 v1) :=
  sm_entry (Pq := fun wc => sm_Pi zx_sy wc) (fun wc => [.int v0, .int v1]) (lv := fun wc => [(0, .int v0), (1, .int v1)]) (by decide) hj zx_ok zx_stb (fun _ => Nat.le_of_ble_eq_true rfl) (fun _ => rfl) (fun x _ ok hr => tx_L_within ok hr N S v0 v1)
set_option maxHeartbeats 4000000 in
set_option maxRecDepth 20000 in
theorem tx_Shades_putParts_b5 {x : sm_Cx} (ok : sm_Ok x zx_sy prog_8_method_4_code "LentShades$Shades" 8 0 0) (hr : (xh x).sig.returnType = none) (N : Nat) (p : Nat) (hp : zx_sy.1 p = (16, 0)) : ∀ (n : Nat) (v1 : Int32) (v2 : Int32) (v3 : Int64) (v5 : Int32) (S : sm_St), sm_Sm x zx_sy prog_8_method_4_code (sm_Q x zx_sy (sm_Pv zx_sy (xw x))) (px_Shades_putParts_b5 N p n v1 v2 v3 v5 S) S 5 [(0, .ref ((xw x).2.2 p)), (1, .int v1), (2, .int v2), (3, .long v3), (5, .int v5)] [] := by
  intro n
  induction n with
  | zero =>
    intro v1 v2 v3 v5 S
    exact sm_none
  | succ n ih =>
    intro v1 v2 v3 v5 S
    show sm_Sm x zx_sy prog_8_method_4_code (sm_Q x zx_sy (sm_Pv zx_sy (xw x))) (if (S.1 p 1) ≤ v5 then (some S) else (if sm_in ((80 : Int32) + v5) 100 = true then (sm_lt (v3 + (v2.toInt64 * (S.1 (p + 1) ((80 : Int32) + v5).toNatClampNeg).toInt64)) (fun (v6_3 : Int64) => if sm_in ((v1 * (20 : Int32)) + v5) 100 = true then sm_lt (sm_sI S (p + 1) ((v1 * (20 : Int32)) + v5).toNatClampNeg ((v6_3 &&& (1073741823 : Int64)).toInt32)) (fun (S_4 : sm_St) => sm_lt (v6_3 >>> ((30 : Int32).toInt64 &&& 63)) (fun (v3_5 : Int64) => sm_lt (v5 + (1 : Int32)) (fun (v5_6 : Int32) => (px_Shades_putParts_b5 N p n) v1 v2 v3_5 v5_6 S_4))) else none)) else none)) S 5 [(0, .ref ((xw x).2.2 p)), (1, .int v1), (2, .int v2), (3, .long v3), (5, .int v5)] []
    refine sm_iload (pc := 5) 4 ok dx_Shades_putParts_5 rfl ?_
    refine sm_aload_n (pc := 7) 0 ok dx_Shades_putParts_7 rfl ?_
    refine sm_getI (pc := 8) (ci := 6) (k := 1) ok dx_Shades_putParts_8 hp rfl zc_i6 (by decide) rfl wd_149 ?_
    refine sm_icmp_ge (pc := 11) 63 ok dx_Shades_putParts_11 (by decide) (fun _ => ?_) (fun _ => ?_)
    · exact sm_vret (pc := 63) ok dx_Shades_putParts_63 hr
    · refine sm_lload_n (pc := 14) 3 ok dx_Shades_putParts_14 rfl ?_
      refine sm_iload_n (pc := 15) 2 ok dx_Shades_putParts_15 rfl ?_
      refine sm_i2l (pc := 16) ok dx_Shades_putParts_16 ?_
      refine sm_aload_n (pc := 17) 0 ok dx_Shades_putParts_17 rfl ?_
      refine sm_getR (pc := 18) (ci := 6) (k := 0) ok dx_Shades_putParts_18 hp rfl zc_i6 (by decide) rfl wd_146 ?_
      refine sm_bipush (pc := 21) (80 : Int32) ok dx_Shades_putParts_21 zb_80 ?_
      refine sm_iload (pc := 23) 4 ok dx_Shades_putParts_23 rfl ?_
      refine sm_iadd (pc := 25) ok dx_Shades_putParts_25 ?_
      refine sm_iald (pc := 26) ok dx_Shades_putParts_26 (zx_Shades_1 hp) ?_
      refine sm_i2l (pc := 27) ok dx_Shades_putParts_27 ?_
      refine sm_lmul (pc := 28) ok dx_Shades_putParts_28 ?_
      refine sm_ladd (pc := 29) ok dx_Shades_putParts_29 ?_
      refine sm_lstore (pc := 30) (i := 6) ok dx_Shades_putParts_30 (by decide) (fun v => [(6, .long v), (0, .ref ((xw x).2.2 p)), (1, .int v1), (2, .int v2), (3, .long v3), (5, .int v5)]) (fun _ => rfl) (fun v6_3 => ?_)
      refine sm_aload_n (pc := 32) 1 ok dx_Shades_putParts_32 rfl ?_
      refine sm_getR (pc := 33) (ci := 6) (k := 0) ok dx_Shades_putParts_33 hp rfl zc_i6 (by decide) rfl wd_146 ?_
      refine sm_iload_n (pc := 36) 2 ok dx_Shades_putParts_36 rfl ?_
      refine sm_bipush (pc := 37) (20 : Int32) ok dx_Shades_putParts_37 zb_20 ?_
      refine sm_imul (pc := 39) ok dx_Shades_putParts_39 ?_
      refine sm_iload (pc := 40) 5 ok dx_Shades_putParts_40 rfl ?_
      refine sm_iadd (pc := 42) ok dx_Shades_putParts_42 ?_
      refine sm_lload (pc := 43) 0 ok dx_Shades_putParts_43 rfl ?_
      refine sm_ldc2 (pc := 45) ok dx_Shades_putParts_45 wd_466 ?_
      refine sm_land (pc := 48) ok dx_Shades_putParts_48 ?_
      refine sm_l2i (pc := 49) ok dx_Shades_putParts_49 ?_
      refine sm_iast (pc := 50) ok dx_Shades_putParts_50 (zx_Shades_1 hp) (fun S_4 => ?_)
      refine sm_lload (pc := 51) 0 ok dx_Shades_putParts_51 rfl ?_
      refine sm_bipush (pc := 53) (30 : Int32) ok dx_Shades_putParts_53 zb_30 ?_
      refine sm_lshr (pc := 55) ok dx_Shades_putParts_55 ?_
      refine sm_lstore_n (pc := 56) (i := 3) ok dx_Shades_putParts_56 rfl (by decide) (fun v => [(3, .long v), (6, .long v6_3), (0, .ref ((xw x).2.2 p)), (1, .int v1), (2, .int v2), (5, .int v5)]) (fun _ => rfl) (fun v3_5 => ?_)
      refine sm_iinc (pc := 57) (i := 5) 5 (1 : Int32) ok dx_Shades_putParts_57 rfl zk_1 (by decide) (fun v => [(5, .int v), (3, .long v3_5), (6, .long v6_3), (0, .ref ((xw x).2.2 p)), (1, .int v1), (2, .int v2)]) (fun _ => rfl) (fun v5_6 => ?_)
      refine sm_goto (pc := 60) 5 ok dx_Shades_putParts_60 (by decide) ?_
      refine sm_lv [3, 4, 5, 1, 0] rfl ?_
      exact ih _ _ _ _ _
set_option maxHeartbeats 4000000 in
set_option maxRecDepth 20000 in
theorem tx_Shades_putParts {x : sm_Cx} (ok : sm_Ok x zx_sy prog_8_method_4_code "LentShades$Shades" 8 0 0) (hr : (xh x).sig.returnType = none) (N : Nat) (S : sm_St) (p : Nat) (v1 : Int32) (v2 : Int32) (hp : zx_sy.1 p = (16, 0)) : sm_Sm x zx_sy prog_8_method_4_code (sm_Q x zx_sy (sm_Pv zx_sy (xw x))) (px_Shades_putParts N S p v1 v2) S 0 [(0, .ref ((xw x).2.2 p)), (1, .int v1), (2, .int v2)] [] := by
  unfold px_Shades_putParts
  refine sm_lconst (pc := 0) (0 : Int64) ok dx_Shades_putParts_0 zl_0 ?_
  refine sm_lstore_n (pc := 1) (i := 3) ok dx_Shades_putParts_1 rfl (by decide) (fun v => [(3, .long v), (0, .ref ((xw x).2.2 p)), (1, .int v1), (2, .int v2)]) (fun _ => rfl) (fun v3_1 => ?_)
  refine sm_iconst (pc := 2) (0 : Int32) ok dx_Shades_putParts_2 zk_0 ?_
  refine sm_istore (pc := 3) (i := 5) ok dx_Shades_putParts_3 (by decide) (fun v => [(5, .int v), (3, .long v3_1), (0, .ref ((xw x).2.2 p)), (1, .int v1), (2, .int v2)]) (fun _ => rfl) (fun v5_2 => ?_)
  refine sm_lv [2, 3, 4, 1, 0] rfl ?_
  exact tx_Shades_putParts_b5 ok hr N p hp N _ _ _ _ _
theorem cx_Shades_putParts {l : Launch} {wc : sm_Wc} (hj : sm_inj zx_sy wc) (N : Nat) (S : sm_St) (p : Nat) (v1 : Int32) (v2 : Int32) (hp : zx_sy.1 p = (16, 0)) : sm_Ct l zx_sy wc yx_Shades_putParts prog_8_method_4_code 8 none 0 0 [.ref (wc.2.2 p), .int v1, .int v2] S (sm_Pv zx_sy wc) (px_Shades_putParts N S p v1 v2) :=
  sm_entry (Pq := fun wc => sm_Pv zx_sy wc) (fun wc => [.ref (wc.2.2 p), .int v1, .int v2]) (lv := fun wc => [(0, .ref (wc.2.2 p)), (1, .int v1), (2, .int v2)]) (by decide) hj zx_ok zx_stb (fun _ => Nat.le_of_ble_eq_true rfl) (fun _ => rfl) (fun x _ ok hr => tx_Shades_putParts ok hr N S p v1 v2 hp)
set_option maxHeartbeats 4000000 in
set_option maxRecDepth 20000 in
theorem tx_House_addCloth {x : sm_Cx} (ok : sm_Ok x zx_sy prog_4_method_8_code "LentShades$House" 4 1 27) (hr : (xh x).sig.returnType = none) (N : Nat) (S : sm_St) (p : Nat) (v1 : Int32) (v2 : Int32) (v3 : Int32) (hp : zx_sy.1 p = (12, 0)) : sm_Sm x zx_sy prog_4_method_8_code (sm_Q x zx_sy (sm_Pv zx_sy (xw x))) (px_House_addCloth N S p v1 v2 v3) S 0 [(0, .ref ((xw x).2.2 p)), (1, .int v1), (2, .int v2), (3, .int v3)] [] := by
  unfold px_House_addCloth
  refine sm_aload_n (pc := 0) 0 ok dx_House_addCloth_0 rfl ?_
  refine sm_getI (pc := 1) (ci := 2) (k := 9) ok dx_House_addCloth_1 hp rfl zc_i2 (by decide) rfl wd_186 ?_
  refine sm_iconst (pc := 4) (4 : Int32) ok dx_House_addCloth_4 zk_4 ?_
  refine sm_icmp_lt (pc := 5) 9 ok dx_House_addCloth_5 (by decide) (fun _ => ?_) (fun _ => ?_)
  · refine sm_aload_n (pc := 9) 0 ok dx_House_addCloth_9 rfl ?_
    refine sm_getR (pc := 10) (ci := 2) (k := 0) ok dx_House_addCloth_10 hp rfl zc_i2 (by decide) rfl wd_160 ?_
    refine sm_aload_n (pc := 13) 0 ok dx_House_addCloth_13 rfl ?_
    refine sm_getI (pc := 14) (ci := 2) (k := 9) ok dx_House_addCloth_14 hp rfl zc_i2 (by decide) rfl wd_186 ?_
    refine sm_iload_n (pc := 17) 1 ok dx_House_addCloth_17 rfl ?_
    refine sm_iast (pc := 18) ok dx_House_addCloth_18 (zx_House_1 hp) (fun S_1 => ?_)
    refine sm_aload_n (pc := 19) 0 ok dx_House_addCloth_19 rfl ?_
    refine sm_getR (pc := 20) (ci := 2) (k := 1) ok dx_House_addCloth_20 hp rfl zc_i2 (by decide) rfl wd_162 ?_
    refine sm_aload_n (pc := 23) 0 ok dx_House_addCloth_23 rfl ?_
    refine sm_getI (pc := 24) (ci := 2) (k := 9) ok dx_House_addCloth_24 hp rfl zc_i2 (by decide) rfl wd_186 ?_
    refine sm_iload_n (pc := 27) 2 ok dx_House_addCloth_27 rfl ?_
    refine sm_iast (pc := 28) ok dx_House_addCloth_28 (zx_House_2 hp) (fun S_2 => ?_)
    refine sm_aload_n (pc := 29) 0 ok dx_House_addCloth_29 rfl ?_
    refine sm_getR (pc := 30) (ci := 2) (k := 2) ok dx_House_addCloth_30 hp rfl zc_i2 (by decide) rfl wd_164 ?_
    refine sm_aload_n (pc := 33) 0 ok dx_House_addCloth_33 rfl ?_
    refine sm_getI (pc := 34) (ci := 2) (k := 9) ok dx_House_addCloth_34 hp rfl zc_i2 (by decide) rfl wd_186 ?_
    refine sm_iconst (pc := 37) (0 : Int32) ok dx_House_addCloth_37 zk_0 ?_
    refine sm_iast (pc := 38) ok dx_House_addCloth_38 (zx_House_3 hp) (fun S_3 => ?_)
    refine sm_aload_n (pc := 39) 0 ok dx_House_addCloth_39 rfl ?_
    refine sm_getR (pc := 40) (ci := 2) (k := 3) ok dx_House_addCloth_40 hp rfl zc_i2 (by decide) rfl wd_167 ?_
    refine sm_aload_n (pc := 43) 0 ok dx_House_addCloth_43 rfl ?_
    refine sm_getI (pc := 44) (ci := 2) (k := 9) ok dx_House_addCloth_44 hp rfl zc_i2 (by decide) rfl wd_186 ?_
    refine sm_bipush (pc := 47) (12 : Int32) ok dx_House_addCloth_47 zb_12 ?_
    refine sm_iast (pc := 49) ok dx_House_addCloth_49 (zx_House_4 hp) (fun S_4 => ?_)
    refine sm_aload_n (pc := 50) 0 ok dx_House_addCloth_50 rfl ?_
    refine sm_getR (pc := 51) (ci := 2) (k := 6) ok dx_House_addCloth_51 hp rfl zc_i2 (by decide) rfl wd_178 ?_
    refine sm_aload_n (pc := 54) 0 ok dx_House_addCloth_54 rfl ?_
    refine sm_getI (pc := 55) (ci := 2) (k := 9) ok dx_House_addCloth_55 hp rfl zc_i2 (by decide) rfl wd_186 ?_
    refine sm_iload_n (pc := 58) 3 ok dx_House_addCloth_58 rfl ?_
    refine sm_callV_v (pc := 59) (ci := 6) [.int (S_4.1 p 9), .int v3] ok dx_House_addCloth_59 wd_462 mwx_Shades_putParts (zx_House_11 hp) rfl (Nat.le_of_ble_eq_true rfl) (Nat.le_of_ble_eq_true rfl) rfl rfl (Nat.le_of_ble_eq_true rfl) (cx_Shades_putParts (sm_okj ok) N S_4 (p + 11) (S_4.1 p 9) v3 (zx_House_11 hp)) (fun S_5 => ?_)
    refine sm_aload_n (pc := 62) 0 ok dx_House_addCloth_62 rfl ?_
    refine sm_dup (pc := 63) ok dx_House_addCloth_63 rfl ?_
    refine sm_getI (pc := 64) (ci := 2) (k := 9) ok dx_House_addCloth_64 hp rfl zc_i2 (by decide) rfl wd_186 ?_
    refine sm_iconst (pc := 67) (1 : Int32) ok dx_House_addCloth_67 zk_1 ?_
    refine sm_iadd (pc := 68) ok dx_House_addCloth_68 ?_
    refine sm_putI (pc := 69) (ci := 2) (k := 9) ok dx_House_addCloth_69 hp rfl zc_i2 zc_y2 zc_t2 zc_n2 (by decide) rfl rfl rfl wd_186 (fun S_6 => ?_)
    refine sm_aload_n (pc := 72) 0 ok dx_House_addCloth_72 rfl ?_
    refine sm_iconst (pc := 73) (0 : Int32) ok dx_House_addCloth_73 zk_0 ?_
    refine sm_putI (pc := 74) (ci := 2) (k := 12) ok dx_House_addCloth_74 hp rfl zc_i2 zc_y2 zc_t2 zc_n2 (by decide) rfl rfl rfl wd_194 (fun S_7 => ?_)
    exact sm_vret (pc := 77) ok dx_House_addCloth_77 hr
  · exact sm_vret (pc := 8) ok dx_House_addCloth_8 hr
theorem cx_House_addCloth {l : Launch} {wc : sm_Wc} (hj : sm_inj zx_sy wc) (N : Nat) (S : sm_St) (p : Nat) (v1 : Int32) (v2 : Int32) (v3 : Int32) (hp : zx_sy.1 p = (12, 0)) : sm_Ct l zx_sy wc yx_House_addCloth prog_4_method_8_code 4 none 1 27 [.ref (wc.2.2 p), .int v1, .int v2, .int v3] S (sm_Pv zx_sy wc) (px_House_addCloth N S p v1 v2 v3) :=
  sm_entry (Pq := fun wc => sm_Pv zx_sy wc) (fun wc => [.ref (wc.2.2 p), .int v1, .int v2, .int v3]) (lv := fun wc => [(0, .ref (wc.2.2 p)), (1, .int v1), (2, .int v2), (3, .int v3)]) (by decide) hj zx_ok zx_stb (fun _ => Nat.le_of_ble_eq_true rfl) (fun _ => rfl) (fun x _ ok hr => tx_House_addCloth ok hr N S p v1 v2 v3 hp)
set_option maxHeartbeats 4000000 in
set_option maxRecDepth 20000 in
theorem tx_L_refusedFull {x : sm_Cx} (ok : sm_Ok x zx_sy prog_1_method_34_code "LentShades" 1 0 0) (hr : (xh x).sig.returnType = (some .int)) (N : Nat) (S : sm_St) : sm_Sm x zx_sy prog_1_method_34_code (sm_Q x zx_sy (sm_Pi zx_sy (xw x))) (px_L_refusedFull N S) S 0 [(0, .ref ((xw x).2.2 0))] [] := by
  unfold px_L_refusedFull
  refine sm_aload_n (pc := 0) 0 ok dx_L_refusedFull_0 rfl ?_
  refine sm_dup (pc := 1) ok dx_L_refusedFull_1 rfl ?_
  refine sm_getI (pc := 2) (ci := 9) (k := 13) ok dx_L_refusedFull_2 rfl rfl zc_i9 (by decide) rfl wd_413 ?_
  refine sm_iconst (pc := 5) (1 : Int32) ok dx_L_refusedFull_5 zk_1 ?_
  refine sm_iadd (pc := 6) ok dx_L_refusedFull_6 ?_
  refine sm_putI (pc := 7) (ci := 9) (k := 13) ok dx_L_refusedFull_7 rfl rfl zc_i9 zc_y9 zc_t9 zc_n9 (by decide) rfl rfl rfl wd_413 (fun S_1 => ?_)
  refine sm_bipush (pc := 10) (-4 : Int32) ok dx_L_refusedFull_10 zb_m4 ?_
  exact sm_iret (pc := 12) ok dx_L_refusedFull_12 hr
theorem cx_L_refusedFull {l : Launch} {wc : sm_Wc} (hj : sm_inj zx_sy wc) (N : Nat) (S : sm_St) : sm_Ct l zx_sy wc yx_L_refusedFull prog_1_method_34_code 1 (some .int) 0 0 [.ref (wc.2.2 0)] S (sm_Pi zx_sy wc) (px_L_refusedFull N S) :=
  sm_entry (Pq := fun wc => sm_Pi zx_sy wc) (fun wc => [.ref (wc.2.2 0)]) (lv := fun wc => [(0, .ref (wc.2.2 0))]) (by decide) hj zx_ok zx_stb (fun _ => Nat.le_of_ble_eq_true rfl) (fun _ => rfl) (fun x _ ok hr => tx_L_refusedFull ok hr N S)
set_option maxHeartbeats 4000000 in
set_option maxRecDepth 20000 in
theorem tx_L_refusedBad {x : sm_Cx} (ok : sm_Ok x zx_sy prog_1_method_32_code "LentShades" 1 0 0) (hr : (xh x).sig.returnType = (some .int)) (N : Nat) (S : sm_St) : sm_Sm x zx_sy prog_1_method_32_code (sm_Q x zx_sy (sm_Pi zx_sy (xw x))) (px_L_refusedBad N S) S 0 [(0, .ref ((xw x).2.2 0))] [] := by
  unfold px_L_refusedBad
  refine sm_aload_n (pc := 0) 0 ok dx_L_refusedBad_0 rfl ?_
  refine sm_dup (pc := 1) ok dx_L_refusedBad_1 rfl ?_
  refine sm_getI (pc := 2) (ci := 9) (k := 11) ok dx_L_refusedBad_2 rfl rfl zc_i9 (by decide) rfl wd_411 ?_
  refine sm_iconst (pc := 5) (1 : Int32) ok dx_L_refusedBad_5 zk_1 ?_
  refine sm_iadd (pc := 6) ok dx_L_refusedBad_6 ?_
  refine sm_putI (pc := 7) (ci := 9) (k := 11) ok dx_L_refusedBad_7 rfl rfl zc_i9 zc_y9 zc_t9 zc_n9 (by decide) rfl rfl rfl wd_411 (fun S_1 => ?_)
  refine sm_bipush (pc := 10) (-2 : Int32) ok dx_L_refusedBad_10 zb_m2 ?_
  exact sm_iret (pc := 12) ok dx_L_refusedBad_12 hr
theorem cx_L_refusedBad {l : Launch} {wc : sm_Wc} (hj : sm_inj zx_sy wc) (N : Nat) (S : sm_St) : sm_Ct l zx_sy wc yx_L_refusedBad prog_1_method_32_code 1 (some .int) 0 0 [.ref (wc.2.2 0)] S (sm_Pi zx_sy wc) (px_L_refusedBad N S) :=
  sm_entry (Pq := fun wc => sm_Pi zx_sy wc) (fun wc => [.ref (wc.2.2 0)]) (lv := fun wc => [(0, .ref (wc.2.2 0))]) (by decide) hj zx_ok zx_stb (fun _ => Nat.le_of_ble_eq_true rfl) (fun _ => rfl) (fun x _ ok hr => tx_L_refusedBad ok hr N S)
set_option maxHeartbeats 4000000 in
set_option maxRecDepth 20000 in
theorem tx_L_cloth_b25 {x : sm_Cx} (ok : sm_Ok x zx_sy prog_1_method_2_code "LentShades" 4 2 50) (hr : (xh x).sig.returnType = (some .int)) (N : Nat) (S : sm_St) : sm_Sm x zx_sy prog_1_method_2_code (sm_Q x zx_sy (sm_Pi zx_sy (xw x))) (px_L_cloth_b25 N S) S 25 [(0, .ref ((xw x).2.2 0))] [] := by
  unfold px_L_cloth_b25
  refine sm_aload_n (pc := 25) 0 ok dx_L_cloth_25 rfl ?_
  refine sm_callV_i (pc := 26) (ci := 9) [] ok dx_L_cloth_26 wd_450 mwx_L_refusedBad rfl rfl (Nat.le_of_ble_eq_true rfl) (Nat.le_of_ble_eq_true rfl) rfl rfl (Nat.le_of_ble_eq_true rfl) (cx_L_refusedBad (sm_okj ok) N S) (fun r_11 S_10 => ?_)
  exact sm_iret (pc := 29) ok dx_L_cloth_29 hr
set_option maxHeartbeats 4000000 in
set_option maxRecDepth 20000 in
theorem tx_L_cloth {x : sm_Cx} (ok : sm_Ok x zx_sy prog_1_method_2_code "LentShades" 4 2 50) (hr : (xh x).sig.returnType = (some .int)) (N : Nat) (S : sm_St) (v1 : Int32) (v2 : Int32) (v3 : Int32) : sm_Sm x zx_sy prog_1_method_2_code (sm_Q x zx_sy (sm_Pi zx_sy (xw x))) (px_L_cloth N S v1 v2 v3) S 0 [(0, .ref ((xw x).2.2 0)), (1, .int v1), (2, .int v2), (3, .int v3)] [] := by
  unfold px_L_cloth
  refine sm_iload_n (pc := 0) 1 ok dx_L_cloth_0 rfl ?_
  refine sm_iconst (pc := 1) (4 : Int32) ok dx_L_cloth_1 zk_4 ?_
  refine sm_callS_i (pc := 2) [.int v1, .int (4 : Int32)] ok dx_L_cloth_2 wd_447 mwx_L_within (Nat.le_of_ble_eq_true rfl) (Nat.le_of_ble_eq_true rfl) rfl rfl (Nat.le_of_ble_eq_true rfl) (cx_L_within (sm_okj ok) N S v1 (4 : Int32)) (fun r_2 S_1 => ?_)
  refine sm_if_eq (pc := 5) 25 ok dx_L_cloth_5 (by decide) (fun _ => ?_) (fun _ => ?_)
  · refine sm_lv [0] rfl ?_
    exact tx_L_cloth_b25 ok hr N _
  · refine sm_iload_n (pc := 8) 2 ok dx_L_cloth_8 rfl ?_
    refine sm_iconst (pc := 9) (3 : Int32) ok dx_L_cloth_9 zk_3 ?_
    refine sm_callS_i (pc := 10) [.int v2, .int (3 : Int32)] ok dx_L_cloth_10 wd_447 mwx_L_within (Nat.le_of_ble_eq_true rfl) (Nat.le_of_ble_eq_true rfl) rfl rfl (Nat.le_of_ble_eq_true rfl) (cx_L_within (sm_okj ok) N S_1 v2 (3 : Int32)) (fun r_4 S_3 => ?_)
    refine sm_if_eq (pc := 13) 25 ok dx_L_cloth_13 (by decide) (fun _ => ?_) (fun _ => ?_)
    · refine sm_lv [0] rfl ?_
      exact tx_L_cloth_b25 ok hr N _
    · refine sm_iload_n (pc := 16) 3 ok dx_L_cloth_16 rfl ?_
      refine sm_bipush (pc := 17) (12 : Int32) ok dx_L_cloth_17 zb_12 ?_
      refine sm_callS_i (pc := 19) [.int v3, .int (12 : Int32)] ok dx_L_cloth_19 wd_447 mwx_L_within (Nat.le_of_ble_eq_true rfl) (Nat.le_of_ble_eq_true rfl) rfl rfl (Nat.le_of_ble_eq_true rfl) (cx_L_within (sm_okj ok) N S_3 v3 (12 : Int32)) (fun r_6 S_5 => ?_)
      refine sm_if_ne (pc := 22) 30 ok dx_L_cloth_22 (by decide) (fun _ => ?_) (fun _ => ?_)
      · refine sm_aload_n (pc := 30) 0 ok dx_L_cloth_30 rfl ?_
        refine sm_getR (pc := 31) (ci := 9) (k := 0) ok dx_L_cloth_31 rfl rfl zc_i9 (by decide) rfl wd_400 ?_
        refine sm_getI (pc := 34) (ci := 2) (k := 9) ok dx_L_cloth_34 rfl rfl zc_i2 (by decide) rfl wd_188 ?_
        refine sm_iconst (pc := 37) (4 : Int32) ok dx_L_cloth_37 zk_4 ?_
        refine sm_icmp_lt (pc := 38) 46 ok dx_L_cloth_38 (by decide) (fun _ => ?_) (fun _ => ?_)
        · refine sm_aload_n (pc := 46) 0 ok dx_L_cloth_46 rfl ?_
          refine sm_getR (pc := 47) (ci := 9) (k := 0) ok dx_L_cloth_47 rfl rfl zc_i9 (by decide) rfl wd_400 ?_
          refine sm_iload_n (pc := 50) 1 ok dx_L_cloth_50 rfl ?_
          refine sm_iload_n (pc := 51) 2 ok dx_L_cloth_51 rfl ?_
          refine sm_iload_n (pc := 52) 3 ok dx_L_cloth_52 rfl ?_
          refine sm_callV_v (pc := 53) (ci := 2) [.int v1, .int v2, .int v3] ok dx_L_cloth_53 wd_458 mwx_House_addCloth rfl rfl (Nat.le_of_ble_eq_true rfl) (Nat.le_of_ble_eq_true rfl) rfl rfl (Nat.le_of_ble_eq_true rfl) (cx_House_addCloth (sm_okj ok) N S_5 1 v1 v2 v3 rfl) (fun S_7 => ?_)
          refine sm_aload_n (pc := 56) 0 ok dx_L_cloth_56 rfl ?_
          refine sm_getR (pc := 57) (ci := 9) (k := 0) ok dx_L_cloth_57 rfl rfl zc_i9 (by decide) rfl wd_400 ?_
          refine sm_getI (pc := 60) (ci := 2) (k := 9) ok dx_L_cloth_60 rfl rfl zc_i2 (by decide) rfl wd_188 ?_
          refine sm_iconst (pc := 63) (1 : Int32) ok dx_L_cloth_63 zk_1 ?_
          refine sm_isub (pc := 64) ok dx_L_cloth_64 ?_
          exact sm_iret (pc := 65) ok dx_L_cloth_65 hr
        · refine sm_aload_n (pc := 41) 0 ok dx_L_cloth_41 rfl ?_
          refine sm_callV_i (pc := 42) (ci := 9) [] ok dx_L_cloth_42 wd_454 mwx_L_refusedFull rfl rfl (Nat.le_of_ble_eq_true rfl) (Nat.le_of_ble_eq_true rfl) rfl rfl (Nat.le_of_ble_eq_true rfl) (cx_L_refusedFull (sm_okj ok) N S_5) (fun r_9 S_8 => ?_)
          exact sm_iret (pc := 45) ok dx_L_cloth_45 hr
      · refine sm_lv [0] rfl ?_
        exact tx_L_cloth_b25 ok hr N _
theorem cx_L_cloth {l : Launch} {wc : sm_Wc} (hj : sm_inj zx_sy wc) (N : Nat) (S : sm_St) (v1 : Int32) (v2 : Int32) (v3 : Int32) : sm_Ct l zx_sy wc yx_L_cloth prog_1_method_2_code 4 (some .int) 2 50 [.ref (wc.2.2 0), .int v1, .int v2, .int v3] S (sm_Pi zx_sy wc) (px_L_cloth N S v1 v2 v3) :=
  sm_entry (Pq := fun wc => sm_Pi zx_sy wc) (fun wc => [.ref (wc.2.2 0), .int v1, .int v2, .int v3]) (lv := fun wc => [(0, .ref (wc.2.2 0)), (1, .int v1), (2, .int v2), (3, .int v3)]) (by decide) hj zx_ok zx_stb (fun _ => Nat.le_of_ble_eq_true rfl) (fun _ => rfl) (fun x _ ok hr => tx_L_cloth ok hr N S v1 v2 v3)
set_option maxHeartbeats 4000000 in
set_option maxRecDepth 20000 in
theorem tx_House_addThing {x : sm_Cx} (ok : sm_Ok x zx_sy prog_4_method_9_code "LentShades$House" 2 0 0) (hr : (xh x).sig.returnType = none) (N : Nat) (S : sm_St) (p : Nat) (v1 : Int32) (hp : zx_sy.1 p = (12, 0)) : sm_Sm x zx_sy prog_4_method_9_code (sm_Q x zx_sy (sm_Pv zx_sy (xw x))) (px_House_addThing N S p v1) S 0 [(0, .ref ((xw x).2.2 p)), (1, .int v1)] [] := by
  unfold px_House_addThing
  refine sm_aload_n (pc := 0) 0 ok dx_House_addThing_0 rfl ?_
  refine sm_getI (pc := 1) (ci := 2) (k := 10) ok dx_House_addThing_1 hp rfl zc_i2 (by decide) rfl wd_189 ?_
  refine sm_iconst (pc := 4) (4 : Int32) ok dx_House_addThing_4 zk_4 ?_
  refine sm_icmp_ge (pc := 5) 28 ok dx_House_addThing_5 (by decide) (fun _ => ?_) (fun _ => ?_)
  · exact sm_vret (pc := 28) ok dx_House_addThing_28 hr
  · refine sm_aload_n (pc := 8) 0 ok dx_House_addThing_8 rfl ?_
    refine sm_getR (pc := 9) (ci := 2) (k := 4) ok dx_House_addThing_9 hp rfl zc_i2 (by decide) rfl wd_170 ?_
    refine sm_aload_n (pc := 12) 0 ok dx_House_addThing_12 rfl ?_
    refine sm_getI (pc := 13) (ci := 2) (k := 10) ok dx_House_addThing_13 hp rfl zc_i2 (by decide) rfl wd_189 ?_
    refine sm_iload_n (pc := 16) 1 ok dx_House_addThing_16 rfl ?_
    refine sm_iast (pc := 17) ok dx_House_addThing_17 (zx_House_5 hp) (fun S_1 => ?_)
    refine sm_aload_n (pc := 18) 0 ok dx_House_addThing_18 rfl ?_
    refine sm_dup (pc := 19) ok dx_House_addThing_19 rfl ?_
    refine sm_getI (pc := 20) (ci := 2) (k := 10) ok dx_House_addThing_20 hp rfl zc_i2 (by decide) rfl wd_189 ?_
    refine sm_iconst (pc := 23) (1 : Int32) ok dx_House_addThing_23 zk_1 ?_
    refine sm_iadd (pc := 24) ok dx_House_addThing_24 ?_
    refine sm_putI (pc := 25) (ci := 2) (k := 10) ok dx_House_addThing_25 hp rfl zc_i2 zc_y2 zc_t2 zc_n2 (by decide) rfl rfl rfl wd_189 (fun S_2 => ?_)
    exact sm_vret (pc := 28) ok dx_House_addThing_28 hr
theorem cx_House_addThing {l : Launch} {wc : sm_Wc} (hj : sm_inj zx_sy wc) (N : Nat) (S : sm_St) (p : Nat) (v1 : Int32) (hp : zx_sy.1 p = (12, 0)) : sm_Ct l zx_sy wc yx_House_addThing prog_4_method_9_code 2 none 0 0 [.ref (wc.2.2 p), .int v1] S (sm_Pv zx_sy wc) (px_House_addThing N S p v1) :=
  sm_entry (Pq := fun wc => sm_Pv zx_sy wc) (fun wc => [.ref (wc.2.2 p), .int v1]) (lv := fun wc => [(0, .ref (wc.2.2 p)), (1, .int v1)]) (by decide) hj zx_ok zx_stb (fun _ => Nat.le_of_ble_eq_true rfl) (fun _ => rfl) (fun x _ ok hr => tx_House_addThing ok hr N S p v1 hp)
set_option maxHeartbeats 4000000 in
set_option maxRecDepth 20000 in
theorem tx_L_thing {x : sm_Cx} (ok : sm_Ok x zx_sy prog_1_method_3_code "LentShades" 2 1 21) (hr : (xh x).sig.returnType = (some .int)) (N : Nat) (S : sm_St) (v1 : Int32) : sm_Sm x zx_sy prog_1_method_3_code (sm_Q x zx_sy (sm_Pi zx_sy (xw x))) (px_L_thing N S v1) S 0 [(0, .ref ((xw x).2.2 0)), (1, .int v1)] [] := by
  unfold px_L_thing
  refine sm_iload_n (pc := 0) 1 ok dx_L_thing_0 rfl ?_
  refine sm_bipush (pc := 1) (12 : Int32) ok dx_L_thing_1 zb_12 ?_
  refine sm_callS_i (pc := 3) [.int v1, .int (12 : Int32)] ok dx_L_thing_3 wd_447 mwx_L_within (Nat.le_of_ble_eq_true rfl) (Nat.le_of_ble_eq_true rfl) rfl rfl (Nat.le_of_ble_eq_true rfl) (cx_L_within (sm_okj ok) N S v1 (12 : Int32)) (fun r_2 S_1 => ?_)
  refine sm_if_ne (pc := 6) 14 ok dx_L_thing_6 (by decide) (fun _ => ?_) (fun _ => ?_)
  · refine sm_aload_n (pc := 14) 0 ok dx_L_thing_14 rfl ?_
    refine sm_getR (pc := 15) (ci := 9) (k := 0) ok dx_L_thing_15 rfl rfl zc_i9 (by decide) rfl wd_400 ?_
    refine sm_getI (pc := 18) (ci := 2) (k := 10) ok dx_L_thing_18 rfl rfl zc_i2 (by decide) rfl wd_190 ?_
    refine sm_iconst (pc := 21) (4 : Int32) ok dx_L_thing_21 zk_4 ?_
    refine sm_icmp_lt (pc := 22) 30 ok dx_L_thing_22 (by decide) (fun _ => ?_) (fun _ => ?_)
    · refine sm_aload_n (pc := 30) 0 ok dx_L_thing_30 rfl ?_
      refine sm_getR (pc := 31) (ci := 9) (k := 0) ok dx_L_thing_31 rfl rfl zc_i9 (by decide) rfl wd_400 ?_
      refine sm_iload_n (pc := 34) 1 ok dx_L_thing_34 rfl ?_
      refine sm_callV_v (pc := 35) (ci := 2) [.int v1] ok dx_L_thing_35 wd_471 mwx_House_addThing rfl rfl (Nat.le_of_ble_eq_true rfl) (Nat.le_of_ble_eq_true rfl) rfl rfl (Nat.le_of_ble_eq_true rfl) (cx_House_addThing (sm_okj ok) N S_1 1 v1 rfl) (fun S_3 => ?_)
      refine sm_aload_n (pc := 38) 0 ok dx_L_thing_38 rfl ?_
      refine sm_getR (pc := 39) (ci := 9) (k := 0) ok dx_L_thing_39 rfl rfl zc_i9 (by decide) rfl wd_400 ?_
      refine sm_getI (pc := 42) (ci := 2) (k := 10) ok dx_L_thing_42 rfl rfl zc_i2 (by decide) rfl wd_190 ?_
      refine sm_iconst (pc := 45) (1 : Int32) ok dx_L_thing_45 zk_1 ?_
      refine sm_isub (pc := 46) ok dx_L_thing_46 ?_
      exact sm_iret (pc := 47) ok dx_L_thing_47 hr
    · refine sm_aload_n (pc := 25) 0 ok dx_L_thing_25 rfl ?_
      refine sm_callV_i (pc := 26) (ci := 9) [] ok dx_L_thing_26 wd_454 mwx_L_refusedFull rfl rfl (Nat.le_of_ble_eq_true rfl) (Nat.le_of_ble_eq_true rfl) rfl rfl (Nat.le_of_ble_eq_true rfl) (cx_L_refusedFull (sm_okj ok) N S_1) (fun r_5 S_4 => ?_)
      exact sm_iret (pc := 29) ok dx_L_thing_29 hr
  · refine sm_aload_n (pc := 9) 0 ok dx_L_thing_9 rfl ?_
    refine sm_callV_i (pc := 10) (ci := 9) [] ok dx_L_thing_10 wd_450 mwx_L_refusedBad rfl rfl (Nat.le_of_ble_eq_true rfl) (Nat.le_of_ble_eq_true rfl) rfl rfl (Nat.le_of_ble_eq_true rfl) (cx_L_refusedBad (sm_okj ok) N S_1) (fun r_7 S_6 => ?_)
    exact sm_iret (pc := 13) ok dx_L_thing_13 hr
theorem cx_L_thing {l : Launch} {wc : sm_Wc} (hj : sm_inj zx_sy wc) (N : Nat) (S : sm_St) (v1 : Int32) : sm_Ct l zx_sy wc yx_L_thing prog_1_method_3_code 2 (some .int) 1 21 [.ref (wc.2.2 0), .int v1] S (sm_Pi zx_sy wc) (px_L_thing N S v1) :=
  sm_entry (Pq := fun wc => sm_Pi zx_sy wc) (fun wc => [.ref (wc.2.2 0), .int v1]) (lv := fun wc => [(0, .ref (wc.2.2 0)), (1, .int v1)]) (by decide) hj zx_ok zx_stb (fun _ => Nat.le_of_ble_eq_true rfl) (fun _ => rfl) (fun x _ ok hr => tx_L_thing ok hr N S v1)
set_option maxHeartbeats 4000000 in
set_option maxRecDepth 20000 in
theorem tx_House_hasCloth {x : sm_Cx} (ok : sm_Ok x zx_sy prog_4_method_2_code "LentShades$House" 2 0 0) (hr : (xh x).sig.returnType = (some .boolean)) (N : Nat) (S : sm_St) (p : Nat) (v1 : Int32) (hp : zx_sy.1 p = (12, 0)) : sm_Sm x zx_sy prog_4_method_2_code (sm_Q x zx_sy (sm_Pi zx_sy (xw x))) (px_House_hasCloth N S p v1) S 0 [(0, .ref ((xw x).2.2 p)), (1, .int v1)] [] := by
  unfold px_House_hasCloth
  refine sm_iload_n (pc := 0) 1 ok dx_House_hasCloth_0 rfl ?_
  refine sm_if_lt (pc := 1) 16 ok dx_House_hasCloth_1 (by decide) (fun _ => ?_) (fun _ => ?_)
  · refine sm_iconst (pc := 16) (0 : Int32) ok dx_House_hasCloth_16 zk_0 ?_
    exact sm_zret (pc := 17) ok dx_House_hasCloth_17 hr rfl
  · refine sm_iload_n (pc := 4) 1 ok dx_House_hasCloth_4 rfl ?_
    refine sm_aload_n (pc := 5) 0 ok dx_House_hasCloth_5 rfl ?_
    refine sm_getI (pc := 6) (ci := 2) (k := 9) ok dx_House_hasCloth_6 hp rfl zc_i2 (by decide) rfl wd_186 ?_
    refine sm_icmp_ge (pc := 9) 16 ok dx_House_hasCloth_9 (by decide) (fun _ => ?_) (fun _ => ?_)
    · refine sm_iconst (pc := 16) (0 : Int32) ok dx_House_hasCloth_16 zk_0 ?_
      exact sm_zret (pc := 17) ok dx_House_hasCloth_17 hr rfl
    · refine sm_iconst (pc := 12) (1 : Int32) ok dx_House_hasCloth_12 zk_1 ?_
      refine sm_goto (pc := 13) 17 ok dx_House_hasCloth_13 (by decide) ?_
      exact sm_zret (pc := 17) ok dx_House_hasCloth_17 hr rfl
theorem cx_House_hasCloth {l : Launch} {wc : sm_Wc} (hj : sm_inj zx_sy wc) (N : Nat) (S : sm_St) (p : Nat) (v1 : Int32) (hp : zx_sy.1 p = (12, 0)) : sm_Ct l zx_sy wc yx_House_hasCloth prog_4_method_2_code 2 (some .boolean) 0 0 [.ref (wc.2.2 p), .int v1] S (sm_Pi zx_sy wc) (px_House_hasCloth N S p v1) :=
  sm_entry (Pq := fun wc => sm_Pi zx_sy wc) (fun wc => [.ref (wc.2.2 p), .int v1]) (lv := fun wc => [(0, .ref (wc.2.2 p)), (1, .int v1)]) (by decide) hj zx_ok zx_stb (fun _ => Nat.le_of_ble_eq_true rfl) (fun _ => rfl) (fun x _ ok hr => tx_House_hasCloth ok hr N S p v1 hp)
set_option maxHeartbeats 4000000 in
set_option maxRecDepth 20000 in
theorem tx_House_hasThing {x : sm_Cx} (ok : sm_Ok x zx_sy prog_4_method_3_code "LentShades$House" 2 0 0) (hr : (xh x).sig.returnType = (some .boolean)) (N : Nat) (S : sm_St) (p : Nat) (v1 : Int32) (hp : zx_sy.1 p = (12, 0)) : sm_Sm x zx_sy prog_4_method_3_code (sm_Q x zx_sy (sm_Pi zx_sy (xw x))) (px_House_hasThing N S p v1) S 0 [(0, .ref ((xw x).2.2 p)), (1, .int v1)] [] := by
  unfold px_House_hasThing
  refine sm_iload_n (pc := 0) 1 ok dx_House_hasThing_0 rfl ?_
  refine sm_if_lt (pc := 1) 16 ok dx_House_hasThing_1 (by decide) (fun _ => ?_) (fun _ => ?_)
  · refine sm_iconst (pc := 16) (0 : Int32) ok dx_House_hasThing_16 zk_0 ?_
    exact sm_zret (pc := 17) ok dx_House_hasThing_17 hr rfl
  · refine sm_iload_n (pc := 4) 1 ok dx_House_hasThing_4 rfl ?_
    refine sm_aload_n (pc := 5) 0 ok dx_House_hasThing_5 rfl ?_
    refine sm_getI (pc := 6) (ci := 2) (k := 10) ok dx_House_hasThing_6 hp rfl zc_i2 (by decide) rfl wd_189 ?_
    refine sm_icmp_ge (pc := 9) 16 ok dx_House_hasThing_9 (by decide) (fun _ => ?_) (fun _ => ?_)
    · refine sm_iconst (pc := 16) (0 : Int32) ok dx_House_hasThing_16 zk_0 ?_
      exact sm_zret (pc := 17) ok dx_House_hasThing_17 hr rfl
    · refine sm_iconst (pc := 12) (1 : Int32) ok dx_House_hasThing_12 zk_1 ?_
      refine sm_goto (pc := 13) 17 ok dx_House_hasThing_13 (by decide) ?_
      exact sm_zret (pc := 17) ok dx_House_hasThing_17 hr rfl
theorem cx_House_hasThing {l : Launch} {wc : sm_Wc} (hj : sm_inj zx_sy wc) (N : Nat) (S : sm_St) (p : Nat) (v1 : Int32) (hp : zx_sy.1 p = (12, 0)) : sm_Ct l zx_sy wc yx_House_hasThing prog_4_method_3_code 2 (some .boolean) 0 0 [.ref (wc.2.2 p), .int v1] S (sm_Pi zx_sy wc) (px_House_hasThing N S p v1) :=
  sm_entry (Pq := fun wc => sm_Pi zx_sy wc) (fun wc => [.ref (wc.2.2 p), .int v1]) (lv := fun wc => [(0, .ref (wc.2.2 p)), (1, .int v1)]) (by decide) hj zx_ok zx_stb (fun _ => Nat.le_of_ble_eq_true rfl) (fun _ => rfl) (fun x _ ok hr => tx_House_hasThing ok hr N S p v1 hp)
set_option maxHeartbeats 4000000 in
set_option maxRecDepth 20000 in
theorem tx_House_hasNumber_b23 {x : sm_Cx} (ok : sm_Ok x zx_sy prog_4_method_4_code "LentShades$House" 2 1 21) (hr : (xh x).sig.returnType = (some .boolean)) (N : Nat) (p : Nat) (hp : zx_sy.1 p = (12, 0)) (S : sm_St) : sm_Sm x zx_sy prog_4_method_4_code (sm_Q x zx_sy (sm_Pi zx_sy (xw x))) (px_House_hasNumber_b23 N p S) S 23 [] [] := by
  unfold px_House_hasNumber_b23
  refine sm_iconst (pc := 23) (1 : Int32) ok dx_House_hasNumber_23 zk_1 ?_
  refine sm_goto (pc := 24) 28 ok dx_House_hasNumber_24 (by decide) ?_
  exact sm_zret (pc := 28) ok dx_House_hasNumber_28 hr rfl
set_option maxHeartbeats 4000000 in
set_option maxRecDepth 20000 in
theorem tx_House_hasNumber {x : sm_Cx} (ok : sm_Ok x zx_sy prog_4_method_4_code "LentShades$House" 2 1 21) (hr : (xh x).sig.returnType = (some .boolean)) (N : Nat) (S : sm_St) (p : Nat) (v1 : Int32) (hp : zx_sy.1 p = (12, 0)) : sm_Sm x zx_sy prog_4_method_4_code (sm_Q x zx_sy (sm_Pi zx_sy (xw x))) (px_House_hasNumber N S p v1) S 0 [(0, .ref ((xw x).2.2 p)), (1, .int v1)] [] := by
  unfold px_House_hasNumber
  refine sm_aload_n (pc := 0) 0 ok dx_House_hasNumber_0 rfl ?_
  refine sm_iload_n (pc := 1) 1 ok dx_House_hasNumber_1 rfl ?_
  refine sm_callV_i (pc := 2) (ci := 2) [.int v1] ok dx_House_hasNumber_2 wd_483 mwx_House_hasCloth hp rfl (Nat.le_of_ble_eq_true rfl) (Nat.le_of_ble_eq_true rfl) rfl rfl (Nat.le_of_ble_eq_true rfl) (cx_House_hasCloth (sm_okj ok) N S p v1 hp) (fun r_2 S_1 => ?_)
  refine sm_if_ne (pc := 5) 23 ok dx_House_hasNumber_5 (by decide) (fun _ => ?_) (fun _ => ?_)
  · refine sm_lv [] rfl ?_
    exact tx_House_hasNumber_b23 ok hr N p hp _
  · refine sm_iload_n (pc := 8) 1 ok dx_House_hasNumber_8 rfl ?_
    refine sm_iconst (pc := 9) (4 : Int32) ok dx_House_hasNumber_9 zk_4 ?_
    refine sm_icmp_lt (pc := 10) 27 ok dx_House_hasNumber_10 (by decide) (fun _ => ?_) (fun _ => ?_)
    · refine sm_iconst (pc := 27) (0 : Int32) ok dx_House_hasNumber_27 zk_0 ?_
      exact sm_zret (pc := 28) ok dx_House_hasNumber_28 hr rfl
    · refine sm_aload_n (pc := 13) 0 ok dx_House_hasNumber_13 rfl ?_
      refine sm_iload_n (pc := 14) 1 ok dx_House_hasNumber_14 rfl ?_
      refine sm_iconst (pc := 15) (4 : Int32) ok dx_House_hasNumber_15 zk_4 ?_
      refine sm_isub (pc := 16) ok dx_House_hasNumber_16 ?_
      refine sm_callV_i (pc := 17) (ci := 2) [.int (v1 - (4 : Int32))] ok dx_House_hasNumber_17 wd_487 mwx_House_hasThing hp rfl (Nat.le_of_ble_eq_true rfl) (Nat.le_of_ble_eq_true rfl) rfl rfl (Nat.le_of_ble_eq_true rfl) (cx_House_hasThing (sm_okj ok) N S_1 p (v1 - (4 : Int32)) hp) (fun r_4 S_3 => ?_)
      refine sm_if_eq (pc := 20) 27 ok dx_House_hasNumber_20 (by decide) (fun _ => ?_) (fun _ => ?_)
      · refine sm_iconst (pc := 27) (0 : Int32) ok dx_House_hasNumber_27 zk_0 ?_
        exact sm_zret (pc := 28) ok dx_House_hasNumber_28 hr rfl
      · refine sm_lv [] rfl ?_
        exact tx_House_hasNumber_b23 ok hr N p hp _
theorem cx_House_hasNumber {l : Launch} {wc : sm_Wc} (hj : sm_inj zx_sy wc) (N : Nat) (S : sm_St) (p : Nat) (v1 : Int32) (hp : zx_sy.1 p = (12, 0)) : sm_Ct l zx_sy wc yx_House_hasNumber prog_4_method_4_code 2 (some .boolean) 1 21 [.ref (wc.2.2 p), .int v1] S (sm_Pi zx_sy wc) (px_House_hasNumber N S p v1) :=
  sm_entry (Pq := fun wc => sm_Pi zx_sy wc) (fun wc => [.ref (wc.2.2 p), .int v1]) (lv := fun wc => [(0, .ref (wc.2.2 p)), (1, .int v1)]) (by decide) hj zx_ok zx_stb (fun _ => Nat.le_of_ble_eq_true rfl) (fun _ => rfl) (fun x _ ok hr => tx_House_hasNumber ok hr N S p v1 hp)
set_option maxHeartbeats 4000000 in
set_option maxRecDepth 20000 in
theorem tx_L_putHours_b11 {x : sm_Cx} (ok : sm_Ok x zx_sy prog_1_method_42_code "LentShades" 4 0 0) (hr : (xh x).sig.returnType = none) (N : Nat) (q0 : Nat) (hq0 : (zx_sy.1 q0).1 = 5) (v1 : Int32) (v2 : Int32) (v3 : Int32) (S : sm_St) : sm_Sm x zx_sy prog_1_method_42_code (sm_Q x zx_sy (sm_Pv zx_sy (xw x))) (px_L_putHours_b11 N q0 v1 v2 v3 S) S 11 [(0, .ref ((xw x).2.2 q0)), (1, .int v1), (2, .int v2), (3, .int v3)] [] := by
  unfold px_L_putHours_b11
  refine sm_iload_n (pc := 11) 2 ok dx_L_putHours_11 rfl ?_
  refine sm_iconst (pc := 12) (4 : Int32) ok dx_L_putHours_12 zk_4 ?_
  refine sm_icmp_ge (pc := 13) 22 ok dx_L_putHours_13 (by decide) (fun _ => ?_) (fun _ => ?_)
  · exact sm_vret (pc := 22) ok dx_L_putHours_22 hr
  · refine sm_aload_n (pc := 16) 0 ok dx_L_putHours_16 rfl ?_
    refine sm_iload_n (pc := 17) 2 ok dx_L_putHours_17 rfl ?_
    refine sm_aald5 (pc := 18) ok dx_L_putHours_18 (sm_sh0 hq0) (fun hb_3 => ?_)
    refine sm_iload_n (pc := 19) 1 ok dx_L_putHours_19 rfl ?_
    refine sm_iload_n (pc := 20) 3 ok dx_L_putHours_20 rfl ?_
    refine sm_iast (pc := 21) ok dx_L_putHours_21 (zx_rowq (sm_sh0 hq0) hb_3) (fun S_4 => ?_)
    exact sm_vret (pc := 22) ok dx_L_putHours_22 hr
set_option maxHeartbeats 4000000 in
set_option maxRecDepth 20000 in
theorem tx_L_putHours {x : sm_Cx} (ok : sm_Ok x zx_sy prog_1_method_42_code "LentShades" 4 0 0) (hr : (xh x).sig.returnType = none) (N : Nat) (S : sm_St) (q0 : Nat) (v1 : Int32) (v2 : Int32) (v3 : Int32) (hq0 : (zx_sy.1 q0).1 = 5) : sm_Sm x zx_sy prog_1_method_42_code (sm_Q x zx_sy (sm_Pv zx_sy (xw x))) (px_L_putHours N S q0 v1 v2 v3) S 0 [(0, .ref ((xw x).2.2 q0)), (1, .int v1), (2, .int v2), (3, .int v3)] [] := by
  unfold px_L_putHours
  refine sm_iload_n (pc := 0) 1 ok dx_L_putHours_0 rfl ?_
  refine sm_iconst (pc := 1) (4 : Int32) ok dx_L_putHours_1 zk_4 ?_
  refine sm_icmp_ge (pc := 2) 11 ok dx_L_putHours_2 (by decide) (fun _ => ?_) (fun _ => ?_)
  · exact tx_L_putHours_b11 ok hr N q0 hq0 _ _ _ _
  · refine sm_aload_n (pc := 5) 0 ok dx_L_putHours_5 rfl ?_
    refine sm_iload_n (pc := 6) 1 ok dx_L_putHours_6 rfl ?_
    refine sm_aald5 (pc := 7) ok dx_L_putHours_7 (sm_sh0 hq0) (fun hb_1 => ?_)
    refine sm_iload_n (pc := 8) 2 ok dx_L_putHours_8 rfl ?_
    refine sm_iload_n (pc := 9) 3 ok dx_L_putHours_9 rfl ?_
    refine sm_iast (pc := 10) ok dx_L_putHours_10 (zx_rowq (sm_sh0 hq0) hb_1) (fun S_2 => ?_)
    exact tx_L_putHours_b11 ok hr N q0 hq0 _ _ _ _
theorem cx_L_putHours {l : Launch} {wc : sm_Wc} (hj : sm_inj zx_sy wc) (N : Nat) (S : sm_St) (q0 : Nat) (v1 : Int32) (v2 : Int32) (v3 : Int32) (hq0 : (zx_sy.1 q0).1 = 5) : sm_Ct l zx_sy wc yx_L_putHours prog_1_method_42_code 4 none 0 0 [.ref (wc.2.2 q0), .int v1, .int v2, .int v3] S (sm_Pv zx_sy wc) (px_L_putHours N S q0 v1 v2 v3) :=
  sm_entry (Pq := fun wc => sm_Pv zx_sy wc) (fun wc => [.ref (wc.2.2 q0), .int v1, .int v2, .int v3]) (lv := fun wc => [(0, .ref (wc.2.2 q0)), (1, .int v1), (2, .int v2), (3, .int v3)]) (by decide) hj zx_ok zx_stb (fun _ => Nat.le_of_ble_eq_true rfl) (fun _ => rfl) (fun x _ ok hr => tx_L_putHours ok hr N S q0 v1 v2 v3 hq0)
set_option maxHeartbeats 4000000 in
set_option maxRecDepth 20000 in
theorem tx_L_touch_b30 {x : sm_Cx} (ok : sm_Ok x zx_sy prog_1_method_4_code "LentShades" 5 2 42) (hr : (xh x).sig.returnType = (some .int)) (N : Nat) (S : sm_St) : sm_Sm x zx_sy prog_1_method_4_code (sm_Q x zx_sy (sm_Pi zx_sy (xw x))) (px_L_touch_b30 N S) S 30 [(0, .ref ((xw x).2.2 0))] [] := by
  unfold px_L_touch_b30
  refine sm_aload_n (pc := 30) 0 ok dx_L_touch_30 rfl ?_
  refine sm_callV_i (pc := 31) (ci := 9) [] ok dx_L_touch_31 wd_450 mwx_L_refusedBad rfl rfl (Nat.le_of_ble_eq_true rfl) (Nat.le_of_ble_eq_true rfl) rfl rfl (Nat.le_of_ble_eq_true rfl) (cx_L_refusedBad (sm_okj ok) N S) (fun r_14 S_13 => ?_)
  exact sm_iret (pc := 34) ok dx_L_touch_34 hr
set_option maxHeartbeats 4000000 in
set_option maxRecDepth 20000 in
theorem tx_L_touch_b50 {x : sm_Cx} (ok : sm_Ok x zx_sy prog_1_method_4_code "LentShades" 5 2 42) (hr : (xh x).sig.returnType = (some .int)) (N : Nat) (S : sm_St) : sm_Sm x zx_sy prog_1_method_4_code (sm_Q x zx_sy (sm_Pi zx_sy (xw x))) (px_L_touch_b50 N S) S 50 [(0, .ref ((xw x).2.2 0))] [] := by
  unfold px_L_touch_b50
  refine sm_aload_n (pc := 50) 0 ok dx_L_touch_50 rfl ?_
  refine sm_callV_i (pc := 51) (ci := 9) [] ok dx_L_touch_51 wd_450 mwx_L_refusedBad rfl rfl (Nat.le_of_ble_eq_true rfl) (Nat.le_of_ble_eq_true rfl) rfl rfl (Nat.le_of_ble_eq_true rfl) (cx_L_refusedBad (sm_okj ok) N S) (fun r_12 S_11 => ?_)
  exact sm_iret (pc := 54) ok dx_L_touch_54 hr
set_option maxHeartbeats 4000000 in
set_option maxRecDepth 20000 in
theorem tx_L_touch_b85 {x : sm_Cx} (ok : sm_Ok x zx_sy prog_1_method_4_code "LentShades" 5 2 42) (hr : (xh x).sig.returnType = (some .int)) (N : Nat) (v1 : Int32) (v2 : Int32) (v3 : Int32) (s0 : Int32) (S : sm_St) : sm_Sm x zx_sy prog_1_method_4_code (sm_Q x zx_sy (sm_Pi zx_sy (xw x))) (px_L_touch_b85 N v1 v2 v3 s0 S) S 85 [(0, .ref ((xw x).2.2 0)), (1, .int v1), (2, .int v2), (3, .int v3)] [.int s0] := by
  unfold px_L_touch_b85
  refine sm_istore (pc := 85) (i := 4) ok dx_L_touch_85 (by decide) (fun v => [(4, .int v), (0, .ref ((xw x).2.2 0)), (1, .int v1), (2, .int v2), (3, .int v3)]) (fun _ => rfl) (fun v4_9 => ?_)
  refine sm_aload_n (pc := 87) 1 ok dx_L_touch_87 rfl ?_
  refine sm_getR (pc := 88) (ci := 9) (k := 0) ok dx_L_touch_88 rfl rfl zc_i9 (by decide) rfl wd_400 ?_
  refine sm_getR (pc := 91) (ci := 2) (k := 5) ok dx_L_touch_91 rfl rfl zc_i2 (by decide) rfl wd_176 ?_
  refine sm_iload_n (pc := 94) 2 ok dx_L_touch_94 rfl ?_
  refine sm_iload_n (pc := 95) 3 ok dx_L_touch_95 rfl ?_
  refine sm_iload_n (pc := 96) 4 ok dx_L_touch_96 rfl ?_
  refine sm_callS_v (pc := 97) [.ref ((xw x).2.2 7), .int v1, .int v2, .int v3] ok dx_L_touch_97 wd_491 mwx_L_putHours (Nat.le_of_ble_eq_true rfl) (Nat.le_of_ble_eq_true rfl) rfl rfl (Nat.le_of_ble_eq_true rfl) (cx_L_putHours (sm_okj ok) N S 7 v1 v2 v3 (sm_tag rfl)) (fun S_10 => ?_)
  refine sm_iload (pc := 100) 0 ok dx_L_touch_100 rfl ?_
  exact sm_iret (pc := 102) ok dx_L_touch_102 hr
set_option maxHeartbeats 4000000 in
set_option maxRecDepth 20000 in
theorem tx_L_touch_b55 {x : sm_Cx} (ok : sm_Ok x zx_sy prog_1_method_4_code "LentShades" 5 2 42) (hr : (xh x).sig.returnType = (some .int)) (N : Nat) (v1 : Int32) (v2 : Int32) (v3 : Int32) (S : sm_St) : sm_Sm x zx_sy prog_1_method_4_code (sm_Q x zx_sy (sm_Pi zx_sy (xw x))) (px_L_touch_b55 N v1 v2 v3 S) S 55 [(0, .ref ((xw x).2.2 0)), (1, .int v1), (2, .int v2), (3, .int v3)] [] := by
  unfold px_L_touch_b55
  refine sm_iload_n (pc := 55) 1 ok dx_L_touch_55 rfl ?_
  refine sm_iconst (pc := 56) (4 : Int32) ok dx_L_touch_56 zk_4 ?_
  refine sm_icmp_ge (pc := 57) 74 ok dx_L_touch_57 (by decide) (fun _ => ?_) (fun _ => ?_)
  · refine sm_aload_n (pc := 74) 0 ok dx_L_touch_74 rfl ?_
    refine sm_getR (pc := 75) (ci := 9) (k := 0) ok dx_L_touch_75 rfl rfl zc_i9 (by decide) rfl wd_400 ?_
    refine sm_getR (pc := 78) (ci := 2) (k := 5) ok dx_L_touch_78 rfl rfl zc_i2 (by decide) rfl wd_176 ?_
    refine sm_iload_n (pc := 81) 2 ok dx_L_touch_81 rfl ?_
    refine sm_aald5 (pc := 82) ok dx_L_touch_82 rfl (fun hb_7 => ?_)
    refine sm_iload_n (pc := 83) 1 ok dx_L_touch_83 rfl ?_
    refine sm_iald (pc := 84) ok dx_L_touch_84 (zx_rows 7 4 8 (by decide) hb_7) ?_
    exact tx_L_touch_b85 ok hr N _ _ _ _ _
  · refine sm_aload_n (pc := 60) 0 ok dx_L_touch_60 rfl ?_
    refine sm_getR (pc := 61) (ci := 9) (k := 0) ok dx_L_touch_61 rfl rfl zc_i9 (by decide) rfl wd_400 ?_
    refine sm_getR (pc := 64) (ci := 2) (k := 5) ok dx_L_touch_64 rfl rfl zc_i2 (by decide) rfl wd_176 ?_
    refine sm_iload_n (pc := 67) 1 ok dx_L_touch_67 rfl ?_
    refine sm_aald5 (pc := 68) ok dx_L_touch_68 rfl (fun hb_8 => ?_)
    refine sm_iload_n (pc := 69) 2 ok dx_L_touch_69 rfl ?_
    refine sm_iald (pc := 70) ok dx_L_touch_70 (zx_rows 7 4 8 (by decide) hb_8) ?_
    refine sm_goto (pc := 71) 85 ok dx_L_touch_71 (by decide) ?_
    exact tx_L_touch_b85 ok hr N _ _ _ _ _
set_option maxHeartbeats 4000000 in
set_option maxRecDepth 20000 in
theorem tx_L_touch {x : sm_Cx} (ok : sm_Ok x zx_sy prog_1_method_4_code "LentShades" 5 2 42) (hr : (xh x).sig.returnType = (some .int)) (N : Nat) (S : sm_St) (v1 : Int32) (v2 : Int32) (v3 : Int32) : sm_Sm x zx_sy prog_1_method_4_code (sm_Q x zx_sy (sm_Pi zx_sy (xw x))) (px_L_touch N S v1 v2 v3) S 0 [(0, .ref ((xw x).2.2 0)), (1, .int v1), (2, .int v2), (3, .int v3)] [] := by
  unfold px_L_touch
  refine sm_aload_n (pc := 0) 0 ok dx_L_touch_0 rfl ?_
  refine sm_getR (pc := 1) (ci := 9) (k := 0) ok dx_L_touch_1 rfl rfl zc_i9 (by decide) rfl wd_400 ?_
  refine sm_iload_n (pc := 4) 1 ok dx_L_touch_4 rfl ?_
  refine sm_callV_i (pc := 5) (ci := 2) [.int v1] ok dx_L_touch_5 wd_479 mwx_House_hasNumber rfl rfl (Nat.le_of_ble_eq_true rfl) (Nat.le_of_ble_eq_true rfl) rfl rfl (Nat.le_of_ble_eq_true rfl) (cx_House_hasNumber (sm_okj ok) N S 1 v1 rfl) (fun r_2 S_1 => ?_)
  refine sm_if_eq (pc := 8) 30 ok dx_L_touch_8 (by decide) (fun _ => ?_) (fun _ => ?_)
  · refine sm_lv [0] rfl ?_
    exact tx_L_touch_b30 ok hr N _
  · refine sm_aload_n (pc := 11) 0 ok dx_L_touch_11 rfl ?_
    refine sm_getR (pc := 12) (ci := 9) (k := 0) ok dx_L_touch_12 rfl rfl zc_i9 (by decide) rfl wd_400 ?_
    refine sm_iload_n (pc := 15) 2 ok dx_L_touch_15 rfl ?_
    refine sm_callV_i (pc := 16) (ci := 2) [.int v2] ok dx_L_touch_16 wd_479 mwx_House_hasNumber rfl rfl (Nat.le_of_ble_eq_true rfl) (Nat.le_of_ble_eq_true rfl) rfl rfl (Nat.le_of_ble_eq_true rfl) (cx_House_hasNumber (sm_okj ok) N S_1 1 v2 rfl) (fun r_4 S_3 => ?_)
    refine sm_if_eq (pc := 19) 30 ok dx_L_touch_19 (by decide) (fun _ => ?_) (fun _ => ?_)
    · refine sm_lv [0] rfl ?_
      exact tx_L_touch_b30 ok hr N _
    · refine sm_iload_n (pc := 22) 3 ok dx_L_touch_22 rfl ?_
      refine sm_iconst (pc := 23) (3 : Int32) ok dx_L_touch_23 zk_3 ?_
      refine sm_callS_i (pc := 24) [.int v3, .int (3 : Int32)] ok dx_L_touch_24 wd_447 mwx_L_within (Nat.le_of_ble_eq_true rfl) (Nat.le_of_ble_eq_true rfl) rfl rfl (Nat.le_of_ble_eq_true rfl) (cx_L_within (sm_okj ok) N S_3 v3 (3 : Int32)) (fun r_6 S_5 => ?_)
      refine sm_if_ne (pc := 27) 35 ok dx_L_touch_27 (by decide) (fun _ => ?_) (fun _ => ?_)
      · refine sm_iload_n (pc := 35) 1 ok dx_L_touch_35 rfl ?_
        refine sm_iload_n (pc := 36) 2 ok dx_L_touch_36 rfl ?_
        refine sm_icmp_eq (pc := 37) 50 ok dx_L_touch_37 (by decide) (fun _ => ?_) (fun _ => ?_)
        · refine sm_lv [0] rfl ?_
          exact tx_L_touch_b50 ok hr N _
        · refine sm_iload_n (pc := 40) 1 ok dx_L_touch_40 rfl ?_
          refine sm_iconst (pc := 41) (4 : Int32) ok dx_L_touch_41 zk_4 ?_
          refine sm_icmp_lt (pc := 42) 55 ok dx_L_touch_42 (by decide) (fun _ => ?_) (fun _ => ?_)
          · exact tx_L_touch_b55 ok hr N _ _ _ _
          · refine sm_iload_n (pc := 45) 2 ok dx_L_touch_45 rfl ?_
            refine sm_iconst (pc := 46) (4 : Int32) ok dx_L_touch_46 zk_4 ?_
            refine sm_icmp_lt (pc := 47) 55 ok dx_L_touch_47 (by decide) (fun _ => ?_) (fun _ => ?_)
            · exact tx_L_touch_b55 ok hr N _ _ _ _
            · refine sm_lv [0] rfl ?_
              exact tx_L_touch_b50 ok hr N _
      · refine sm_lv [0] rfl ?_
        exact tx_L_touch_b30 ok hr N _
theorem cx_L_touch {l : Launch} {wc : sm_Wc} (hj : sm_inj zx_sy wc) (N : Nat) (S : sm_St) (v1 : Int32) (v2 : Int32) (v3 : Int32) : sm_Ct l zx_sy wc yx_L_touch prog_1_method_4_code 5 (some .int) 2 42 [.ref (wc.2.2 0), .int v1, .int v2, .int v3] S (sm_Pi zx_sy wc) (px_L_touch N S v1 v2 v3) :=
  sm_entry (Pq := fun wc => sm_Pi zx_sy wc) (fun wc => [.ref (wc.2.2 0), .int v1, .int v2, .int v3]) (lv := fun wc => [(0, .ref (wc.2.2 0)), (1, .int v1), (2, .int v2), (3, .int v3)]) (by decide) hj zx_ok zx_stb (fun _ => Nat.le_of_ble_eq_true rfl) (fun _ => rfl) (fun x _ ok hr => tx_L_touch ok hr N S v1 v2 v3)
set_option maxHeartbeats 4000000 in
set_option maxRecDepth 20000 in
theorem tx_L_colour_b20 {x : sm_Cx} (ok : sm_Ok x zx_sy prog_1_method_5_code "LentShades" 4 1 21) (hr : (xh x).sig.returnType = (some .int)) (N : Nat) (S : sm_St) : sm_Sm x zx_sy prog_1_method_5_code (sm_Q x zx_sy (sm_Pi zx_sy (xw x))) (px_L_colour_b20 N S) S 20 [(0, .ref ((xw x).2.2 0))] [] := by
  unfold px_L_colour_b20
  refine sm_aload_n (pc := 20) 0 ok dx_L_colour_20 rfl ?_
  refine sm_callV_i (pc := 21) (ci := 9) [] ok dx_L_colour_21 wd_450 mwx_L_refusedBad rfl rfl (Nat.le_of_ble_eq_true rfl) (Nat.le_of_ble_eq_true rfl) rfl rfl (Nat.le_of_ble_eq_true rfl) (cx_L_refusedBad (sm_okj ok) N S) (fun r_8 S_7 => ?_)
  exact sm_iret (pc := 24) ok dx_L_colour_24 hr
set_option maxHeartbeats 4000000 in
set_option maxRecDepth 20000 in
theorem tx_L_colour {x : sm_Cx} (ok : sm_Ok x zx_sy prog_1_method_5_code "LentShades" 4 1 21) (hr : (xh x).sig.returnType = (some .int)) (N : Nat) (S : sm_St) (v1 : Int32) (v2 : Int32) : sm_Sm x zx_sy prog_1_method_5_code (sm_Q x zx_sy (sm_Pi zx_sy (xw x))) (px_L_colour N S v1 v2) S 0 [(0, .ref ((xw x).2.2 0)), (1, .int v1), (2, .int v2)] [] := by
  unfold px_L_colour
  refine sm_aload_n (pc := 0) 0 ok dx_L_colour_0 rfl ?_
  refine sm_getR (pc := 1) (ci := 9) (k := 0) ok dx_L_colour_1 rfl rfl zc_i9 (by decide) rfl wd_400 ?_
  refine sm_iload_n (pc := 4) 1 ok dx_L_colour_4 rfl ?_
  refine sm_callV_i (pc := 5) (ci := 2) [.int v1] ok dx_L_colour_5 wd_498 mwx_House_hasThing rfl rfl (Nat.le_of_ble_eq_true rfl) (Nat.le_of_ble_eq_true rfl) rfl rfl (Nat.le_of_ble_eq_true rfl) (cx_House_hasThing (sm_okj ok) N S 1 v1 rfl) (fun r_2 S_1 => ?_)
  refine sm_if_eq (pc := 8) 20 ok dx_L_colour_8 (by decide) (fun _ => ?_) (fun _ => ?_)
  · refine sm_lv [0] rfl ?_
    exact tx_L_colour_b20 ok hr N _
  · refine sm_iload_n (pc := 11) 2 ok dx_L_colour_11 rfl ?_
    refine sm_bipush (pc := 12) (12 : Int32) ok dx_L_colour_12 zb_12 ?_
    refine sm_callS_i (pc := 14) [.int v2, .int (12 : Int32)] ok dx_L_colour_14 wd_447 mwx_L_within (Nat.le_of_ble_eq_true rfl) (Nat.le_of_ble_eq_true rfl) rfl rfl (Nat.le_of_ble_eq_true rfl) (cx_L_within (sm_okj ok) N S_1 v2 (12 : Int32)) (fun r_4 S_3 => ?_)
    refine sm_if_ne (pc := 17) 25 ok dx_L_colour_17 (by decide) (fun _ => ?_) (fun _ => ?_)
    · refine sm_aload_n (pc := 25) 0 ok dx_L_colour_25 rfl ?_
      refine sm_getR (pc := 26) (ci := 9) (k := 0) ok dx_L_colour_26 rfl rfl zc_i9 (by decide) rfl wd_400 ?_
      refine sm_getR (pc := 29) (ci := 2) (k := 4) ok dx_L_colour_29 rfl rfl zc_i2 (by decide) rfl wd_173 ?_
      refine sm_iload_n (pc := 32) 1 ok dx_L_colour_32 rfl ?_
      refine sm_iald (pc := 33) ok dx_L_colour_33 rfl ?_
      refine sm_istore_n (pc := 34) (i := 3) ok dx_L_colour_34 rfl (by decide) (fun v => [(3, .int v), (0, .ref ((xw x).2.2 0)), (1, .int v1), (2, .int v2)]) (fun _ => rfl) (fun v3_5 => ?_)
      refine sm_aload_n (pc := 35) 1 ok dx_L_colour_35 rfl ?_
      refine sm_getR (pc := 36) (ci := 9) (k := 0) ok dx_L_colour_36 rfl rfl zc_i9 (by decide) rfl wd_400 ?_
      refine sm_getR (pc := 39) (ci := 2) (k := 4) ok dx_L_colour_39 rfl rfl zc_i2 (by decide) rfl wd_173 ?_
      refine sm_iload_n (pc := 42) 2 ok dx_L_colour_42 rfl ?_
      refine sm_iload_n (pc := 43) 3 ok dx_L_colour_43 rfl ?_
      refine sm_iast (pc := 44) ok dx_L_colour_44 rfl (fun S_6 => ?_)
      refine sm_iload_n (pc := 45) 0 ok dx_L_colour_45 rfl ?_
      exact sm_iret (pc := 46) ok dx_L_colour_46 hr
    · refine sm_lv [0] rfl ?_
      exact tx_L_colour_b20 ok hr N _
theorem cx_L_colour {l : Launch} {wc : sm_Wc} (hj : sm_inj zx_sy wc) (N : Nat) (S : sm_St) (v1 : Int32) (v2 : Int32) : sm_Ct l zx_sy wc yx_L_colour prog_1_method_5_code 4 (some .int) 1 21 [.ref (wc.2.2 0), .int v1, .int v2] S (sm_Pi zx_sy wc) (px_L_colour N S v1 v2) :=
  sm_entry (Pq := fun wc => sm_Pi zx_sy wc) (fun wc => [.ref (wc.2.2 0), .int v1, .int v2]) (lv := fun wc => [(0, .ref (wc.2.2 0)), (1, .int v1), (2, .int v2)]) (by decide) hj zx_ok zx_stb (fun _ => Nat.le_of_ble_eq_true rfl) (fun _ => rfl) (fun x _ ok hr => tx_L_colour ok hr N S v1 v2)
set_option maxHeartbeats 4000000 in
set_option maxRecDepth 20000 in
theorem tx_Reader_append_b5 {x : sm_Cx} (ok : sm_Ok x zx_sy prog_6_method_2_code "LentShades$Reader" 5 0 0) (hr : (xh x).sig.returnType = none) (N : Nat) : ∀ (n : Nat) (v1 : Int64) (v4 : Int32) (S : sm_St), sm_Sm x zx_sy prog_6_method_2_code (sm_Q x zx_sy (sm_Pv zx_sy (xw x))) (px_Reader_append_b5 N n v1 v4 S) S 5 [(0, .ref ((xw x).2.2 102)), (1, .long v1), (4, .int v4)] [] := by
  intro n
  induction n with
  | zero =>
    intro v1 v4 S
    exact sm_none
  | succ n ih =>
    intro v1 v4 S
    show sm_Sm x zx_sy prog_6_method_2_code (sm_Q x zx_sy (sm_Pv zx_sy (xw x))) (if v4 < 0 then (some S) else (if (200 : Int32) ≤ (S.1 102 1) then (some S) else (if sm_in (S.1 102 1) 200 = true then sm_lt (sm_sI S 103 (S.1 102 1).toNatClampNeg (((v1 >>> (((8 : Int32) * v4).toInt64 &&& 63)) &&& (255 : Int64)).toInt32)) (fun (S_2 : sm_St) => sm_lt (sm_sI S_2 102 1 ((S_2.1 102 1) + (1 : Int32))) (fun (S_3 : sm_St) => sm_lt (v4 + (-1 : Int32)) (fun (v4_4 : Int32) => (px_Reader_append_b5 N n) v1 v4_4 S_3))) else none))) S 5 [(0, .ref ((xw x).2.2 102)), (1, .long v1), (4, .int v4)] []
    refine sm_iload (pc := 5) 2 ok dx_Reader_append_5 rfl ?_
    refine sm_if_lt (pc := 7) 57 ok dx_Reader_append_7 (by decide) (fun _ => ?_) (fun _ => ?_)
    · exact sm_vret (pc := 57) ok dx_Reader_append_57 hr
    · refine sm_aload_n (pc := 10) 0 ok dx_Reader_append_10 rfl ?_
      refine sm_getI (pc := 11) (ci := 4) (k := 1) ok dx_Reader_append_11 rfl rfl zc_i4 (by decide) rfl wd_235 ?_
      refine sm_sipush (pc := 14) (200 : Int32) ok dx_Reader_append_14 zs_200 ?_
      refine sm_icmp_ge (pc := 17) 57 ok dx_Reader_append_17 (by decide) (fun _ => ?_) (fun _ => ?_)
      · exact sm_vret (pc := 57) ok dx_Reader_append_57 hr
      · refine sm_aload_n (pc := 20) 0 ok dx_Reader_append_20 rfl ?_
        refine sm_getR (pc := 21) (ci := 4) (k := 0) ok dx_Reader_append_21 rfl rfl zc_i4 (by decide) rfl wd_234 ?_
        refine sm_aload_n (pc := 24) 0 ok dx_Reader_append_24 rfl ?_
        refine sm_getI (pc := 25) (ci := 4) (k := 1) ok dx_Reader_append_25 rfl rfl zc_i4 (by decide) rfl wd_235 ?_
        refine sm_lload_n (pc := 28) 1 ok dx_Reader_append_28 rfl ?_
        refine sm_bipush (pc := 29) (8 : Int32) ok dx_Reader_append_29 zb_8 ?_
        refine sm_iload (pc := 31) 2 ok dx_Reader_append_31 rfl ?_
        refine sm_imul (pc := 33) ok dx_Reader_append_33 ?_
        refine sm_lshr (pc := 34) ok dx_Reader_append_34 ?_
        refine sm_ldc2 (pc := 35) ok dx_Reader_append_35 wd_507 ?_
        refine sm_land (pc := 38) ok dx_Reader_append_38 ?_
        refine sm_l2i (pc := 39) ok dx_Reader_append_39 ?_
        refine sm_iast (pc := 40) ok dx_Reader_append_40 rfl (fun S_2 => ?_)
        refine sm_aload_n (pc := 41) 0 ok dx_Reader_append_41 rfl ?_
        refine sm_dup (pc := 42) ok dx_Reader_append_42 rfl ?_
        refine sm_getI (pc := 43) (ci := 4) (k := 1) ok dx_Reader_append_43 rfl rfl zc_i4 (by decide) rfl wd_235 ?_
        refine sm_iconst (pc := 46) (1 : Int32) ok dx_Reader_append_46 zk_1 ?_
        refine sm_iadd (pc := 47) ok dx_Reader_append_47 ?_
        refine sm_putI (pc := 48) (ci := 4) (k := 1) ok dx_Reader_append_48 rfl rfl zc_i4 zc_y4 zc_t4 zc_n4 (by decide) rfl rfl rfl wd_235 (fun S_3 => ?_)
        refine sm_iinc (pc := 51) (i := 4) 2 (-1 : Int32) ok dx_Reader_append_51 rfl zk_m1 (by decide) (fun v => [(4, .int v), (0, .ref ((xw x).2.2 102)), (1, .long v1)]) (fun _ => rfl) (fun v4_4 => ?_)
        refine sm_goto (pc := 54) 5 ok dx_Reader_append_54 (by decide) ?_
        refine sm_lv [1, 2, 0] rfl ?_
        exact ih _ _ _
set_option maxHeartbeats 4000000 in
set_option maxRecDepth 20000 in
theorem tx_Reader_append {x : sm_Cx} (ok : sm_Ok x zx_sy prog_6_method_2_code "LentShades$Reader" 5 0 0) (hr : (xh x).sig.returnType = none) (N : Nat) (S : sm_St) (v1 : Int64) (v3 : Int32) : sm_Sm x zx_sy prog_6_method_2_code (sm_Q x zx_sy (sm_Pv zx_sy (xw x))) (px_Reader_append N S v1 v3) S 0 [(0, .ref ((xw x).2.2 102)), (1, .long v1), (3, .int v3)] [] := by
  unfold px_Reader_append
  refine sm_iload_n (pc := 0) 2 ok dx_Reader_append_0 rfl ?_
  refine sm_iconst (pc := 1) (1 : Int32) ok dx_Reader_append_1 zk_1 ?_
  refine sm_isub (pc := 2) ok dx_Reader_append_2 ?_
  refine sm_istore (pc := 3) (i := 4) ok dx_Reader_append_3 (by decide) (fun v => [(4, .int v), (0, .ref ((xw x).2.2 102)), (1, .long v1), (3, .int v3)]) (fun _ => rfl) (fun v4_1 => ?_)
  refine sm_lv [1, 2, 0] rfl ?_
  exact tx_Reader_append_b5 ok hr N N _ _ _
theorem cx_Reader_append {l : Launch} {wc : sm_Wc} (hj : sm_inj zx_sy wc) (N : Nat) (S : sm_St) (v1 : Int64) (v3 : Int32) : sm_Ct l zx_sy wc yx_Reader_append prog_6_method_2_code 5 none 0 0 [.ref (wc.2.2 102), .long v1, .int v3] S (sm_Pv zx_sy wc) (px_Reader_append N S v1 v3) :=
  sm_entry (Pq := fun wc => sm_Pv zx_sy wc) (fun wc => [.ref (wc.2.2 102), .long v1, .int v3]) (lv := fun wc => [(0, .ref (wc.2.2 102)), (1, .long v1), (3, .int v3)]) (by decide) hj zx_ok zx_stb (fun _ => Nat.le_of_ble_eq_true rfl) (fun _ => rfl) (fun x _ ok hr => tx_Reader_append ok hr N S v1 v3)
set_option maxHeartbeats 4000000 in
set_option maxRecDepth 20000 in
theorem tx_L_type_b11 {x : sm_Cx} (ok : sm_Ok x zx_sy prog_1_method_6_code "LentShades" 4 1 24) (hr : (xh x).sig.returnType = (some .int)) (N : Nat) (S : sm_St) : sm_Sm x zx_sy prog_1_method_6_code (sm_Q x zx_sy (sm_Pi zx_sy (xw x))) (px_L_type_b11 N S) S 11 [(0, .ref ((xw x).2.2 0))] [] := by
  unfold px_L_type_b11
  refine sm_aload_n (pc := 11) 0 ok dx_L_type_11 rfl ?_
  refine sm_callV_i (pc := 12) (ci := 9) [] ok dx_L_type_12 wd_450 mwx_L_refusedBad rfl rfl (Nat.le_of_ble_eq_true rfl) (Nat.le_of_ble_eq_true rfl) rfl rfl (Nat.le_of_ble_eq_true rfl) (cx_L_refusedBad (sm_okj ok) N S) (fun r_5 S_4 => ?_)
  exact sm_iret (pc := 15) ok dx_L_type_15 hr
set_option maxHeartbeats 4000000 in
set_option maxRecDepth 20000 in
theorem tx_L_type {x : sm_Cx} (ok : sm_Ok x zx_sy prog_1_method_6_code "LentShades" 4 1 24) (hr : (xh x).sig.returnType = (some .int)) (N : Nat) (S : sm_St) (v1 : Int64) (v3 : Int32) : sm_Sm x zx_sy prog_1_method_6_code (sm_Q x zx_sy (sm_Pi zx_sy (xw x))) (px_L_type N S v1 v3) S 0 [(0, .ref ((xw x).2.2 0)), (1, .long v1), (3, .int v3)] [] := by
  unfold px_L_type
  refine sm_iload_n (pc := 0) 2 ok dx_L_type_0 rfl ?_
  refine sm_iconst (pc := 1) (1 : Int32) ok dx_L_type_1 zk_1 ?_
  refine sm_icmp_lt (pc := 2) 11 ok dx_L_type_2 (by decide) (fun _ => ?_) (fun _ => ?_)
  · refine sm_lv [0] rfl ?_
    exact tx_L_type_b11 ok hr N _
  · refine sm_iload_n (pc := 5) 2 ok dx_L_type_5 rfl ?_
    refine sm_bipush (pc := 6) (8 : Int32) ok dx_L_type_6 zb_8 ?_
    refine sm_icmp_le (pc := 8) 16 ok dx_L_type_8 (by decide) (fun _ => ?_) (fun _ => ?_)
    · refine sm_aload_n (pc := 16) 0 ok dx_L_type_16 rfl ?_
      refine sm_getR (pc := 17) (ci := 9) (k := 3) ok dx_L_type_17 rfl rfl zc_i9 (by decide) rfl wd_403 ?_
      refine sm_getI (pc := 20) (ci := 4) (k := 1) ok dx_L_type_20 rfl rfl zc_i4 (by decide) rfl wd_236 ?_
      refine sm_iload_n (pc := 23) 2 ok dx_L_type_23 rfl ?_
      refine sm_iadd (pc := 24) ok dx_L_type_24 ?_
      refine sm_sipush (pc := 25) (200 : Int32) ok dx_L_type_25 zs_200 ?_
      refine sm_icmp_le (pc := 28) 36 ok dx_L_type_28 (by decide) (fun _ => ?_) (fun _ => ?_)
      · refine sm_aload_n (pc := 36) 0 ok dx_L_type_36 rfl ?_
        refine sm_getR (pc := 37) (ci := 9) (k := 3) ok dx_L_type_37 rfl rfl zc_i9 (by decide) rfl wd_403 ?_
        refine sm_lload_n (pc := 40) 1 ok dx_L_type_40 rfl ?_
        refine sm_iload_n (pc := 41) 2 ok dx_L_type_41 rfl ?_
        refine sm_callV_v (pc := 42) (ci := 4) [.long v1, .int v3] ok dx_L_type_42 wd_503 mwx_Reader_append rfl rfl (Nat.le_of_ble_eq_true rfl) (Nat.le_of_ble_eq_true rfl) rfl rfl (Nat.le_of_ble_eq_true rfl) (cx_Reader_append (sm_okj ok) N S v1 v3) (fun S_1 => ?_)
        refine sm_aload_n (pc := 45) 0 ok dx_L_type_45 rfl ?_
        refine sm_getR (pc := 46) (ci := 9) (k := 3) ok dx_L_type_46 rfl rfl zc_i9 (by decide) rfl wd_403 ?_
        refine sm_getI (pc := 49) (ci := 4) (k := 1) ok dx_L_type_49 rfl rfl zc_i4 (by decide) rfl wd_236 ?_
        exact sm_iret (pc := 52) ok dx_L_type_52 hr
      · refine sm_aload_n (pc := 31) 0 ok dx_L_type_31 rfl ?_
        refine sm_callV_i (pc := 32) (ci := 9) [] ok dx_L_type_32 wd_454 mwx_L_refusedFull rfl rfl (Nat.le_of_ble_eq_true rfl) (Nat.le_of_ble_eq_true rfl) rfl rfl (Nat.le_of_ble_eq_true rfl) (cx_L_refusedFull (sm_okj ok) N S) (fun r_3 S_2 => ?_)
        exact sm_iret (pc := 35) ok dx_L_type_35 hr
    · refine sm_lv [0] rfl ?_
      exact tx_L_type_b11 ok hr N _
theorem cx_L_type {l : Launch} {wc : sm_Wc} (hj : sm_inj zx_sy wc) (N : Nat) (S : sm_St) (v1 : Int64) (v3 : Int32) : sm_Ct l zx_sy wc yx_L_type prog_1_method_6_code 4 (some .int) 1 24 [.ref (wc.2.2 0), .long v1, .int v3] S (sm_Pi zx_sy wc) (px_L_type N S v1 v3) :=
  sm_entry (Pq := fun wc => sm_Pi zx_sy wc) (fun wc => [.ref (wc.2.2 0), .long v1, .int v3]) (lv := fun wc => [(0, .ref (wc.2.2 0)), (1, .long v1), (3, .int v3)]) (by decide) hj zx_ok zx_stb (fun _ => Nat.le_of_ble_eq_true rfl) (fun _ => rfl) (fun x _ ok hr => tx_L_type ok hr N S v1 v3)
set_option maxHeartbeats 4000000 in
set_option maxRecDepth 20000 in
theorem tx_L_clear {x : sm_Cx} (ok : sm_Ok x zx_sy prog_1_method_7_code "LentShades" 2 0 0) (hr : (xh x).sig.returnType = (some .int)) (N : Nat) (S : sm_St) : sm_Sm x zx_sy prog_1_method_7_code (sm_Q x zx_sy (sm_Pi zx_sy (xw x))) (px_L_clear N S) S 0 [(0, .ref ((xw x).2.2 0))] [] := by
  unfold px_L_clear
  refine sm_aload_n (pc := 0) 0 ok dx_L_clear_0 rfl ?_
  refine sm_getR (pc := 1) (ci := 9) (k := 3) ok dx_L_clear_1 rfl rfl zc_i9 (by decide) rfl wd_403 ?_
  refine sm_getI (pc := 4) (ci := 4) (k := 1) ok dx_L_clear_4 rfl rfl zc_i4 (by decide) rfl wd_236 ?_
  refine sm_istore_n (pc := 7) (i := 1) ok dx_L_clear_7 rfl (by decide) (fun v => [(1, .int v), (0, .ref ((xw x).2.2 0))]) (fun _ => rfl) (fun v1_1 => ?_)
  refine sm_aload_n (pc := 8) 1 ok dx_L_clear_8 rfl ?_
  refine sm_getR (pc := 9) (ci := 9) (k := 3) ok dx_L_clear_9 rfl rfl zc_i9 (by decide) rfl wd_403 ?_
  refine sm_iconst (pc := 12) (0 : Int32) ok dx_L_clear_12 zk_0 ?_
  refine sm_putI (pc := 13) (ci := 4) (k := 1) ok dx_L_clear_13 rfl rfl zc_i4 zc_y4 zc_t4 zc_n4 (by decide) rfl rfl rfl wd_236 (fun S_2 => ?_)
  refine sm_iload_n (pc := 16) 0 ok dx_L_clear_16 rfl ?_
  exact sm_iret (pc := 17) ok dx_L_clear_17 hr
theorem cx_L_clear {l : Launch} {wc : sm_Wc} (hj : sm_inj zx_sy wc) (N : Nat) (S : sm_St) : sm_Ct l zx_sy wc yx_L_clear prog_1_method_7_code 2 (some .int) 0 0 [.ref (wc.2.2 0)] S (sm_Pi zx_sy wc) (px_L_clear N S) :=
  sm_entry (Pq := fun wc => sm_Pi zx_sy wc) (fun wc => [.ref (wc.2.2 0)]) (lv := fun wc => [(0, .ref (wc.2.2 0))]) (by decide) hj zx_ok zx_stb (fun _ => Nat.le_of_ble_eq_true rfl) (fun _ => rfl) (fun x _ ok hr => tx_L_clear ok hr N S)
set_option maxHeartbeats 4000000 in
set_option maxRecDepth 20000 in
theorem tx_Reader_isLetter {x : sm_Cx} (ok : sm_Ok x zx_sy prog_6_method_14_code "LentShades$Reader" 1 0 0) (hr : (xh x).sig.returnType = (some .boolean)) (N : Nat) (S : sm_St) (v0 : Int32) : sm_Sm x zx_sy prog_6_method_14_code (sm_Q x zx_sy (sm_Pi zx_sy (xw x))) (px_Reader_isLetter N S v0) S 0 [(0, .int v0)] [] := by
  unfold px_Reader_isLetter
  refine sm_iload_n (pc := 0) 0 ok dx_Reader_isLetter_0 rfl ?_
  refine sm_bipush (pc := 1) (97 : Int32) ok dx_Reader_isLetter_1 zb_97 ?_
  refine sm_icmp_lt (pc := 3) 16 ok dx_Reader_isLetter_3 (by decide) (fun _ => ?_) (fun _ => ?_)
  · refine sm_iconst (pc := 16) (0 : Int32) ok dx_Reader_isLetter_16 zk_0 ?_
    exact sm_zret (pc := 17) ok dx_Reader_isLetter_17 hr rfl
  · refine sm_iload_n (pc := 6) 0 ok dx_Reader_isLetter_6 rfl ?_
    refine sm_bipush (pc := 7) (122 : Int32) ok dx_Reader_isLetter_7 zb_122 ?_
    refine sm_icmp_gt (pc := 9) 16 ok dx_Reader_isLetter_9 (by decide) (fun _ => ?_) (fun _ => ?_)
    · refine sm_iconst (pc := 16) (0 : Int32) ok dx_Reader_isLetter_16 zk_0 ?_
      exact sm_zret (pc := 17) ok dx_Reader_isLetter_17 hr rfl
    · refine sm_iconst (pc := 12) (1 : Int32) ok dx_Reader_isLetter_12 zk_1 ?_
      refine sm_goto (pc := 13) 17 ok dx_Reader_isLetter_13 (by decide) ?_
      exact sm_zret (pc := 17) ok dx_Reader_isLetter_17 hr rfl
theorem cx_Reader_isLetter {l : Launch} {wc : sm_Wc} (hj : sm_inj zx_sy wc) (N : Nat) (S : sm_St) (v0 : Int32) : sm_Ct l zx_sy wc yx_Reader_isLetter prog_6_method_14_code 1 (some .boolean) 0 0 [.int v0] S (sm_Pi zx_sy wc) (px_Reader_isLetter N S v0) :=
  sm_entry (Pq := fun wc => sm_Pi zx_sy wc) (fun wc => [.int v0]) (lv := fun wc => [(0, .int v0)]) (by decide) hj zx_ok zx_stb (fun _ => Nat.le_of_ble_eq_true rfl) (fun _ => rfl) (fun x _ ok hr => tx_Reader_isLetter ok hr N S v0)
set_option maxHeartbeats 4000000 in
set_option maxRecDepth 20000 in
theorem tx_Reader_isFigure {x : sm_Cx} (ok : sm_Ok x zx_sy prog_6_method_15_code "LentShades$Reader" 1 0 0) (hr : (xh x).sig.returnType = (some .boolean)) (N : Nat) (S : sm_St) (v0 : Int32) : sm_Sm x zx_sy prog_6_method_15_code (sm_Q x zx_sy (sm_Pi zx_sy (xw x))) (px_Reader_isFigure N S v0) S 0 [(0, .int v0)] [] := by
  unfold px_Reader_isFigure
  refine sm_iload_n (pc := 0) 0 ok dx_Reader_isFigure_0 rfl ?_
  refine sm_bipush (pc := 1) (48 : Int32) ok dx_Reader_isFigure_1 zb_48 ?_
  refine sm_icmp_lt (pc := 3) 16 ok dx_Reader_isFigure_3 (by decide) (fun _ => ?_) (fun _ => ?_)
  · refine sm_iconst (pc := 16) (0 : Int32) ok dx_Reader_isFigure_16 zk_0 ?_
    exact sm_zret (pc := 17) ok dx_Reader_isFigure_17 hr rfl
  · refine sm_iload_n (pc := 6) 0 ok dx_Reader_isFigure_6 rfl ?_
    refine sm_bipush (pc := 7) (57 : Int32) ok dx_Reader_isFigure_7 zb_57 ?_
    refine sm_icmp_gt (pc := 9) 16 ok dx_Reader_isFigure_9 (by decide) (fun _ => ?_) (fun _ => ?_)
    · refine sm_iconst (pc := 16) (0 : Int32) ok dx_Reader_isFigure_16 zk_0 ?_
      exact sm_zret (pc := 17) ok dx_Reader_isFigure_17 hr rfl
    · refine sm_iconst (pc := 12) (1 : Int32) ok dx_Reader_isFigure_12 zk_1 ?_
      refine sm_goto (pc := 13) 17 ok dx_Reader_isFigure_13 (by decide) ?_
      exact sm_zret (pc := 17) ok dx_Reader_isFigure_17 hr rfl
theorem cx_Reader_isFigure {l : Launch} {wc : sm_Wc} (hj : sm_inj zx_sy wc) (N : Nat) (S : sm_St) (v0 : Int32) : sm_Ct l zx_sy wc yx_Reader_isFigure prog_6_method_15_code 1 (some .boolean) 0 0 [.int v0] S (sm_Pi zx_sy wc) (px_Reader_isFigure N S v0) :=
  sm_entry (Pq := fun wc => sm_Pi zx_sy wc) (fun wc => [.int v0]) (lv := fun wc => [(0, .int v0)]) (by decide) hj zx_ok zx_stb (fun _ => Nat.le_of_ble_eq_true rfl) (fun _ => rfl) (fun x _ ok hr => tx_Reader_isFigure ok hr N S v0)
set_option maxHeartbeats 4000000 in
set_option maxRecDepth 20000 in
theorem tx_Reader_nextNumber_b101 {x : sm_Cx} (ok : sm_Ok x zx_sy prog_6_method_13_code "LentShades$Reader" 1 1 20) (hr : (xh x).sig.returnType = none) (N : Nat) (s1 : Int32) (S : sm_St) : sm_Sm x zx_sy prog_6_method_13_code (sm_Q x zx_sy (sm_Pv zx_sy (xw x))) (px_Reader_nextNumber_b101 N s1 S) S 101 [] [.int s1, .ref ((xw x).2.2 102)] := by
  unfold px_Reader_nextNumber_b101
  refine sm_putI (pc := 101) (ci := 4) (k := 4) ok dx_Reader_nextNumber_101 rfl rfl zc_i4 zc_y4 zc_t4 zc_n4 (by decide) rfl rfl rfl wd_239 (fun S_6 => ?_)
  exact sm_vret (pc := 104) ok dx_Reader_nextNumber_104 hr
set_option maxHeartbeats 4000000 in
set_option maxRecDepth 20000 in
theorem tx_Reader_nextNumber_b81 {x : sm_Cx} (ok : sm_Ok x zx_sy prog_6_method_13_code "LentShades$Reader" 1 1 20) (hr : (xh x).sig.returnType = none) (N : Nat) (S : sm_St) : sm_Sm x zx_sy prog_6_method_13_code (sm_Q x zx_sy (sm_Pv zx_sy (xw x))) (px_Reader_nextNumber_b81 N S) S 81 [(0, .ref ((xw x).2.2 102))] [] := by
  unfold px_Reader_nextNumber_b81
  refine sm_aload_n (pc := 81) 0 ok dx_Reader_nextNumber_81 rfl ?_
  refine sm_aload_n (pc := 82) 0 ok dx_Reader_nextNumber_82 rfl ?_
  refine sm_getI (pc := 83) (ci := 4) (k := 2) ok dx_Reader_nextNumber_83 rfl rfl zc_i4 (by decide) rfl wd_237 ?_
  refine sm_aload_n (pc := 86) 0 ok dx_Reader_nextNumber_86 rfl ?_
  refine sm_getI (pc := 87) (ci := 4) (k := 3) ok dx_Reader_nextNumber_87 rfl rfl zc_i4 (by decide) rfl wd_238 ?_
  refine sm_isub (pc := 90) ok dx_Reader_nextNumber_90 ?_
  refine sm_iconst (pc := 91) (2 : Int32) ok dx_Reader_nextNumber_91 zk_2 ?_
  refine sm_icmp_gt (pc := 92) 99 ok dx_Reader_nextNumber_92 (by decide) (fun _ => ?_) (fun _ => ?_)
  · refine sm_bipush (pc := 99) (6 : Int32) ok dx_Reader_nextNumber_99 zb_6 ?_
    refine sm_lv [] rfl ?_
    exact tx_Reader_nextNumber_b101 ok hr N _ _
  · refine sm_iconst (pc := 95) (4 : Int32) ok dx_Reader_nextNumber_95 zk_4 ?_
    refine sm_goto (pc := 96) 101 ok dx_Reader_nextNumber_96 (by decide) ?_
    refine sm_lv [] rfl ?_
    exact tx_Reader_nextNumber_b101 ok hr N _ _
set_option maxHeartbeats 4000000 in
set_option maxRecDepth 20000 in
theorem tx_Reader_nextNumber_b68 {x : sm_Cx} (ok : sm_Ok x zx_sy prog_6_method_13_code "LentShades$Reader" 1 1 20) (hr : (xh x).sig.returnType = none) (N : Nat) {r5 : sm_St → Option (sm_St)} (h5 : ∀ (S : sm_St), sm_Sm x zx_sy prog_6_method_13_code (sm_Q x zx_sy (sm_Pv zx_sy (xw x))) (r5 S) S 5 [(0, .ref ((xw x).2.2 102))] []) (S : sm_St) : sm_Sm x zx_sy prog_6_method_13_code (sm_Q x zx_sy (sm_Pv zx_sy (xw x))) (px_Reader_nextNumber_b68 N r5 S) S 68 [(0, .ref ((xw x).2.2 102))] [] := by
  unfold px_Reader_nextNumber_b68
  refine sm_aload_n (pc := 68) 0 ok dx_Reader_nextNumber_68 rfl ?_
  refine sm_dup (pc := 69) ok dx_Reader_nextNumber_69 rfl ?_
  refine sm_getI (pc := 70) (ci := 4) (k := 2) ok dx_Reader_nextNumber_70 rfl rfl zc_i4 (by decide) rfl wd_237 ?_
  refine sm_iconst (pc := 73) (1 : Int32) ok dx_Reader_nextNumber_73 zk_1 ?_
  refine sm_iadd (pc := 74) ok dx_Reader_nextNumber_74 ?_
  refine sm_putI (pc := 75) (ci := 4) (k := 2) ok dx_Reader_nextNumber_75 rfl rfl zc_i4 zc_y4 zc_t4 zc_n4 (by decide) rfl rfl rfl wd_237 (fun S_5 => ?_)
  refine sm_goto (pc := 78) 5 ok dx_Reader_nextNumber_78 (by decide) ?_
  exact h5 _
set_option maxHeartbeats 4000000 in
set_option maxRecDepth 20000 in
theorem tx_Reader_nextNumber_b5 {x : sm_Cx} (ok : sm_Ok x zx_sy prog_6_method_13_code "LentShades$Reader" 1 1 20) (hr : (xh x).sig.returnType = none) (N : Nat) : ∀ (n : Nat) (S : sm_St), sm_Sm x zx_sy prog_6_method_13_code (sm_Q x zx_sy (sm_Pv zx_sy (xw x))) (px_Reader_nextNumber_b5 N n S) S 5 [(0, .ref ((xw x).2.2 102))] [] := by
  intro n
  induction n with
  | zero =>
    intro S
    exact sm_none
  | succ n ih =>
    intro S
    show sm_Sm x zx_sy prog_6_method_13_code (sm_Q x zx_sy (sm_Pv zx_sy (xw x))) (if (S.1 102 1) ≤ (S.1 102 2) then (px_Reader_nextNumber_b81 N S) else (if sm_in (S.1 102 2) 200 = true then (sm_b2 (px_Reader_isFigure N S (S.1 103 (S.1 102 2).toNatClampNeg)) (fun (r_3 : Int32) (S_2 : sm_St) => if r_3 = 0 then (px_Reader_nextNumber_b81 N S_2) else (if (2 : Int32) ≤ ((S_2.1 102 2) - (S_2.1 102 3)) then (px_Reader_nextNumber_b68 N (px_Reader_nextNumber_b5 N n) S_2) else (if sm_in (S_2.1 102 2) 200 = true then (sm_lt (sm_sI S_2 102 5 ((((10 : Int32) * (S_2.1 102 5)) + (S_2.1 103 (S_2.1 102 2).toNatClampNeg)) - (48 : Int32))) (fun (S_4 : sm_St) => px_Reader_nextNumber_b68 N (px_Reader_nextNumber_b5 N n) S_4)) else none)))) else none)) S 5 [(0, .ref ((xw x).2.2 102))] []
    refine sm_aload_n (pc := 5) 0 ok dx_Reader_nextNumber_5 rfl ?_
    refine sm_getI (pc := 6) (ci := 4) (k := 2) ok dx_Reader_nextNumber_6 rfl rfl zc_i4 (by decide) rfl wd_237 ?_
    refine sm_aload_n (pc := 9) 0 ok dx_Reader_nextNumber_9 rfl ?_
    refine sm_getI (pc := 10) (ci := 4) (k := 1) ok dx_Reader_nextNumber_10 rfl rfl zc_i4 (by decide) rfl wd_235 ?_
    refine sm_icmp_ge (pc := 13) 81 ok dx_Reader_nextNumber_13 (by decide) (fun _ => ?_) (fun _ => ?_)
    · exact tx_Reader_nextNumber_b81 ok hr N _
    · refine sm_aload_n (pc := 16) 0 ok dx_Reader_nextNumber_16 rfl ?_
      refine sm_getR (pc := 17) (ci := 4) (k := 0) ok dx_Reader_nextNumber_17 rfl rfl zc_i4 (by decide) rfl wd_234 ?_
      refine sm_aload_n (pc := 20) 0 ok dx_Reader_nextNumber_20 rfl ?_
      refine sm_getI (pc := 21) (ci := 4) (k := 2) ok dx_Reader_nextNumber_21 rfl rfl zc_i4 (by decide) rfl wd_237 ?_
      refine sm_iald (pc := 24) ok dx_Reader_nextNumber_24 rfl ?_
      refine sm_callS_i (pc := 25) [.int (S.1 103 (S.1 102 2).toNatClampNeg)] ok dx_Reader_nextNumber_25 wd_586 mwx_Reader_isFigure (Nat.le_of_ble_eq_true rfl) (Nat.le_of_ble_eq_true rfl) rfl rfl (Nat.le_of_ble_eq_true rfl) (cx_Reader_isFigure (sm_okj ok) N S (S.1 103 (S.1 102 2).toNatClampNeg)) (fun r_3 S_2 => ?_)
      refine sm_if_eq (pc := 28) 81 ok dx_Reader_nextNumber_28 (by decide) (fun _ => ?_) (fun _ => ?_)
      · exact tx_Reader_nextNumber_b81 ok hr N _
      · refine sm_aload_n (pc := 31) 0 ok dx_Reader_nextNumber_31 rfl ?_
        refine sm_getI (pc := 32) (ci := 4) (k := 2) ok dx_Reader_nextNumber_32 rfl rfl zc_i4 (by decide) rfl wd_237 ?_
        refine sm_aload_n (pc := 35) 0 ok dx_Reader_nextNumber_35 rfl ?_
        refine sm_getI (pc := 36) (ci := 4) (k := 3) ok dx_Reader_nextNumber_36 rfl rfl zc_i4 (by decide) rfl wd_238 ?_
        refine sm_isub (pc := 39) ok dx_Reader_nextNumber_39 ?_
        refine sm_iconst (pc := 40) (2 : Int32) ok dx_Reader_nextNumber_40 zk_2 ?_
        refine sm_icmp_ge (pc := 41) 68 ok dx_Reader_nextNumber_41 (by decide) (fun _ => ?_) (fun _ => ?_)
        · exact tx_Reader_nextNumber_b68 ok hr N ih _
        · refine sm_aload_n (pc := 44) 0 ok dx_Reader_nextNumber_44 rfl ?_
          refine sm_bipush (pc := 45) (10 : Int32) ok dx_Reader_nextNumber_45 zb_10 ?_
          refine sm_aload_n (pc := 47) 0 ok dx_Reader_nextNumber_47 rfl ?_
          refine sm_getI (pc := 48) (ci := 4) (k := 5) ok dx_Reader_nextNumber_48 rfl rfl zc_i4 (by decide) rfl wd_240 ?_
          refine sm_imul (pc := 51) ok dx_Reader_nextNumber_51 ?_
          refine sm_aload_n (pc := 52) 0 ok dx_Reader_nextNumber_52 rfl ?_
          refine sm_getR (pc := 53) (ci := 4) (k := 0) ok dx_Reader_nextNumber_53 rfl rfl zc_i4 (by decide) rfl wd_234 ?_
          refine sm_aload_n (pc := 56) 0 ok dx_Reader_nextNumber_56 rfl ?_
          refine sm_getI (pc := 57) (ci := 4) (k := 2) ok dx_Reader_nextNumber_57 rfl rfl zc_i4 (by decide) rfl wd_237 ?_
          refine sm_iald (pc := 60) ok dx_Reader_nextNumber_60 rfl ?_
          refine sm_iadd (pc := 61) ok dx_Reader_nextNumber_61 ?_
          refine sm_bipush (pc := 62) (48 : Int32) ok dx_Reader_nextNumber_62 zb_48 ?_
          refine sm_isub (pc := 64) ok dx_Reader_nextNumber_64 ?_
          refine sm_putI (pc := 65) (ci := 4) (k := 5) ok dx_Reader_nextNumber_65 rfl rfl zc_i4 zc_y4 zc_t4 zc_n4 (by decide) rfl rfl rfl wd_240 (fun S_4 => ?_)
          exact tx_Reader_nextNumber_b68 ok hr N ih _
set_option maxHeartbeats 4000000 in
set_option maxRecDepth 20000 in
theorem tx_Reader_nextNumber {x : sm_Cx} (ok : sm_Ok x zx_sy prog_6_method_13_code "LentShades$Reader" 1 1 20) (hr : (xh x).sig.returnType = none) (N : Nat) (S : sm_St) : sm_Sm x zx_sy prog_6_method_13_code (sm_Q x zx_sy (sm_Pv zx_sy (xw x))) (px_Reader_nextNumber N S) S 0 [(0, .ref ((xw x).2.2 102))] [] := by
  unfold px_Reader_nextNumber
  refine sm_aload_n (pc := 0) 0 ok dx_Reader_nextNumber_0 rfl ?_
  refine sm_iconst (pc := 1) (0 : Int32) ok dx_Reader_nextNumber_1 zk_0 ?_
  refine sm_putI (pc := 2) (ci := 4) (k := 5) ok dx_Reader_nextNumber_2 rfl rfl zc_i4 zc_y4 zc_t4 zc_n4 (by decide) rfl rfl rfl wd_240 (fun S_1 => ?_)
  exact tx_Reader_nextNumber_b5 ok hr N N _
theorem cx_Reader_nextNumber {l : Launch} {wc : sm_Wc} (hj : sm_inj zx_sy wc) (N : Nat) (S : sm_St) : sm_Ct l zx_sy wc yx_Reader_nextNumber prog_6_method_13_code 1 none 1 20 [.ref (wc.2.2 102)] S (sm_Pv zx_sy wc) (px_Reader_nextNumber N S) :=
  sm_entry (Pq := fun wc => sm_Pv zx_sy wc) (fun wc => [.ref (wc.2.2 102)]) (lv := fun wc => [(0, .ref (wc.2.2 102))]) (by decide) hj zx_ok zx_stb (fun _ => Nat.le_of_ble_eq_true rfl) (fun _ => rfl) (fun x _ ok hr => tx_Reader_nextNumber ok hr N S)
set_option maxHeartbeats 4000000 in
set_option maxRecDepth 20000 in
theorem tx_House_lends {x : sm_Cx} (ok : sm_Ok x zx_sy prog_4_method_5_code "LentShades$House" 2 0 0) (hr : (xh x).sig.returnType = (some .boolean)) (N : Nat) (S : sm_St) (p : Nat) (v1 : Int32) (hp : zx_sy.1 p = (12, 0)) : sm_Sm x zx_sy prog_4_method_5_code (sm_Q x zx_sy (sm_Pi zx_sy (xw x))) (px_House_lends N S p v1) S 0 [(0, .ref ((xw x).2.2 p)), (1, .int v1)] [] := by
  unfold px_House_lends
  refine sm_aload_n (pc := 0) 0 ok dx_House_lends_0 rfl ?_
  refine sm_getR (pc := 1) (ci := 2) (k := 0) ok dx_House_lends_1 hp rfl zc_i2 (by decide) rfl wd_160 ?_
  refine sm_iload_n (pc := 4) 1 ok dx_House_lends_4 rfl ?_
  refine sm_iald (pc := 5) ok dx_House_lends_5 (zx_House_1 hp) ?_
  refine sm_iconst (pc := 6) (2 : Int32) ok dx_House_lends_6 zk_2 ?_
  refine sm_icmp_eq (pc := 7) 24 ok dx_House_lends_7 (by decide) (fun _ => ?_) (fun _ => ?_)
  · refine sm_iconst (pc := 24) (0 : Int32) ok dx_House_lends_24 zk_0 ?_
    exact sm_zret (pc := 25) ok dx_House_lends_25 hr rfl
  · refine sm_aload_n (pc := 10) 0 ok dx_House_lends_10 rfl ?_
    refine sm_getR (pc := 11) (ci := 2) (k := 0) ok dx_House_lends_11 hp rfl zc_i2 (by decide) rfl wd_160 ?_
    refine sm_iload_n (pc := 14) 1 ok dx_House_lends_14 rfl ?_
    refine sm_iald (pc := 15) ok dx_House_lends_15 (zx_House_1 hp) ?_
    refine sm_iconst (pc := 16) (4 : Int32) ok dx_House_lends_16 zk_4 ?_
    refine sm_icmp_eq (pc := 17) 24 ok dx_House_lends_17 (by decide) (fun _ => ?_) (fun _ => ?_)
    · refine sm_iconst (pc := 24) (0 : Int32) ok dx_House_lends_24 zk_0 ?_
      exact sm_zret (pc := 25) ok dx_House_lends_25 hr rfl
    · refine sm_iconst (pc := 20) (1 : Int32) ok dx_House_lends_20 zk_1 ?_
      refine sm_goto (pc := 21) 25 ok dx_House_lends_21 (by decide) ?_
      exact sm_zret (pc := 25) ok dx_House_lends_25 hr rfl
theorem cx_House_lends {l : Launch} {wc : sm_Wc} (hj : sm_inj zx_sy wc) (N : Nat) (S : sm_St) (p : Nat) (v1 : Int32) (hp : zx_sy.1 p = (12, 0)) : sm_Ct l zx_sy wc yx_House_lends prog_4_method_5_code 2 (some .boolean) 0 0 [.ref (wc.2.2 p), .int v1] S (sm_Pi zx_sy wc) (px_House_lends N S p v1) :=
  sm_entry (Pq := fun wc => sm_Pi zx_sy wc) (fun wc => [.ref (wc.2.2 p), .int v1]) (lv := fun wc => [(0, .ref (wc.2.2 p)), (1, .int v1)]) (by decide) hj zx_ok zx_stb (fun _ => Nat.le_of_ble_eq_true rfl) (fun _ => rfl) (fun x _ ok hr => tx_House_lends ok hr N S p v1 hp)
set_option maxHeartbeats 4000000 in
set_option maxRecDepth 20000 in
theorem tx_Takings_ofCloths_b87 {x : sm_Cx} (ok : sm_Ok x zx_sy prog_10_method_3_code "LentShades$Takings" 6 1 21) (hr : (xh x).sig.returnType = (some .int)) (N : Nat) (q1 : Nat) (q3 : Nat) (hq1 : zx_sy.1 q1 = (12, 0)) (hq3 : (zx_sy.1 q3).1 = 0) (v2 : Int32) (v4 : Int32) (S : sm_St) : sm_Sm x zx_sy prog_10_method_3_code (sm_Q x zx_sy (sm_Pi zx_sy (xw x))) (px_Takings_ofCloths_b87 N q1 q3 v2 v4 S) S 87 [(0, .ref ((xw x).2.2 110)), (1, .ref ((xw x).2.2 q1)), (2, .int v2), (4, .int v4)] [] := by
  unfold px_Takings_ofCloths_b87
  refine sm_aload_n (pc := 87) 0 ok dx_Takings_ofCloths_87 rfl ?_
  refine sm_getR (pc := 88) (ci := 8) (k := 1) ok dx_Takings_ofCloths_88 rfl rfl zc_i8 (by decide) rfl wd_310 ?_
  refine sm_iload_n (pc := 91) 2 ok dx_Takings_ofCloths_91 rfl ?_
  refine sm_aald5 (pc := 92) ok dx_Takings_ofCloths_92 rfl (fun hb_10 => ?_)
  refine sm_iload_n (pc := 93) 2 ok dx_Takings_ofCloths_93 rfl ?_
  refine sm_aload_n (pc := 94) 1 ok dx_Takings_ofCloths_94 rfl ?_
  refine sm_getR (pc := 95) (ci := 2) (k := 1) ok dx_Takings_ofCloths_95 hq1 rfl zc_i2 (by decide) rfl wd_163 ?_
  refine sm_iload_n (pc := 98) 2 ok dx_Takings_ofCloths_98 rfl ?_
  refine sm_iald (pc := 99) ok dx_Takings_ofCloths_99 (zx_House_2 hq1) ?_
  refine sm_iconst (pc := 100) (1 : Int32) ok dx_Takings_ofCloths_100 zk_1 ?_
  refine sm_iadd (pc := 101) ok dx_Takings_ofCloths_101 ?_
  refine sm_iast (pc := 102) ok dx_Takings_ofCloths_102 (zx_rows 114 4 5 (by decide) hb_10) (fun S_11 => ?_)
  refine sm_iload (pc := 103) 3 ok dx_Takings_ofCloths_103 rfl ?_
  refine sm_aload_n (pc := 105) 0 ok dx_Takings_ofCloths_105 rfl ?_
  refine sm_getR (pc := 106) (ci := 8) (k := 1) ok dx_Takings_ofCloths_106 rfl rfl zc_i8 (by decide) rfl wd_310 ?_
  refine sm_iload_n (pc := 109) 2 ok dx_Takings_ofCloths_109 rfl ?_
  refine sm_aald5 (pc := 110) ok dx_Takings_ofCloths_110 rfl (fun hb_12 => ?_)
  refine sm_iload_n (pc := 111) 2 ok dx_Takings_ofCloths_111 rfl ?_
  refine sm_iald (pc := 112) ok dx_Takings_ofCloths_112 (zx_rows 114 4 5 (by decide) hb_12) ?_
  refine sm_iadd (pc := 113) ok dx_Takings_ofCloths_113 ?_
  refine sm_istore (pc := 114) (i := 4) ok dx_Takings_ofCloths_114 (by decide) (fun v => [(4, .int v), (0, .ref ((xw x).2.2 110)), (1, .ref ((xw x).2.2 q1)), (2, .int v2)]) (fun _ => rfl) (fun v4_13 => ?_)
  refine sm_iload (pc := 116) 0 ok dx_Takings_ofCloths_116 rfl ?_
  exact sm_iret (pc := 118) ok dx_Takings_ofCloths_118 hr
set_option maxHeartbeats 4000000 in
set_option maxRecDepth 20000 in
theorem tx_Takings_ofCloths_b46 {x : sm_Cx} (ok : sm_Ok x zx_sy prog_10_method_3_code "LentShades$Takings" 6 1 21) (hr : (xh x).sig.returnType = (some .int)) (N : Nat) (q1 : Nat) (q3 : Nat) (hq1 : zx_sy.1 q1 = (12, 0)) (hq3 : (zx_sy.1 q3).1 = 0) {r6 : Int32 → Int32 → Int32 → sm_St → Option (Int32 × sm_St)} (h6 : ∀ (v2 : Int32) (v4 : Int32) (v5 : Int32) (S : sm_St), sm_Sm x zx_sy prog_10_method_3_code (sm_Q x zx_sy (sm_Pi zx_sy (xw x))) (r6 v2 v4 v5 S) S 6 [(0, .ref ((xw x).2.2 110)), (1, .ref ((xw x).2.2 q1)), (2, .int v2), (3, .ref ((xw x).2.2 q3)), (4, .int v4), (5, .int v5)] []) (v2 : Int32) (v4 : Int32) (v5 : Int32) (b0 : Nat) (s1 : Int32) (s2 : Int32) (S : sm_St) (hb0 : (zx_sy.1 b0).1 = 0) : sm_Sm x zx_sy prog_10_method_3_code (sm_Q x zx_sy (sm_Pi zx_sy (xw x))) (px_Takings_ofCloths_b46 N q1 q3 r6 v2 v4 v5 b0 s1 s2 S) S 46 [(0, .ref ((xw x).2.2 110)), (1, .ref ((xw x).2.2 q1)), (2, .int v2), (3, .ref ((xw x).2.2 q3)), (4, .int v4), (5, .int v5)] [.int s2, .int s1, .ref ((xw x).2.2 b0)] := by
  unfold px_Takings_ofCloths_b46
  refine sm_iast (pc := 46) ok dx_Takings_ofCloths_46 (sm_sh0 hb0) (fun S_6 => ?_)
  refine sm_iload (pc := 47) 4 ok dx_Takings_ofCloths_47 rfl ?_
  refine sm_aload_n (pc := 49) 0 ok dx_Takings_ofCloths_49 rfl ?_
  refine sm_getR (pc := 50) (ci := 8) (k := 1) ok dx_Takings_ofCloths_50 rfl rfl zc_i8 (by decide) rfl wd_310 ?_
  refine sm_iload_n (pc := 53) 2 ok dx_Takings_ofCloths_53 rfl ?_
  refine sm_aald5 (pc := 54) ok dx_Takings_ofCloths_54 rfl (fun hb_7 => ?_)
  refine sm_iload (pc := 55) 5 ok dx_Takings_ofCloths_55 rfl ?_
  refine sm_iald (pc := 57) ok dx_Takings_ofCloths_57 (zx_rows 114 4 5 (by decide) hb_7) ?_
  refine sm_iadd (pc := 58) ok dx_Takings_ofCloths_58 ?_
  refine sm_istore (pc := 59) (i := 4) ok dx_Takings_ofCloths_59 (by decide) (fun v => [(4, .int v), (0, .ref ((xw x).2.2 110)), (1, .ref ((xw x).2.2 q1)), (2, .int v2), (3, .ref ((xw x).2.2 q3)), (5, .int v5)]) (fun _ => rfl) (fun v4_8 => ?_)
  refine sm_iinc (pc := 61) (i := 5) 5 (1 : Int32) ok dx_Takings_ofCloths_61 rfl zk_1 (by decide) (fun v => [(5, .int v), (4, .int v4_8), (0, .ref ((xw x).2.2 110)), (1, .ref ((xw x).2.2 q1)), (2, .int v2), (3, .ref ((xw x).2.2 q3))]) (fun _ => rfl) (fun v5_9 => ?_)
  refine sm_goto (pc := 64) 6 ok dx_Takings_ofCloths_64 (by decide) ?_
  refine sm_lv [2, 3, 4, 5, 1, 0] rfl ?_
  exact h6 _ _ _ _
set_option maxHeartbeats 4000000 in
set_option maxRecDepth 20000 in
theorem tx_Takings_ofCloths_b45 {x : sm_Cx} (ok : sm_Ok x zx_sy prog_10_method_3_code "LentShades$Takings" 6 1 21) (hr : (xh x).sig.returnType = (some .int)) (N : Nat) (q1 : Nat) (q3 : Nat) (hq1 : zx_sy.1 q1 = (12, 0)) (hq3 : (zx_sy.1 q3).1 = 0) {r6 : Int32 → Int32 → Int32 → sm_St → Option (Int32 × sm_St)} (h6 : ∀ (v2 : Int32) (v4 : Int32) (v5 : Int32) (S : sm_St), sm_Sm x zx_sy prog_10_method_3_code (sm_Q x zx_sy (sm_Pi zx_sy (xw x))) (r6 v2 v4 v5 S) S 6 [(0, .ref ((xw x).2.2 110)), (1, .ref ((xw x).2.2 q1)), (2, .int v2), (3, .ref ((xw x).2.2 q3)), (4, .int v4), (5, .int v5)] []) (v2 : Int32) (v4 : Int32) (v5 : Int32) (b0 : Nat) (s1 : Int32) (S : sm_St) (hb0 : (zx_sy.1 b0).1 = 0) : sm_Sm x zx_sy prog_10_method_3_code (sm_Q x zx_sy (sm_Pi zx_sy (xw x))) (px_Takings_ofCloths_b45 N q1 q3 r6 v2 v4 v5 b0 s1 S) S 45 [(0, .ref ((xw x).2.2 110)), (1, .ref ((xw x).2.2 q1)), (2, .int v2), (3, .ref ((xw x).2.2 q3)), (4, .int v4), (5, .int v5)] [.int s1, .ref ((xw x).2.2 b0)] := by
  unfold px_Takings_ofCloths_b45
  refine sm_iconst (pc := 45) (0 : Int32) ok dx_Takings_ofCloths_45 zk_0 ?_
  exact tx_Takings_ofCloths_b46 ok hr N q1 q3 hq1 hq3 h6 _ _ _ _ _ _
set_option maxHeartbeats 4000000 in
set_option maxRecDepth 20000 in
theorem tx_Takings_ofCloths_b6 {x : sm_Cx} (ok : sm_Ok x zx_sy prog_10_method_3_code "LentShades$Takings" 6 1 21) (hr : (xh x).sig.returnType = (some .int)) (N : Nat) (q1 : Nat) (q3 : Nat) (hq1 : zx_sy.1 q1 = (12, 0)) (hq3 : (zx_sy.1 q3).1 = 0) : ∀ (n : Nat) (v2 : Int32) (v4 : Int32) (v5 : Int32) (S : sm_St), sm_Sm x zx_sy prog_10_method_3_code (sm_Q x zx_sy (sm_Pi zx_sy (xw x))) (px_Takings_ofCloths_b6 N q1 q3 n v2 v4 v5 S) S 6 [(0, .ref ((xw x).2.2 110)), (1, .ref ((xw x).2.2 q1)), (2, .int v2), (3, .ref ((xw x).2.2 q3)), (4, .int v4), (5, .int v5)] [] := by
  intro n
  induction n with
  | zero =>
    intro v2 v4 v5 S
    exact sm_none
  | succ n ih =>
    intro v2 v4 v5 S
    show sm_Sm x zx_sy prog_10_method_3_code (sm_Q x zx_sy (sm_Pi zx_sy (xw x))) (if (S.1 110 5) ≤ v5 then (if sm_in v2 4 = true then (if (S.1 (q1 + 1) v2.toNatClampNeg) = (1 : Int32) then (px_Takings_ofCloths_b87 N q1 q3 v2 v4 S) else (if sm_in v2 4 = true then (if (S.1 (q1 + 1) v2.toNatClampNeg) = (3 : Int32) then (px_Takings_ofCloths_b87 N q1 q3 v2 v4 S) else (some (v4, S))) else none)) else none) else (if sm_in v2 4 = true then (if v5 = v2 then (px_Takings_ofCloths_b45 N q1 q3 (px_Takings_ofCloths_b6 N q1 q3 n) v2 v4 v5 (115 + v2.toNatClampNeg) v5 S) else (sm_b2 (px_House_lends N S q1 v5) (fun (r_5 : Int32) (S_4 : sm_St) => if r_5 = 0 then (px_Takings_ofCloths_b45 N q1 q3 (px_Takings_ofCloths_b6 N q1 q3 n) v2 v4 v5 (115 + v2.toNatClampNeg) v5 S_4) else (if sm_in v5 (zx_sy.1 q3).2 = true then (px_Takings_ofCloths_b46 N q1 q3 (px_Takings_ofCloths_b6 N q1 q3 n) v2 v4 v5 (115 + v2.toNatClampNeg) v5 (S_4.1 q3 v5.toNatClampNeg) S_4) else none)))) else none)) S 6 [(0, .ref ((xw x).2.2 110)), (1, .ref ((xw x).2.2 q1)), (2, .int v2), (3, .ref ((xw x).2.2 q3)), (4, .int v4), (5, .int v5)] []
    refine sm_iload (pc := 6) 5 ok dx_Takings_ofCloths_6 rfl ?_
    refine sm_aload_n (pc := 8) 0 ok dx_Takings_ofCloths_8 rfl ?_
    refine sm_getI (pc := 9) (ci := 8) (k := 5) ok dx_Takings_ofCloths_9 rfl rfl zc_i8 (by decide) rfl wd_316 ?_
    refine sm_icmp_ge (pc := 12) 67 ok dx_Takings_ofCloths_12 (by decide) (fun _ => ?_) (fun _ => ?_)
    · refine sm_aload_n (pc := 67) 1 ok dx_Takings_ofCloths_67 rfl ?_
      refine sm_getR (pc := 68) (ci := 2) (k := 0) ok dx_Takings_ofCloths_68 hq1 rfl zc_i2 (by decide) rfl wd_161 ?_
      refine sm_iload_n (pc := 71) 2 ok dx_Takings_ofCloths_71 rfl ?_
      refine sm_iald (pc := 72) ok dx_Takings_ofCloths_72 (zx_House_1 hq1) ?_
      refine sm_iconst (pc := 73) (1 : Int32) ok dx_Takings_ofCloths_73 zk_1 ?_
      refine sm_icmp_eq (pc := 74) 87 ok dx_Takings_ofCloths_74 (by decide) (fun _ => ?_) (fun _ => ?_)
      · refine sm_lv [0, 1, 2, 4] rfl ?_
        exact tx_Takings_ofCloths_b87 ok hr N q1 q3 hq1 hq3 _ _ _
      · refine sm_aload_n (pc := 77) 1 ok dx_Takings_ofCloths_77 rfl ?_
        refine sm_getR (pc := 78) (ci := 2) (k := 0) ok dx_Takings_ofCloths_78 hq1 rfl zc_i2 (by decide) rfl wd_161 ?_
        refine sm_iload_n (pc := 81) 2 ok dx_Takings_ofCloths_81 rfl ?_
        refine sm_iald (pc := 82) ok dx_Takings_ofCloths_82 (zx_House_1 hq1) ?_
        refine sm_iconst (pc := 83) (3 : Int32) ok dx_Takings_ofCloths_83 zk_3 ?_
        refine sm_icmp_ne (pc := 84) 116 ok dx_Takings_ofCloths_84 (by decide) (fun _ => ?_) (fun _ => ?_)
        · refine sm_iload (pc := 116) 4 ok dx_Takings_ofCloths_116 rfl ?_
          exact sm_iret (pc := 118) ok dx_Takings_ofCloths_118 hr
        · refine sm_lv [0, 1, 2, 4] rfl ?_
          exact tx_Takings_ofCloths_b87 ok hr N q1 q3 hq1 hq3 _ _ _
    · refine sm_aload_n (pc := 15) 0 ok dx_Takings_ofCloths_15 rfl ?_
      refine sm_getR (pc := 16) (ci := 8) (k := 1) ok dx_Takings_ofCloths_16 rfl rfl zc_i8 (by decide) rfl wd_310 ?_
      refine sm_iload_n (pc := 19) 2 ok dx_Takings_ofCloths_19 rfl ?_
      refine sm_aald5 (pc := 20) ok dx_Takings_ofCloths_20 rfl (fun hb_3 => ?_)
      refine sm_iload (pc := 21) 5 ok dx_Takings_ofCloths_21 rfl ?_
      refine sm_iload (pc := 23) 5 ok dx_Takings_ofCloths_23 rfl ?_
      refine sm_iload_n (pc := 25) 2 ok dx_Takings_ofCloths_25 rfl ?_
      refine sm_icmp_eq (pc := 26) 45 ok dx_Takings_ofCloths_26 (by decide) (fun _ => ?_) (fun _ => ?_)
      · exact tx_Takings_ofCloths_b45 ok hr N q1 q3 hq1 hq3 ih _ _ _ _ _ _ (sm_tag (zx_rows 114 4 5 (by decide) hb_3))
      · refine sm_aload_n (pc := 29) 1 ok dx_Takings_ofCloths_29 rfl ?_
        refine sm_iload (pc := 30) 5 ok dx_Takings_ofCloths_30 rfl ?_
        refine sm_callV_i (pc := 32) (ci := 2) [.int v5] ok dx_Takings_ofCloths_32 wd_639 mwx_House_lends hq1 rfl (Nat.le_of_ble_eq_true rfl) (Nat.le_of_ble_eq_true rfl) rfl rfl (Nat.le_of_ble_eq_true rfl) (cx_House_lends (sm_okj ok) N S q1 v5 hq1) (fun r_5 S_4 => ?_)
        refine sm_if_eq (pc := 35) 45 ok dx_Takings_ofCloths_35 (by decide) (fun _ => ?_) (fun _ => ?_)
        · exact tx_Takings_ofCloths_b45 ok hr N q1 q3 hq1 hq3 ih _ _ _ _ _ _ (sm_tag (zx_rows 114 4 5 (by decide) hb_3))
        · refine sm_aload_n (pc := 38) 3 ok dx_Takings_ofCloths_38 rfl ?_
          refine sm_iload (pc := 39) 5 ok dx_Takings_ofCloths_39 rfl ?_
          refine sm_iald (pc := 41) ok dx_Takings_ofCloths_41 (sm_sh0 hq3) ?_
          refine sm_goto (pc := 42) 46 ok dx_Takings_ofCloths_42 (by decide) ?_
          exact tx_Takings_ofCloths_b46 ok hr N q1 q3 hq1 hq3 ih _ _ _ _ _ _ _ (sm_tag (zx_rows 114 4 5 (by decide) hb_3))
set_option maxHeartbeats 4000000 in
set_option maxRecDepth 20000 in
theorem tx_Takings_ofCloths {x : sm_Cx} (ok : sm_Ok x zx_sy prog_10_method_3_code "LentShades$Takings" 6 1 21) (hr : (xh x).sig.returnType = (some .int)) (N : Nat) (S : sm_St) (q1 : Nat) (v2 : Int32) (q3 : Nat) (hq1 : zx_sy.1 q1 = (12, 0)) (hq3 : (zx_sy.1 q3).1 = 0) : sm_Sm x zx_sy prog_10_method_3_code (sm_Q x zx_sy (sm_Pi zx_sy (xw x))) (px_Takings_ofCloths N S q1 v2 q3) S 0 [(0, .ref ((xw x).2.2 110)), (1, .ref ((xw x).2.2 q1)), (2, .int v2), (3, .ref ((xw x).2.2 q3))] [] := by
  unfold px_Takings_ofCloths
  refine sm_iconst (pc := 0) (0 : Int32) ok dx_Takings_ofCloths_0 zk_0 ?_
  refine sm_istore (pc := 1) (i := 4) ok dx_Takings_ofCloths_1 (by decide) (fun v => [(4, .int v), (0, .ref ((xw x).2.2 110)), (1, .ref ((xw x).2.2 q1)), (2, .int v2), (3, .ref ((xw x).2.2 q3))]) (fun _ => rfl) (fun v4_1 => ?_)
  refine sm_iconst (pc := 3) (0 : Int32) ok dx_Takings_ofCloths_3 zk_0 ?_
  refine sm_istore (pc := 4) (i := 5) ok dx_Takings_ofCloths_4 (by decide) (fun v => [(5, .int v), (4, .int v4_1), (0, .ref ((xw x).2.2 110)), (1, .ref ((xw x).2.2 q1)), (2, .int v2), (3, .ref ((xw x).2.2 q3))]) (fun _ => rfl) (fun v5_2 => ?_)
  refine sm_lv [2, 3, 4, 5, 1, 0] rfl ?_
  exact tx_Takings_ofCloths_b6 ok hr N q1 q3 hq1 hq3 N _ _ _ _
theorem cx_Takings_ofCloths {l : Launch} {wc : sm_Wc} (hj : sm_inj zx_sy wc) (N : Nat) (S : sm_St) (q1 : Nat) (v2 : Int32) (q3 : Nat) (hq1 : zx_sy.1 q1 = (12, 0)) (hq3 : (zx_sy.1 q3).1 = 0) : sm_Ct l zx_sy wc yx_Takings_ofCloths prog_10_method_3_code 6 (some .int) 1 21 [.ref (wc.2.2 110), .ref (wc.2.2 q1), .int v2, .ref (wc.2.2 q3)] S (sm_Pi zx_sy wc) (px_Takings_ofCloths N S q1 v2 q3) :=
  sm_entry (Pq := fun wc => sm_Pi zx_sy wc) (fun wc => [.ref (wc.2.2 110), .ref (wc.2.2 q1), .int v2, .ref (wc.2.2 q3)]) (lv := fun wc => [(0, .ref (wc.2.2 110)), (1, .ref (wc.2.2 q1)), (2, .int v2), (3, .ref (wc.2.2 q3))]) (by decide) hj zx_ok zx_stb (fun _ => Nat.le_of_ble_eq_true rfl) (fun _ => rfl) (fun x _ ok hr => tx_Takings_ofCloths ok hr N S q1 v2 q3 hq1 hq3)
set_option maxHeartbeats 4000000 in
set_option maxRecDepth 20000 in
theorem tx_Takings_ofThings_b115 {x : sm_Cx} (ok : sm_Ok x zx_sy prog_10_method_4_code "LentShades$Takings" 9 0 0) (hr : (xh x).sig.returnType = (some .int)) (N : Nat) (q1 : Nat) (q3 : Nat) (q4 : Nat) (hq1 : zx_sy.1 q1 = (12, 0)) (hq3 : (zx_sy.1 q3).1 = 0) (hq4 : (zx_sy.1 q4).1 = 0) {r39 : Int32 → Int32 → Int32 → Int32 → sm_St → Option (Int32 × sm_St)} (h39 : ∀ (v2 : Int32) (v5 : Int32) (v6 : Int32) (v7 : Int32) (S : sm_St), sm_Sm x zx_sy prog_10_method_4_code (sm_Q x zx_sy (sm_Pi zx_sy (xw x))) (r39 v2 v5 v6 v7 S) S 39 [(0, .ref ((xw x).2.2 110)), (1, .ref ((xw x).2.2 q1)), (2, .int v2), (3, .ref ((xw x).2.2 q3)), (4, .ref ((xw x).2.2 q4)), (5, .int v5), (6, .int v6), (7, .int v7)] []) (v2 : Int32) (v5 : Int32) (v6 : Int32) (v7 : Int32) (S : sm_St) : sm_Sm x zx_sy prog_10_method_4_code (sm_Q x zx_sy (sm_Pi zx_sy (xw x))) (px_Takings_ofThings_b115 N q1 q3 q4 r39 v2 v5 v6 v7 S) S 115 [(0, .ref ((xw x).2.2 110)), (1, .ref ((xw x).2.2 q1)), (2, .int v2), (3, .ref ((xw x).2.2 q3)), (4, .ref ((xw x).2.2 q4)), (5, .int v5), (6, .int v6), (7, .int v7)] [] := by
  unfold px_Takings_ofThings_b115
  refine sm_iinc (pc := 115) (i := 7) 7 (1 : Int32) ok dx_Takings_ofThings_115 rfl zk_1 (by decide) (fun v => [(7, .int v), (0, .ref ((xw x).2.2 110)), (1, .ref ((xw x).2.2 q1)), (2, .int v2), (3, .ref ((xw x).2.2 q3)), (4, .ref ((xw x).2.2 q4)), (5, .int v5), (6, .int v6)]) (fun _ => rfl) (fun v7_12 => ?_)
  refine sm_goto (pc := 118) 39 ok dx_Takings_ofThings_118 (by decide) ?_
  refine sm_lv [1, 2, 3, 4, 5, 6, 7, 0] rfl ?_
  exact h39 _ _ _ _ _
set_option maxHeartbeats 4000000 in
set_option maxRecDepth 20000 in
theorem tx_Takings_ofThings_b39 {x : sm_Cx} (ok : sm_Ok x zx_sy prog_10_method_4_code "LentShades$Takings" 9 0 0) (hr : (xh x).sig.returnType = (some .int)) (N : Nat) (q1 : Nat) (q3 : Nat) (q4 : Nat) (hq1 : zx_sy.1 q1 = (12, 0)) (hq3 : (zx_sy.1 q3).1 = 0) (hq4 : (zx_sy.1 q4).1 = 0) : ∀ (n : Nat) (v2 : Int32) (v5 : Int32) (v6 : Int32) (v7 : Int32) (S : sm_St), sm_Sm x zx_sy prog_10_method_4_code (sm_Q x zx_sy (sm_Pi zx_sy (xw x))) (px_Takings_ofThings_b39 N q1 q3 q4 n v2 v5 v6 v7 S) S 39 [(0, .ref ((xw x).2.2 110)), (1, .ref ((xw x).2.2 q1)), (2, .int v2), (3, .ref ((xw x).2.2 q3)), (4, .ref ((xw x).2.2 q4)), (5, .int v5), (6, .int v6), (7, .int v7)] [] := by
  intro n
  induction n with
  | zero =>
    intro v2 v5 v6 v7 S
    exact sm_none
  | succ n ih =>
    intro v2 v5 v6 v7 S
    show sm_Sm x zx_sy prog_10_method_4_code (sm_Q x zx_sy (sm_Pi zx_sy (xw x))) (if (S.1 q1 10) ≤ v7 then (some (v5, S)) else (if sm_in ((4 : Int32) + v7) (zx_sy.1 q3).2 = true then (sm_lt (v6 * (S.1 q3 ((4 : Int32) + v7).toNatClampNeg)) (fun (v8_7 : Int32) => if sm_in v2 4 = true then (if sm_in (4 : Int32) 5 = true then (if sm_in v7 (zx_sy.1 q4).2 = true then (if sm_in (4 : Int32) 5 = true then sm_lt (sm_sI S (115 + v2.toNatClampNeg) (4 : Int32).toNatClampNeg ((S.1 (115 + v2.toNatClampNeg) (4 : Int32).toNatClampNeg) + (v8_7 * (S.1 q4 v7.toNatClampNeg)))) (fun (S_9 : sm_St) => sm_lt (v5 + v8_7) (fun (v5_10 : Int32) => if v8_7 ≤ 0 then (px_Takings_ofThings_b115 N q1 q3 q4 (px_Takings_ofThings_b39 N q1 q3 q4 n) v2 v5_10 v6 v7 S_9) else (if sm_in v7 (zx_sy.1 q4).2 = true then (if sm_in v2 4 = true then (if (S_9.1 q4 v7.toNatClampNeg) ≤ (S_9.1 121 v2.toNatClampNeg) then (px_Takings_ofThings_b115 N q1 q3 q4 (px_Takings_ofThings_b39 N q1 q3 q4 n) v2 v5_10 v6 v7 S_9) else (if sm_in v7 (zx_sy.1 q4).2 = true then (if sm_in v2 4 = true then sm_lt (sm_sI S_9 121 v2.toNatClampNeg (S_9.1 q4 v7.toNatClampNeg)) (fun (S_11 : sm_St) => px_Takings_ofThings_b115 N q1 q3 q4 (px_Takings_ofThings_b39 N q1 q3 q4 n) v2 v5_10 v6 v7 S_11) else none) else none)) else none) else none))) else none) else none) else none) else none)) else none)) S 39 [(0, .ref ((xw x).2.2 110)), (1, .ref ((xw x).2.2 q1)), (2, .int v2), (3, .ref ((xw x).2.2 q3)), (4, .ref ((xw x).2.2 q4)), (5, .int v5), (6, .int v6), (7, .int v7)] []
    refine sm_iload (pc := 39) 7 ok dx_Takings_ofThings_39 rfl ?_
    refine sm_aload_n (pc := 41) 1 ok dx_Takings_ofThings_41 rfl ?_
    refine sm_getI (pc := 42) (ci := 2) (k := 10) ok dx_Takings_ofThings_42 hq1 rfl zc_i2 (by decide) rfl wd_191 ?_
    refine sm_icmp_ge (pc := 45) 121 ok dx_Takings_ofThings_45 (by decide) (fun _ => ?_) (fun _ => ?_)
    · refine sm_iload (pc := 121) 5 ok dx_Takings_ofThings_121 rfl ?_
      exact sm_iret (pc := 123) ok dx_Takings_ofThings_123 hr
    · refine sm_iload (pc := 48) 6 ok dx_Takings_ofThings_48 rfl ?_
      refine sm_aload_n (pc := 50) 3 ok dx_Takings_ofThings_50 rfl ?_
      refine sm_iconst (pc := 51) (4 : Int32) ok dx_Takings_ofThings_51 zk_4 ?_
      refine sm_iload (pc := 52) 7 ok dx_Takings_ofThings_52 rfl ?_
      refine sm_iadd (pc := 54) ok dx_Takings_ofThings_54 ?_
      refine sm_iald (pc := 55) ok dx_Takings_ofThings_55 (sm_sh0 hq3) ?_
      refine sm_imul (pc := 56) ok dx_Takings_ofThings_56 ?_
      refine sm_istore (pc := 57) (i := 8) ok dx_Takings_ofThings_57 (by decide) (fun v => [(8, .int v), (0, .ref ((xw x).2.2 110)), (1, .ref ((xw x).2.2 q1)), (2, .int v2), (3, .ref ((xw x).2.2 q3)), (4, .ref ((xw x).2.2 q4)), (5, .int v5), (6, .int v6), (7, .int v7)]) (fun _ => rfl) (fun v8_7 => ?_)
      refine sm_aload_n (pc := 59) 1 ok dx_Takings_ofThings_59 rfl ?_
      refine sm_getR (pc := 60) (ci := 8) (k := 1) ok dx_Takings_ofThings_60 rfl rfl zc_i8 (by decide) rfl wd_310 ?_
      refine sm_iload_n (pc := 63) 3 ok dx_Takings_ofThings_63 rfl ?_
      refine sm_aald5 (pc := 64) ok dx_Takings_ofThings_64 rfl (fun hb_8 => ?_)
      refine sm_iconst (pc := 65) (4 : Int32) ok dx_Takings_ofThings_65 zk_4 ?_
      refine sm_dup2 (pc := 66) ok dx_Takings_ofThings_66 rfl rfl ?_
      refine sm_iald (pc := 67) ok dx_Takings_ofThings_67 (zx_rows 114 4 5 (by decide) hb_8) ?_
      refine sm_iload (pc := 68) 0 ok dx_Takings_ofThings_68 rfl ?_
      refine sm_aload (pc := 70) 5 ok dx_Takings_ofThings_70 rfl ?_
      refine sm_iload (pc := 72) 8 ok dx_Takings_ofThings_72 rfl ?_
      refine sm_iald (pc := 74) ok dx_Takings_ofThings_74 (sm_sh0 hq4) ?_
      refine sm_imul (pc := 75) ok dx_Takings_ofThings_75 ?_
      refine sm_iadd (pc := 76) ok dx_Takings_ofThings_76 ?_
      refine sm_iast (pc := 77) ok dx_Takings_ofThings_77 (zx_rows 114 4 5 (by decide) hb_8) (fun S_9 => ?_)
      refine sm_iload (pc := 78) 6 ok dx_Takings_ofThings_78 rfl ?_
      refine sm_iload (pc := 80) 0 ok dx_Takings_ofThings_80 rfl ?_
      refine sm_iadd (pc := 82) ok dx_Takings_ofThings_82 ?_
      refine sm_istore (pc := 83) (i := 5) ok dx_Takings_ofThings_83 (by decide) (fun v => [(5, .int v), (8, .int v8_7), (0, .ref ((xw x).2.2 110)), (1, .ref ((xw x).2.2 q1)), (2, .int v2), (3, .ref ((xw x).2.2 q3)), (4, .ref ((xw x).2.2 q4)), (6, .int v6), (7, .int v7)]) (fun _ => rfl) (fun v5_10 => ?_)
      refine sm_iload (pc := 85) 1 ok dx_Takings_ofThings_85 rfl ?_
      refine sm_if_le (pc := 87) 115 ok dx_Takings_ofThings_87 (by decide) (fun _ => ?_) (fun _ => ?_)
      · refine sm_lv [2, 3, 4, 5, 6, 0, 7, 8] rfl ?_
        exact tx_Takings_ofThings_b115 ok hr N q1 q3 q4 hq1 hq3 hq4 ih _ _ _ _ _
      · refine sm_aload (pc := 90) 6 ok dx_Takings_ofThings_90 rfl ?_
        refine sm_iload (pc := 92) 8 ok dx_Takings_ofThings_92 rfl ?_
        refine sm_iald (pc := 94) ok dx_Takings_ofThings_94 (sm_sh0 hq4) ?_
        refine sm_aload_n (pc := 95) 2 ok dx_Takings_ofThings_95 rfl ?_
        refine sm_getR (pc := 96) (ci := 8) (k := 4) ok dx_Takings_ofThings_96 rfl rfl zc_i8 (by decide) rfl wd_315 ?_
        refine sm_iload_n (pc := 99) 4 ok dx_Takings_ofThings_99 rfl ?_
        refine sm_iald (pc := 100) ok dx_Takings_ofThings_100 rfl ?_
        refine sm_icmp_le (pc := 101) 115 ok dx_Takings_ofThings_101 (by decide) (fun _ => ?_) (fun _ => ?_)
        · refine sm_lv [2, 3, 4, 5, 6, 0, 7, 8] rfl ?_
          exact tx_Takings_ofThings_b115 ok hr N q1 q3 q4 hq1 hq3 hq4 ih _ _ _ _ _
        · refine sm_aload_n (pc := 104) 2 ok dx_Takings_ofThings_104 rfl ?_
          refine sm_getR (pc := 105) (ci := 8) (k := 4) ok dx_Takings_ofThings_105 rfl rfl zc_i8 (by decide) rfl wd_315 ?_
          refine sm_iload_n (pc := 108) 4 ok dx_Takings_ofThings_108 rfl ?_
          refine sm_aload (pc := 109) 6 ok dx_Takings_ofThings_109 rfl ?_
          refine sm_iload (pc := 111) 8 ok dx_Takings_ofThings_111 rfl ?_
          refine sm_iald (pc := 113) ok dx_Takings_ofThings_113 (sm_sh0 hq4) ?_
          refine sm_iast (pc := 114) ok dx_Takings_ofThings_114 rfl (fun S_11 => ?_)
          refine sm_lv [2, 3, 4, 5, 6, 0, 7, 8] rfl ?_
          exact tx_Takings_ofThings_b115 ok hr N q1 q3 q4 hq1 hq3 hq4 ih _ _ _ _ _
set_option maxHeartbeats 4000000 in
set_option maxRecDepth 20000 in
theorem tx_Takings_ofThings_b18 {x : sm_Cx} (ok : sm_Ok x zx_sy prog_10_method_4_code "LentShades$Takings" 9 0 0) (hr : (xh x).sig.returnType = (some .int)) (N : Nat) (q1 : Nat) (q3 : Nat) (q4 : Nat) (hq1 : zx_sy.1 q1 = (12, 0)) (hq3 : (zx_sy.1 q3).1 = 0) (hq4 : (zx_sy.1 q4).1 = 0) (v2 : Int32) (v5 : Int32) (s0 : Int32) (S : sm_St) : sm_Sm x zx_sy prog_10_method_4_code (sm_Q x zx_sy (sm_Pi zx_sy (xw x))) (px_Takings_ofThings_b18 N q1 q3 q4 v2 v5 s0 S) S 18 [(0, .ref ((xw x).2.2 110)), (1, .ref ((xw x).2.2 q1)), (2, .int v2), (3, .ref ((xw x).2.2 q3)), (4, .ref ((xw x).2.2 q4)), (5, .int v5)] [.int s0] := by
  unfold px_Takings_ofThings_b18
  refine sm_istore (pc := 18) (i := 6) ok dx_Takings_ofThings_18 (by decide) (fun v => [(6, .int v), (0, .ref ((xw x).2.2 110)), (1, .ref ((xw x).2.2 q1)), (2, .int v2), (3, .ref ((xw x).2.2 q3)), (4, .ref ((xw x).2.2 q4)), (5, .int v5)]) (fun _ => rfl) (fun v6_2 => ?_)
  refine sm_aload_n (pc := 20) 1 ok dx_Takings_ofThings_20 rfl ?_
  refine sm_getR (pc := 21) (ci := 8) (k := 1) ok dx_Takings_ofThings_21 rfl rfl zc_i8 (by decide) rfl wd_310 ?_
  refine sm_iload_n (pc := 24) 3 ok dx_Takings_ofThings_24 rfl ?_
  refine sm_aald5 (pc := 25) ok dx_Takings_ofThings_25 rfl (fun hb_3 => ?_)
  refine sm_iconst (pc := 26) (4 : Int32) ok dx_Takings_ofThings_26 zk_4 ?_
  refine sm_iconst (pc := 27) (0 : Int32) ok dx_Takings_ofThings_27 zk_0 ?_
  refine sm_iast (pc := 28) ok dx_Takings_ofThings_28 (zx_rows 114 4 5 (by decide) hb_3) (fun S_4 => ?_)
  refine sm_aload_n (pc := 29) 1 ok dx_Takings_ofThings_29 rfl ?_
  refine sm_getR (pc := 30) (ci := 8) (k := 4) ok dx_Takings_ofThings_30 rfl rfl zc_i8 (by decide) rfl wd_315 ?_
  refine sm_iload_n (pc := 33) 3 ok dx_Takings_ofThings_33 rfl ?_
  refine sm_iconst (pc := 34) (-1 : Int32) ok dx_Takings_ofThings_34 zk_m1 ?_
  refine sm_iast (pc := 35) ok dx_Takings_ofThings_35 rfl (fun S_5 => ?_)
  refine sm_iconst (pc := 36) (0 : Int32) ok dx_Takings_ofThings_36 zk_0 ?_
  refine sm_istore (pc := 37) (i := 7) ok dx_Takings_ofThings_37 (by decide) (fun v => [(7, .int v), (6, .int v6_2), (0, .ref ((xw x).2.2 110)), (1, .ref ((xw x).2.2 q1)), (2, .int v2), (3, .ref ((xw x).2.2 q3)), (4, .ref ((xw x).2.2 q4)), (5, .int v5)]) (fun _ => rfl) (fun v7_6 => ?_)
  refine sm_lv [2, 3, 4, 5, 6, 7, 1, 0] rfl ?_
  exact tx_Takings_ofThings_b39 ok hr N q1 q3 q4 hq1 hq3 hq4 N _ _ _ _ _
set_option maxHeartbeats 4000000 in
set_option maxRecDepth 20000 in
theorem tx_Takings_ofThings {x : sm_Cx} (ok : sm_Ok x zx_sy prog_10_method_4_code "LentShades$Takings" 9 0 0) (hr : (xh x).sig.returnType = (some .int)) (N : Nat) (S : sm_St) (q1 : Nat) (v2 : Int32) (q3 : Nat) (q4 : Nat) (hq1 : zx_sy.1 q1 = (12, 0)) (hq3 : (zx_sy.1 q3).1 = 0) (hq4 : (zx_sy.1 q4).1 = 0) : sm_Sm x zx_sy prog_10_method_4_code (sm_Q x zx_sy (sm_Pi zx_sy (xw x))) (px_Takings_ofThings N S q1 v2 q3 q4) S 0 [(0, .ref ((xw x).2.2 110)), (1, .ref ((xw x).2.2 q1)), (2, .int v2), (3, .ref ((xw x).2.2 q3)), (4, .ref ((xw x).2.2 q4))] [] := by
  unfold px_Takings_ofThings
  refine sm_iconst (pc := 0) (0 : Int32) ok dx_Takings_ofThings_0 zk_0 ?_
  refine sm_istore (pc := 1) (i := 5) ok dx_Takings_ofThings_1 (by decide) (fun v => [(5, .int v), (0, .ref ((xw x).2.2 110)), (1, .ref ((xw x).2.2 q1)), (2, .int v2), (3, .ref ((xw x).2.2 q3)), (4, .ref ((xw x).2.2 q4))]) (fun _ => rfl) (fun v5_1 => ?_)
  refine sm_aload_n (pc := 3) 2 ok dx_Takings_ofThings_3 rfl ?_
  refine sm_getR (pc := 4) (ci := 2) (k := 0) ok dx_Takings_ofThings_4 hq1 rfl zc_i2 (by decide) rfl wd_161 ?_
  refine sm_iload_n (pc := 7) 3 ok dx_Takings_ofThings_7 rfl ?_
  refine sm_iald (pc := 8) ok dx_Takings_ofThings_8 (zx_House_1 hq1) ?_
  refine sm_iconst (pc := 9) (3 : Int32) ok dx_Takings_ofThings_9 zk_3 ?_
  refine sm_icmp_ne (pc := 10) 17 ok dx_Takings_ofThings_10 (by decide) (fun _ => ?_) (fun _ => ?_)
  · refine sm_iconst (pc := 17) (1 : Int32) ok dx_Takings_ofThings_17 zk_1 ?_
    refine sm_lv [1, 2, 3, 4, 5, 0] rfl ?_
    exact tx_Takings_ofThings_b18 ok hr N q1 q3 q4 hq1 hq3 hq4 _ _ _ _
  · refine sm_iconst (pc := 13) (2 : Int32) ok dx_Takings_ofThings_13 zk_2 ?_
    refine sm_goto (pc := 14) 18 ok dx_Takings_ofThings_14 (by decide) ?_
    refine sm_lv [1, 2, 3, 4, 5, 0] rfl ?_
    exact tx_Takings_ofThings_b18 ok hr N q1 q3 q4 hq1 hq3 hq4 _ _ _ _
theorem cx_Takings_ofThings {l : Launch} {wc : sm_Wc} (hj : sm_inj zx_sy wc) (N : Nat) (S : sm_St) (q1 : Nat) (v2 : Int32) (q3 : Nat) (q4 : Nat) (hq1 : zx_sy.1 q1 = (12, 0)) (hq3 : (zx_sy.1 q3).1 = 0) (hq4 : (zx_sy.1 q4).1 = 0) : sm_Ct l zx_sy wc yx_Takings_ofThings prog_10_method_4_code 9 (some .int) 0 0 [.ref (wc.2.2 110), .ref (wc.2.2 q1), .int v2, .ref (wc.2.2 q3), .ref (wc.2.2 q4)] S (sm_Pi zx_sy wc) (px_Takings_ofThings N S q1 v2 q3 q4) :=
  sm_entry (Pq := fun wc => sm_Pi zx_sy wc) (fun wc => [.ref (wc.2.2 110), .ref (wc.2.2 q1), .int v2, .ref (wc.2.2 q3), .ref (wc.2.2 q4)]) (lv := fun wc => [(0, .ref (wc.2.2 110)), (1, .ref (wc.2.2 q1)), (2, .int v2), (3, .ref (wc.2.2 q3)), (4, .ref (wc.2.2 q4))]) (by decide) hj zx_ok zx_stb (fun _ => Nat.le_of_ble_eq_true rfl) (fun _ => rfl) (fun x _ ok hr => tx_Takings_ofThings ok hr N S q1 v2 q3 q4 hq1 hq3 hq4)
set_option maxHeartbeats 4000000 in
set_option maxRecDepth 20000 in
theorem tx_L_greatestDivisor_b7 {x : sm_Cx} (ok : sm_Ok x zx_sy prog_1_method_43_code "LentShades" 6 0 0) (hr : (xh x).sig.returnType = (some .int)) (N : Nat) : ∀ (n : Nat) (v2 : Int32) (v3 : Int32) (v4 : Int32) (S : sm_St), sm_Sm x zx_sy prog_1_method_43_code (sm_Q x zx_sy (sm_Pi zx_sy (xw x))) (px_L_greatestDivisor_b7 N n v2 v3 v4 S) S 7 [(2, .int v2), (3, .int v3), (4, .int v4)] [] := by
  intro n
  induction n with
  | zero =>
    intro v2 v3 v4 S
    exact sm_none
  | succ n ih =>
    intro v2 v3 v4 S
    show sm_Sm x zx_sy prog_1_method_43_code (sm_Q x zx_sy (sm_Pi zx_sy (xw x))) (if (64 : Int32) ≤ v4 then (some (v2, S)) else (if v3 = 0 then (some (v2, S)) else (if v3 = 0 then none else (sm_lt (v2 - v2 / v3 * v3) (fun (v5_4 : Int32) => sm_lt v3 (fun (v2_5 : Int32) => sm_lt v5_4 (fun (v3_6 : Int32) => sm_lt (v4 + (1 : Int32)) (fun (v4_7 : Int32) => (px_L_greatestDivisor_b7 N n) v2_5 v3_6 v4_7 S)))))))) S 7 [(2, .int v2), (3, .int v3), (4, .int v4)] []
    refine sm_iload (pc := 7) 2 ok dx_L_greatestDivisor_7 rfl ?_
    refine sm_bipush (pc := 9) (64 : Int32) ok dx_L_greatestDivisor_9 zb_64 ?_
    refine sm_icmp_ge (pc := 11) 34 ok dx_L_greatestDivisor_11 (by decide) (fun _ => ?_) (fun _ => ?_)
    · refine sm_iload_n (pc := 34) 0 ok dx_L_greatestDivisor_34 rfl ?_
      exact sm_iret (pc := 35) ok dx_L_greatestDivisor_35 hr
    · refine sm_iload_n (pc := 14) 1 ok dx_L_greatestDivisor_14 rfl ?_
      refine sm_if_eq (pc := 15) 34 ok dx_L_greatestDivisor_15 (by decide) (fun _ => ?_) (fun _ => ?_)
      · refine sm_iload_n (pc := 34) 0 ok dx_L_greatestDivisor_34 rfl ?_
        exact sm_iret (pc := 35) ok dx_L_greatestDivisor_35 hr
      · refine sm_iload_n (pc := 18) 0 ok dx_L_greatestDivisor_18 rfl ?_
        refine sm_iload_n (pc := 19) 1 ok dx_L_greatestDivisor_19 rfl ?_
        refine sm_irem (pc := 20) ok dx_L_greatestDivisor_20 ?_
        refine sm_istore (pc := 21) (i := 5) ok dx_L_greatestDivisor_21 (by decide) (fun v => [(5, .int v), (2, .int v2), (3, .int v3), (4, .int v4)]) (fun _ => rfl) (fun v5_4 => ?_)
        refine sm_iload_n (pc := 23) 2 ok dx_L_greatestDivisor_23 rfl ?_
        refine sm_istore_n (pc := 24) (i := 2) ok dx_L_greatestDivisor_24 rfl (by decide) (fun v => [(2, .int v), (5, .int v5_4), (3, .int v3), (4, .int v4)]) (fun _ => rfl) (fun v2_5 => ?_)
        refine sm_iload (pc := 25) 1 ok dx_L_greatestDivisor_25 rfl ?_
        refine sm_istore_n (pc := 27) (i := 3) ok dx_L_greatestDivisor_27 rfl (by decide) (fun v => [(3, .int v), (2, .int v2_5), (5, .int v5_4), (4, .int v4)]) (fun _ => rfl) (fun v3_6 => ?_)
        refine sm_iinc (pc := 28) (i := 4) 3 (1 : Int32) ok dx_L_greatestDivisor_28 rfl zk_1 (by decide) (fun v => [(4, .int v), (3, .int v3_6), (2, .int v2_5), (5, .int v5_4)]) (fun _ => rfl) (fun v4_7 => ?_)
        refine sm_goto (pc := 31) 7 ok dx_L_greatestDivisor_31 (by decide) ?_
        refine sm_lv [2, 1, 0] rfl ?_
        exact ih _ _ _ _
set_option maxHeartbeats 4000000 in
set_option maxRecDepth 20000 in
theorem tx_L_greatestDivisor {x : sm_Cx} (ok : sm_Ok x zx_sy prog_1_method_43_code "LentShades" 6 0 0) (hr : (xh x).sig.returnType = (some .int)) (N : Nat) (S : sm_St) (v0 : Int32) (v1 : Int32) : sm_Sm x zx_sy prog_1_method_43_code (sm_Q x zx_sy (sm_Pi zx_sy (xw x))) (px_L_greatestDivisor N S v0 v1) S 0 [(0, .int v0), (1, .int v1)] [] := by
  unfold px_L_greatestDivisor
  refine sm_iload_n (pc := 0) 0 ok dx_L_greatestDivisor_0 rfl ?_
  refine sm_istore_n (pc := 1) (i := 2) ok dx_L_greatestDivisor_1 rfl (by decide) (fun v => [(2, .int v), (0, .int v0), (1, .int v1)]) (fun _ => rfl) (fun v2_1 => ?_)
  refine sm_iload_n (pc := 2) 2 ok dx_L_greatestDivisor_2 rfl ?_
  refine sm_istore_n (pc := 3) (i := 3) ok dx_L_greatestDivisor_3 rfl (by decide) (fun v => [(3, .int v), (2, .int v2_1), (0, .int v0), (1, .int v1)]) (fun _ => rfl) (fun v3_2 => ?_)
  refine sm_iconst (pc := 4) (0 : Int32) ok dx_L_greatestDivisor_4 zk_0 ?_
  refine sm_istore (pc := 5) (i := 4) ok dx_L_greatestDivisor_5 (by decide) (fun v => [(4, .int v), (3, .int v3_2), (2, .int v2_1), (0, .int v0), (1, .int v1)]) (fun _ => rfl) (fun v4_3 => ?_)
  refine sm_lv [2, 1, 0] rfl ?_
  exact tx_L_greatestDivisor_b7 ok hr N N _ _ _ _
theorem cx_L_greatestDivisor {l : Launch} {wc : sm_Wc} (hj : sm_inj zx_sy wc) (N : Nat) (S : sm_St) (v0 : Int32) (v1 : Int32) : sm_Ct l zx_sy wc yx_L_greatestDivisor prog_1_method_43_code 6 (some .int) 0 0 [.int v0, .int v1] S (sm_Pi zx_sy wc) (px_L_greatestDivisor N S v0 v1) :=
  sm_entry (Pq := fun wc => sm_Pi zx_sy wc) (fun wc => [.int v0, .int v1]) (lv := fun wc => [(0, .int v0), (1, .int v1)]) (by decide) hj zx_ok zx_stb (fun _ => Nat.le_of_ble_eq_true rfl) (fun _ => rfl) (fun x _ ok hr => tx_L_greatestDivisor ok hr N S v0 v1)
set_option maxHeartbeats 4000000 in
set_option maxRecDepth 20000 in
theorem tx_Takings_reckon_b147 {x : sm_Cx} (ok : sm_Ok x zx_sy prog_10_method_2_code "LentShades$Takings" 7 2 46) (hr : (xh x).sig.returnType = none) (N : Nat) (q1 : Nat) (q2 : Nat) (q3 : Nat) (hq1 : zx_sy.1 q1 = (12, 0)) (hq2 : (zx_sy.1 q2).1 = 5) (hq3 : (zx_sy.1 q3).1 = 0) {r16 : Int32 → sm_St → Option (sm_St)} (h16 : ∀ (v4 : Int32) (S : sm_St), sm_Sm x zx_sy prog_10_method_2_code (sm_Q x zx_sy (sm_Pv zx_sy (xw x))) (r16 v4 S) S 16 [(0, .ref ((xw x).2.2 110)), (1, .ref ((xw x).2.2 q1)), (2, .ref ((xw x).2.2 q2)), (3, .ref ((xw x).2.2 q3)), (4, .int v4)] []) (v4 : Int32) (S : sm_St) : sm_Sm x zx_sy prog_10_method_2_code (sm_Q x zx_sy (sm_Pv zx_sy (xw x))) (px_Takings_reckon_b147 N q1 q2 q3 r16 v4 S) S 147 [(0, .ref ((xw x).2.2 110)), (1, .ref ((xw x).2.2 q1)), (2, .ref ((xw x).2.2 q2)), (3, .ref ((xw x).2.2 q3)), (4, .int v4)] [] := by
  unfold px_Takings_reckon_b147
  refine sm_iinc (pc := 147) (i := 4) 4 (1 : Int32) ok dx_Takings_reckon_147 rfl zk_1 (by decide) (fun v => [(4, .int v), (0, .ref ((xw x).2.2 110)), (1, .ref ((xw x).2.2 q1)), (2, .ref ((xw x).2.2 q2)), (3, .ref ((xw x).2.2 q3))]) (fun _ => rfl) (fun v4_17 => ?_)
  refine sm_goto (pc := 150) 16 ok dx_Takings_reckon_150 (by decide) ?_
  refine sm_lv [1, 2, 3, 4, 0] rfl ?_
  exact h16 _ _
set_option maxHeartbeats 4000000 in
set_option maxRecDepth 20000 in
theorem tx_Takings_reckon_b96 {x : sm_Cx} (ok : sm_Ok x zx_sy prog_10_method_2_code "LentShades$Takings" 7 2 46) (hr : (xh x).sig.returnType = none) (N : Nat) (q1 : Nat) (q2 : Nat) (q3 : Nat) (hq1 : zx_sy.1 q1 = (12, 0)) (hq2 : (zx_sy.1 q2).1 = 5) (hq3 : (zx_sy.1 q3).1 = 0) {r16 : Int32 → sm_St → Option (sm_St)} (h16 : ∀ (v4 : Int32) (S : sm_St), sm_Sm x zx_sy prog_10_method_2_code (sm_Q x zx_sy (sm_Pv zx_sy (xw x))) (r16 v4 S) S 16 [(0, .ref ((xw x).2.2 110)), (1, .ref ((xw x).2.2 q1)), (2, .ref ((xw x).2.2 q2)), (3, .ref ((xw x).2.2 q3)), (4, .int v4)] []) (v4 : Int32) (s1 : Int32) (s2 : Int32) (S : sm_St) : sm_Sm x zx_sy prog_10_method_2_code (sm_Q x zx_sy (sm_Pv zx_sy (xw x))) (px_Takings_reckon_b96 N q1 q2 q3 r16 v4 s1 s2 S) S 96 [(0, .ref ((xw x).2.2 110)), (1, .ref ((xw x).2.2 q1)), (2, .ref ((xw x).2.2 q2)), (3, .ref ((xw x).2.2 q3)), (4, .int v4)] [.int s2, .int s1, .ref ((xw x).2.2 119)] := by
  unfold px_Takings_reckon_b96
  refine sm_iast (pc := 96) ok dx_Takings_reckon_96 rfl (fun S_12 => ?_)
  refine sm_aload_n (pc := 97) 0 ok dx_Takings_reckon_97 rfl ?_
  refine sm_getI (pc := 98) (ci := 8) (k := 6) ok dx_Takings_reckon_98 rfl rfl zc_i8 (by decide) rfl wd_318 ?_
  refine sm_aload_n (pc := 101) 0 ok dx_Takings_reckon_101 rfl ?_
  refine sm_getR (pc := 102) (ci := 8) (k := 2) ok dx_Takings_reckon_102 rfl rfl zc_i8 (by decide) rfl wd_312 ?_
  refine sm_iload (pc := 105) 4 ok dx_Takings_reckon_105 rfl ?_
  refine sm_iald (pc := 107) ok dx_Takings_reckon_107 rfl ?_
  refine sm_callSN_i (pc := 108) [.int (S_12.1 110 6), .int (S_12.1 119 v4.toNatClampNeg)] ok dx_Takings_reckon_108 wd_647 mwx_L_greatestDivisor (Nat.le_of_ble_eq_true rfl) (Nat.le_of_ble_eq_true rfl) rfl rfl (Nat.le_of_ble_eq_true rfl) (cx_L_greatestDivisor (sm_okj ok) N S_12 (S_12.1 110 6) (S_12.1 119 v4.toNatClampNeg)) (fun r_14 S_13 => ?_)
  refine sm_istore (pc := 111) (i := 6) ok dx_Takings_reckon_111 (by decide) (fun v => [(6, .int v), (0, .ref ((xw x).2.2 110)), (1, .ref ((xw x).2.2 q1)), (2, .ref ((xw x).2.2 q2)), (3, .ref ((xw x).2.2 q3)), (4, .int v4)]) (fun _ => rfl) (fun v6_15 => ?_)
  refine sm_aload_n (pc := 113) 1 ok dx_Takings_reckon_113 rfl ?_
  refine sm_getR (pc := 114) (ci := 8) (k := 2) ok dx_Takings_reckon_114 rfl rfl zc_i8 (by decide) rfl wd_312 ?_
  refine sm_iload (pc := 117) 5 ok dx_Takings_reckon_117 rfl ?_
  refine sm_iald (pc := 119) ok dx_Takings_reckon_119 rfl ?_
  refine sm_if_le (pc := 120) 147 ok dx_Takings_reckon_120 (by decide) (fun _ => ?_) (fun _ => ?_)
  · refine sm_lv [1, 2, 3, 4, 5] rfl ?_
    exact tx_Takings_reckon_b147 ok hr N q1 q2 q3 hq1 hq2 hq3 h16 _ _
  · refine sm_iload (pc := 123) 0 ok dx_Takings_reckon_123 rfl ?_
    refine sm_if_le (pc := 125) 147 ok dx_Takings_reckon_125 (by decide) (fun _ => ?_) (fun _ => ?_)
    · refine sm_lv [1, 2, 3, 4, 5] rfl ?_
      exact tx_Takings_reckon_b147 ok hr N q1 q2 q3 hq1 hq2 hq3 h16 _ _
    · refine sm_aload_n (pc := 128) 1 ok dx_Takings_reckon_128 rfl ?_
      refine sm_aload_n (pc := 129) 1 ok dx_Takings_reckon_129 rfl ?_
      refine sm_getI (pc := 130) (ci := 8) (k := 6) ok dx_Takings_reckon_130 rfl rfl zc_i8 (by decide) rfl wd_318 ?_
      refine sm_iload (pc := 133) 0 ok dx_Takings_reckon_133 rfl ?_
      refine sm_idiv (pc := 135) ok dx_Takings_reckon_135 ?_
      refine sm_aload_n (pc := 136) 1 ok dx_Takings_reckon_136 rfl ?_
      refine sm_getR (pc := 137) (ci := 8) (k := 2) ok dx_Takings_reckon_137 rfl rfl zc_i8 (by decide) rfl wd_312 ?_
      refine sm_iload (pc := 140) 5 ok dx_Takings_reckon_140 rfl ?_
      refine sm_iald (pc := 142) ok dx_Takings_reckon_142 rfl ?_
      refine sm_imul (pc := 143) ok dx_Takings_reckon_143 ?_
      refine sm_putI (pc := 144) (ci := 8) (k := 6) ok dx_Takings_reckon_144 rfl rfl zc_i8 zc_y8 zc_t8 zc_n8 (by decide) rfl rfl rfl wd_318 (fun S_16 => ?_)
      refine sm_lv [1, 2, 3, 4, 5] rfl ?_
      exact tx_Takings_reckon_b147 ok hr N q1 q2 q3 hq1 hq2 hq3 h16 _ _
set_option maxHeartbeats 4000000 in
set_option maxRecDepth 20000 in
theorem tx_Takings_reckon_b47 {x : sm_Cx} (ok : sm_Ok x zx_sy prog_10_method_2_code "LentShades$Takings" 7 2 46) (hr : (xh x).sig.returnType = none) (N : Nat) (q1 : Nat) (q2 : Nat) (q3 : Nat) (hq1 : zx_sy.1 q1 = (12, 0)) (hq2 : (zx_sy.1 q2).1 = 5) (hq3 : (zx_sy.1 q3).1 = 0) {r16 : Int32 → sm_St → Option (sm_St)} (h16 : ∀ (v4 : Int32) (S : sm_St), sm_Sm x zx_sy prog_10_method_2_code (sm_Q x zx_sy (sm_Pv zx_sy (xw x))) (r16 v4 S) S 16 [(0, .ref ((xw x).2.2 110)), (1, .ref ((xw x).2.2 q1)), (2, .ref ((xw x).2.2 q2)), (3, .ref ((xw x).2.2 q3)), (4, .int v4)] []) (v4 : Int32) (s1 : Int32) (s2 : Int32) (S : sm_St) : sm_Sm x zx_sy prog_10_method_2_code (sm_Q x zx_sy (sm_Pv zx_sy (xw x))) (px_Takings_reckon_b47 N q1 q2 q3 r16 v4 s1 s2 S) S 47 [(0, .ref ((xw x).2.2 110)), (1, .ref ((xw x).2.2 q1)), (2, .ref ((xw x).2.2 q2)), (3, .ref ((xw x).2.2 q3)), (4, .int v4)] [.int s2, .int s1, .ref ((xw x).2.2 120)] := by
  unfold px_Takings_reckon_b47
  refine sm_zast (pc := 47) ok dx_Takings_reckon_47 rfl (fun S_4 => ?_)
  refine sm_aload_n (pc := 48) 0 ok dx_Takings_reckon_48 rfl ?_
  refine sm_aload_n (pc := 49) 1 ok dx_Takings_reckon_49 rfl ?_
  refine sm_iload (pc := 50) 4 ok dx_Takings_reckon_50 rfl ?_
  refine sm_aload_n (pc := 52) 2 ok dx_Takings_reckon_52 rfl ?_
  refine sm_iload (pc := 53) 4 ok dx_Takings_reckon_53 rfl ?_
  refine sm_aald5 (pc := 55) ok dx_Takings_reckon_55 (sm_sh0 hq2) (fun hb_5 => ?_)
  refine sm_callV_i (pc := 56) (ci := 8) [.ref ((xw x).2.2 q1), .int v4, .ref ((xw x).2.2 (q2 + 1 + v4.toNatClampNeg))] ok dx_Takings_reckon_56 wd_635 mwx_Takings_ofCloths rfl rfl (Nat.le_of_ble_eq_true rfl) (Nat.le_of_ble_eq_true rfl) rfl rfl (Nat.le_of_ble_eq_true rfl) (cx_Takings_ofCloths (sm_okj ok) N S_4 q1 v4 (q2 + 1 + v4.toNatClampNeg) hq1 (sm_tag (zx_rowq (sm_sh0 hq2) hb_5))) (fun r_7 S_6 => ?_)
  refine sm_aload_n (pc := 59) 0 ok dx_Takings_reckon_59 rfl ?_
  refine sm_aload_n (pc := 60) 1 ok dx_Takings_reckon_60 rfl ?_
  refine sm_iload (pc := 61) 4 ok dx_Takings_reckon_61 rfl ?_
  refine sm_aload_n (pc := 63) 2 ok dx_Takings_reckon_63 rfl ?_
  refine sm_iload (pc := 64) 4 ok dx_Takings_reckon_64 rfl ?_
  refine sm_aald5 (pc := 66) ok dx_Takings_reckon_66 (sm_sh0 hq2) (fun hb_8 => ?_)
  refine sm_aload_n (pc := 67) 3 ok dx_Takings_reckon_67 rfl ?_
  refine sm_callV_i (pc := 68) (ci := 8) [.ref ((xw x).2.2 q1), .int v4, .ref ((xw x).2.2 (q2 + 1 + v4.toNatClampNeg)), .ref ((xw x).2.2 q3)] ok dx_Takings_reckon_68 wd_643 mwx_Takings_ofThings rfl rfl (Nat.le_of_ble_eq_true rfl) (Nat.le_of_ble_eq_true rfl) rfl rfl (Nat.le_of_ble_eq_true rfl) (cx_Takings_ofThings (sm_okj ok) N S_6 q1 v4 (q2 + 1 + v4.toNatClampNeg) q3 hq1 (sm_tag (zx_rowq (sm_sh0 hq2) hb_8)) (sm_tag (sm_sh0 hq3))) (fun r_10 S_9 => ?_)
  refine sm_iadd (pc := 71) ok dx_Takings_reckon_71 ?_
  refine sm_istore (pc := 72) (i := 5) ok dx_Takings_reckon_72 (by decide) (fun v => [(5, .int v), (0, .ref ((xw x).2.2 110)), (1, .ref ((xw x).2.2 q1)), (2, .ref ((xw x).2.2 q2)), (3, .ref ((xw x).2.2 q3)), (4, .int v4)]) (fun _ => rfl) (fun v5_11 => ?_)
  refine sm_aload_n (pc := 74) 1 ok dx_Takings_reckon_74 rfl ?_
  refine sm_getR (pc := 75) (ci := 8) (k := 2) ok dx_Takings_reckon_75 rfl rfl zc_i8 (by decide) rfl wd_312 ?_
  refine sm_iload (pc := 78) 5 ok dx_Takings_reckon_78 rfl ?_
  refine sm_aload_n (pc := 80) 1 ok dx_Takings_reckon_80 rfl ?_
  refine sm_getR (pc := 81) (ci := 8) (k := 3) ok dx_Takings_reckon_81 rfl rfl zc_i8 (by decide) rfl wd_314 ?_
  refine sm_iload (pc := 84) 5 ok dx_Takings_reckon_84 rfl ?_
  refine sm_zald (pc := 86) ok dx_Takings_reckon_86 rfl ?_
  refine sm_if_eq (pc := 87) 94 ok dx_Takings_reckon_87 (by decide) (fun _ => ?_) (fun _ => ?_)
  · refine sm_iload (pc := 94) 0 ok dx_Takings_reckon_94 rfl ?_
    refine sm_lv [1, 2, 3, 4, 5] rfl ?_
    exact tx_Takings_reckon_b96 ok hr N q1 q2 q3 hq1 hq2 hq3 h16 _ _ _ _
  · refine sm_iconst (pc := 90) (0 : Int32) ok dx_Takings_reckon_90 zk_0 ?_
    refine sm_goto (pc := 91) 96 ok dx_Takings_reckon_91 (by decide) ?_
    refine sm_lv [1, 2, 3, 4, 5] rfl ?_
    exact tx_Takings_reckon_b96 ok hr N q1 q2 q3 hq1 hq2 hq3 h16 _ _ _ _
set_option maxHeartbeats 4000000 in
set_option maxRecDepth 20000 in
theorem tx_Takings_reckon_b16 {x : sm_Cx} (ok : sm_Ok x zx_sy prog_10_method_2_code "LentShades$Takings" 7 2 46) (hr : (xh x).sig.returnType = none) (N : Nat) (q1 : Nat) (q2 : Nat) (q3 : Nat) (hq1 : zx_sy.1 q1 = (12, 0)) (hq2 : (zx_sy.1 q2).1 = 5) (hq3 : (zx_sy.1 q3).1 = 0) : ∀ (n : Nat) (v4 : Int32) (S : sm_St), sm_Sm x zx_sy prog_10_method_2_code (sm_Q x zx_sy (sm_Pv zx_sy (xw x))) (px_Takings_reckon_b16 N q1 q2 q3 n v4 S) S 16 [(0, .ref ((xw x).2.2 110)), (1, .ref ((xw x).2.2 q1)), (2, .ref ((xw x).2.2 q2)), (3, .ref ((xw x).2.2 q3)), (4, .int v4)] [] := by
  intro n
  induction n with
  | zero =>
    intro v4 S
    exact sm_none
  | succ n ih =>
    intro v4 S
    show sm_Sm x zx_sy prog_10_method_2_code (sm_Q x zx_sy (sm_Pv zx_sy (xw x))) (if (S.1 110 5) ≤ v4 then (some S) else (if sm_in v4 4 = true then (if (S.1 (q1 + 1) v4.toNatClampNeg) = (4 : Int32) then (px_Takings_reckon_b47 N q1 q2 q3 (px_Takings_reckon_b16 N q1 q2 q3 n) v4 v4 (1 : Int32) S) else (px_Takings_reckon_b47 N q1 q2 q3 (px_Takings_reckon_b16 N q1 q2 q3 n) v4 v4 (0 : Int32) S)) else none)) S 16 [(0, .ref ((xw x).2.2 110)), (1, .ref ((xw x).2.2 q1)), (2, .ref ((xw x).2.2 q2)), (3, .ref ((xw x).2.2 q3)), (4, .int v4)] []
    refine sm_iload (pc := 16) 4 ok dx_Takings_reckon_16 rfl ?_
    refine sm_aload_n (pc := 18) 0 ok dx_Takings_reckon_18 rfl ?_
    refine sm_getI (pc := 19) (ci := 8) (k := 5) ok dx_Takings_reckon_19 rfl rfl zc_i8 (by decide) rfl wd_316 ?_
    refine sm_icmp_ge (pc := 22) 153 ok dx_Takings_reckon_22 (by decide) (fun _ => ?_) (fun _ => ?_)
    · exact sm_vret (pc := 153) ok dx_Takings_reckon_153 hr
    · refine sm_aload_n (pc := 25) 0 ok dx_Takings_reckon_25 rfl ?_
      refine sm_getR (pc := 26) (ci := 8) (k := 3) ok dx_Takings_reckon_26 rfl rfl zc_i8 (by decide) rfl wd_314 ?_
      refine sm_iload (pc := 29) 4 ok dx_Takings_reckon_29 rfl ?_
      refine sm_aload_n (pc := 31) 1 ok dx_Takings_reckon_31 rfl ?_
      refine sm_getR (pc := 32) (ci := 2) (k := 0) ok dx_Takings_reckon_32 hq1 rfl zc_i2 (by decide) rfl wd_161 ?_
      refine sm_iload (pc := 35) 4 ok dx_Takings_reckon_35 rfl ?_
      refine sm_iald (pc := 37) ok dx_Takings_reckon_37 (zx_House_1 hq1) ?_
      refine sm_iconst (pc := 38) (4 : Int32) ok dx_Takings_reckon_38 zk_4 ?_
      refine sm_icmp_ne (pc := 39) 46 ok dx_Takings_reckon_39 (by decide) (fun _ => ?_) (fun _ => ?_)
      · refine sm_iconst (pc := 46) (0 : Int32) ok dx_Takings_reckon_46 zk_0 ?_
        exact tx_Takings_reckon_b47 ok hr N q1 q2 q3 hq1 hq2 hq3 ih _ _ _ _
      · refine sm_iconst (pc := 42) (1 : Int32) ok dx_Takings_reckon_42 zk_1 ?_
        refine sm_goto (pc := 43) 47 ok dx_Takings_reckon_43 (by decide) ?_
        exact tx_Takings_reckon_b47 ok hr N q1 q2 q3 hq1 hq2 hq3 ih _ _ _ _
set_option maxHeartbeats 4000000 in
set_option maxRecDepth 20000 in
theorem tx_Takings_reckon {x : sm_Cx} (ok : sm_Ok x zx_sy prog_10_method_2_code "LentShades$Takings" 7 2 46) (hr : (xh x).sig.returnType = none) (N : Nat) (S : sm_St) (q1 : Nat) (q2 : Nat) (q3 : Nat) (hq1 : zx_sy.1 q1 = (12, 0)) (hq2 : (zx_sy.1 q2).1 = 5) (hq3 : (zx_sy.1 q3).1 = 0) : sm_Sm x zx_sy prog_10_method_2_code (sm_Q x zx_sy (sm_Pv zx_sy (xw x))) (px_Takings_reckon N S q1 q2 q3) S 0 [(0, .ref ((xw x).2.2 110)), (1, .ref ((xw x).2.2 q1)), (2, .ref ((xw x).2.2 q2)), (3, .ref ((xw x).2.2 q3))] [] := by
  unfold px_Takings_reckon
  refine sm_aload_n (pc := 0) 0 ok dx_Takings_reckon_0 rfl ?_
  refine sm_aload_n (pc := 1) 1 ok dx_Takings_reckon_1 rfl ?_
  refine sm_getI (pc := 2) (ci := 2) (k := 9) ok dx_Takings_reckon_2 hq1 rfl zc_i2 (by decide) rfl wd_185 ?_
  refine sm_putI (pc := 5) (ci := 8) (k := 5) ok dx_Takings_reckon_5 rfl rfl zc_i8 zc_y8 zc_t8 zc_n8 (by decide) rfl rfl rfl wd_316 (fun S_1 => ?_)
  refine sm_aload_n (pc := 8) 0 ok dx_Takings_reckon_8 rfl ?_
  refine sm_iconst (pc := 9) (1 : Int32) ok dx_Takings_reckon_9 zk_1 ?_
  refine sm_putI (pc := 10) (ci := 8) (k := 6) ok dx_Takings_reckon_10 rfl rfl zc_i8 zc_y8 zc_t8 zc_n8 (by decide) rfl rfl rfl wd_318 (fun S_2 => ?_)
  refine sm_iconst (pc := 13) (0 : Int32) ok dx_Takings_reckon_13 zk_0 ?_
  refine sm_istore (pc := 14) (i := 4) ok dx_Takings_reckon_14 (by decide) (fun v => [(4, .int v), (0, .ref ((xw x).2.2 110)), (1, .ref ((xw x).2.2 q1)), (2, .ref ((xw x).2.2 q2)), (3, .ref ((xw x).2.2 q3))]) (fun _ => rfl) (fun v4_3 => ?_)
  refine sm_lv [1, 2, 3, 4, 0] rfl ?_
  exact tx_Takings_reckon_b16 ok hr N q1 q2 q3 hq1 hq2 hq3 N _ _
theorem cx_Takings_reckon {l : Launch} {wc : sm_Wc} (hj : sm_inj zx_sy wc) (N : Nat) (S : sm_St) (q1 : Nat) (q2 : Nat) (q3 : Nat) (hq1 : zx_sy.1 q1 = (12, 0)) (hq2 : (zx_sy.1 q2).1 = 5) (hq3 : (zx_sy.1 q3).1 = 0) : sm_Ct l zx_sy wc yx_Takings_reckon prog_10_method_2_code 7 none 2 46 [.ref (wc.2.2 110), .ref (wc.2.2 q1), .ref (wc.2.2 q2), .ref (wc.2.2 q3)] S (sm_Pv zx_sy wc) (px_Takings_reckon N S q1 q2 q3) :=
  sm_entry (Pq := fun wc => sm_Pv zx_sy wc) (fun wc => [.ref (wc.2.2 110), .ref (wc.2.2 q1), .ref (wc.2.2 q2), .ref (wc.2.2 q3)]) (lv := fun wc => [(0, .ref (wc.2.2 110)), (1, .ref (wc.2.2 q1)), (2, .ref (wc.2.2 q2)), (3, .ref (wc.2.2 q3))]) (by decide) hj zx_ok zx_stb (fun _ => Nat.le_of_ble_eq_true rfl) (fun _ => rfl) (fun x _ ok hr => tx_Takings_reckon ok hr N S q1 q2 q3 hq1 hq2 hq3)
set_option maxHeartbeats 4000000 in
set_option maxRecDepth 20000 in
theorem tx_Sum_begin_b2 {x : sm_Cx} (ok : sm_Ok x zx_sy prog_9_method_2_code "LentShades$Sum" 2 0 0) (hr : (xh x).sig.returnType = none) (N : Nat) (p : Nat) (hp : zx_sy.1 p = (17, 0)) : ∀ (n : Nat) (v1 : Int32) (S : sm_St), sm_Sm x zx_sy prog_9_method_2_code (sm_Q x zx_sy (sm_Pv zx_sy (xw x))) (px_Sum_begin_b2 N p n v1 S) S 2 [(0, .ref ((xw x).2.2 p)), (1, .int v1)] [] := by
  intro n
  induction n with
  | zero =>
    intro v1 S
    exact sm_none
  | succ n ih =>
    intro v1 S
    show sm_Sm x zx_sy prog_9_method_2_code (sm_Q x zx_sy (sm_Pv zx_sy (xw x))) (if (5 : Int32) ≤ v1 then (some S) else (if sm_in v1 5 = true then sm_lt (sm_sL S (p + 1) v1.toNatClampNeg (0 : Int64)) (fun (S_2 : sm_St) => sm_lt (v1 + (1 : Int32)) (fun (v1_3 : Int32) => (px_Sum_begin_b2 N p n) v1_3 S_2)) else none)) S 2 [(0, .ref ((xw x).2.2 p)), (1, .int v1)] []
    refine sm_iload_n (pc := 2) 1 ok dx_Sum_begin_2 rfl ?_
    refine sm_iconst (pc := 3) (5 : Int32) ok dx_Sum_begin_3 zk_5 ?_
    refine sm_icmp_ge (pc := 4) 20 ok dx_Sum_begin_4 (by decide) (fun _ => ?_) (fun _ => ?_)
    · exact sm_vret (pc := 20) ok dx_Sum_begin_20 hr
    · refine sm_aload_n (pc := 7) 0 ok dx_Sum_begin_7 rfl ?_
      refine sm_getR (pc := 8) (ci := 7) (k := 0) ok dx_Sum_begin_8 hp rfl zc_i7 (by decide) rfl wd_286 ?_
      refine sm_iload_n (pc := 11) 1 ok dx_Sum_begin_11 rfl ?_
      refine sm_lconst (pc := 12) (0 : Int64) ok dx_Sum_begin_12 zl_0 ?_
      refine sm_last (pc := 13) ok dx_Sum_begin_13 (zx_Sum_1 hp) (fun S_2 => ?_)
      refine sm_iinc (pc := 14) (i := 1) 1 (1 : Int32) ok dx_Sum_begin_14 rfl zk_1 (by decide) (fun v => [(1, .int v), (0, .ref ((xw x).2.2 p))]) (fun _ => rfl) (fun v1_3 => ?_)
      refine sm_goto (pc := 17) 2 ok dx_Sum_begin_17 (by decide) ?_
      refine sm_lv [1, 0] rfl ?_
      exact ih _ _
set_option maxHeartbeats 4000000 in
set_option maxRecDepth 20000 in
theorem tx_Sum_begin {x : sm_Cx} (ok : sm_Ok x zx_sy prog_9_method_2_code "LentShades$Sum" 2 0 0) (hr : (xh x).sig.returnType = none) (N : Nat) (S : sm_St) (p : Nat) (hp : zx_sy.1 p = (17, 0)) : sm_Sm x zx_sy prog_9_method_2_code (sm_Q x zx_sy (sm_Pv zx_sy (xw x))) (px_Sum_begin N S p) S 0 [(0, .ref ((xw x).2.2 p))] [] := by
  unfold px_Sum_begin
  refine sm_iconst (pc := 0) (0 : Int32) ok dx_Sum_begin_0 zk_0 ?_
  refine sm_istore_n (pc := 1) (i := 1) ok dx_Sum_begin_1 rfl (by decide) (fun v => [(1, .int v), (0, .ref ((xw x).2.2 p))]) (fun _ => rfl) (fun v1_1 => ?_)
  refine sm_lv [1, 0] rfl ?_
  exact tx_Sum_begin_b2 ok hr N p hp N _ _
theorem cx_Sum_begin {l : Launch} {wc : sm_Wc} (hj : sm_inj zx_sy wc) (N : Nat) (S : sm_St) (p : Nat) (hp : zx_sy.1 p = (17, 0)) : sm_Ct l zx_sy wc yx_Sum_begin prog_9_method_2_code 2 none 0 0 [.ref (wc.2.2 p)] S (sm_Pv zx_sy wc) (px_Sum_begin N S p) :=
  sm_entry (Pq := fun wc => sm_Pv zx_sy wc) (fun wc => [.ref (wc.2.2 p)]) (lv := fun wc => [(0, .ref (wc.2.2 p))]) (by decide) hj zx_ok zx_stb (fun _ => Nat.le_of_ble_eq_true rfl) (fun _ => rfl) (fun x _ ok hr => tx_Sum_begin ok hr N S p hp)
set_option maxHeartbeats 4000000 in
set_option maxRecDepth 20000 in
theorem tx_Sum_write_b108 {x : sm_Cx} (ok : sm_Ok x zx_sy prog_9_method_3_code "LentShades$Sum" 9 0 0) (hr : (xh x).sig.returnType = none) (N : Nat) (p : Nat) (q1 : Nat) (q2 : Nat) (hp : zx_sy.1 p = (17, 0)) (hq1 : zx_sy.1 q1 = (16, 0)) (hq2 : (zx_sy.1 q2).1 = 0) : ∀ (n : Nat) (v3 : Int32) (v4 : Int64) (v6 : Int32) (S : sm_St), sm_Sm x zx_sy prog_9_method_3_code (sm_Q x zx_sy (sm_Pv zx_sy (xw x))) (px_Sum_write_b108 N p q1 q2 n v3 v4 v6 S) S 108 [(0, .ref ((xw x).2.2 p)), (1, .ref ((xw x).2.2 q1)), (2, .ref ((xw x).2.2 q2)), (3, .int v3), (4, .long v4), (6, .int v6)] [] := by
  intro n
  induction n with
  | zero =>
    intro v3 v4 v6 S
    exact sm_none
  | succ n ih =>
    intro v3 v4 v6 S
    show sm_Sm x zx_sy prog_9_method_3_code (sm_Q x zx_sy (sm_Pv zx_sy (xw x))) (if (S.1 q1 1) ≤ v6 then (if sm_in (v3 + (S.1 q1 1)) (zx_sy.1 q2).2 = true then sm_lt (sm_sI S q2 (v3 + (S.1 q1 1)).toNatClampNeg (v4.toInt32)) (fun (S_12 : sm_St) => some S_12) else none) else (if sm_in v6 20 = true then (sm_lt ((S.2.1 (p + 2) v6.toNatClampNeg) + v4) (fun (v7_13 : Int64) => if sm_in (v3 + v6) (zx_sy.1 q2).2 = true then sm_lt (sm_sI S q2 (v3 + v6).toNatClampNeg ((v7_13 &&& (1073741823 : Int64)).toInt32)) (fun (S_14 : sm_St) => sm_lt (v7_13 >>> ((30 : Int32).toInt64 &&& 63)) (fun (v4_15 : Int64) => sm_lt (v6 + (1 : Int32)) (fun (v6_16 : Int32) => (px_Sum_write_b108 N p q1 q2 n) v3 v4_15 v6_16 S_14))) else none)) else none)) S 108 [(0, .ref ((xw x).2.2 p)), (1, .ref ((xw x).2.2 q1)), (2, .ref ((xw x).2.2 q2)), (3, .int v3), (4, .long v4), (6, .int v6)] []
    refine sm_iload (pc := 108) 5 ok dx_Sum_write_108 rfl ?_
    refine sm_aload_n (pc := 110) 1 ok dx_Sum_write_110 rfl ?_
    refine sm_getI (pc := 111) (ci := 6) (k := 1) ok dx_Sum_write_111 hq1 rfl zc_i6 (by decide) rfl wd_151 ?_
    refine sm_icmp_ge (pc := 114) 155 ok dx_Sum_write_114 (by decide) (fun _ => ?_) (fun _ => ?_)
    · refine sm_aload_n (pc := 155) 2 ok dx_Sum_write_155 rfl ?_
      refine sm_iload_n (pc := 156) 3 ok dx_Sum_write_156 rfl ?_
      refine sm_aload_n (pc := 157) 1 ok dx_Sum_write_157 rfl ?_
      refine sm_getI (pc := 158) (ci := 6) (k := 1) ok dx_Sum_write_158 hq1 rfl zc_i6 (by decide) rfl wd_151 ?_
      refine sm_iadd (pc := 161) ok dx_Sum_write_161 ?_
      refine sm_lload (pc := 162) 4 ok dx_Sum_write_162 rfl ?_
      refine sm_l2i (pc := 164) ok dx_Sum_write_164 ?_
      refine sm_iast (pc := 165) ok dx_Sum_write_165 (sm_sh0 hq2) (fun S_12 => ?_)
      exact sm_vret (pc := 166) ok dx_Sum_write_166 hr
    · refine sm_aload_n (pc := 117) 0 ok dx_Sum_write_117 rfl ?_
      refine sm_getR (pc := 118) (ci := 7) (k := 1) ok dx_Sum_write_118 hp rfl zc_i7 (by decide) rfl wd_291 ?_
      refine sm_iload (pc := 121) 5 ok dx_Sum_write_121 rfl ?_
      refine sm_lald (pc := 123) ok dx_Sum_write_123 (zx_Sum_2 hp) ?_
      refine sm_lload (pc := 124) 4 ok dx_Sum_write_124 rfl ?_
      refine sm_ladd (pc := 126) ok dx_Sum_write_126 ?_
      refine sm_lstore (pc := 127) (i := 7) ok dx_Sum_write_127 (by decide) (fun v => [(7, .long v), (0, .ref ((xw x).2.2 p)), (1, .ref ((xw x).2.2 q1)), (2, .ref ((xw x).2.2 q2)), (3, .int v3), (4, .long v4), (6, .int v6)]) (fun _ => rfl) (fun v7_13 => ?_)
      refine sm_aload_n (pc := 129) 3 ok dx_Sum_write_129 rfl ?_
      refine sm_iload_n (pc := 130) 4 ok dx_Sum_write_130 rfl ?_
      refine sm_iload (pc := 131) 6 ok dx_Sum_write_131 rfl ?_
      refine sm_iadd (pc := 133) ok dx_Sum_write_133 ?_
      refine sm_lload (pc := 134) 0 ok dx_Sum_write_134 rfl ?_
      refine sm_ldc2 (pc := 136) ok dx_Sum_write_136 wd_678 ?_
      refine sm_land (pc := 139) ok dx_Sum_write_139 ?_
      refine sm_l2i (pc := 140) ok dx_Sum_write_140 ?_
      refine sm_iast (pc := 141) ok dx_Sum_write_141 (sm_sh0 hq2) (fun S_14 => ?_)
      refine sm_lload (pc := 142) 0 ok dx_Sum_write_142 rfl ?_
      refine sm_bipush (pc := 144) (30 : Int32) ok dx_Sum_write_144 zb_30 ?_
      refine sm_lshr (pc := 146) ok dx_Sum_write_146 ?_
      refine sm_lstore (pc := 147) (i := 4) ok dx_Sum_write_147 (by decide) (fun v => [(4, .long v), (7, .long v7_13), (0, .ref ((xw x).2.2 p)), (1, .ref ((xw x).2.2 q1)), (2, .ref ((xw x).2.2 q2)), (3, .int v3), (6, .int v6)]) (fun _ => rfl) (fun v4_15 => ?_)
      refine sm_iinc (pc := 149) (i := 6) 6 (1 : Int32) ok dx_Sum_write_149 rfl zk_1 (by decide) (fun v => [(6, .int v), (4, .long v4_15), (7, .long v7_13), (0, .ref ((xw x).2.2 p)), (1, .ref ((xw x).2.2 q1)), (2, .ref ((xw x).2.2 q2)), (3, .int v3)]) (fun _ => rfl) (fun v6_16 => ?_)
      refine sm_goto (pc := 152) 108 ok dx_Sum_write_152 (by decide) ?_
      refine sm_lv [3, 4, 5, 6, 1, 0] rfl ?_
      exact ih _ _ _ _
set_option maxHeartbeats 4000000 in
set_option maxRecDepth 20000 in
theorem tx_Sum_write_b96 {x : sm_Cx} (ok : sm_Ok x zx_sy prog_9_method_3_code "LentShades$Sum" 9 0 0) (hr : (xh x).sig.returnType = none) (N : Nat) (p : Nat) (q1 : Nat) (q2 : Nat) (hp : zx_sy.1 p = (17, 0)) (hq1 : zx_sy.1 q1 = (16, 0)) (hq2 : (zx_sy.1 q2).1 = 0) {r29 : Int32 → Int32 → sm_St → Option (sm_St)} (h29 : ∀ (v3 : Int32) (v4 : Int32) (S : sm_St), sm_Sm x zx_sy prog_9_method_3_code (sm_Q x zx_sy (sm_Pv zx_sy (xw x))) (r29 v3 v4 S) S 29 [(0, .ref ((xw x).2.2 p)), (1, .ref ((xw x).2.2 q1)), (2, .ref ((xw x).2.2 q2)), (3, .int v3), (4, .int v4)] []) (v3 : Int32) (v4 : Int32) (S : sm_St) : sm_Sm x zx_sy prog_9_method_3_code (sm_Q x zx_sy (sm_Pv zx_sy (xw x))) (px_Sum_write_b96 N p q1 q2 r29 v3 v4 S) S 96 [(0, .ref ((xw x).2.2 p)), (1, .ref ((xw x).2.2 q1)), (2, .ref ((xw x).2.2 q2)), (3, .int v3), (4, .int v4)] [] := by
  unfold px_Sum_write_b96
  refine sm_iinc (pc := 96) (i := 4) 4 (1 : Int32) ok dx_Sum_write_96 rfl zk_1 (by decide) (fun v => [(4, .int v), (0, .ref ((xw x).2.2 p)), (1, .ref ((xw x).2.2 q1)), (2, .ref ((xw x).2.2 q2)), (3, .int v3)]) (fun _ => rfl) (fun v4_11 => ?_)
  refine sm_goto (pc := 99) 29 ok dx_Sum_write_99 (by decide) ?_
  refine sm_lv [1, 2, 3, 4, 0] rfl ?_
  exact h29 _ _ _
set_option maxHeartbeats 4000000 in
set_option maxRecDepth 20000 in
theorem tx_Sum_write_b47 {x : sm_Cx} (ok : sm_Ok x zx_sy prog_9_method_3_code "LentShades$Sum" 9 0 0) (hr : (xh x).sig.returnType = none) (N : Nat) (p : Nat) (q1 : Nat) (q2 : Nat) (hp : zx_sy.1 p = (17, 0)) (hq1 : zx_sy.1 q1 = (16, 0)) (hq2 : (zx_sy.1 q2).1 = 0) {r29 : Int32 → Int32 → sm_St → Option (sm_St)} (h29 : ∀ (v3 : Int32) (v4 : Int32) (S : sm_St), sm_Sm x zx_sy prog_9_method_3_code (sm_Q x zx_sy (sm_Pv zx_sy (xw x))) (r29 v3 v4 S) S 29 [(0, .ref ((xw x).2.2 p)), (1, .ref ((xw x).2.2 q1)), (2, .ref ((xw x).2.2 q2)), (3, .int v3), (4, .int v4)] []) : ∀ (n : Nat) (v3 : Int32) (v4 : Int32) (v5 : Int64) (v7 : Int32) (S : sm_St), sm_Sm x zx_sy prog_9_method_3_code (sm_Q x zx_sy (sm_Pv zx_sy (xw x))) (px_Sum_write_b47 N p q1 q2 r29 n v3 v4 v5 v7 S) S 47 [(0, .ref ((xw x).2.2 p)), (1, .ref ((xw x).2.2 q1)), (2, .ref ((xw x).2.2 q2)), (3, .int v3), (4, .int v4), (5, .long v5), (7, .int v7)] [] := by
  intro n
  induction n with
  | zero =>
    intro v3 v4 v5 v7 S
    exact sm_none
  | succ n ih =>
    intro v3 v4 v5 v7 S
    show sm_Sm x zx_sy prog_9_method_3_code (sm_Q x zx_sy (sm_Pv zx_sy (xw x))) (if v5 = (0 : Int64) then (px_Sum_write_b96 N p q1 q2 r29 v3 v4 S) else (if (S.1 q1 1) ≤ v7 then (px_Sum_write_b96 N p q1 q2 r29 v3 v4 S) else (if sm_in v7 20 = true then (if sm_in ((v4 * (20 : Int32)) + v7) 100 = true then (if sm_in v7 20 = true then sm_lt (sm_sL S (p + 2) v7.toNatClampNeg ((S.2.1 (p + 2) v7.toNatClampNeg) + (v5 * (S.1 (q1 + 1) ((v4 * (20 : Int32)) + v7).toNatClampNeg).toInt64))) (fun (S_9 : sm_St) => sm_lt (v7 + (1 : Int32)) (fun (v7_10 : Int32) => (px_Sum_write_b47 N p q1 q2 r29 n) v3 v4 v5 v7_10 S_9)) else none) else none) else none))) S 47 [(0, .ref ((xw x).2.2 p)), (1, .ref ((xw x).2.2 q1)), (2, .ref ((xw x).2.2 q2)), (3, .int v3), (4, .int v4), (5, .long v5), (7, .int v7)] []
    refine sm_lload (pc := 47) 5 ok dx_Sum_write_47 rfl ?_
    refine sm_lconst (pc := 49) (0 : Int64) ok dx_Sum_write_49 zl_0 ?_
    refine sm_lif_eq (pc := 50) 96 ok dx_Sum_write_50 dx_Sum_write_51 (by decide) (fun _ => ?_) (fun _ => ?_)
    · refine sm_lv [0, 1, 2, 3, 4] rfl ?_
      exact tx_Sum_write_b96 ok hr N p q1 q2 hp hq1 hq2 h29 _ _ _
    · refine sm_iload (pc := 54) 6 ok dx_Sum_write_54 rfl ?_
      refine sm_aload_n (pc := 56) 1 ok dx_Sum_write_56 rfl ?_
      refine sm_getI (pc := 57) (ci := 6) (k := 1) ok dx_Sum_write_57 hq1 rfl zc_i6 (by decide) rfl wd_151 ?_
      refine sm_icmp_ge (pc := 60) 96 ok dx_Sum_write_60 (by decide) (fun _ => ?_) (fun _ => ?_)
      · refine sm_lv [0, 1, 2, 3, 4] rfl ?_
        exact tx_Sum_write_b96 ok hr N p q1 q2 hp hq1 hq2 h29 _ _ _
      · refine sm_aload_n (pc := 63) 0 ok dx_Sum_write_63 rfl ?_
        refine sm_getR (pc := 64) (ci := 7) (k := 1) ok dx_Sum_write_64 hp rfl zc_i7 (by decide) rfl wd_291 ?_
        refine sm_iload (pc := 67) 6 ok dx_Sum_write_67 rfl ?_
        refine sm_dup2 (pc := 69) ok dx_Sum_write_69 rfl rfl ?_
        refine sm_lald (pc := 70) ok dx_Sum_write_70 (zx_Sum_2 hp) ?_
        refine sm_lload (pc := 71) 5 ok dx_Sum_write_71 rfl ?_
        refine sm_aload_n (pc := 73) 1 ok dx_Sum_write_73 rfl ?_
        refine sm_getR (pc := 74) (ci := 6) (k := 0) ok dx_Sum_write_74 hq1 rfl zc_i6 (by decide) rfl wd_147 ?_
        refine sm_iload (pc := 77) 4 ok dx_Sum_write_77 rfl ?_
        refine sm_bipush (pc := 79) (20 : Int32) ok dx_Sum_write_79 zb_20 ?_
        refine sm_imul (pc := 81) ok dx_Sum_write_81 ?_
        refine sm_iload (pc := 82) 6 ok dx_Sum_write_82 rfl ?_
        refine sm_iadd (pc := 84) ok dx_Sum_write_84 ?_
        refine sm_iald (pc := 85) ok dx_Sum_write_85 (zx_Shades_1 hq1) ?_
        refine sm_i2l (pc := 86) ok dx_Sum_write_86 ?_
        refine sm_lmul (pc := 87) ok dx_Sum_write_87 ?_
        refine sm_ladd (pc := 88) ok dx_Sum_write_88 ?_
        refine sm_last (pc := 89) ok dx_Sum_write_89 (zx_Sum_2 hp) (fun S_9 => ?_)
        refine sm_iinc (pc := 90) (i := 7) 6 (1 : Int32) ok dx_Sum_write_90 rfl zk_1 (by decide) (fun v => [(7, .int v), (0, .ref ((xw x).2.2 p)), (1, .ref ((xw x).2.2 q1)), (2, .ref ((xw x).2.2 q2)), (3, .int v3), (4, .int v4), (5, .long v5)]) (fun _ => rfl) (fun v7_10 => ?_)
        refine sm_goto (pc := 93) 47 ok dx_Sum_write_93 (by decide) ?_
        refine sm_lv [1, 2, 3, 4, 5, 6, 0] rfl ?_
        exact ih _ _ _ _ _
set_option maxHeartbeats 4000000 in
set_option maxRecDepth 20000 in
theorem tx_Sum_write_b29 {x : sm_Cx} (ok : sm_Ok x zx_sy prog_9_method_3_code "LentShades$Sum" 9 0 0) (hr : (xh x).sig.returnType = none) (N : Nat) (p : Nat) (q1 : Nat) (q2 : Nat) (hp : zx_sy.1 p = (17, 0)) (hq1 : zx_sy.1 q1 = (16, 0)) (hq2 : (zx_sy.1 q2).1 = 0) : ∀ (n : Nat) (v3 : Int32) (v4 : Int32) (S : sm_St), sm_Sm x zx_sy prog_9_method_3_code (sm_Q x zx_sy (sm_Pv zx_sy (xw x))) (px_Sum_write_b29 N p q1 q2 n v3 v4 S) S 29 [(0, .ref ((xw x).2.2 p)), (1, .ref ((xw x).2.2 q1)), (2, .ref ((xw x).2.2 q2)), (3, .int v3), (4, .int v4)] [] := by
  intro n
  induction n with
  | zero =>
    intro v3 v4 S
    exact sm_none
  | succ n ih =>
    intro v3 v4 S
    show sm_Sm x zx_sy prog_9_method_3_code (sm_Q x zx_sy (sm_Pv zx_sy (xw x))) (if (5 : Int32) ≤ v4 then (sm_lt (0 : Int64) (fun (v4_5 : Int64) => sm_lt (0 : Int32) (fun (v6_6 : Int32) => px_Sum_write_b108 N p q1 q2 N v3 v4_5 v6_6 S))) else (if sm_in v4 5 = true then (sm_lt (S.2.1 (p + 1) v4.toNatClampNeg) (fun (v5_7 : Int64) => sm_lt (0 : Int32) (fun (v7_8 : Int32) => px_Sum_write_b47 N p q1 q2 (px_Sum_write_b29 N p q1 q2 n) N v3 v4 v5_7 v7_8 S))) else none)) S 29 [(0, .ref ((xw x).2.2 p)), (1, .ref ((xw x).2.2 q1)), (2, .ref ((xw x).2.2 q2)), (3, .int v3), (4, .int v4)] []
    refine sm_iload (pc := 29) 4 ok dx_Sum_write_29 rfl ?_
    refine sm_iconst (pc := 31) (5 : Int32) ok dx_Sum_write_31 zk_5 ?_
    refine sm_icmp_ge (pc := 32) 102 ok dx_Sum_write_32 (by decide) (fun _ => ?_) (fun _ => ?_)
    · refine sm_lconst (pc := 102) (0 : Int64) ok dx_Sum_write_102 zl_0 ?_
      refine sm_lstore (pc := 103) (i := 4) ok dx_Sum_write_103 (by decide) (fun v => [(4, .long v), (0, .ref ((xw x).2.2 p)), (1, .ref ((xw x).2.2 q1)), (2, .ref ((xw x).2.2 q2)), (3, .int v3)]) (fun _ => rfl) (fun v4_5 => ?_)
      refine sm_iconst (pc := 105) (0 : Int32) ok dx_Sum_write_105 zk_0 ?_
      refine sm_istore (pc := 106) (i := 6) ok dx_Sum_write_106 (by decide) (fun v => [(6, .int v), (4, .long v4_5), (0, .ref ((xw x).2.2 p)), (1, .ref ((xw x).2.2 q1)), (2, .ref ((xw x).2.2 q2)), (3, .int v3)]) (fun _ => rfl) (fun v6_6 => ?_)
      refine sm_lv [2, 3, 4, 5, 1, 0] rfl ?_
      exact tx_Sum_write_b108 ok hr N p q1 q2 hp hq1 hq2 N _ _ _ _
    · refine sm_aload_n (pc := 35) 0 ok dx_Sum_write_35 rfl ?_
      refine sm_getR (pc := 36) (ci := 7) (k := 0) ok dx_Sum_write_36 hp rfl zc_i7 (by decide) rfl wd_286 ?_
      refine sm_iload (pc := 39) 4 ok dx_Sum_write_39 rfl ?_
      refine sm_lald (pc := 41) ok dx_Sum_write_41 (zx_Sum_1 hp) ?_
      refine sm_lstore (pc := 42) (i := 5) ok dx_Sum_write_42 (by decide) (fun v => [(5, .long v), (0, .ref ((xw x).2.2 p)), (1, .ref ((xw x).2.2 q1)), (2, .ref ((xw x).2.2 q2)), (3, .int v3), (4, .int v4)]) (fun _ => rfl) (fun v5_7 => ?_)
      refine sm_iconst (pc := 44) (0 : Int32) ok dx_Sum_write_44 zk_0 ?_
      refine sm_istore (pc := 45) (i := 7) ok dx_Sum_write_45 (by decide) (fun v => [(7, .int v), (5, .long v5_7), (0, .ref ((xw x).2.2 p)), (1, .ref ((xw x).2.2 q1)), (2, .ref ((xw x).2.2 q2)), (3, .int v3), (4, .int v4)]) (fun _ => rfl) (fun v7_8 => ?_)
      refine sm_lv [2, 3, 4, 5, 6, 1, 0] rfl ?_
      exact tx_Sum_write_b47 ok hr N p q1 q2 hp hq1 hq2 ih N _ _ _ _ _
set_option maxHeartbeats 4000000 in
set_option maxRecDepth 20000 in
theorem tx_Sum_write_b3 {x : sm_Cx} (ok : sm_Ok x zx_sy prog_9_method_3_code "LentShades$Sum" 9 0 0) (hr : (xh x).sig.returnType = none) (N : Nat) (p : Nat) (q1 : Nat) (q2 : Nat) (hp : zx_sy.1 p = (17, 0)) (hq1 : zx_sy.1 q1 = (16, 0)) (hq2 : (zx_sy.1 q2).1 = 0) : ∀ (n : Nat) (v3 : Int32) (v4 : Int32) (S : sm_St), sm_Sm x zx_sy prog_9_method_3_code (sm_Q x zx_sy (sm_Pv zx_sy (xw x))) (px_Sum_write_b3 N p q1 q2 n v3 v4 S) S 3 [(0, .ref ((xw x).2.2 p)), (1, .ref ((xw x).2.2 q1)), (2, .ref ((xw x).2.2 q2)), (3, .int v3), (4, .int v4)] [] := by
  intro n
  induction n with
  | zero =>
    intro v3 v4 S
    exact sm_none
  | succ n ih =>
    intro v3 v4 S
    show sm_Sm x zx_sy prog_9_method_3_code (sm_Q x zx_sy (sm_Pv zx_sy (xw x))) (if (S.1 q1 1) ≤ v4 then (sm_lt (0 : Int32) (fun (v4_2 : Int32) => px_Sum_write_b29 N p q1 q2 N v3 v4_2 S)) else (if sm_in v4 20 = true then sm_lt (sm_sL S (p + 2) v4.toNatClampNeg (0 : Int64)) (fun (S_3 : sm_St) => sm_lt (v4 + (1 : Int32)) (fun (v4_4 : Int32) => (px_Sum_write_b3 N p q1 q2 n) v3 v4_4 S_3)) else none)) S 3 [(0, .ref ((xw x).2.2 p)), (1, .ref ((xw x).2.2 q1)), (2, .ref ((xw x).2.2 q2)), (3, .int v3), (4, .int v4)] []
    refine sm_iload (pc := 3) 4 ok dx_Sum_write_3 rfl ?_
    refine sm_aload_n (pc := 5) 1 ok dx_Sum_write_5 rfl ?_
    refine sm_getI (pc := 6) (ci := 6) (k := 1) ok dx_Sum_write_6 hq1 rfl zc_i6 (by decide) rfl wd_151 ?_
    refine sm_icmp_ge (pc := 9) 26 ok dx_Sum_write_9 (by decide) (fun _ => ?_) (fun _ => ?_)
    · refine sm_iconst (pc := 26) (0 : Int32) ok dx_Sum_write_26 zk_0 ?_
      refine sm_istore (pc := 27) (i := 4) ok dx_Sum_write_27 (by decide) (fun v => [(4, .int v), (0, .ref ((xw x).2.2 p)), (1, .ref ((xw x).2.2 q1)), (2, .ref ((xw x).2.2 q2)), (3, .int v3)]) (fun _ => rfl) (fun v4_2 => ?_)
      refine sm_lv [1, 2, 3, 4, 0] rfl ?_
      exact tx_Sum_write_b29 ok hr N p q1 q2 hp hq1 hq2 N _ _ _
    · refine sm_aload_n (pc := 12) 0 ok dx_Sum_write_12 rfl ?_
      refine sm_getR (pc := 13) (ci := 7) (k := 1) ok dx_Sum_write_13 hp rfl zc_i7 (by decide) rfl wd_291 ?_
      refine sm_iload (pc := 16) 4 ok dx_Sum_write_16 rfl ?_
      refine sm_lconst (pc := 18) (0 : Int64) ok dx_Sum_write_18 zl_0 ?_
      refine sm_last (pc := 19) ok dx_Sum_write_19 (zx_Sum_2 hp) (fun S_3 => ?_)
      refine sm_iinc (pc := 20) (i := 4) 4 (1 : Int32) ok dx_Sum_write_20 rfl zk_1 (by decide) (fun v => [(4, .int v), (0, .ref ((xw x).2.2 p)), (1, .ref ((xw x).2.2 q1)), (2, .ref ((xw x).2.2 q2)), (3, .int v3)]) (fun _ => rfl) (fun v4_4 => ?_)
      refine sm_goto (pc := 23) 3 ok dx_Sum_write_23 (by decide) ?_
      refine sm_lv [1, 2, 3, 4, 0] rfl ?_
      exact ih _ _ _
set_option maxHeartbeats 4000000 in
set_option maxRecDepth 20000 in
theorem tx_Sum_write {x : sm_Cx} (ok : sm_Ok x zx_sy prog_9_method_3_code "LentShades$Sum" 9 0 0) (hr : (xh x).sig.returnType = none) (N : Nat) (S : sm_St) (p : Nat) (q1 : Nat) (q2 : Nat) (v3 : Int32) (hp : zx_sy.1 p = (17, 0)) (hq1 : zx_sy.1 q1 = (16, 0)) (hq2 : (zx_sy.1 q2).1 = 0) : sm_Sm x zx_sy prog_9_method_3_code (sm_Q x zx_sy (sm_Pv zx_sy (xw x))) (px_Sum_write N S p q1 q2 v3) S 0 [(0, .ref ((xw x).2.2 p)), (1, .ref ((xw x).2.2 q1)), (2, .ref ((xw x).2.2 q2)), (3, .int v3)] [] := by
  unfold px_Sum_write
  refine sm_iconst (pc := 0) (0 : Int32) ok dx_Sum_write_0 zk_0 ?_
  refine sm_istore (pc := 1) (i := 4) ok dx_Sum_write_1 (by decide) (fun v => [(4, .int v), (0, .ref ((xw x).2.2 p)), (1, .ref ((xw x).2.2 q1)), (2, .ref ((xw x).2.2 q2)), (3, .int v3)]) (fun _ => rfl) (fun v4_1 => ?_)
  refine sm_lv [1, 2, 3, 4, 0] rfl ?_
  exact tx_Sum_write_b3 ok hr N p q1 q2 hp hq1 hq2 N _ _ _
theorem cx_Sum_write {l : Launch} {wc : sm_Wc} (hj : sm_inj zx_sy wc) (N : Nat) (S : sm_St) (p : Nat) (q1 : Nat) (q2 : Nat) (v3 : Int32) (hp : zx_sy.1 p = (17, 0)) (hq1 : zx_sy.1 q1 = (16, 0)) (hq2 : (zx_sy.1 q2).1 = 0) : sm_Ct l zx_sy wc yx_Sum_write prog_9_method_3_code 9 none 0 0 [.ref (wc.2.2 p), .ref (wc.2.2 q1), .ref (wc.2.2 q2), .int v3] S (sm_Pv zx_sy wc) (px_Sum_write N S p q1 q2 v3) :=
  sm_entry (Pq := fun wc => sm_Pv zx_sy wc) (fun wc => [.ref (wc.2.2 p), .ref (wc.2.2 q1), .ref (wc.2.2 q2), .int v3]) (lv := fun wc => [(0, .ref (wc.2.2 p)), (1, .ref (wc.2.2 q1)), (2, .ref (wc.2.2 q2)), (3, .int v3)]) (by decide) hj zx_ok zx_stb (fun _ => Nat.le_of_ble_eq_true rfl) (fun _ => rfl) (fun x _ ok hr => tx_Sum_write ok hr N S p q1 q2 v3 hp hq1 hq2)
set_option maxHeartbeats 4000000 in
set_option maxRecDepth 20000 in
theorem tx_Shades_settle_b67 {x : sm_Cx} (ok : sm_Ok x zx_sy prog_8_method_8_code "LentShades$Shades" 5 0 0) (hr : (xh x).sig.returnType = none) (N : Nat) (p : Nat) (hp : zx_sy.1 p = (16, 0)) (s1 : Int32) (S : sm_St) : sm_Sm x zx_sy prog_8_method_8_code (sm_Q x zx_sy (sm_Pv zx_sy (xw x))) (px_Shades_settle_b67 N p s1 S) S 67 [] [.int s1, .ref ((xw x).2.2 p)] := by
  unfold px_Shades_settle_b67
  refine sm_putI (pc := 67) (ci := 6) (k := 1) ok dx_Shades_settle_67 hp rfl zc_i6 zc_y6 zc_t6 zc_n6 (by decide) rfl rfl rfl wd_149 (fun S_3 => ?_)
  exact sm_vret (pc := 70) ok dx_Shades_settle_70 hr
set_option maxHeartbeats 4000000 in
set_option maxRecDepth 20000 in
theorem tx_Shades_settle_b66 {x : sm_Cx} (ok : sm_Ok x zx_sy prog_8_method_8_code "LentShades$Shades" 5 0 0) (hr : (xh x).sig.returnType = none) (N : Nat) (p : Nat) (hp : zx_sy.1 p = (16, 0)) (v1 : Int32) (S : sm_St) : sm_Sm x zx_sy prog_8_method_8_code (sm_Q x zx_sy (sm_Pv zx_sy (xw x))) (px_Shades_settle_b66 N p v1 S) S 66 [(1, .int v1)] [.ref ((xw x).2.2 p)] := by
  unfold px_Shades_settle_b66
  refine sm_iload_n (pc := 66) 0 ok dx_Shades_settle_66 rfl ?_
  refine sm_lv [] rfl ?_
  exact tx_Shades_settle_b67 ok hr N p hp _ _
set_option maxHeartbeats 4000000 in
set_option maxRecDepth 20000 in
theorem tx_Shades_settle_b44 {x : sm_Cx} (ok : sm_Ok x zx_sy prog_8_method_8_code "LentShades$Shades" 5 0 0) (hr : (xh x).sig.returnType = none) (N : Nat) (p : Nat) (hp : zx_sy.1 p = (16, 0)) (v1 : Int32) (s0 : Int32) (S : sm_St) : sm_Sm x zx_sy prog_8_method_8_code (sm_Q x zx_sy (sm_Pv zx_sy (xw x))) (px_Shades_settle_b44 N p v1 s0 S) S 44 [(0, .ref ((xw x).2.2 p)), (1, .int v1)] [.int s0] := by
  unfold px_Shades_settle_b44
  refine sm_istore (pc := 44) (i := 4) ok dx_Shades_settle_44 (by decide) (fun v => [(4, .int v), (0, .ref ((xw x).2.2 p)), (1, .int v1)]) (fun _ => rfl) (fun v4_2 => ?_)
  refine sm_aload_n (pc := 46) 1 ok dx_Shades_settle_46 rfl ?_
  refine sm_iload (pc := 47) 0 ok dx_Shades_settle_47 rfl ?_
  refine sm_if_eq (pc := 49) 66 ok dx_Shades_settle_49 (by decide) (fun _ => ?_) (fun _ => ?_)
  · refine sm_lv [2] rfl ?_
    exact tx_Shades_settle_b66 ok hr N p hp _ _
  · refine sm_iload_n (pc := 52) 2 ok dx_Shades_settle_52 rfl ?_
    refine sm_iconst (pc := 53) (1 : Int32) ok dx_Shades_settle_53 zk_1 ?_
    refine sm_iadd (pc := 54) ok dx_Shades_settle_54 ?_
    refine sm_bipush (pc := 55) (20 : Int32) ok dx_Shades_settle_55 zb_20 ?_
    refine sm_icmp_ge (pc := 57) 66 ok dx_Shades_settle_57 (by decide) (fun _ => ?_) (fun _ => ?_)
    · refine sm_lv [2] rfl ?_
      exact tx_Shades_settle_b66 ok hr N p hp _ _
    · refine sm_iload_n (pc := 60) 2 ok dx_Shades_settle_60 rfl ?_
      refine sm_iconst (pc := 61) (1 : Int32) ok dx_Shades_settle_61 zk_1 ?_
      refine sm_iadd (pc := 62) ok dx_Shades_settle_62 ?_
      refine sm_goto (pc := 63) 67 ok dx_Shades_settle_63 (by decide) ?_
      refine sm_lv [] rfl ?_
      exact tx_Shades_settle_b67 ok hr N p hp _ _
set_option maxHeartbeats 4000000 in
set_option maxRecDepth 20000 in
theorem tx_Shades_settle_b39 {x : sm_Cx} (ok : sm_Ok x zx_sy prog_8_method_8_code "LentShades$Shades" 5 0 0) (hr : (xh x).sig.returnType = none) (N : Nat) (p : Nat) (hp : zx_sy.1 p = (16, 0)) (v1 : Int32) (S : sm_St) : sm_Sm x zx_sy prog_8_method_8_code (sm_Q x zx_sy (sm_Pv zx_sy (xw x))) (px_Shades_settle_b39 N p v1 S) S 39 [(0, .ref ((xw x).2.2 p)), (1, .int v1)] [] := by
  unfold px_Shades_settle_b39
  refine sm_iconst (pc := 39) (1 : Int32) ok dx_Shades_settle_39 zk_1 ?_
  refine sm_goto (pc := 40) 44 ok dx_Shades_settle_40 (by decide) ?_
  exact tx_Shades_settle_b44 ok hr N p hp _ _ _
set_option maxHeartbeats 4000000 in
set_option maxRecDepth 20000 in
theorem tx_Shades_settle {x : sm_Cx} (ok : sm_Ok x zx_sy prog_8_method_8_code "LentShades$Shades" 5 0 0) (hr : (xh x).sig.returnType = none) (N : Nat) (S : sm_St) (p : Nat) (v1 : Int32) (hp : zx_sy.1 p = (16, 0)) : sm_Sm x zx_sy prog_8_method_8_code (sm_Q x zx_sy (sm_Pv zx_sy (xw x))) (px_Shades_settle N S p v1) S 0 [(0, .ref ((xw x).2.2 p)), (1, .int v1)] [] := by
  unfold px_Shades_settle
  refine sm_aload_n (pc := 0) 0 ok dx_Shades_settle_0 rfl ?_
  refine sm_getR (pc := 1) (ci := 6) (k := 0) ok dx_Shades_settle_1 hp rfl zc_i6 (by decide) rfl wd_146 ?_
  refine sm_bipush (pc := 4) (80 : Int32) ok dx_Shades_settle_4 zb_80 ?_
  refine sm_iload_n (pc := 6) 1 ok dx_Shades_settle_6 rfl ?_
  refine sm_iadd (pc := 7) ok dx_Shades_settle_7 ?_
  refine sm_iconst (pc := 8) (1 : Int32) ok dx_Shades_settle_8 zk_1 ?_
  refine sm_isub (pc := 9) ok dx_Shades_settle_9 ?_
  refine sm_iald (pc := 10) ok dx_Shades_settle_10 (zx_Shades_1 hp) ?_
  refine sm_i2l (pc := 11) ok dx_Shades_settle_11 ?_
  refine sm_lconst (pc := 12) (1 : Int64) ok dx_Shades_settle_12 zl_1 ?_
  refine sm_ladd (pc := 13) ok dx_Shades_settle_13 ?_
  refine sm_lstore_n (pc := 14) (i := 2) ok dx_Shades_settle_14 rfl (by decide) (fun v => [(2, .long v), (0, .ref ((xw x).2.2 p)), (1, .int v1)]) (fun _ => rfl) (fun v2_1 => ?_)
  refine sm_aload_n (pc := 15) 1 ok dx_Shades_settle_15 rfl ?_
  refine sm_getR (pc := 16) (ci := 6) (k := 0) ok dx_Shades_settle_16 hp rfl zc_i6 (by decide) rfl wd_146 ?_
  refine sm_bipush (pc := 19) (80 : Int32) ok dx_Shades_settle_19 zb_80 ?_
  refine sm_iload_n (pc := 21) 2 ok dx_Shades_settle_21 rfl ?_
  refine sm_iadd (pc := 22) ok dx_Shades_settle_22 ?_
  refine sm_iald (pc := 23) ok dx_Shades_settle_23 (zx_Shades_1 hp) ?_
  refine sm_if_ne (pc := 24) 39 ok dx_Shades_settle_24 (by decide) (fun _ => ?_) (fun _ => ?_)
  · refine sm_lv [1, 2] rfl ?_
    exact tx_Shades_settle_b39 ok hr N p hp _ _
  · refine sm_lload_n (pc := 27) 0 ok dx_Shades_settle_27 rfl ?_
    refine sm_ldc2 (pc := 28) ok dx_Shades_settle_28 wd_683 ?_
    refine sm_lmul (pc := 31) ok dx_Shades_settle_31 ?_
    refine sm_ldc2 (pc := 32) ok dx_Shades_settle_32 wd_684 ?_
    refine sm_lif_le (pc := 35) 43 ok dx_Shades_settle_35 dx_Shades_settle_36 (by decide) (fun _ => ?_) (fun _ => ?_)
    · refine sm_iconst (pc := 43) (0 : Int32) ok dx_Shades_settle_43 zk_0 ?_
      refine sm_lv [1, 2] rfl ?_
      exact tx_Shades_settle_b44 ok hr N p hp _ _ _
    · refine sm_lv [1, 2] rfl ?_
      exact tx_Shades_settle_b39 ok hr N p hp _ _
theorem cx_Shades_settle {l : Launch} {wc : sm_Wc} (hj : sm_inj zx_sy wc) (N : Nat) (S : sm_St) (p : Nat) (v1 : Int32) (hp : zx_sy.1 p = (16, 0)) : sm_Ct l zx_sy wc yx_Shades_settle prog_8_method_8_code 5 none 0 0 [.ref (wc.2.2 p), .int v1] S (sm_Pv zx_sy wc) (px_Shades_settle N S p v1) :=
  sm_entry (Pq := fun wc => sm_Pv zx_sy wc) (fun wc => [.ref (wc.2.2 p), .int v1]) (lv := fun wc => [(0, .ref (wc.2.2 p)), (1, .int v1)]) (by decide) hj zx_ok zx_stb (fun _ => Nat.le_of_ble_eq_true rfl) (fun _ => rfl) (fun x _ ok hr => tx_Shades_settle ok hr N S p v1 hp)
set_option maxHeartbeats 4000000 in
set_option maxRecDepth 20000 in
theorem tx_Takings_takeMean_b45 {x : sm_Cx} (ok : sm_Ok x zx_sy prog_10_method_7_code "LentShades$Takings" 4 1 21) (hr : (xh x).sig.returnType = none) (N : Nat) : ∀ (n : Nat) (v1 : Int32) (v2 : Int32) (v3 : Int32) (S : sm_St), sm_Sm x zx_sy prog_10_method_7_code (sm_Q x zx_sy (sm_Pv zx_sy (xw x))) (px_Takings_takeMean_b45 N n v1 v2 v3 S) S 45 [(0, .ref ((xw x).2.2 110)), (1, .int v1), (2, .int v2), (3, .int v3)] [] := by
  intro n
  induction n with
  | zero =>
    intro v1 v2 v3 S
    exact sm_none
  | succ n ih =>
    intro v1 v2 v3 S
    show sm_Sm x zx_sy prog_10_method_7_code (sm_Q x zx_sy (sm_Pv zx_sy (xw x))) (if (S.1 110 5) ≤ v3 then (if sm_in v1 4 = true then (if sm_in (4 : Int32) 5 = true then (if sm_in (4 : Int32) 5 = true then sm_lt (sm_sL S 112 (4 : Int32).toNatClampNeg (v2.toInt64 * (S.1 (115 + v1.toNatClampNeg) (4 : Int32).toNatClampNeg).toInt64)) (fun (S_6 : sm_St) => some S_6) else none) else none) else none) else (if sm_in v1 4 = true then (if sm_in v3 5 = true then (if sm_in v3 5 = true then sm_lt (sm_sL S 112 v3.toNatClampNeg (v2.toInt64 * (S.1 (115 + v1.toNatClampNeg) v3.toNatClampNeg).toInt64)) (fun (S_8 : sm_St) => sm_lt (v3 + (1 : Int32)) (fun (v3_9 : Int32) => (px_Takings_takeMean_b45 N n) v1 v2 v3_9 S_8)) else none) else none) else none)) S 45 [(0, .ref ((xw x).2.2 110)), (1, .int v1), (2, .int v2), (3, .int v3)] []
    refine sm_iload_n (pc := 45) 3 ok dx_Takings_takeMean_45 rfl ?_
    refine sm_aload_n (pc := 46) 0 ok dx_Takings_takeMean_46 rfl ?_
    refine sm_getI (pc := 47) (ci := 8) (k := 5) ok dx_Takings_takeMean_47 rfl rfl zc_i8 (by decide) rfl wd_316 ?_
    refine sm_icmp_ge (pc := 50) 80 ok dx_Takings_takeMean_50 (by decide) (fun _ => ?_) (fun _ => ?_)
    · refine sm_aload_n (pc := 80) 0 ok dx_Takings_takeMean_80 rfl ?_
      refine sm_getR (pc := 81) (ci := 8) (k := 0) ok dx_Takings_takeMean_81 rfl rfl zc_i8 (by decide) rfl wd_309 ?_
      refine sm_getR (pc := 84) (ci := 7) (k := 0) ok dx_Takings_takeMean_84 rfl rfl zc_i7 (by decide) rfl wd_289 ?_
      refine sm_iconst (pc := 87) (4 : Int32) ok dx_Takings_takeMean_87 zk_4 ?_
      refine sm_iload_n (pc := 88) 2 ok dx_Takings_takeMean_88 rfl ?_
      refine sm_i2l (pc := 89) ok dx_Takings_takeMean_89 ?_
      refine sm_aload_n (pc := 90) 0 ok dx_Takings_takeMean_90 rfl ?_
      refine sm_getR (pc := 91) (ci := 8) (k := 1) ok dx_Takings_takeMean_91 rfl rfl zc_i8 (by decide) rfl wd_310 ?_
      refine sm_iload_n (pc := 94) 1 ok dx_Takings_takeMean_94 rfl ?_
      refine sm_aald5 (pc := 95) ok dx_Takings_takeMean_95 rfl (fun hb_5 => ?_)
      refine sm_iconst (pc := 96) (4 : Int32) ok dx_Takings_takeMean_96 zk_4 ?_
      refine sm_iald (pc := 97) ok dx_Takings_takeMean_97 (zx_rows 114 4 5 (by decide) hb_5) ?_
      refine sm_i2l (pc := 98) ok dx_Takings_takeMean_98 ?_
      refine sm_lmul (pc := 99) ok dx_Takings_takeMean_99 ?_
      refine sm_last (pc := 100) ok dx_Takings_takeMean_100 rfl (fun S_6 => ?_)
      exact sm_vret (pc := 101) ok dx_Takings_takeMean_101 hr
    · refine sm_aload_n (pc := 53) 0 ok dx_Takings_takeMean_53 rfl ?_
      refine sm_getR (pc := 54) (ci := 8) (k := 0) ok dx_Takings_takeMean_54 rfl rfl zc_i8 (by decide) rfl wd_309 ?_
      refine sm_getR (pc := 57) (ci := 7) (k := 0) ok dx_Takings_takeMean_57 rfl rfl zc_i7 (by decide) rfl wd_289 ?_
      refine sm_iload_n (pc := 60) 3 ok dx_Takings_takeMean_60 rfl ?_
      refine sm_iload_n (pc := 61) 2 ok dx_Takings_takeMean_61 rfl ?_
      refine sm_i2l (pc := 62) ok dx_Takings_takeMean_62 ?_
      refine sm_aload_n (pc := 63) 0 ok dx_Takings_takeMean_63 rfl ?_
      refine sm_getR (pc := 64) (ci := 8) (k := 1) ok dx_Takings_takeMean_64 rfl rfl zc_i8 (by decide) rfl wd_310 ?_
      refine sm_iload_n (pc := 67) 1 ok dx_Takings_takeMean_67 rfl ?_
      refine sm_aald5 (pc := 68) ok dx_Takings_takeMean_68 rfl (fun hb_7 => ?_)
      refine sm_iload_n (pc := 69) 3 ok dx_Takings_takeMean_69 rfl ?_
      refine sm_iald (pc := 70) ok dx_Takings_takeMean_70 (zx_rows 114 4 5 (by decide) hb_7) ?_
      refine sm_i2l (pc := 71) ok dx_Takings_takeMean_71 ?_
      refine sm_lmul (pc := 72) ok dx_Takings_takeMean_72 ?_
      refine sm_last (pc := 73) ok dx_Takings_takeMean_73 rfl (fun S_8 => ?_)
      refine sm_iinc (pc := 74) (i := 3) 3 (1 : Int32) ok dx_Takings_takeMean_74 rfl zk_1 (by decide) (fun v => [(3, .int v), (0, .ref ((xw x).2.2 110)), (1, .int v1), (2, .int v2)]) (fun _ => rfl) (fun v3_9 => ?_)
      refine sm_goto (pc := 77) 45 ok dx_Takings_takeMean_77 (by decide) ?_
      refine sm_lv [1, 2, 3, 0] rfl ?_
      exact ih _ _ _ _
set_option maxHeartbeats 4000000 in
set_option maxRecDepth 20000 in
theorem tx_Takings_takeMean {x : sm_Cx} (ok : sm_Ok x zx_sy prog_10_method_7_code "LentShades$Takings" 4 1 21) (hr : (xh x).sig.returnType = none) (N : Nat) (S : sm_St) (v1 : Int32) : sm_Sm x zx_sy prog_10_method_7_code (sm_Q x zx_sy (sm_Pv zx_sy (xw x))) (px_Takings_takeMean N S v1) S 0 [(0, .ref ((xw x).2.2 110)), (1, .int v1)] [] := by
  unfold px_Takings_takeMean
  refine sm_aload_n (pc := 0) 0 ok dx_Takings_takeMean_0 rfl ?_
  refine sm_getR (pc := 1) (ci := 8) (k := 0) ok dx_Takings_takeMean_1 rfl rfl zc_i8 (by decide) rfl wd_309 ?_
  refine sm_callV_v (pc := 4) (ci := 7) [] ok dx_Takings_takeMean_4 wd_666 mwx_Sum_begin rfl rfl (Nat.le_of_ble_eq_true rfl) (Nat.le_of_ble_eq_true rfl) rfl rfl (Nat.le_of_ble_eq_true rfl) (cx_Sum_begin (sm_okj ok) N S 111 rfl) (fun S_1 => ?_)
  refine sm_aload_n (pc := 7) 0 ok dx_Takings_takeMean_7 rfl ?_
  refine sm_getR (pc := 8) (ci := 8) (k := 2) ok dx_Takings_takeMean_8 rfl rfl zc_i8 (by decide) rfl wd_312 ?_
  refine sm_iload_n (pc := 11) 1 ok dx_Takings_takeMean_11 rfl ?_
  refine sm_iald (pc := 12) ok dx_Takings_takeMean_12 rfl ?_
  refine sm_if_gt (pc := 13) 31 ok dx_Takings_takeMean_13 (by decide) (fun _ => ?_) (fun _ => ?_)
  · refine sm_aload_n (pc := 31) 0 ok dx_Takings_takeMean_31 rfl ?_
    refine sm_getI (pc := 32) (ci := 8) (k := 6) ok dx_Takings_takeMean_32 rfl rfl zc_i8 (by decide) rfl wd_318 ?_
    refine sm_aload_n (pc := 35) 0 ok dx_Takings_takeMean_35 rfl ?_
    refine sm_getR (pc := 36) (ci := 8) (k := 2) ok dx_Takings_takeMean_36 rfl rfl zc_i8 (by decide) rfl wd_312 ?_
    refine sm_iload_n (pc := 39) 1 ok dx_Takings_takeMean_39 rfl ?_
    refine sm_iald (pc := 40) ok dx_Takings_takeMean_40 rfl ?_
    refine sm_idiv (pc := 41) ok dx_Takings_takeMean_41 ?_
    refine sm_istore_n (pc := 42) (i := 2) ok dx_Takings_takeMean_42 rfl (by decide) (fun v => [(2, .int v), (0, .ref ((xw x).2.2 110)), (1, .int v1)]) (fun _ => rfl) (fun v2_2 => ?_)
    refine sm_iconst (pc := 43) (0 : Int32) ok dx_Takings_takeMean_43 zk_0 ?_
    refine sm_istore_n (pc := 44) (i := 3) ok dx_Takings_takeMean_44 rfl (by decide) (fun v => [(3, .int v), (2, .int v2_2), (0, .ref ((xw x).2.2 110)), (1, .int v1)]) (fun _ => rfl) (fun v3_3 => ?_)
    refine sm_lv [2, 3, 1, 0] rfl ?_
    exact tx_Takings_takeMean_b45 ok hr N N _ _ _ _
  · refine sm_aload_n (pc := 16) 0 ok dx_Takings_takeMean_16 rfl ?_
    refine sm_getR (pc := 17) (ci := 8) (k := 0) ok dx_Takings_takeMean_17 rfl rfl zc_i8 (by decide) rfl wd_309 ?_
    refine sm_getR (pc := 20) (ci := 7) (k := 0) ok dx_Takings_takeMean_20 rfl rfl zc_i7 (by decide) rfl wd_289 ?_
    refine sm_iload_n (pc := 23) 1 ok dx_Takings_takeMean_23 rfl ?_
    refine sm_aload_n (pc := 24) 0 ok dx_Takings_takeMean_24 rfl ?_
    refine sm_getI (pc := 25) (ci := 8) (k := 6) ok dx_Takings_takeMean_25 rfl rfl zc_i8 (by decide) rfl wd_318 ?_
    refine sm_i2l (pc := 28) ok dx_Takings_takeMean_28 ?_
    refine sm_last (pc := 29) ok dx_Takings_takeMean_29 rfl (fun S_4 => ?_)
    exact sm_vret (pc := 30) ok dx_Takings_takeMean_30 hr
theorem cx_Takings_takeMean {l : Launch} {wc : sm_Wc} (hj : sm_inj zx_sy wc) (N : Nat) (S : sm_St) (v1 : Int32) : sm_Ct l zx_sy wc yx_Takings_takeMean prog_10_method_7_code 4 none 1 21 [.ref (wc.2.2 110), .int v1] S (sm_Pv zx_sy wc) (px_Takings_takeMean N S v1) :=
  sm_entry (Pq := fun wc => sm_Pv zx_sy wc) (fun wc => [.ref (wc.2.2 110), .int v1]) (lv := fun wc => [(0, .ref (wc.2.2 110)), (1, .int v1)]) (by decide) hj zx_ok zx_stb (fun _ => Nat.le_of_ble_eq_true rfl) (fun _ => rfl) (fun x _ ok hr => tx_Takings_takeMean ok hr N S v1)
