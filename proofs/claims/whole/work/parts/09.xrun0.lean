set_option maxHeartbeats 4000000 in
set_option maxRecDepth 20000 in
theorem tx_L_within {x : sm_Cx} (ok : sm_Ok x zx_sy prog_1_method_41_code "LentShades" 2 0 0) (hr : (xh x).sig.returnType = (some .boolean)) (N : Nat) (S : sm_St) (v0 : Int32) (v1 : Int32) : sm_Sm x zx_sy prog_1_method_41_code (sm_Q x zx_sy (sm_Pi zx_sy (xw x))) (px_L_within N S v0 v1) S 0 [(0, .int v0), (1, .int v1)] [] := by
  unfold px_L_within
  refine sm_iload_n (pc := 0) 0 ok dx_L_within_0 rfl ?_
  refine sm_if_lt (pc := 1) 13 ok dx_L_within_1 (by decide) (fun _ => ?_) (fun _ => ?_)
  · refine sm_iconst (pc := 13) (0 : Int32) ok dx_L_within_13 zk_0 ?_
    exact sm_zret (pc := 14) ok dx_L_within_14 hr rfl
  · refine sm_iload_n (pc := 4) 0 ok dx_L_within_4 rfl ?_
    refine sm_iload_n (pc := 5) 1 ok dx_L_within_5 rfl ?_
    refine sm_icmp_gt (pc := 6) 13 ok dx_L_within_6 (by decide) (fun _ => ?_) (fun _ => ?_)
    · refine sm_iconst (pc := 13) (0 : Int32) ok dx_L_within_13 zk_0 ?_
      exact sm_zret (pc := 14) ok dx_L_within_14 hr rfl
    · refine sm_iconst (pc := 9) (1 : Int32) ok dx_L_within_9 zk_1 ?_
      refine sm_goto (pc := 10) 14 ok dx_L_within_10 (by decide) ?_
      exact sm_zret (pc := 14) ok dx_L_within_14 hr rfl
theorem cx_L_within {l : Launch} {wc : sm_Wc} (hj : sm_inj zx_sy wc) (N : Nat) (S : sm_St) (v0 : Int32) (v1 : Int32) : sm_Ct l zx_sy wc yx_L_within prog_1_method_41_code 2 (some .boolean) 0 0 [.int v0, .int v1] S (sm_Pi zx_sy wc) (px_L_within N S v0 v1) :=
  sm_entry (Pq := fun wc => sm_Pi zx_sy wc) (fun wc => [.int v0, .int v1]) (lv := fun wc => [(0, .int v0), (1, .int v1)]) (by decide) hj zx_ok zx_stb (fun _ => Nat.le_of_ble_eq_true rfl) (fun _ => rfl) (fun x _ ok hr => tx_L_within ok hr N S v0 v1)
set_option maxHeartbeats 4000000 in
set_option maxRecDepth 20000 in
theorem tx_Shades_putParts_b5 {x : sm_Cx} (ok : sm_Ok x zx_sy prog_8_method_4_code "LentShades$Shades" 8 0 0) (hr : (xh x).sig.returnType = none) (N : Nat) (p : Nat) (hp : zx_sy.1 p = (16, 0)) : ∀ (n : Nat) (v1 : Int32) (v2 : Int32) (v3 : Int64) (v5 : Int32) (S : sm_St), sm_Sm x zx_sy prog_8_method_4_code (sm_Q x zx_sy (sm_Pv zx_sy (xw x))) (px_Shades_putParts_b5 N p n v1 v2 v3 v5 S) S 5 [(0, .ref ((xw x).2.2 p)), (1, .int v1), (2, .int v2), (3, .long v3), (5, .int v5)] [] := by
  intro n
  induction n with
  | zero =>
    intro v1 v2 v3 v5 S
    exact sm_none
  | succ n ih =>
    intro v1 v2 v3 v5 S
    show sm_Sm x zx_sy prog_8_method_4_code (sm_Q x zx_sy (sm_Pv zx_sy (xw x))) (if (S.1 p 1) ≤ v5 then (some S) else (if sm_in ((80 : Int32) + v5) 100 = true then (sm_lt (v3 + (v2.toInt64 * (S.1 (p + 1) ((80 : Int32) + v5).toNatClampNeg).toInt64)) (fun (v6_3 : Int64) => if sm_in ((v1 * (20 : Int32)) + v5) 100 = true then sm_lt (sm_sI S (p + 1) ((v1 * (20 : Int32)) + v5).toNatClampNeg ((v6_3 &&& (1073741823 : Int64)).toInt32)) (fun (S_4 : sm_St) => sm_lt (v6_3 >>> ((30 : Int32).toInt64 &&& 63)) (fun (v3_5 : Int64) => sm_lt (v5 + (1 : Int32)) (fun (v5_6 : Int32) => (px_Shades_putParts_b5 N p n) v1 v2 v3_5 v5_6 S_4))) else none)) else none)) S 5 [(0, .ref ((xw x).2.2 p)), (1, .int v1), (2, .int v2), (3, .long v3), (5, .int v5)] []
    refine sm_iload (pc := 5) 4 ok dx_Shades_putParts_5 rfl ?_
    refine sm_aload_n (pc := 7) 0 ok dx_Shades_putParts_7 rfl ?_
    refine sm_getI (pc := 8) (ci := 6) (k := 1) ok dx_Shades_putParts_8 hp rfl zc_i6 (by decide) rfl wd_149 ?_
    refine sm_icmp_ge (pc := 11) 63 ok dx_Shades_putParts_11 (by decide) (fun _ => ?_) (fun _ => ?_)
    · exact sm_vret (pc := 63) ok dx_Shades_putParts_63 hr
    · refine sm_lload_n (pc := 14) 3 ok dx_Shades_putParts_14 rfl ?_
      refine sm_iload_n (pc := 15) 2 ok dx_Shades_putParts_15 rfl ?_
      refine sm_i2l (pc := 16) ok dx_Shades_putParts_16 ?_
      refine sm_aload_n (pc := 17) 0 ok dx_Shades_putParts_17 rfl ?_
      refine sm_getR (pc := 18) (ci := 6) (k := 0) ok dx_Shades_putParts_18 hp rfl zc_i6 (by decide) rfl wd_146 ?_
      refine sm_bipush (pc := 21) (80 : Int32) ok dx_Shades_putParts_21 zb_80 ?_
      refine sm_iload (pc := 23) 4 ok dx_Shades_putParts_23 rfl ?_
      refine sm_iadd (pc := 25) ok dx_Shades_putParts_25 ?_
      refine sm_iald (pc := 26) ok dx_Shades_putParts_26 (zx_Shades_1 hp) ?_
      refine sm_i2l (pc := 27) ok dx_Shades_putParts_27 ?_
      refine sm_lmul (pc := 28) ok dx_Shades_putParts_28 ?_
      refine sm_ladd (pc := 29) ok dx_Shades_putParts_29 ?_
      refine sm_lstore (pc := 30) (i := 6) ok dx_Shades_putParts_30 (by decide) (fun v => [(6, .long v), (0, .ref ((xw x).2.2 p)), (1, .int v1), (2, .int v2), (3, .long v3), (5, .int v5)]) (fun _ => rfl) (fun v6_3 => ?_)
      refine sm_aload_n (pc := 32) 1 ok dx_Shades_putParts_32 rfl ?_
      refine sm_getR (pc := 33) (ci := 6) (k := 0) ok dx_Shades_putParts_33 hp rfl zc_i6 (by decide) rfl wd_146 ?_
      refine sm_iload_n (pc := 36) 2 ok dx_Shades_putParts_36 rfl ?_
      refine sm_bipush (pc := 37) (20 : Int32) ok dx_Shades_putParts_37 zb_20 ?_
      refine sm_imul (pc := 39) ok dx_Shades_putParts_39 ?_
      refine sm_iload (pc := 40) 5 ok dx_Shades_putParts_40 rfl ?_
      refine sm_iadd (pc := 42) ok dx_Shades_putParts_42 ?_
      refine sm_lload (pc := 43) 0 ok dx_Shades_putParts_43 rfl ?_
      refine sm_ldc2 (pc := 45) ok dx_Shades_putParts_45 wd_466 ?_
      refine sm_land (pc := 48) ok dx_Shades_putParts_48 ?_
      refine sm_l2i (pc := 49) ok dx_Shades_putParts_49 ?_
      refine sm_iast (pc := 50) ok dx_Shades_putParts_50 (zx_Shades_1 hp) (fun S_4 => ?_)
      refine sm_lload (pc := 51) 0 ok dx_Shades_putParts_51 rfl ?_
      refine sm_bipush (pc := 53) (30 : Int32) ok dx_Shades_putParts_53 zb_30 ?_
      refine sm_lshr (pc := 55) ok dx_Shades_putParts_55 ?_
      refine sm_lstore_n (pc := 56) (i := 3) ok dx_Shades_putParts_56 rfl (by decide) (fun v => [(3, .long v), (6, .long v6_3), (0, .ref ((xw x).2.2 p)), (1, .int v1), (2, .int v2), (5, .int v5)]) (fun _ => rfl) (fun v3_5 => ?_)
      refine sm_iinc (pc := 57) (i := 5) 5 (1 : Int32) ok dx_Shades_putParts_57 rfl zk_1 (by decide) (fun v => [(5, .int v), (3, .long v3_5), (6, .long v6_3), (0, .ref ((xw x).2.2 p)), (1, .int v1), (2, .int v2)]) (fun _ => rfl) (fun v5_6 => ?_)
      refine sm_goto (pc := 60) 5 ok dx_Shades_putParts_60 (by decide) ?_
      refine sm_lv [3, 4, 5, 1, 0] rfl ?_
      exact ih _ _ _ _ _
set_option maxHeartbeats 4000000 in
set_option maxRecDepth 20000 in
theorem tx_Shades_putParts {x : sm_Cx} (ok : sm_Ok x zx_sy prog_8_method_4_code "LentShades$Shades" 8 0 0) (hr : (xh x).sig.returnType = none) (N : Nat) (S : sm_St) (p : Nat) (v1 : Int32) (v2 : Int32) (hp : zx_sy.1 p = (16, 0)) : sm_Sm x zx_sy prog_8_method_4_code (sm_Q x zx_sy (sm_Pv zx_sy (xw x))) (px_Shades_putParts N S p v1 v2) S 0 [(0, .ref ((xw x).2.2 p)), (1, .int v1), (2, .int v2)] [] := by
  unfold px_Shades_putParts
  refine sm_lconst (pc := 0) (0 : Int64) ok dx_Shades_putParts_0 zl_0 ?_
  refine sm_lstore_n (pc := 1) (i := 3) ok dx_Shades_putParts_1 rfl (by decide) (fun v => [(3, .long v), (0, .ref ((xw x).2.2 p)), (1, .int v1), (2, .int v2)]) (fun _ => rfl) (fun v3_1 => ?_)
  refine sm_iconst (pc := 2) (0 : Int32) ok dx_Shades_putParts_2 zk_0 ?_
  refine sm_istore (pc := 3) (i := 5) ok dx_Shades_putParts_3 (by decide) (fun v => [(5, .int v), (3, .long v3_1), (0, .ref ((xw x).2.2 p)), (1, .int v1), (2, .int v2)]) (fun _ => rfl) (fun v5_2 => ?_)
  refine sm_lv [2, 3, 4, 1, 0] rfl ?_
  exact tx_Shades_putParts_b5 ok hr N p hp N _ _ _ _ _
theorem cx_Shades_putParts {l : Launch} {wc : sm_Wc} (hj : sm_inj zx_sy wc) (N : Nat) (S : sm_St) (p : Nat) (v1 : Int32) (v2 : Int32) (hp : zx_sy.1 p = (16, 0)) : sm_Ct l zx_sy wc yx_Shades_putParts prog_8_method_4_code 8 none 0 0 [.ref (wc.2.2 p), .int v1, .int v2] S (sm_Pv zx_sy wc) (px_Shades_putParts N S p v1 v2) :=
  sm_entry (Pq := fun wc => sm_Pv zx_sy wc) (fun wc => [.ref (wc.2.2 p), .int v1, .int v2]) (lv := fun wc => [(0, .ref (wc.2.2 p)), (1, .int v1), (2, .int v2)]) (by decide) hj zx_ok zx_stb (fun _ => Nat.le_of_ble_eq_true rfl) (fun _ => rfl) (fun x _ ok hr => tx_Shades_putParts ok hr N S p v1 v2 hp)
set_option maxHeartbeats 4000000 in
set_option maxRecDepth 20000 in
theorem tx_House_addCloth {x : sm_Cx} (ok : sm_Ok x zx_sy prog_4_method_8_code "LentShades$House" 4 1 27) (hr : (xh x).sig.returnType = none) (N : Nat) (S : sm_St) (p : Nat) (v1 : Int32) (v2 : Int32) (v3 : Int32) (hp : zx_sy.1 p = (12, 0)) : sm_Sm x zx_sy prog_4_method_8_code (sm_Q x zx_sy (sm_Pv zx_sy (xw x))) (px_House_addCloth N S p v1 v2 v3) S 0 [(0, .ref ((xw x).2.2 p)), (1, .int v1), (2, .int v2), (3, .int v3)] [] := by
  unfold px_House_addCloth
  refine sm_aload_n (pc := 0) 0 ok dx_House_addCloth_0 rfl ?_
  refine sm_getI (pc := 1) (ci := 2) (k := 9) ok dx_House_addCloth_1 hp rfl zc_i2 (by decide) rfl wd_186 ?_
  refine sm_iconst (pc := 4) (4 : Int32) ok dx_House_addCloth_4 zk_4 ?_
  refine sm_icmp_lt (pc := 5) 9 ok dx_House_addCloth_5 (by decide) (fun _ => ?_) (fun _ => ?_)
  · refine sm_aload_n (pc := 9) 0 ok dx_House_addCloth_9 rfl ?_
    refine sm_getR (pc := 10) (ci := 2) (k := 0) ok dx_House_addCloth_10 hp rfl zc_i2 (by decide) rfl wd_160 ?_
    refine sm_aload_n (pc := 13) 0 ok dx_House_addCloth_13 rfl ?_
    refine sm_getI (pc := 14) (ci := 2) (k := 9) ok dx_House_addCloth_14 hp rfl zc_i2 (by decide) rfl wd_186 ?_
    refine sm_iload_n (pc := 17) 1 ok dx_House_addCloth_17 rfl ?_
    refine sm_iast (pc := 18) ok dx_House_addCloth_18 (zx_House_1 hp) (fun S_1 => ?_)
    refine sm_aload_n (pc := 19) 0 ok dx_House_addCloth_19 rfl ?_
    refine sm_getR (pc := 20) (ci := 2) (k := 1) ok dx_House_addCloth_20 hp rfl zc_i2 (by decide) rfl wd_162 ?_
    refine sm_aload_n (pc := 23) 0 ok dx_House_addCloth_23 rfl ?_
    refine sm_getI (pc := 24) (ci := 2) (k := 9) ok dx_House_addCloth_24 hp rfl zc_i2 (by decide) rfl wd_186 ?_
    refine sm_iload_n (pc := 27) 2 ok dx_House_addCloth_27 rfl ?_
    refine sm_iast (pc := 28) ok dx_House_addCloth_28 (zx_House_2 hp) (fun S_2 => ?_)
    refine sm_aload_n (pc := 29) 0 ok dx_House_addCloth_29 rfl ?_
    refine sm_getR (pc := 30) (ci := 2) (k := 2) ok dx_House_addCloth_30 hp rfl zc_i2 (by decide) rfl wd_164 ?_
    refine sm_aload_n (pc := 33) 0 ok dx_House_addCloth_33 rfl ?_
    refine sm_getI (pc := 34) (ci := 2) (k := 9) ok dx_House_addCloth_34 hp rfl zc_i2 (by decide) rfl wd_186 ?_
    refine sm_iconst (pc := 37) (0 : Int32) ok dx_House_addCloth_37 zk_0 ?_
    refine sm_iast (pc := 38) ok dx_House_addCloth_38 (zx_House_3 hp) (fun S_3 => ?_)
    refine sm_aload_n (pc := 39) 0 ok dx_House_addCloth_39 rfl ?_
    refine sm_getR (pc := 40) (ci := 2) (k := 3) ok dx_House_addCloth_40 hp rfl zc_i2 (by decide) rfl wd_167 ?_
    refine sm_aload_n (pc := 43) 0 ok dx_House_addCloth_43 rfl ?_
    refine sm_getI (pc := 44) (ci := 2) (k := 9) ok dx_House_addCloth_44 hp rfl zc_i2 (by decide) rfl wd_186 ?_
    refine sm_bipush (pc := 47) (12 : Int32) ok dx_House_addCloth_47 zb_12 ?_
    refine sm_iast (pc := 49) ok dx_House_addCloth_49 (zx_House_4 hp) (fun S_4 => ?_)
    refine sm_aload_n (pc := 50) 0 ok dx_House_addCloth_50 rfl ?_
    refine sm_getR (pc := 51) (ci := 2) (k := 6) ok dx_House_addCloth_51 hp rfl zc_i2 (by decide) rfl wd_178 ?_
    refine sm_aload_n (pc := 54) 0 ok dx_House_addCloth_54 rfl ?_
    refine sm_getI (pc := 55) (ci := 2) (k := 9) ok dx_House_addCloth_55 hp rfl zc_i2 (by decide) rfl wd_186 ?_
    refine sm_iload_n (pc := 58) 3 ok dx_House_addCloth_58 rfl ?_
    refine sm_callV_v (pc := 59) (ci := 6) [.int (S_4.1 p 9), .int v3] ok dx_House_addCloth_59 wd_462 mwx_Shades_putParts (zx_House_11 hp) rfl (Nat.le_of_ble_eq_true rfl) (Nat.le_of_ble_eq_true rfl) rfl rfl (Nat.le_of_ble_eq_true rfl) (cx_Shades_putParts (sm_okj ok) N S_4 (p + 11) (S_4.1 p 9) v3 (zx_House_11 hp)) (fun S_5 => ?_)
    refine sm_aload_n (pc := 62) 0 ok dx_House_addCloth_62 rfl ?_
    refine sm_dup (pc := 63) ok dx_House_addCloth_63 rfl ?_
    refine sm_getI (pc := 64) (ci := 2) (k := 9) ok dx_House_addCloth_64 hp rfl zc_i2 (by decide) rfl wd_186 ?_
    refine sm_iconst (pc := 67) (1 : Int32) ok dx_House_addCloth_67 zk_1 ?_
    refine sm_iadd (pc := 68) ok dx_House_addCloth_68 ?_
    refine sm_putI (pc := 69) (ci := 2) (k := 9) ok dx_House_addCloth_69 hp rfl zc_i2 zc_y2 zc_t2 zc_n2 (by decide) rfl rfl rfl wd_186 (fun S_6 => ?_)
    refine sm_aload_n (pc := 72) 0 ok dx_House_addCloth_72 rfl ?_
    refine sm_iconst (pc := 73) (0 : Int32) ok dx_House_addCloth_73 zk_0 ?_
    refine sm_putI (pc := 74) (ci := 2) (k := 12) ok dx_House_addCloth_74 hp rfl zc_i2 zc_y2 zc_t2 zc_n2 (by decide) rfl rfl rfl wd_194 (fun S_7 => ?_)
    exact sm_vret (pc := 77) ok dx_House_addCloth_77 hr
  · exact sm_vret (pc := 8) ok dx_House_addCloth_8 hr
theorem cx_House_addCloth {l : Launch} {wc : sm_Wc} (hj : sm_inj zx_sy wc) (N : Nat) (S : sm_St) (p : Nat) (v1 : Int32) (v2 : Int32) (v3 : Int32) (hp : zx_sy.1 p = (12, 0)) : sm_Ct l zx_sy wc yx_House_addCloth prog_4_method_8_code 4 none 1 27 [.ref (wc.2.2 p), .int v1, .int v2, .int v3] S (sm_Pv zx_sy wc) (px_House_addCloth N S p v1 v2 v3) :=
  sm_entry (Pq := fun wc => sm_Pv zx_sy wc) (fun wc => [.ref (wc.2.2 p), .int v1, .int v2, .int v3]) (lv := fun wc => [(0, .ref (wc.2.2 p)), (1, .int v1), (2, .int v2), (3, .int v3)]) (by decide) hj zx_ok zx_stb (fun _ => Nat.le_of_ble_eq_true rfl) (fun _ => rfl) (fun x _ ok hr => tx_House_addCloth ok hr N S p v1 v2 v3 hp)
set_option maxHeartbeats 4000000 in
set_option maxRecDepth 20000 in
theorem tx_L_refusedFull {x : sm_Cx} (ok : sm_Ok x zx_sy prog_1_method_34_code "LentShades" 1 0 0) (hr : (xh x).sig.returnType = (some .int)) (N : Nat) (S : sm_St) : sm_Sm x zx_sy prog_1_method_34_code (sm_Q x zx_sy (sm_Pi zx_sy (xw x))) (px_L_refusedFull N S) S 0 [(0, .ref ((xw x).2.2 0))] [] := by
  unfold px_L_refusedFull
  refine sm_aload_n (pc := 0) 0 ok dx_L_refusedFull_0 rfl ?_
  refine sm_dup (pc := 1) ok dx_L_refusedFull_1 rfl ?_
  refine sm_getI (pc := 2) (ci := 9) (k := 13) ok dx_L_refusedFull_2 rfl rfl zc_i9 (by decide) rfl wd_413 ?_
  refine sm_iconst (pc := 5) (1 : Int32) ok dx_L_refusedFull_5 zk_1 ?_
  refine sm_iadd (pc := 6) ok dx_L_refusedFull_6 ?_
  refine sm_putI (pc := 7) (ci := 9) (k := 13) ok dx_L_refusedFull_7 rfl rfl zc_i9 zc_y9 zc_t9 zc_n9 (by decide) rfl rfl rfl wd_413 (fun S_1 => ?_)
  refine sm_bipush (pc := 10) (-4 : Int32) ok dx_L_refusedFull_10 zb_m4 ?_
  exact sm_iret (pc := 12) ok dx_L_refusedFull_12 hr
theorem cx_L_refusedFull {l : Launch} {wc : sm_Wc} (hj : sm_inj zx_sy wc) (N : Nat) (S : sm_St) : sm_Ct l zx_sy wc yx_L_refusedFull prog_1_method_34_code 1 (some .int) 0 0 [.ref (wc.2.2 0)] S (sm_Pi zx_sy wc) (px_L_refusedFull N S) :=
  sm_entry (Pq := fun wc => sm_Pi zx_sy wc) (fun wc => [.ref (wc.2.2 0)]) (lv := fun wc => [(0, .ref (wc.2.2 0))]) (by decide) hj zx_ok zx_stb (fun _ => Nat.le_of_ble_eq_true rfl) (fun _ => rfl) (fun x _ ok hr => tx_L_refusedFull ok hr N S)
set_option maxHeartbeats 4000000 in
set_option maxRecDepth 20000 in
theorem tx_L_refusedBad {x : sm_Cx} (ok : sm_Ok x zx_sy prog_1_method_32_code "LentShades" 1 0 0) (hr : (xh x).sig.returnType = (some .int)) (N : Nat) (S : sm_St) : sm_Sm x zx_sy prog_1_method_32_code (sm_Q x zx_sy (sm_Pi zx_sy (xw x))) (px_L_refusedBad N S) S 0 [(0, .ref ((xw x).2.2 0))] [] := by
  unfold px_L_refusedBad
  refine sm_aload_n (pc := 0) 0 ok dx_L_refusedBad_0 rfl ?_
  refine sm_dup (pc := 1) ok dx_L_refusedBad_1 rfl ?_
  refine sm_getI (pc := 2) (ci := 9) (k := 11) ok dx_L_refusedBad_2 rfl rfl zc_i9 (by decide) rfl wd_411 ?_
  refine sm_iconst (pc := 5) (1 : Int32) ok dx_L_refusedBad_5 zk_1 ?_
  refine sm_iadd (pc := 6) ok dx_L_refusedBad_6 ?_
  refine sm_putI (pc := 7) (ci := 9) (k := 11) ok dx_L_refusedBad_7 rfl rfl zc_i9 zc_y9 zc_t9 zc_n9 (by decide) rfl rfl rfl wd_411 (fun S_1 => ?_)
  refine sm_bipush (pc := 10) (-2 : Int32) ok dx_L_refusedBad_10 zb_m2 ?_
  exact sm_iret (pc := 12) ok dx_L_refusedBad_12 hr
theorem cx_L_refusedBad {l : Launch} {wc : sm_Wc} (hj : sm_inj zx_sy wc) (N : Nat) (S : sm_St) : sm_Ct l zx_sy wc yx_L_refusedBad prog_1_method_32_code 1 (some .int) 0 0 [.ref (wc.2.2 0)] S (sm_Pi zx_sy wc) (px_L_refusedBad N S) :=
  sm_entry (Pq := fun wc => sm_Pi zx_sy wc) (fun wc => [.ref (wc.2.2 0)]) (lv := fun wc => [(0, .ref (wc.2.2 0))]) (by decide) hj zx_ok zx_stb (fun _ => Nat.le_of_ble_eq_true rfl) (fun _ => rfl) (fun x _ ok hr => tx_L_refusedBad ok hr N S)
set_option maxHeartbeats 4000000 in
set_option maxRecDepth 20000 in
theorem tx_L_cloth_b25 {x : sm_Cx} (ok : sm_Ok x zx_sy prog_1_method_2_code "LentShades" 4 2 50) (hr : (xh x).sig.returnType = (some .int)) (N : Nat) (S : sm_St) : sm_Sm x zx_sy prog_1_method_2_code (sm_Q x zx_sy (sm_Pi zx_sy (xw x))) (px_L_cloth_b25 N S) S 25 [(0, .ref ((xw x).2.2 0))] [] := by
  unfold px_L_cloth_b25
  refine sm_aload_n (pc := 25) 0 ok dx_L_cloth_25 rfl ?_
  refine sm_callV_i (pc := 26) (ci := 9) [] ok dx_L_cloth_26 wd_450 mwx_L_refusedBad rfl rfl (Nat.le_of_ble_eq_true rfl) (Nat.le_of_ble_eq_true rfl) rfl rfl (Nat.le_of_ble_eq_true rfl) (cx_L_refusedBad (sm_okj ok) N S) (fun r_11 S_10 => ?_)
  exact sm_iret (pc := 29) ok dx_L_cloth_29 hr
set_option maxHeartbeats 4000000 in
set_option maxRecDepth 20000 in
theorem tx_L_cloth {x : sm_Cx} (ok : sm_Ok x zx_sy prog_1_method_2_code "LentShades" 4 2 50) (hr : (xh x).sig.returnType = (some .int)) (N : Nat) (S : sm_St) (v1 : Int32) (v2 : Int32) (v3 : Int32) : sm_Sm x zx_sy prog_1_method_2_code (sm_Q x zx_sy (sm_Pi zx_sy (xw x))) (px_L_cloth N S v1 v2 v3) S 0 [(0, .ref ((xw x).2.2 0)), (1, .int v1), (2, .int v2), (3, .int v3)] [] := by
  unfold px_L_cloth
  refine sm_iload_n (pc := 0) 1 ok dx_L_cloth_0 rfl ?_
  refine sm_iconst (pc := 1) (4 : Int32) ok dx_L_cloth_1 zk_4 ?_
  refine sm_callS_i (pc := 2) [.int v1, .int (4 : Int32)] ok dx_L_cloth_2 wd_447 mwx_L_within (Nat.le_of_ble_eq_true rfl) (Nat.le_of_ble_eq_true rfl) rfl rfl (Nat.le_of_ble_eq_true rfl) (cx_L_within (sm_okj ok) N S v1 (4 : Int32)) (fun r_2 S_1 => ?_)
  refine sm_if_eq (pc := 5) 25 ok dx_L_cloth_5 (by decide) (fun _ => ?_) (fun _ => ?_)
  · refine sm_lv [0] rfl ?_
    exact tx_L_cloth_b25 ok hr N _
  · refine sm_iload_n (pc := 8) 2 ok dx_L_cloth_8 rfl ?_
    refine sm_iconst (pc := 9) (3 : Int32) ok dx_L_cloth_9 zk_3 ?_
    refine sm_callS_i (pc := 10) [.int v2, .int (3 : Int32)] ok dx_L_cloth_10 wd_447 mwx_L_within (Nat.le_of_ble_eq_true rfl) (Nat.le_of_ble_eq_true rfl) rfl rfl (Nat.le_of_ble_eq_true rfl) (cx_L_within (sm_okj ok) N S_1 v2 (3 : Int32)) (fun r_4 S_3 => ?_)
    refine sm_if_eq (pc := 13) 25 ok dx_L_cloth_13 (by decide) (fun _ => ?_) (fun _ => ?_)
    · refine sm_lv [0] rfl ?_
      exact tx_L_cloth_b25 ok hr N _
    · refine sm_iload_n (pc := 16) 3 ok dx_L_cloth_16 rfl ?_
      refine sm_bipush (pc := 17) (12 : Int32) ok dx_L_cloth_17 zb_12 ?_
      refine sm_callS_i (pc := 19) [.int v3, .int (12 : Int32)] ok dx_L_cloth_19 wd_447 mwx_L_within (Nat.le_of_ble_eq_true rfl) (Nat.le_of_ble_eq_true rfl) rfl rfl (Nat.le_of_ble_eq_true rfl) (cx_L_within (sm_okj ok) N S_3 v3 (12 : Int32)) (fun r_6 S_5 => ?_)
      refine sm_if_ne (pc := 22) 30 ok dx_L_cloth_22 (by decide) (fun _ => ?_) (fun _ => ?_)
      · refine sm_aload_n (pc := 30) 0 ok dx_L_cloth_30 rfl ?_
        refine sm_getR (pc := 31) (ci := 9) (k := 0) ok dx_L_cloth_31 rfl rfl zc_i9 (by decide) rfl wd_400 ?_
        refine sm_getI (pc := 34) (ci := 2) (k := 9) ok dx_L_cloth_34 rfl rfl zc_i2 (by decide) rfl wd_188 ?_
        refine sm_iconst (pc := 37) (4 : Int32) ok dx_L_cloth_37 zk_4 ?_
        refine sm_icmp_lt (pc := 38) 46 ok dx_L_cloth_38 (by decide) (fun _ => ?_) (fun _ => ?_)
        · refine sm_aload_n (pc := 46) 0 ok dx_L_cloth_46 rfl ?_
          refine sm_getR (pc := 47) (ci := 9) (k := 0) ok dx_L_cloth_47 rfl rfl zc_i9 (by decide) rfl wd_400 ?_
          refine sm_iload_n (pc := 50) 1 ok dx_L_cloth_50 rfl ?_
          refine sm_iload_n (pc := 51) 2 ok dx_L_cloth_51 rfl ?_
          refine sm_iload_n (pc := 52) 3 ok dx_L_cloth_52 rfl ?_
          refine sm_callV_v (pc := 53) (ci := 2) [.int v1, .int v2, .int v3] ok dx_L_cloth_53 wd_458 mwx_House_addCloth rfl rfl (Nat.le_of_ble_eq_true rfl) (Nat.le_of_ble_eq_true rfl) rfl rfl (Nat.le_of_ble_eq_true rfl) (cx_House_addCloth (sm_okj ok) N S_5 1 v1 v2 v3 rfl) (fun S_7 => ?_)
          refine sm_aload_n (pc := 56) 0 ok dx_L_cloth_56 rfl ?_
          refine sm_getR (pc := 57) (ci := 9) (k := 0) ok dx_L_cloth_57 rfl rfl zc_i9 (by decide) rfl wd_400 ?_
          refine sm_getI (pc := 60) (ci := 2) (k := 9) ok dx_L_cloth_60 rfl rfl zc_i2 (by decide) rfl wd_188 ?_
          refine sm_iconst (pc := 63) (1 : Int32) ok dx_L_cloth_63 zk_1 ?_
          refine sm_isub (pc := 64) ok dx_L_cloth_64 ?_
          exact sm_iret (pc := 65) ok dx_L_cloth_65 hr
        · refine sm_aload_n (pc := 41) 0 ok dx_L_cloth_41 rfl ?_
          refine sm_callV_i (pc := 42) (ci := 9) [] ok dx_L_cloth_42 wd_454 mwx_L_refusedFull rfl rfl (Nat.le_of_ble_eq_true rfl) (Nat.le_of_ble_eq_true rfl) rfl rfl (Nat.le_of_ble_eq_true rfl) (cx_L_refusedFull (sm_okj ok) N S_5) (fun r_9 S_8 => ?_)
          exact sm_iret (pc := 45) ok dx_L_cloth_45 hr
      · refine sm_lv [0] rfl ?_
        exact tx_L_cloth_b25 ok hr N _
theorem cx_L_cloth {l : Launch} {wc : sm_Wc} (hj : sm_inj zx_sy wc) (N : Nat) (S : sm_St) (v1 : Int32) (v2 : Int32) (v3 : Int32) : sm_Ct l zx_sy wc yx_L_cloth prog_1_method_2_code 4 (some .int) 2 50 [.ref (wc.2.2 0), .int v1, .int v2, .int v3] S (sm_Pi zx_sy wc) (px_L_cloth N S v1 v2 v3) :=
  sm_entry (Pq := fun wc => sm_Pi zx_sy wc) (fun wc => [.ref (wc.2.2 0), .int v1, .int v2, .int v3]) (lv := fun wc => [(0, .ref (wc.2.2 0)), (1, .int v1), (2, .int v2), (3, .int v3)]) (by decide) hj zx_ok zx_stb (fun _ => Nat.le_of_ble_eq_true rfl) (fun _ => rfl) (fun x _ ok hr => tx_L_cloth ok hr N S v1 v2 v3)
set_option maxHeartbeats 4000000 in
set_option maxRecDepth 20000 in
theorem tx_House_addThing {x : sm_Cx} (ok : sm_Ok x zx_sy prog_4_method_9_code "LentShades$House" 2 0 0) (hr : (xh x).sig.returnType = none) (N : Nat) (S : sm_St) (p : Nat) (v1 : Int32) (hp : zx_sy.1 p = (12, 0)) : sm_Sm x zx_sy prog_4_method_9_code (sm_Q x zx_sy (sm_Pv zx_sy (xw x))) (px_House_addThing N S p v1) S 0 [(0, .ref ((xw x).2.2 p)), (1, .int v1)] [] := by
  unfold px_House_addThing
  refine sm_aload_n (pc := 0) 0 ok dx_House_addThing_0 rfl ?_
  refine sm_getI (pc := 1) (ci := 2) (k := 10) ok dx_House_addThing_1 hp rfl zc_i2 (by decide) rfl wd_189 ?_
  refine sm_iconst (pc := 4) (4 : Int32) ok dx_House_addThing_4 zk_4 ?_
  refine sm_icmp_ge (pc := 5) 28 ok dx_House_addThing_5 (by decide) (fun _ => ?_) (fun _ => ?_)
  · exact sm_vret (pc := 28) ok dx_House_addThing_28 hr
  · refine sm_aload_n (pc := 8) 0 ok dx_House_addThing_8 rfl ?_
    refine sm_getR (pc := 9) (ci := 2) (k := 4) ok dx_House_addThing_9 hp rfl zc_i2 (by decide) rfl wd_170 ?_
    refine sm_aload_n (pc := 12) 0 ok dx_House_addThing_12 rfl ?_
    refine sm_getI (pc := 13) (ci := 2) (k := 10) ok dx_House_addThing_13 hp rfl zc_i2 (by decide) rfl wd_189 ?_
    refine sm_iload_n (pc := 16) 1 ok dx_House_addThing_16 rfl ?_
    refine sm_iast (pc := 17) ok dx_House_addThing_17 (zx_House_5 hp) (fun S_1 => ?_)
    refine sm_aload_n (pc := 18) 0 ok dx_House_addThing_18 rfl ?_
    refine sm_dup (pc := 19) ok dx_House_addThing_19 rfl ?_
    refine sm_getI (pc := 20) (ci := 2) (k := 10) ok dx_House_addThing_20 hp rfl zc_i2 (by decide) rfl wd_189 ?_
    refine sm_iconst (pc := 23) (1 : Int32) ok dx_House_addThing_23 zk_1 ?_
    refine sm_iadd (pc := 24) ok dx_House_addThing_24 ?_
    refine sm_putI (pc := 25) (ci := 2) (k := 10) ok dx_House_addThing_25 hp rfl zc_i2 zc_y2 zc_t2 zc_n2 (by decide) rfl rfl rfl wd_189 (fun S_2 => ?_)
    exact sm_vret (pc := 28) ok dx_House_addThing_28 hr
theorem cx_House_addThing {l : Launch} {wc : sm_Wc} (hj : sm_inj zx_sy wc) (N : Nat) (S : sm_St) (p : Nat) (v1 : Int32) (hp : zx_sy.1 p = (12, 0)) : sm_Ct l zx_sy wc yx_House_addThing prog_4_method_9_code 2 none 0 0 [.ref (wc.2.2 p), .int v1] S (sm_Pv zx_sy wc) (px_House_addThing N S p v1) :=
  sm_entry (Pq := fun wc => sm_Pv zx_sy wc) (fun wc => [.ref (wc.2.2 p), .int v1]) (lv := fun wc => [(0, .ref (wc.2.2 p)), (1, .int v1)]) (by decide) hj zx_ok zx_stb (fun _ => Nat.le_of_ble_eq_true rfl) (fun _ => rfl) (fun x _ ok hr => tx_House_addThing ok hr N S p v1 hp)
set_option maxHeartbeats 4000000 in
set_option maxRecDepth 20000 in
theorem tx_L_thing {x : sm_Cx} (ok : sm_Ok x zx_sy prog_1_method_3_code "LentShades" 2 1 21) (hr : (xh x).sig.returnType = (some .int)) (N : Nat) (S : sm_St) (v1 : Int32) : sm_Sm x zx_sy prog_1_method_3_code (sm_Q x zx_sy (sm_Pi zx_sy (xw x))) (px_L_thing N S v1) S 0 [(0, .ref ((xw x).2.2 0)), (1, .int v1)] [] := by
  unfold px_L_thing
  refine sm_iload_n (pc := 0) 1 ok dx_L_thing_0 rfl ?_
  refine sm_bipush (pc := 1) (12 : Int32) ok dx_L_thing_1 zb_12 ?_
  refine sm_callS_i (pc := 3) [.int v1, .int (12 : Int32)] ok dx_L_thing_3 wd_447 mwx_L_within (Nat.le_of_ble_eq_true rfl) (Nat.le_of_ble_eq_true rfl) rfl rfl (Nat.le_of_ble_eq_true rfl) (cx_L_within (sm_okj ok) N S v1 (12 : Int32)) (fun r_2 S_1 => ?_)
  refine sm_if_ne (pc := 6) 14 ok dx_L_thing_6 (by decide) (fun _ => ?_) (fun _ => ?_)
  · refine sm_aload_n (pc := 14) 0 ok dx_L_thing_14 rfl ?_
    refine sm_getR (pc := 15) (ci := 9) (k := 0) ok dx_L_thing_15 rfl rfl zc_i9 (by decide) rfl wd_400 ?_
    refine sm_getI (pc := 18) (ci := 2) (k := 10) ok dx_L_thing_18 rfl rfl zc_i2 (by decide) rfl wd_190 ?_
    refine sm_iconst (pc := 21) (4 : Int32) ok dx_L_thing_21 zk_4 ?_
    refine sm_icmp_lt (pc := 22) 30 ok dx_L_thing_22 (by decide) (fun _ => ?_) (fun _ => ?_)
    · refine sm_aload_n (pc := 30) 0 ok dx_L_thing_30 rfl ?_
      refine sm_getR (pc := 31) (ci := 9) (k := 0) ok dx_L_thing_31 rfl rfl zc_i9 (by decide) rfl wd_400 ?_
      refine sm_iload_n (pc := 34) 1 ok dx_L_thing_34 rfl ?_
      refine sm_callV_v (pc := 35) (ci := 2) [.int v1] ok dx_L_thing_35 wd_471 mwx_House_addThing rfl rfl (Nat.le_of_ble_eq_true rfl) (Nat.le_of_ble_eq_true rfl) rfl rfl (Nat.le_of_ble_eq_true rfl) (cx_House_addThing (sm_okj ok) N S_1 1 v1 rfl) (fun S_3 => ?_)
      refine sm_aload_n (pc := 38) 0 ok dx_L_thing_38 rfl ?_
      refine sm_getR (pc := 39) (ci := 9) (k := 0) ok dx_L_thing_39 rfl rfl zc_i9 (by decide) rfl wd_400 ?_
      refine sm_getI (pc := 42) (ci := 2) (k := 10) ok dx_L_thing_42 rfl rfl zc_i2 (by decide) rfl wd_190 ?_
      refine sm_iconst (pc := 45) (1 : Int32) ok dx_L_thing_45 zk_1 ?_
      refine sm_isub (pc := 46) ok dx_L_thing_46 ?_
      exact sm_iret (pc := 47) ok dx_L_thing_47 hr
    · refine sm_aload_n (pc := 25) 0 ok dx_L_thing_25 rfl ?_
      refine sm_callV_i (pc := 26) (ci := 9) [] ok dx_L_thing_26 wd_454 mwx_L_refusedFull rfl rfl (Nat.le_of_ble_eq_true rfl) (Nat.le_of_ble_eq_true rfl) rfl rfl (Nat.le_of_ble_eq_true rfl) (cx_L_refusedFull (sm_okj ok) N S_1) (fun r_5 S_4 => ?_)
      exact sm_iret (pc := 29) ok dx_L_thing_29 hr
  · refine sm_aload_n (pc := 9) 0 ok dx_L_thing_9 rfl ?_
    refine sm_callV_i (pc := 10) (ci := 9) [] ok dx_L_thing_10 wd_450 mwx_L_refusedBad rfl rfl (Nat.le_of_ble_eq_true rfl) (Nat.le_of_ble_eq_true rfl) rfl rfl (Nat.le_of_ble_eq_true rfl) (cx_L_refusedBad (sm_okj ok) N S_1) (fun r_7 S_6 => ?_)
    exact sm_iret (pc := 13) ok dx_L_thing_13 hr
theorem cx_L_thing {l : Launch} {wc : sm_Wc} (hj : sm_inj zx_sy wc) (N : Nat) (S : sm_St) (v1 : Int32) : sm_Ct l zx_sy wc yx_L_thing prog_1_method_3_code 2 (some .int) 1 21 [.ref (wc.2.2 0), .int v1] S (sm_Pi zx_sy wc) (px_L_thing N S v1) :=
  sm_entry (Pq := fun wc => sm_Pi zx_sy wc) (fun wc => [.ref (wc.2.2 0), .int v1]) (lv := fun wc => [(0, .ref (wc.2.2 0)), (1, .int v1)]) (by decide) hj zx_ok zx_stb (fun _ => Nat.le_of_ble_eq_true rfl) (fun _ => rfl) (fun x _ ok hr => tx_L_thing ok hr N S v1)
set_option maxHeartbeats 4000000 in
set_option maxRecDepth 20000 in
theorem tx_House_hasCloth {x : sm_Cx} (ok : sm_Ok x zx_sy prog_4_method_2_code "LentShades$House" 2 0 0) (hr : (xh x).sig.returnType = (some .boolean)) (N : Nat) (S : sm_St) (p : Nat) (v1 : Int32) (hp : zx_sy.1 p = (12, 0)) : sm_Sm x zx_sy prog_4_method_2_code (sm_Q x zx_sy (sm_Pi zx_sy (xw x))) (px_House_hasCloth N S p v1) S 0 [(0, .ref ((xw x).2.2 p)), (1, .int v1)] [] := by
  unfold px_House_hasCloth
  refine sm_iload_n (pc := 0) 1 ok dx_House_hasCloth_0 rfl ?_
  refine sm_if_lt (pc := 1) 16 ok dx_House_hasCloth_1 (by decide) (fun _ => ?_) (fun _ => ?_)
  · refine sm_iconst (pc := 16) (0 : Int32) ok dx_House_hasCloth_16 zk_0 ?_
    exact sm_zret (pc := 17) ok dx_House_hasCloth_17 hr rfl
  · refine sm_iload_n (pc := 4) 1 ok dx_House_hasCloth_4 rfl ?_
    refine sm_aload_n (pc := 5) 0 ok dx_House_hasCloth_5 rfl ?_
    refine sm_getI (pc := 6) (ci := 2) (k := 9) ok dx_House_hasCloth_6 hp rfl zc_i2 (by decide) rfl wd_186 ?_
    refine sm_icmp_ge (pc := 9) 16 ok dx_House_hasCloth_9 (by decide) (fun _ => ?_) (fun _ => ?_)
    · refine sm_iconst (pc := 16) (0 : Int32) ok dx_House_hasCloth_16 zk_0 ?_
      exact sm_zret (pc := 17) ok dx_House_hasCloth_17 hr rfl
    · refine sm_iconst (pc := 12) (1 : Int32) ok dx_House_hasCloth_12 zk_1 ?_
      refine sm_goto (pc := 13) 17 ok dx_House_hasCloth_13 (by decide) ?_
      exact sm_zret (pc := 17) ok dx_House_hasCloth_17 hr rfl
theorem cx_House_hasCloth {l : Launch} {wc : sm_Wc} (hj : sm_inj zx_sy wc) (N : Nat) (S : sm_St) (p : Nat) (v1 : Int32) (hp : zx_sy.1 p = (12, 0)) : sm_Ct l zx_sy wc yx_House_hasCloth prog_4_method_2_code 2 (some .boolean) 0 0 [.ref (wc.2.2 p), .int v1] S (sm_Pi zx_sy wc) (px_House_hasCloth N S p v1) :=
  sm_entry (Pq := fun wc => sm_Pi zx_sy wc) (fun wc => [.ref (wc.2.2 p), .int v1]) (lv := fun wc => [(0, .ref (wc.2.2 p)), (1, .int v1)]) (by decide) hj zx_ok zx_stb (fun _ => Nat.le_of_ble_eq_true rfl) (fun _ => rfl) (fun x _ ok hr => tx_House_hasCloth ok hr N S p v1 hp)
set_option maxHeartbeats 4000000 in
set_option maxRecDepth 20000 in
theorem tx_House_hasThing {x : sm_Cx} (ok : sm_Ok x zx_sy prog_4_method_3_code "LentShades$House" 2 0 0) (hr : (xh x).sig.returnType = (some .boolean)) (N : Nat) (S : sm_St) (p : Nat) (v1 : Int32) (hp : zx_sy.1 p = (12, 0)) : sm_Sm x zx_sy prog_4_method_3_code (sm_Q x zx_sy (sm_Pi zx_sy (xw x))) (px_House_hasThing N S p v1) S 0 [(0, .ref ((xw x).2.2 p)), (1, .int v1)] [] := by
  unfold px_House_hasThing
  refine sm_iload_n (pc := 0) 1 ok dx_House_hasThing_0 rfl ?_
  refine sm_if_lt (pc := 1) 16 ok dx_House_hasThing_1 (by decide) (fun _ => ?_) (fun _ => ?_)
  · refine sm_iconst (pc := 16) (0 : Int32) ok dx_House_hasThing_16 zk_0 ?_
    exact sm_zret (pc := 17) ok dx_House_hasThing_17 hr rfl
  · refine sm_iload_n (pc := 4) 1 ok dx_House_hasThing_4 rfl ?_
    refine sm_aload_n (pc := 5) 0 ok dx_House_hasThing_5 rfl ?_
    refine sm_getI (pc := 6) (ci := 2) (k := 10) ok dx_House_hasThing_6 hp rfl zc_i2 (by decide) rfl wd_189 ?_
    refine sm_icmp_ge (pc := 9) 16 ok dx_House_hasThing_9 (by decide) (fun _ => ?_) (fun _ => ?_)
    · refine sm_iconst (pc := 16) (0 : Int32) ok dx_House_hasThing_16 zk_0 ?_
      exact sm_zret (pc := 17) ok dx_House_hasThing_17 hr rfl
    · refine sm_iconst (pc := 12) (1 : Int32) ok dx_House_hasThing_12 zk_1 ?_
      refine sm_goto (pc := 13) 17 ok dx_House_hasThing_13 (by decide) ?_
      exact sm_zret (pc := 17) ok dx_House_hasThing_17 hr rfl
theorem cx_House_hasThing {l : Launch} {wc : sm_Wc} (hj : sm_inj zx_sy wc) (N : Nat) (S : sm_St) (p : Nat) (v1 : Int32) (hp : zx_sy.1 p = (12, 0)) : sm_Ct l zx_sy wc yx_House_hasThing prog_4_method_3_code 2 (some .boolean) 0 0 [.ref (wc.2.2 p), .int v1] S (sm_Pi zx_sy wc) (px_House_hasThing N S p v1) :=
  sm_entry (Pq := fun wc => sm_Pi zx_sy wc) (fun wc => [.ref (wc.2.2 p), .int v1]) (lv := fun wc => [(0, .ref (wc.2.2 p)), (1, .int v1)]) (by decide) hj zx_ok zx_stb (fun _ => Nat.le_of_ble_eq_true rfl) (fun _ => rfl) (fun x _ ok hr => tx_House_hasThing ok hr N S p v1 hp)
set_option maxHeartbeats 4000000 in
set_option maxRecDepth 20000 in
theorem tx_House_hasNumber_b23 {x : sm_Cx} (ok : sm_Ok x zx_sy prog_4_method_4_code "LentShades$House" 2 1 21) (hr : (xh x).sig.returnType = (some .boolean)) (N : Nat) (p : Nat) (hp : zx_sy.1 p = (12, 0)) (S : sm_St) : sm_Sm x zx_sy prog_4_method_4_code (sm_Q x zx_sy (sm_Pi zx_sy (xw x))) (px_House_hasNumber_b23 N p S) S 23 [] [] := by
  unfold px_House_hasNumber_b23
  refine sm_iconst (pc := 23) (1 : Int32) ok dx_House_hasNumber_23 zk_1 ?_
  refine sm_goto (pc := 24) 28 ok dx_House_hasNumber_24 (by decide) ?_
  exact sm_zret (pc := 28) ok dx_House_hasNumber_28 hr rfl
set_option maxHeartbeats 4000000 in
set_option maxRecDepth 20000 in
theorem tx_House_hasNumber {x : sm_Cx} (ok : sm_Ok x zx_sy prog_4_method_4_code "LentShades$House" 2 1 21) (hr : (xh x).sig.returnType = (some .boolean)) (N : Nat) (S : sm_St) (p : Nat) (v1 : Int32) (hp : zx_sy.1 p = (12, 0)) : sm_Sm x zx_sy prog_4_method_4_code (sm_Q x zx_sy (sm_Pi zx_sy (xw x))) (px_House_hasNumber N S p v1) S 0 [(0, .ref ((xw x).2.2 p)), (1, .int v1)] [] := by
  unfold px_House_hasNumber
  refine sm_aload_n (pc := 0) 0 ok dx_House_hasNumber_0 rfl ?_
  refine sm_iload_n (pc := 1) 1 ok dx_House_hasNumber_1 rfl ?_
  refine sm_callV_i (pc := 2) (ci := 2) [.int v1] ok dx_House_hasNumber_2 wd_483 mwx_House_hasCloth hp rfl (Nat.le_of_ble_eq_true rfl) (Nat.le_of_ble_eq_true rfl) rfl rfl (Nat.le_of_ble_eq_true rfl) (cx_House_hasCloth (sm_okj ok) N S p v1 hp) (fun r_2 S_1 => ?_)
  refine sm_if_ne (pc := 5) 23 ok dx_House_hasNumber_5 (by decide) (fun _ => ?_) (fun _ => ?_)
  · refine sm_lv [] rfl ?_
    exact tx_House_hasNumber_b23 ok hr N p hp _
  · refine sm_iload_n (pc := 8) 1 ok dx_House_hasNumber_8 rfl ?_
    refine sm_iconst (pc := 9) (4 : Int32) ok dx_House_hasNumber_9 zk_4 ?_
    refine sm_icmp_lt (pc := 10) 27 ok dx_House_hasNumber_10 (by decide) (fun _ => ?_) (fun _ => ?_)
    · refine sm_iconst (pc := 27) (0 : Int32) ok dx_House_hasNumber_27 zk_0 ?_
      exact sm_zret (pc := 28) ok dx_House_hasNumber_28 hr rfl
    · refine sm_aload_n (pc := 13) 0 ok dx_House_hasNumber_13 rfl ?_
      refine sm_iload_n (pc := 14) 1 ok dx_House_hasNumber_14 rfl ?_
      refine sm_iconst (pc := 15) (4 : Int32) ok dx_House_hasNumber_15 zk_4 ?_
      refine sm_isub (pc := 16) ok dx_House_hasNumber_16 ?_
      refine sm_callV_i (pc := 17) (ci := 2) [.int (v1 - (4 : Int32))] ok dx_House_hasNumber_17 wd_487 mwx_House_hasThing hp rfl (Nat.le_of_ble_eq_true rfl) (Nat.le_of_ble_eq_true rfl) rfl rfl (Nat.le_of_ble_eq_true rfl) (cx_House_hasThing (sm_okj ok) N S_1 p (v1 - (4 : Int32)) hp) (fun r_4 S_3 => ?_)
      refine sm_if_eq (pc := 20) 27 ok dx_House_hasNumber_20 (by decide) (fun _ => ?_) (fun _ => ?_)
      · refine sm_iconst (pc := 27) (0 : Int32) ok dx_House_hasNumber_27 zk_0 ?_
        exact sm_zret (pc := 28) ok dx_House_hasNumber_28 hr rfl
      · refine sm_lv [] rfl ?_
        exact tx_House_hasNumber_b23 ok hr N p hp _
theorem cx_House_hasNumber {l : Launch} {wc : sm_Wc} (hj : sm_inj zx_sy wc) (N : Nat) (S : sm_St) (p : Nat) (v1 : Int32) (hp : zx_sy.1 p = (12, 0)) : sm_Ct l zx_sy wc yx_House_hasNumber prog_4_method_4_code 2 (some .boolean) 1 21 [.ref (wc.2.2 p), .int v1] S (sm_Pi zx_sy wc) (px_House_hasNumber N S p v1) :=
  sm_entry (Pq := fun wc => sm_Pi zx_sy wc) (fun wc => [.ref (wc.2.2 p), .int v1]) (lv := fun wc => [(0, .ref (wc.2.2 p)), (1, .int v1)]) (by decide) hj zx_ok zx_stb (fun _ => Nat.le_of_ble_eq_true rfl) (fun _ => rfl) (fun x _ ok hr => tx_House_hasNumber ok hr N S p v1 hp)
set_option maxHeartbeats 4000000 in
set_option maxRecDepth 20000 in
theorem tx_L_putHours_b11 {x : sm_Cx} (ok : sm_Ok x zx_sy prog_1_method_42_code "LentShades" 4 0 0) (hr : (xh x).sig.returnType = none) (N : Nat) (q0 : Nat) (hq0 : (zx_sy.1 q0).1 = 5) (v1 : Int32) (v2 : Int32) (v3 : Int32) (S : sm_St) : sm_Sm x zx_sy prog_1_method_42_code (sm_Q x zx_sy (sm_Pv zx_sy (xw x))) (px_L_putHours_b11 N q0 v1 v2 v3 S) S 11 [(0, .ref ((xw x).2.2 q0)), (1, .int v1), (2, .int v2), (3, .int v3)] [] := by
  unfold px_L_putHours_b11
  refine sm_iload_n (pc := 11) 2 ok dx_L_putHours_11 rfl ?_
  refine sm_iconst (pc := 12) (4 : Int32) ok dx_L_putHours_12 zk_4 ?_
  refine sm_icmp_ge (pc := 13) 22 ok dx_L_putHours_13 (by decide) (fun _ => ?_) (fun _ => ?_)
  · exact sm_vret (pc := 22) ok dx_L_putHours_22 hr
  · refine sm_aload_n (pc := 16) 0 ok dx_L_putHours_16 rfl ?_
    refine sm_iload_n (pc := 17) 2 ok dx_L_putHours_17 rfl ?_
    refine sm_aald5 (pc := 18) ok dx_L_putHours_18 (sm_sh0 hq0) (fun hb_3 => ?_)
    refine sm_iload_n (pc := 19) 1 ok dx_L_putHours_19 rfl ?_
    refine sm_iload_n (pc := 20) 3 ok dx_L_putHours_20 rfl ?_
    refine sm_iast (pc := 21) ok dx_L_putHours_21 (zx_rowq (sm_sh0 hq0) hb_3) (fun S_4 => ?_)
    exact sm_vret (pc := 22) ok dx_L_putHours_22 hr
set_option maxHeartbeats 4000000 in
set_option maxRecDepth 20000 in
theorem tx_L_putHours {x : sm_Cx} (ok : sm_Ok x zx_sy prog_1_method_42_code "LentShades" 4 0 0) (hr : (xh x).sig.returnType = none) (N : Nat) (S : sm_St) (q0 : Nat) (v1 : Int32) (v2 : Int32) (v3 : Int32) (hq0 : (zx_sy.1 q0).1 = 5) : sm_Sm x zx_sy prog_1_method_42_code (sm_Q x zx_sy (sm_Pv zx_sy (xw x))) (px_L_putHours N S q0 v1 v2 v3) S 0 [(0, .ref ((xw x).2.2 q0)), (1, .int v1), (2, .int v2), (3, .int v3)] [] := by
  unfold px_L_putHours
  refine sm_iload_n (pc := 0) 1 ok dx_L_putHours_0 rfl ?_
  refine sm_iconst (pc := 1) (4 : Int32) ok dx_L_putHours_1 zk_4 ?_
  refine sm_icmp_ge (pc := 2) 11 ok dx_L_putHours_2 (by decide) (fun _ => ?_) (fun _ => ?_)
  · exact tx_L_putHours_b11 ok hr N q0 hq0 _ _ _ _
  · refine sm_aload_n (pc := 5) 0 ok dx_L_putHours_5 rfl ?_
    refine sm_iload_n (pc := 6) 1 ok dx_L_putHours_6 rfl ?_
    refine sm_aald5 (pc := 7) ok dx_L_putHours_7 (sm_sh0 hq0) (fun hb_1 => ?_)
    refine sm_iload_n (pc := 8) 2 ok dx_L_putHours_8 rfl ?_
    refine sm_iload_n (pc := 9) 3 ok dx_L_putHours_9 rfl ?_
    refine sm_iast (pc := 10) ok dx_L_putHours_10 (zx_rowq (sm_sh0 hq0) hb_1) (fun S_2 => ?_)
    exact tx_L_putHours_b11 ok hr N q0 hq0 _ _ _ _
theorem cx_L_putHours {l : Launch} {wc : sm_Wc} (hj : sm_inj zx_sy wc) (N : Nat) (S : sm_St) (q0 : Nat) (v1 : Int32) (v2 : Int32) (v3 : Int32) (hq0 : (zx_sy.1 q0).1 = 5) : sm_Ct l zx_sy wc yx_L_putHours prog_1_method_42_code 4 none 0 0 [.ref (wc.2.2 q0), .int v1, .int v2, .int v3] S (sm_Pv zx_sy wc) (px_L_putHours N S q0 v1 v2 v3) :=
  sm_entry (Pq := fun wc => sm_Pv zx_sy wc) (fun wc => [.ref (wc.2.2 q0), .int v1, .int v2, .int v3]) (lv := fun wc => [(0, .ref (wc.2.2 q0)), (1, .int v1), (2, .int v2), (3, .int v3)]) (by decide) hj zx_ok zx_stb (fun _ => Nat.le_of_ble_eq_true rfl) (fun _ => rfl) (fun x _ ok hr => tx_L_putHours ok hr N S q0 v1 v2 v3 hq0)
set_option maxHeartbeats 4000000 in
set_option maxRecDepth 20000 in
theorem tx_L_touch_b30 {x : sm_Cx} (ok : sm_Ok x zx_sy prog_1_method_4_code "LentShades" 5 2 42) (hr : (xh x).sig.returnType = (some .int)) (N : Nat) (S : sm_St) : sm_Sm x zx_sy prog_1_method_4_code (sm_Q x zx_sy (sm_Pi zx_sy (xw x))) (px_L_touch_b30 N S) S 30 [(0, .ref ((xw x).2.2 0))] [] := by
  unfold px_L_touch_b30
  refine sm_aload_n (pc := 30) 0 ok dx_L_touch_30 rfl ?_
  refine sm_callV_i (pc := 31) (ci := 9) [] ok dx_L_touch_31 wd_450 mwx_L_refusedBad rfl rfl (Nat.le_of_ble_eq_true rfl) (Nat.le_of_ble_eq_true rfl) rfl rfl (Nat.le_of_ble_eq_true rfl) (cx_L_refusedBad (sm_okj ok) N S) (fun r_14 S_13 => ?_)
  exact sm_iret (pc := 34) ok dx_L_touch_34 hr
set_option maxHeartbeats 4000000 in
set_option maxRecDepth 20000 in
theorem tx_L_touch_b50 {x : sm_Cx} (ok : sm_Ok x zx_sy prog_1_method_4_code "LentShades" 5 2 42) (hr : (xh x).sig.returnType = (some .int)) (N : Nat) (S : sm_St) : sm_Sm x zx_sy prog_1_method_4_code (sm_Q x zx_sy (sm_Pi zx_sy (xw x))) (px_L_touch_b50 N S) S 50 [(0, .ref ((xw x).2.2 0))] [] := by
  unfold px_L_touch_b50
  refine sm_aload_n (pc := 50) 0 ok dx_L_touch_50 rfl ?_
  refine sm_callV_i (pc := 51) (ci := 9) [] ok dx_L_touch_51 wd_450 mwx_L_refusedBad rfl rfl (Nat.le_of_ble_eq_true rfl) (Nat.le_of_ble_eq_true rfl) rfl rfl (Nat.le_of_ble_eq_true rfl) (cx_L_refusedBad (sm_okj ok) N S) (fun r_12 S_11 => ?_)
  exact sm_iret (pc := 54) ok dx_L_touch_54 hr
set_option maxHeartbeats 4000000 in
set_option maxRecDepth 20000 in
theorem tx_L_touch_b85 {x : sm_Cx} (ok : sm_Ok x zx_sy prog_1_method_4_code "LentShades" 5 2 42) (hr : (xh x).sig.returnType = (some .int)) (N : Nat) (v1 : Int32) (v2 : Int32) (v3 : Int32) (s0 : Int32) (S : sm_St) : sm_Sm x zx_sy prog_1_method_4_code (sm_Q x zx_sy (sm_Pi zx_sy (xw x))) (px_L_touch_b85 N v1 v2 v3 s0 S) S 85 [(0, .ref ((xw x).2.2 0)), (1, .int v1), (2, .int v2), (3, .int v3)] [.int s0] := by
  unfold px_L_touch_b85
  refine sm_istore (pc := 85) (i := 4) ok dx_L_touch_85 (by decide) (fun v => [(4, .int v), (0, .ref ((xw x).2.2 0)), (1, .int v1), (2, .int v2), (3, .int v3)]) (fun _ => rfl) (fun v4_9 => ?_)
  refine sm_aload_n (pc := 87) 1 ok dx_L_touch_87 rfl ?_
  refine sm_getR (pc := 88) (ci := 9) (k := 0) ok dx_L_touch_88 rfl rfl zc_i9 (by decide) rfl wd_400 ?_
  refine sm_getR (pc := 91) (ci := 2) (k := 5) ok dx_L_touch_91 rfl rfl zc_i2 (by decide) rfl wd_176 ?_
  refine sm_iload_n (pc := 94) 2 ok dx_L_touch_94 rfl ?_
  refine sm_iload_n (pc := 95) 3 ok dx_L_touch_95 rfl ?_
  refine sm_iload_n (pc := 96) 4 ok dx_L_touch_96 rfl ?_
  refine sm_callS_v (pc := 97) [.ref ((xw x).2.2 7), .int v1, .int v2, .int v3] ok dx_L_touch_97 wd_491 mwx_L_putHours (Nat.le_of_ble_eq_true rfl) (Nat.le_of_ble_eq_true rfl) rfl rfl (Nat.le_of_ble_eq_true rfl) (cx_L_putHours (sm_okj ok) N S 7 v1 v2 v3 (sm_tag rfl)) (fun S_10 => ?_)
  refine sm_iload (pc := 100) 0 ok dx_L_touch_100 rfl ?_
  exact sm_iret (pc := 102) ok dx_L_touch_102 hr
set_option maxHeartbeats 4000000 in
set_option maxRecDepth 20000 in
theorem tx_L_touch_b55 {x : sm_Cx} (ok : sm_Ok x zx_sy prog_1_method_4_code "LentShades" 5 2 42) (hr : (xh x).sig.returnType = (some .int)) (N : Nat) (v1 : Int32) (v2 : Int32) (v3 : Int32) (S : sm_St) : sm_Sm x zx_sy prog_1_method_4_code (sm_Q x zx_sy (sm_Pi zx_sy (xw x))) (px_L_touch_b55 N v1 v2 v3 S) S 55 [(0, .ref ((xw x).2.2 0)), (1, .int v1), (2, .int v2), (3, .int v3)] [] := by
  unfold px_L_touch_b55
  refine sm_iload_n (pc := 55) 1 ok dx_L_touch_55 rfl ?_
  refine sm_iconst (pc := 56) (4 : Int32) ok dx_L_touch_56 zk_4 ?_
  refine sm_icmp_ge (pc := 57) 74 ok dx_L_touch_57 (by decide) (fun _ => ?_) (fun _ => ?_)
  · refine sm_aload_n (pc := 74) 0 ok dx_L_touch_74 rfl ?_
    refine sm_getR (pc := 75) (ci := 9) (k := 0) ok dx_L_touch_75 rfl rfl zc_i9 (by decide) rfl wd_400 ?_
    refine sm_getR (pc := 78) (ci := 2) (k := 5) ok dx_L_touch_78 rfl rfl zc_i2 (by decide) rfl wd_176 ?_
    refine sm_iload_n (pc := 81) 2 ok dx_L_touch_81 rfl ?_
    refine sm_aald5 (pc := 82) ok dx_L_touch_82 rfl (fun hb_7 => ?_)
    refine sm_iload_n (pc := 83) 1 ok dx_L_touch_83 rfl ?_
    refine sm_iald (pc := 84) ok dx_L_touch_84 (zx_rows 7 4 8 (by decide) hb_7) ?_
    exact tx_L_touch_b85 ok hr N _ _ _ _ _
  · refine sm_aload_n (pc := 60) 0 ok dx_L_touch_60 rfl ?_
    refine sm_getR (pc := 61) (ci := 9) (k := 0) ok dx_L_touch_61 rfl rfl zc_i9 (by decide) rfl wd_400 ?_
    refine sm_getR (pc := 64) (ci := 2) (k := 5) ok dx_L_touch_64 rfl rfl zc_i2 (by decide) rfl wd_176 ?_
    refine sm_iload_n (pc := 67) 1 ok dx_L_touch_67 rfl ?_
    refine sm_aald5 (pc := 68) ok dx_L_touch_68 rfl (fun hb_8 => ?_)
    refine sm_iload_n (pc := 69) 2 ok dx_L_touch_69 rfl ?_
    refine sm_iald (pc := 70) ok dx_L_touch_70 (zx_rows 7 4 8 (by decide) hb_8) ?_
    refine sm_goto (pc := 71) 85 ok dx_L_touch_71 (by decide) ?_
    exact tx_L_touch_b85 ok hr N _ _ _ _ _
set_option maxHeartbeats 4000000 in
set_option maxRecDepth 20000 in
theorem tx_L_touch {x : sm_Cx} (ok : sm_Ok x zx_sy prog_1_method_4_code "LentShades" 5 2 42) (hr : (xh x).sig.returnType = (some .int)) (N : Nat) (S : sm_St) (v1 : Int32) (v2 : Int32) (v3 : Int32) : sm_Sm x zx_sy prog_1_method_4_code (sm_Q x zx_sy (sm_Pi zx_sy (xw x))) (px_L_touch N S v1 v2 v3) S 0 [(0, .ref ((xw x).2.2 0)), (1, .int v1), (2, .int v2), (3, .int v3)] [] := by
  unfold px_L_touch
  refine sm_aload_n (pc := 0) 0 ok dx_L_touch_0 rfl ?_
  refine sm_getR (pc := 1) (ci := 9) (k := 0) ok dx_L_touch_1 rfl rfl zc_i9 (by decide) rfl wd_400 ?_
  refine sm_iload_n (pc := 4) 1 ok dx_L_touch_4 rfl ?_
  refine sm_callV_i (pc := 5) (ci := 2) [.int v1] ok dx_L_touch_5 wd_479 mwx_House_hasNumber rfl rfl (Nat.le_of_ble_eq_true rfl) (Nat.le_of_ble_eq_true rfl) rfl rfl (Nat.le_of_ble_eq_true rfl) (cx_House_hasNumber (sm_okj ok) N S 1 v1 rfl) (fun r_2 S_1 => ?_)
  refine sm_if_eq (pc := 8) 30 ok dx_L_touch_8 (by decide) (fun _ => ?_) (fun _ => ?_)
  · refine sm_lv [0] rfl ?_
    exact tx_L_touch_b30 ok hr N _
  · refine sm_aload_n (pc := 11) 0 ok dx_L_touch_11 rfl ?_
    refine sm_getR (pc := 12) (ci := 9) (k := 0) ok dx_L_touch_12 rfl rfl zc_i9 (by decide) rfl wd_400 ?_
    refine sm_iload_n (pc := 15) 2 ok dx_L_touch_15 rfl ?_
    refine sm_callV_i (pc := 16) (ci := 2) [.int v2] ok dx_L_touch_16 wd_479 mwx_House_hasNumber rfl rfl (Nat.le_of_ble_eq_true rfl) (Nat.le_of_ble_eq_true rfl) rfl rfl (Nat.le_of_ble_eq_true rfl) (cx_House_hasNumber (sm_okj ok) N S_1 1 v2 rfl) (fun r_4 S_3 => ?_)
    refine sm_if_eq (pc := 19) 30 ok dx_L_touch_19 (by decide) (fun _ => ?_) (fun _ => ?_)
    · refine sm_lv [0] rfl ?_
      exact tx_L_touch_b30 ok hr N _
    · refine sm_iload_n (pc := 22) 3 ok dx_L_touch_22 rfl ?_
      refine sm_iconst (pc := 23) (3 : Int32) ok dx_L_touch_23 zk_3 ?_
      refine sm_callS_i (pc := 24) [.int v3, .int (3 : Int32)] ok dx_L_touch_24 wd_447 mwx_L_within (Nat.le_of_ble_eq_true rfl) (Nat.le_of_ble_eq_true rfl) rfl rfl (Nat.le_of_ble_eq_true rfl) (cx_L_within (sm_okj ok) N S_3 v3 (3 : Int32)) (fun r_6 S_5 => ?_)
      refine sm_if_ne (pc := 27) 35 ok dx_L_touch_27 (by decide) (fun _ => ?_) (fun _ => ?_)
      · refine sm_iload_n (pc := 35) 1 ok dx_L_touch_35 rfl ?_
        refine sm_iload_n (pc := 36) 2 ok dx_L_touch_36 rfl ?_
        refine sm_icmp_eq (pc := 37) 50 ok dx_L_touch_37 (by decide) (fun _ => ?_) (fun _ => ?_)
        · refine sm_lv [0] rfl ?_
          exact tx_L_touch_b50 ok hr N _
        · refine sm_iload_n (pc := 40) 1 ok dx_L_touch_40 rfl ?_
          refine sm_iconst (pc := 41) (4 : Int32) ok dx_L_touch_41 zk_4 ?_
          refine sm_icmp_lt (pc := 42) 55 ok dx_L_touch_42 (by decide) (fun _ => ?_) (fun _ => ?_)
          · exact tx_L_touch_b55 ok hr N _ _ _ _
          · refine sm_iload_n (pc := 45) 2 ok dx_L_touch_45 rfl ?_
            refine sm_iconst (pc := 46) (4 : Int32) ok dx_L_touch_46 zk_4 ?_
            refine sm_icmp_lt (pc := 47) 55 ok dx_L_touch_47 (by decide) (fun _ => ?_) (fun _ => ?_)
            · exact tx_L_touch_b55 ok hr N _ _ _ _
            · refine sm_lv [0] rfl ?_
              exact tx_L_touch_b50 ok hr N _
      · refine sm_lv [0] rfl ?_
        exact tx_L_touch_b30 ok hr N _
theorem cx_L_touch {l : Launch} {wc : sm_Wc} (hj : sm_inj zx_sy wc) (N : Nat) (S : sm_St) (v1 : Int32) (v2 : Int32) (v3 : Int32) : sm_Ct l zx_sy wc yx_L_touch prog_1_method_4_code 5 (some .int) 2 42 [.ref (wc.2.2 0), .int v1, .int v2, .int v3] S (sm_Pi zx_sy wc) (px_L_touch N S v1 v2 v3) :=
  sm_entry (Pq := fun wc => sm_Pi zx_sy wc) (fun wc => [.ref (wc.2.2 0), .int v1, .int v2, .int v3]) (lv := fun wc => [(0, .ref (wc.2.2 0)), (1, .int v1), (2, .int v2), (3, .int v3)]) (by decide) hj zx_ok zx_stb (fun _ => Nat.le_of_ble_eq_true rfl) (fun _ => rfl) (fun x _ ok hr => tx_L_touch ok hr N S v1 v2 v3)
set_option maxHeartbeats 4000000 in
set_option maxRecDepth 20000 in
theorem tx_L_colour_b20 {x : sm_Cx} (ok : sm_Ok x zx_sy prog_1_method_5_code "LentShades" 4 1 21) (hr : (xh x).sig.returnType = (some .int)) (N : Nat) (S : sm_St) : sm_Sm x zx_sy prog_1_method_5_code (sm_Q x zx_sy (sm_Pi zx_sy (xw x))) (px_L_colour_b20 N S) S 20 [(0, .ref ((xw x).2.2 0))] [] := by
  unfold px_L_colour_b20
  refine sm_aload_n (pc := 20) 0 ok dx_L_colour_20 rfl ?_
  refine sm_callV_i (pc := 21) (ci := 9) [] ok dx_L_colour_21 wd_450 mwx_L_refusedBad rfl rfl (Nat.le_of_ble_eq_true rfl) (Nat.le_of_ble_eq_true rfl) rfl rfl (Nat.le_of_ble_eq_true rfl) (cx_L_refusedBad (sm_okj ok) N S) (fun r_8 S_7 => ?_)
  exact sm_iret (pc := 24) ok dx_L_colour_24 hr
set_option maxHeartbeats 4000000 in
set_option maxRecDepth 20000 in
theorem tx_L_colour {x : sm_Cx} (ok : sm_Ok x zx_sy prog_1_method_5_code "LentShades" 4 1 21) (hr : (xh x).sig.returnType = (some .int)) (N : Nat) (S : sm_St) (v1 : Int32) (v2 : Int32) : sm_Sm x zx_sy prog_1_method_5_code (sm_Q x zx_sy (sm_Pi zx_sy (xw x))) (px_L_colour N S v1 v2) S 0 [(0, .ref ((xw x).2.2 0)), (1, .int v1), (2, .int v2)] [] := by
  unfold px_L_colour
  refine sm_aload_n (pc := 0) 0 ok dx_L_colour_0 rfl ?_
  refine sm_getR (pc := 1) (ci := 9) (k := 0) ok dx_L_colour_1 rfl rfl zc_i9 (by decide) rfl wd_400 ?_
  refine sm_iload_n (pc := 4) 1 ok dx_L_colour_4 rfl ?_
  refine sm_callV_i (pc := 5) (ci := 2) [.int v1] ok dx_L_colour_5 wd_498 mwx_House_hasThing rfl rfl (Nat.le_of_ble_eq_true rfl) (Nat.le_of_ble_eq_true rfl) rfl rfl (Nat.le_of_ble_eq_true rfl) (cx_House_hasThing (sm_okj ok) N S 1 v1 rfl) (fun r_2 S_1 => ?_)
  refine sm_if_eq (pc := 8) 20 ok dx_L_colour_8 (by decide) (fun _ => ?_) (fun _ => ?_)
  · refine sm_lv [0] rfl ?_
    exact tx_L_colour_b20 ok hr N _
  · refine sm_iload_n (pc := 11) 2 ok dx_L_colour_11 rfl ?_
    refine sm_bipush (pc := 12) (12 : Int32) ok dx_L_colour_12 zb_12 ?_
    refine sm_callS_i (pc := 14) [.int v2, .int (12 : Int32)] ok dx_L_colour_14 wd_447 mwx_L_within (Nat.le_of_ble_eq_true rfl) (Nat.le_of_ble_eq_true rfl) rfl rfl (Nat.le_of_ble_eq_true rfl) (cx_L_within (sm_okj ok) N S_1 v2 (12 : Int32)) (fun r_4 S_3 => ?_)
    refine sm_if_ne (pc := 17) 25 ok dx_L_colour_17 (by decide) (fun _ => ?_) (fun _ => ?_)
    · refine sm_aload_n (pc := 25) 0 ok dx_L_colour_25 rfl ?_
      refine sm_getR (pc := 26) (ci := 9) (k := 0) ok dx_L_colour_26 rfl rfl zc_i9 (by decide) rfl wd_400 ?_
      refine sm_getR (pc := 29) (ci := 2) (k := 4) ok dx_L_colour_29 rfl rfl zc_i2 (by decide) rfl wd_173 ?_
      refine sm_iload_n (pc := 32) 1 ok dx_L_colour_32 rfl ?_
      refine sm_iald (pc := 33) ok dx_L_colour_33 rfl ?_
      refine sm_istore_n (pc := 34) (i := 3) ok dx_L_colour_34 rfl (by decide) (fun v => [(3, .int v), (0, .ref ((xw x).2.2 0)), (1, .int v1), (2, .int v2)]) (fun _ => rfl) (fun v3_5 => ?_)
      refine sm_aload_n (pc := 35) 1 ok dx_L_colour_35 rfl ?_
      refine sm_getR (pc := 36) (ci := 9) (k := 0) ok dx_L_colour_36 rfl rfl zc_i9 (by decide) rfl wd_400 ?_
      refine sm_getR (pc := 39) (ci := 2) (k := 4) ok dx_L_colour_39 rfl rfl zc_i2 (by decide) rfl wd_173 ?_
      refine sm_iload_n (pc := 42) 2 ok dx_L_colour_42 rfl ?_
      refine sm_iload_n (pc := 43) 3 ok dx_L_colour_43 rfl ?_
      refine sm_iast (pc := 44) ok dx_L_colour_44 rfl (fun S_6 => ?_)
      refine sm_iload_n (pc := 45) 0 ok dx_L_colour_45 rfl ?_
      exact sm_iret (pc := 46) ok dx_L_colour_46 hr
    · refine sm_lv [0] rfl ?_
      exact tx_L_colour_b20 ok hr N _
theorem cx_L_colour {l : Launch} {wc : sm_Wc} (hj : sm_inj zx_sy wc) (N : Nat) (S : sm_St) (v1 : Int32) (v2 : Int32) : sm_Ct l zx_sy wc yx_L_colour prog_1_method_5_code 4 (some .int) 1 21 [.ref (wc.2.2 0), .int v1, .int v2] S (sm_Pi zx_sy wc) (px_L_colour N S v1 v2) :=
  sm_entry (Pq := fun wc => sm_Pi zx_sy wc) (fun wc => [.ref (wc.2.2 0), .int v1, .int v2]) (lv := fun wc => [(0, .ref (wc.2.2 0)), (1, .int v1), (2, .int v2)]) (by decide) hj zx_ok zx_stb (fun _ => Nat.le_of_ble_eq_true rfl) (fun _ => rfl) (fun x _ ok hr => tx_L_colour ok hr N S v1 v2)
set_option maxHeartbeats 4000000 in
set_option maxRecDepth 20000 in
theorem tx_Reader_append_b5 {x : sm_Cx} (ok : sm_Ok x zx_sy prog_6_method_2_code "LentShades$Reader" 5 0 0) (hr : (xh x).sig.returnType = none) (N : Nat) : ∀ (n : Nat) (v1 : Int64) (v4 : Int32) (S : sm_St), sm_Sm x zx_sy prog_6_method_2_code (sm_Q x zx_sy (sm_Pv zx_sy (xw x))) (px_Reader_append_b5 N n v1 v4 S) S 5 [(0, .ref ((xw x).2.2 102)), (1, .long v1), (4, .int v4)] [] := by
  intro n
  induction n with
  | zero =>
    intro v1 v4 S
    exact sm_none
  | succ n ih =>
    intro v1 v4 S
    show sm_Sm x zx_sy prog_6_method_2_code (sm_Q x zx_sy (sm_Pv zx_sy (xw x))) (if v4 < 0 then (some S) else (if (200 : Int32) ≤ (S.1 102 1) then (some S) else (if sm_in (S.1 102 1) 200 = true then sm_lt (sm_sI S 103 (S.1 102 1).toNatClampNeg (((v1 >>> (((8 : Int32) * v4).toInt64 &&& 63)) &&& (255 : Int64)).toInt32)) (fun (S_2 : sm_St) => sm_lt (sm_sI S_2 102 1 ((S_2.1 102 1) + (1 : Int32))) (fun (S_3 : sm_St) => sm_lt (v4 + (-1 : Int32)) (fun (v4_4 : Int32) => (px_Reader_append_b5 N n) v1 v4_4 S_3))) else none))) S 5 [(0, .ref ((xw x).2.2 102)), (1, .long v1), (4, .int v4)] []
    refine sm_iload (pc := 5) 2 ok dx_Reader_append_5 rfl ?_
    refine sm_if_lt (pc := 7) 57 ok dx_Reader_append_7 (by decide) (fun _ => ?_) (fun _ => ?_)
    · exact sm_vret (pc := 57) ok dx_Reader_append_57 hr
    · refine sm_aload_n (pc := 10) 0 ok dx_Reader_append_10 rfl ?_
      refine sm_getI (pc := 11) (ci := 4) (k := 1) ok dx_Reader_append_11 rfl rfl zc_i4 (by decide) rfl wd_235 ?_
      refine sm_sipush (pc := 14) (200 : Int32) ok dx_Reader_append_14 zs_200 ?_
      refine sm_icmp_ge (pc := 17) 57 ok dx_Reader_append_17 (by decide) (fun _ => ?_) (fun _ => ?_)
      · exact sm_vret (pc := 57) ok dx_Reader_append_57 hr
      · refine sm_aload_n (pc := 20) 0 ok dx_Reader_append_20 rfl ?_
        refine sm_getR (pc := 21) (ci := 4) (k := 0) ok dx_Reader_append_21 rfl rfl zc_i4 (by decide) rfl wd_234 ?_
        refine sm_aload_n (pc := 24) 0 ok dx_Reader_append_24 rfl ?_
        refine sm_getI (pc := 25) (ci := 4) (k := 1) ok dx_Reader_append_25 rfl rfl zc_i4 (by decide) rfl wd_235 ?_
        refine sm_lload_n (pc := 28) 1 ok dx_Reader_append_28 rfl ?_
        refine sm_bipush (pc := 29) (8 : Int32) ok dx_Reader_append_29 zb_8 ?_
        refine sm_iload (pc := 31) 2 ok dx_Reader_append_31 rfl ?_
        refine sm_imul (pc := 33) ok dx_Reader_append_33 ?_
        refine sm_lshr (pc := 34) ok dx_Reader_append_34 ?_
        refine sm_ldc2 (pc := 35) ok dx_Reader_append_35 wd_507 ?_
        refine sm_land (pc := 38) ok dx_Reader_append_38 ?_
        refine sm_l2i (pc := 39) ok dx_Reader_append_39 ?_
        refine sm_iast (pc := 40) ok dx_Reader_append_40 rfl (fun S_2 => ?_)
        refine sm_aload_n (pc := 41) 0 ok dx_Reader_append_41 rfl ?_
        refine sm_dup (pc := 42) ok dx_Reader_append_42 rfl ?_
        refine sm_getI (pc := 43) (ci := 4) (k := 1) ok dx_Reader_append_43 rfl rfl zc_i4 (by decide) rfl wd_235 ?_
        refine sm_iconst (pc := 46) (1 : Int32) ok dx_Reader_append_46 zk_1 ?_
        refine sm_iadd (pc := 47) ok dx_Reader_append_47 ?_
        refine sm_putI (pc := 48) (ci := 4) (k := 1) ok dx_Reader_append_48 rfl rfl zc_i4 zc_y4 zc_t4 zc_n4 (by decide) rfl rfl rfl wd_235 (fun S_3 => ?_)
        refine sm_iinc (pc := 51) (i := 4) 2 (-1 : Int32) ok dx_Reader_append_51 rfl zk_m1 (by decide) (fun v => [(4, .int v), (0, .ref ((xw x).2.2 102)), (1, .long v1)]) (fun _ => rfl) (fun v4_4 => ?_)
        refine sm_goto (pc := 54) 5 ok dx_Reader_append_54 (by decide) ?_
        refine sm_lv [1, 2, 0] rfl ?_
        exact ih _ _ _
set_option maxHeartbeats 4000000 in
set_option maxRecDepth 20000 in
theorem tx_Reader_append {x : sm_Cx} (ok : sm_Ok x zx_sy prog_6_method_2_code "LentShades$Reader" 5 0 0) (hr : (xh x).sig.returnType = none) (N : Nat) (S : sm_St) (v1 : Int64) (v3 : Int32) : sm_Sm x zx_sy prog_6_method_2_code (sm_Q x zx_sy (sm_Pv zx_sy (xw x))) (px_Reader_append N S v1 v3) S 0 [(0, .ref ((xw x).2.2 102)), (1, .long v1), (3, .int v3)] [] := by
  unfold px_Reader_append
  refine sm_iload_n (pc := 0) 2 ok dx_Reader_append_0 rfl ?_
  refine sm_iconst (pc := 1) (1 : Int32) ok dx_Reader_append_1 zk_1 ?_
  refine sm_isub (pc := 2) ok dx_Reader_append_2 ?_
  refine sm_istore (pc := 3) (i := 4) ok dx_Reader_append_3 (by decide) (fun v => [(4, .int v), (0, .ref ((xw x).2.2 102)), (1, .long v1), (3, .int v3)]) (fun _ => rfl) (fun v4_1 => ?_)
  refine sm_lv [1, 2, 0] rfl ?_
  exact tx_Reader_append_b5 ok hr N N _ _ _
theorem cx_Reader_append {l : Launch} {wc : sm_Wc} (hj : sm_inj zx_sy wc) (N : Nat) (S : sm_St) (v1 : Int64) (v3 : Int32) : sm_Ct l zx_sy wc yx_Reader_append prog_6_method_2_code 5 none 0 0 [.ref (wc.2.2 102), .long v1, .int v3] S (sm_Pv zx_sy wc) (px_Reader_append N S v1 v3) :=
  sm_entry (Pq := fun wc => sm_Pv zx_sy wc) (fun wc => [.ref (wc.2.2 102), .long v1, .int v3]) (lv := fun wc => [(0, .ref (wc.2.2 102)), (1, .long v1), (3, .int v3)]) (by decide) hj zx_ok zx_stb (fun _ => Nat.le_of_ble_eq_true rfl) (fun _ => rfl) (fun x _ ok hr => tx_Reader_append ok hr N S v1 v3)
set_option maxHeartbeats 4000000 in
set_option maxRecDepth 20000 in
theorem tx_L_type_b11 {x : sm_Cx} (ok : sm_Ok x zx_sy prog_1_method_6_code "LentShades" 4 1 24) (hr : (xh x).sig.returnType = (some .int)) (N : Nat) (S : sm_St) : sm_Sm x zx_sy prog_1_method_6_code (sm_Q x zx_sy (sm_Pi zx_sy (xw x))) (px_L_type_b11 N S) S 11 [(0, .ref ((xw x).2.2 0))] [] := by
  unfold px_L_type_b11
  refine sm_aload_n (pc := 11) 0 ok dx_L_type_11 rfl ?_
  refine sm_callV_i (pc := 12) (ci := 9) [] ok dx_L_type_12 wd_450 mwx_L_refusedBad rfl rfl (Nat.le_of_ble_eq_true rfl) (Nat.le_of_ble_eq_true rfl) rfl rfl (Nat.le_of_ble_eq_true rfl) (cx_L_refusedBad (sm_okj ok) N S) (fun r_5 S_4 => ?_)
  exact sm_iret (pc := 15) ok dx_L_type_15 hr
set_option maxHeartbeats 4000000 in
set_option maxRecDepth 20000 in
theorem tx_L_type {x : sm_Cx} (ok : sm_Ok x zx_sy prog_1_method_6_code "LentShades" 4 1 24) (hr : (xh x).sig.returnType = (some .int)) (N : Nat) (S : sm_St) (v1 : Int64) (v3 : Int32) : sm_Sm x zx_sy prog_1_method_6_code (sm_Q x zx_sy (sm_Pi zx_sy (xw x))) (px_L_type N S v1 v3) S 0 [(0, .ref ((xw x).2.2 0)), (1, .long v1), (3, .int v3)] [] := by
  unfold px_L_type
  refine sm_iload_n (pc := 0) 2 ok dx_L_type_0 rfl ?_
  refine sm_iconst (pc := 1) (1 : Int32) ok dx_L_type_1 zk_1 ?_
  refine sm_icmp_lt (pc := 2) 11 ok dx_L_type_2 (by decide) (fun _ => ?_) (fun _ => ?_)
  · refine sm_lv [0] rfl ?_
    exact tx_L_type_b11 ok hr N _
  · refine sm_iload_n (pc := 5) 2 ok dx_L_type_5 rfl ?_
    refine sm_bipush (pc := 6) (8 : Int32) ok dx_L_type_6 zb_8 ?_
    refine sm_icmp_le (pc := 8) 16 ok dx_L_type_8 (by decide) (fun _ => ?_) (fun _ => ?_)
    · refine sm_aload_n (pc := 16) 0 ok dx_L_type_16 rfl ?_
      refine sm_getR (pc := 17) (ci := 9) (k := 3) ok dx_L_type_17 rfl rfl zc_i9 (by decide) rfl wd_403 ?_
      refine sm_getI (pc := 20) (ci := 4) (k := 1) ok dx_L_type_20 rfl rfl zc_i4 (by decide) rfl wd_236 ?_
      refine sm_iload_n (pc := 23) 2 ok dx_L_type_23 rfl ?_
      refine sm_iadd (pc := 24) ok dx_L_type_24 ?_
      refine sm_sipush (pc := 25) (200 : Int32) ok dx_L_type_25 zs_200 ?_
      refine sm_icmp_le (pc := 28) 36 ok dx_L_type_28 (by decide) (fun _ => ?_) (fun _ => ?_)
      · refine sm_aload_n (pc := 36) 0 ok dx_L_type_36 rfl ?_
        refine sm_getR (pc := 37) (ci := 9) (k := 3) ok dx_L_type_37 rfl rfl zc_i9 (by decide) rfl wd_403 ?_
        refine sm_lload_n (pc := 40) 1 ok dx_L_type_40 rfl ?_
        refine sm_iload_n (pc := 41) 2 ok dx_L_type_41 rfl ?_
        refine sm_callV_v (pc := 42) (ci := 4) [.long v1, .int v3] ok dx_L_type_42 wd_503 mwx_Reader_append rfl rfl (Nat.le_of_ble_eq_true rfl) (Nat.le_of_ble_eq_true rfl) rfl rfl (Nat.le_of_ble_eq_true rfl) (cx_Reader_append (sm_okj ok) N S v1 v3) (fun S_1 => ?_)
        refine sm_aload_n (pc := 45) 0 ok dx_L_type_45 rfl ?_
        refine sm_getR (pc := 46) (ci := 9) (k := 3) ok dx_L_type_46 rfl rfl zc_i9 (by decide) rfl wd_403 ?_
        refine sm_getI (pc := 49) (ci := 4) (k := 1) ok dx_L_type_49 rfl rfl zc_i4 (by decide) rfl wd_236 ?_
        exact sm_iret (pc := 52) ok dx_L_type_52 hr
      · refine sm_aload_n (pc := 31) 0 ok dx_L_type_31 rfl ?_
        refine sm_callV_i (pc := 32) (ci := 9) [] ok dx_L_type_32 wd_454 mwx_L_refusedFull rfl rfl (Nat.le_of_ble_eq_true rfl) (Nat.le_of_ble_eq_true rfl) rfl rfl (Nat.le_of_ble_eq_true rfl) (cx_L_refusedFull (sm_okj ok) N S) (fun r_3 S_2 => ?_)
        exact sm_iret (pc := 35) ok dx_L_type_35 hr
    · refine sm_lv [0] rfl ?_
      exact tx_L_type_b11 ok hr N _
theorem cx_L_type {l : Launch} {wc : sm_Wc} (hj : sm_inj zx_sy wc) (N : Nat) (S : sm_St) (v1 : Int64) (v3 : Int32) : sm_Ct l zx_sy wc yx_L_type prog_1_method_6_code 4 (some .int) 1 24 [.ref (wc.2.2 0), .long v1, .int v3] S (sm_Pi zx_sy wc) (px_L_type N S v1 v3) :=
  sm_entry (Pq := fun wc => sm_Pi zx_sy wc) (fun wc => [.ref (wc.2.2 0), .long v1, .int v3]) (lv := fun wc => [(0, .ref (wc.2.2 0)), (1, .long v1), (3, .int v3)]) (by decide) hj zx_ok zx_stb (fun _ => Nat.le_of_ble_eq_true rfl) (fun _ => rfl) (fun x _ ok hr => tx_L_type ok hr N S v1 v3)
set_option maxHeartbeats 4000000 in
set_option maxRecDepth 20000 in
theorem tx_L_clear {x : sm_Cx} (ok : sm_Ok x zx_sy prog_1_method_7_code "LentShades" 2 0 0) (hr : (xh x).sig.returnType = (some .int)) (N : Nat) (S : sm_St) : sm_Sm x zx_sy prog_1_method_7_code (sm_Q x zx_sy (sm_Pi zx_sy (xw x))) (px_L_clear N S) S 0 [(0, .ref ((xw x).2.2 0))] [] := by
  unfold px_L_clear
  refine sm_aload_n (pc := 0) 0 ok dx_L_clear_0 rfl ?_
  refine sm_getR (pc := 1) (ci := 9) (k := 3) ok dx_L_clear_1 rfl rfl zc_i9 (by decide) rfl wd_403 ?_
  refine sm_getI (pc := 4) (ci := 4) (k := 1) ok dx_L_clear_4 rfl rfl zc_i4 (by decide) rfl wd_236 ?_
  refine sm_istore_n (pc := 7) (i := 1) ok dx_L_clear_7 rfl (by decide) (fun v => [(1, .int v), (0, .ref ((xw x).2.2 0))]) (fun _ => rfl) (fun v1_1 => ?_)
  refine sm_aload_n (pc := 8) 1 ok dx_L_clear_8 rfl ?_
  refine sm_getR (pc := 9) (ci := 9) (k := 3) ok dx_L_clear_9 rfl rfl zc_i9 (by decide) rfl wd_403 ?_
  refine sm_iconst (pc := 12) (0 : Int32) ok dx_L_clear_12 zk_0 ?_
  refine sm_putI (pc := 13) (ci := 4) (k := 1) ok dx_L_clear_13 rfl rfl zc_i4 zc_y4 zc_t4 zc_n4 (by decide) rfl rfl rfl wd_236 (fun S_2 => ?_)
  refine sm_iload_n (pc := 16) 0 ok dx_L_clear_16 rfl ?_
  exact sm_iret (pc := 17) ok dx_L_clear_17 hr
theorem cx_L_clear {l : Launch} {wc : sm_Wc} (hj : sm_inj zx_sy wc) (N : Nat) (S : sm_St) : sm_Ct l zx_sy wc yx_L_clear prog_1_method_7_code 2 (some .int) 0 0 [.ref (wc.2.2 0)] S (sm_Pi zx_sy wc) (px_L_clear N S) :=
  sm_entry (Pq := fun wc => sm_Pi zx_sy wc) (fun wc => [.ref (wc.2.2 0)]) (lv := fun wc => [(0, .ref (wc.2.2 0))]) (by decide) hj zx_ok zx_stb (fun _ => Nat.le_of_ble_eq_true rfl) (fun _ => rfl) (fun x _ ok hr => tx_L_clear ok hr N S)
set_option maxHeartbeats 4000000 in
set_option maxRecDepth 20000 in
theorem tx_Reader_isLetter {x : sm_Cx} (ok : sm_Ok x zx_sy prog_6_method_14_code "LentShades$Reader" 1 0 0) (hr : (xh x).sig.returnType = (some .boolean)) (N : Nat) (S : sm_St) (v0 : Int32) : sm_Sm x zx_sy prog_6_method_14_code (sm_Q x zx_sy (sm_Pi zx_sy (xw x))) (px_Reader_isLetter N S v0) S 0 [(0, .int v0)] [] := by
  unfold px_Reader_isLetter
  refine sm_iload_n (pc := 0) 0 ok dx_Reader_isLetter_0 rfl ?_
  refine sm_bipush (pc := 1) (97 : Int32) ok dx_Reader_isLetter_1 zb_97 ?_
  refine sm_icmp_lt (pc := 3) 16 ok dx_Reader_isLetter_3 (by decide) (fun _ => ?_) (fun _ => ?_)
  · refine sm_iconst (pc := 16) (0 : Int32) ok dx_Reader_isLetter_16 zk_0 ?_
    exact sm_zret (pc := 17) ok dx_Reader_isLetter_17 hr rfl
  · refine sm_iload_n (pc := 6) 0 ok dx_Reader_isLetter_6 rfl ?_
    refine sm_bipush (pc := 7) (122 : Int32) ok dx_Reader_isLetter_7 zb_122 ?_
    refine sm_icmp_gt (pc := 9) 16 ok dx_Reader_isLetter_9 (by decide) (fun _ => ?_) (fun _ => ?_)
    · refine sm_iconst (pc := 16) (0 : Int32) ok dx_Reader_isLetter_16 zk_0 ?_
      exact sm_zret (pc := 17) ok dx_Reader_isLetter_17 hr rfl
    · refine sm_iconst (pc := 12) (1 : Int32) ok dx_Reader_isLetter_12 zk_1 ?_
      refine sm_goto (pc := 13) 17 ok dx_Reader_isLetter_13 (by decide) ?_
      exact sm_zret (pc := 17) ok dx_Reader_isLetter_17 hr rfl
theorem cx_Reader_isLetter {l : Launch} {wc : sm_Wc} (hj : sm_inj zx_sy wc) (N : Nat) (S : sm_St) (v0 : Int32) : sm_Ct l zx_sy wc yx_Reader_isLetter prog_6_method_14_code 1 (some .boolean) 0 0 [.int v0] S (sm_Pi zx_sy wc) (px_Reader_isLetter N S v0) :=
  sm_entry (Pq := fun wc => sm_Pi zx_sy wc) (fun wc => [.int v0]) (lv := fun wc => [(0, .int v0)]) (by decide) hj zx_ok zx_stb (fun _ => Nat.le_of_ble_eq_true rfl) (fun _ => rfl) (fun x _ ok hr => tx_Reader_isLetter ok hr N S v0)
set_option maxHeartbeats 4000000 in
set_option maxRecDepth 20000 in
theorem tx_Reader_isFigure {x : sm_Cx} (ok : sm_Ok x zx_sy prog_6_method_15_code "LentShades$Reader" 1 0 0) (hr : (xh x).sig.returnType = (some .boolean)) (N : Nat) (S : sm_St) (v0 : Int32) : sm_Sm x zx_sy prog_6_method_15_code (sm_Q x zx_sy (sm_Pi zx_sy (xw x))) (px_Reader_isFigure N S v0) S 0 [(0, .int v0)] [] := by
  unfold px_Reader_isFigure
  refine sm_iload_n (pc := 0) 0 ok dx_Reader_isFigure_0 rfl ?_
  refine sm_bipush (pc := 1) (48 : Int32) ok dx_Reader_isFigure_1 zb_48 ?_
  refine sm_icmp_lt (pc := 3) 16 ok dx_Reader_isFigure_3 (by decide) (fun _ => ?_) (fun _ => ?_)
  · refine sm_iconst (pc := 16) (0 : Int32) ok dx_Reader_isFigure_16 zk_0 ?_
    exact sm_zret (pc := 17) ok dx_Reader_isFigure_17 hr rfl
  · refine sm_iload_n (pc := 6) 0 ok dx_Reader_isFigure_6 rfl ?_
    refine sm_bipush (pc := 7) (57 : Int32) ok dx_Reader_isFigure_7 zb_57 ?_
    refine sm_icmp_gt (pc := 9) 16 ok dx_Reader_isFigure_9 (by decide) (fun _ => ?_) (fun _ => ?_)
    · refine sm_iconst (pc := 16) (0 : Int32) ok dx_Reader_isFigure_16 zk_0 ?_
      exact sm_zret (pc := 17) ok dx_Reader_isFigure_17 hr rfl
    · refine sm_iconst (pc := 12) (1 : Int32) ok dx_Reader_isFigure_12 zk_1 ?_
      refine sm_goto (pc := 13) 17 ok dx_Reader_isFigure_13 (by decide) ?_
      exact sm_zret (pc := 17) ok dx_Reader_isFigure_17 hr rfl
theorem cx_Reader_isFigure {l : Launch} {wc : sm_Wc} (hj : sm_inj zx_sy wc) (N : Nat) (S : sm_St) (v0 : Int32) : sm_Ct l zx_sy wc yx_Reader_isFigure prog_6_method_15_code 1 (some .boolean) 0 0 [.int v0] S (sm_Pi zx_sy wc) (px_Reader_isFigure N S v0) :=
  sm_entry (Pq := fun wc => sm_Pi zx_sy wc) (fun wc => [.int v0]) (lv := fun wc => [(0, .int v0)]) (by decide) hj zx_ok zx_stb (fun _ => Nat.le_of_ble_eq_true rfl) (fun _ => rfl) (fun x _ ok hr => tx_Reader_isFigure ok hr N S v0)
set_option maxHeartbeats 4000000 in
set_option maxRecDepth 20000 in
theorem tx_Reader_nextNumber_b101 {x : sm_Cx} (ok : sm_Ok x zx_sy prog_6_method_13_code "LentShades$Reader" 1 1 20) (hr : (xh x).sig.returnType = none) (N : Nat) (s1 : Int32) (S : sm_St) : sm_Sm x zx_sy prog_6_method_13_code (sm_Q x zx_sy (sm_Pv zx_sy (xw x))) (px_Reader_nextNumber_b101 N s1 S) S 101 [] [.int s1, .ref ((xw x).2.2 102)] := by
  unfold px_Reader_nextNumber_b101
  refine sm_putI (pc := 101) (ci := 4) (k := 4) ok dx_Reader_nextNumber_101 rfl rfl zc_i4 zc_y4 zc_t4 zc_n4 (by decide) rfl rfl rfl wd_239 (fun S_6 => ?_)
  exact sm_vret (pc := 104) ok dx_Reader_nextNumber_104 hr
set_option maxHeartbeats 4000000 in
set_option maxRecDepth 20000 in
theorem tx_Reader_nextNumber_b81 {x : sm_Cx} (ok : sm_Ok x zx_sy prog_6_method_13_code "LentShades$Reader" 1 1 20) (hr : (xh x).sig.returnType = none) (N : Nat) (S : sm_St) : sm_Sm x zx_sy prog_6_method_13_code (sm_Q x zx_sy (sm_Pv zx_sy (xw x))) (px_Reader_nextNumber_b81 N S) S 81 [(0, .ref ((xw x).2.2 102))] [] := by
  unfold px_Reader_nextNumber_b81
  refine sm_aload_n (pc := 81) 0 ok dx_Reader_nextNumber_81 rfl ?_
  refine sm_aload_n (pc := 82) 0 ok dx_Reader_nextNumber_82 rfl ?_
  refine sm_getI (pc := 83) (ci := 4) (k := 2) ok dx_Reader_nextNumber_83 rfl rfl zc_i4 (by decide) rfl wd_237 ?_
  refine sm_aload_n (pc := 86) 0 ok dx_Reader_nextNumber_86 rfl ?_
  refine sm_getI (pc := 87) (ci := 4) (k := 3) ok dx_Reader_nextNumber_87 rfl rfl zc_i4 (by decide) rfl wd_238 ?_
  refine sm_isub (pc := 90) ok dx_Reader_nextNumber_90 ?_
  refine sm_iconst (pc := 91) (2 : Int32) ok dx_Reader_nextNumber_91 zk_2 ?_
  refine sm_icmp_gt (pc := 92) 99 ok dx_Reader_nextNumber_92 (by decide) (fun _ => ?_) (fun _ => ?_)
  · refine sm_bipush (pc := 99) (6 : Int32) ok dx_Reader_nextNumber_99 zb_6 ?_
    refine sm_lv [] rfl ?_
    exact tx_Reader_nextNumber_b101 ok hr N _ _
  · refine sm_iconst (pc := 95) (4 : Int32) ok dx_Reader_nextNumber_95 zk_4 ?_
    refine sm_goto (pc := 96) 101 ok dx_Reader_nextNumber_96 (by decide) ?_
    refine sm_lv [] rfl ?_
    exact tx_Reader_nextNumber_b101 ok hr N _ _
set_option maxHeartbeats 4000000 in
set_option maxRecDepth 20000 in
theorem tx_Reader_nextNumber_b68 {x : sm_Cx} (ok : sm_Ok x zx_sy prog_6_method_13_code "LentShades$Reader" 1 1 20) (hr : (xh x).sig.returnType = none) (N : Nat) {r5 : sm_St → Option (sm_St)} (h5 : ∀ (S : sm_St), sm_Sm x zx_sy prog_6_method_13_code (sm_Q x zx_sy (sm_Pv zx_sy (xw x))) (r5 S) S 5 [(0, .ref ((xw x).2.2 102))] []) (S : sm_St) : sm_Sm x zx_sy prog_6_method_13_code (sm_Q x zx_sy (sm_Pv zx_sy (xw x))) (px_Reader_nextNumber_b68 N r5 S) S 68 [(0, .ref ((xw x).2.2 102))] [] := by
  unfold px_Reader_nextNumber_b68
  refine sm_aload_n (pc := 68) 0 ok dx_Reader_nextNumber_68 rfl ?_
  refine sm_dup (pc := 69) ok dx_Reader_nextNumber_69 rfl ?_
  refine sm_getI (pc := 70) (ci := 4) (k := 2) ok dx_Reader_nextNumber_70 rfl rfl zc_i4 (by decide) rfl wd_237 ?_
  refine sm_iconst (pc := 73) (1 : Int32) ok dx_Reader_nextNumber_73 zk_1 ?_
  refine sm_iadd (pc := 74) ok dx_Reader_nextNumber_74 ?_
  refine sm_putI (pc := 75) (ci := 4) (k := 2) ok dx_Reader_nextNumber_75 rfl rfl zc_i4 zc_y4 zc_t4 zc_n4 (by decide) rfl rfl rfl wd_237 (fun S_5 => ?_)
  refine sm_goto (pc := 78) 5 ok dx_Reader_nextNumber_78 (by decide) ?_
  exact h5 _
set_option maxHeartbeats 4000000 in
set_option maxRecDepth 20000 in
theorem tx_Reader_nextNumber_b5 {x : sm_Cx} (ok : sm_Ok x zx_sy prog_6_method_13_code "LentShades$Reader" 1 1 20) (hr : (xh x).sig.returnType = none) (N : Nat) : ∀ (n : Nat) (S : sm_St), sm_Sm x zx_sy prog_6_method_13_code (sm_Q x zx_sy (sm_Pv zx_sy (xw x))) (px_Reader_nextNumber_b5 N n S) S 5 [(0, .ref ((xw x).2.2 102))] [] := by
  intro n
  induction n with
  | zero =>
    intro S
    exact sm_none
  | succ n ih =>
    intro S
    show sm_Sm x zx_sy prog_6_method_13_code (sm_Q x zx_sy (sm_Pv zx_sy (xw x))) (if (S.1 102 1) ≤ (S.1 102 2) then (px_Reader_nextNumber_b81 N S) else (if sm_in (S.1 102 2) 200 = true then (sm_b2 (px_Reader_isFigure N S (S.1 103 (S.1 102 2).toNatClampNeg)) (fun (r_3 : Int32) (S_2 : sm_St) => if r_3 = 0 then (px_Reader_nextNumber_b81 N S_2) else (if (2 : Int32) ≤ ((S_2.1 102 2) - (S_2.1 102 3)) then (px_Reader_nextNumber_b68 N (px_Reader_nextNumber_b5 N n) S_2) else (if sm_in (S_2.1 102 2) 200 = true then (sm_lt (sm_sI S_2 102 5 ((((10 : Int32) * (S_2.1 102 5)) + (S_2.1 103 (S_2.1 102 2).toNatClampNeg)) - (48 : Int32))) (fun (S_4 : sm_St) => px_Reader_nextNumber_b68 N (px_Reader_nextNumber_b5 N n) S_4)) else none)))) else none)) S 5 [(0, .ref ((xw x).2.2 102))] []
    refine sm_aload_n (pc := 5) 0 ok dx_Reader_nextNumber_5 rfl ?_
    refine sm_getI (pc := 6) (ci := 4) (k := 2) ok dx_Reader_nextNumber_6 rfl rfl zc_i4 (by decide) rfl wd_237 ?_
    refine sm_aload_n (pc := 9) 0 ok dx_Reader_nextNumber_9 rfl ?_
    refine sm_getI (pc := 10) (ci := 4) (k := 1) ok dx_Reader_nextNumber_10 rfl rfl zc_i4 (by decide) rfl wd_235 ?_
    refine sm_icmp_ge (pc := 13) 81 ok dx_Reader_nextNumber_13 (by decide) (fun _ => ?_) (fun _ => ?_)
    · exact tx_Reader_nextNumber_b81 ok hr N _
    · refine sm_aload_n (pc := 16) 0 ok dx_Reader_nextNumber_16 rfl ?_
      refine sm_getR (pc := 17) (ci := 4) (k := 0) ok dx_Reader_nextNumber_17 rfl rfl zc_i4 (by decide) rfl wd_234 ?_
      refine sm_aload_n (pc := 20) 0 ok dx_Reader_nextNumber_20 rfl ?_
      refine sm_getI (pc := 21) (ci := 4) (k := 2) ok dx_Reader_nextNumber_21 rfl rfl zc_i4 (by decide) rfl wd_237 ?_
      refine sm_iald (pc := 24) ok dx_Reader_nextNumber_24 rfl ?_
      refine sm_callS_i (pc := 25) [.int (S.1 103 (S.1 102 2).toNatClampNeg)] ok dx_Reader_nextNumber_25 wd_586 mwx_Reader_isFigure (Nat.le_of_ble_eq_true rfl) (Nat.le_of_ble_eq_true rfl) rfl rfl (Nat.le_of_ble_eq_true rfl) (cx_Reader_isFigure (sm_okj ok) N S (S.1 103 (S.1 102 2).toNatClampNeg)) (fun r_3 S_2 => ?_)
      refine sm_if_eq (pc := 28) 81 ok dx_Reader_nextNumber_28 (by decide) (fun _ => ?_) (fun _ => ?_)
      · exact tx_Reader_nextNumber_b81 ok hr N _
      · refine sm_aload_n (pc := 31) 0 ok dx_Reader_nextNumber_31 rfl ?_
        refine sm_getI (pc := 32) (ci := 4) (k := 2) ok dx_Reader_nextNumber_32 rfl rfl zc_i4 (by decide) rfl wd_237 ?_
        refine sm_aload_n (pc := 35) 0 ok dx_Reader_nextNumber_35 rfl ?_
        refine sm_getI (pc := 36) (ci := 4) (k := 3) ok dx_Reader_nextNumber_36 rfl rfl zc_i4 (by decide) rfl wd_238 ?_
        refine sm_isub (pc := 39) ok dx_Reader_nextNumber_39 ?_
        refine sm_iconst (pc := 40) (2 : Int32) ok dx_Reader_nextNumber_40 zk_2 ?_
        refine sm_icmp_ge (pc := 41) 68 ok dx_Reader_nextNumber_41 (by decide) (fun _ => ?_) (fun _ => ?_)
        · exact tx_Reader_nextNumber_b68 ok hr N ih _
        · refine sm_aload_n (pc := 44) 0 ok dx_Reader_nextNumber_44 rfl ?_
          refine sm_bipush (pc := 45) (10 : Int32) ok dx_Reader_nextNumber_45 zb_10 ?_
          refine sm_aload_n (pc := 47) 0 ok dx_Reader_nextNumber_47 rfl ?_
          refine sm_getI (pc := 48) (ci := 4) (k := 5) ok dx_Reader_nextNumber_48 rfl rfl zc_i4 (by decide) rfl wd_240 ?_
          refine sm_imul (pc := 51) ok dx_Reader_nextNumber_51 ?_
          refine sm_aload_n (pc := 52) 0 ok dx_Reader_nextNumber_52 rfl ?_
          refine sm_getR (pc := 53) (ci := 4) (k := 0) ok dx_Reader_nextNumber_53 rfl rfl zc_i4 (by decide) rfl wd_234 ?_
          refine sm_aload_n (pc := 56) 0 ok dx_Reader_nextNumber_56 rfl ?_
          refine sm_getI (pc := 57) (ci := 4) (k := 2) ok dx_Reader_nextNumber_57 rfl rfl zc_i4 (by decide) rfl wd_237 ?_
          refine sm_iald (pc := 60) ok dx_Reader_nextNumber_60 rfl ?_
          refine sm_iadd (pc := 61) ok dx_Reader_nextNumber_61 ?_
          refine sm_bipush (pc := 62) (48 : Int32) ok dx_Reader_nextNumber_62 zb_48 ?_
          refine sm_isub (pc := 64) ok dx_Reader_nextNumber_64 ?_
          refine sm_putI (pc := 65) (ci := 4) (k := 5) ok dx_Reader_nextNumber_65 rfl rfl zc_i4 zc_y4 zc_t4 zc_n4 (by decide) rfl rfl rfl wd_240 (fun S_4 => ?_)
          exact tx_Reader_nextNumber_b68 ok hr N ih _
set_option maxHeartbeats 4000000 in
set_option maxRecDepth 20000 in
theorem tx_Reader_nextNumber {x : sm_Cx} (ok : sm_Ok x zx_sy prog_6_method_13_code "LentShades$Reader" 1 1 20) (hr : (xh x).sig.returnType = none) (N : Nat) (S : sm_St) : sm_Sm x zx_sy prog_6_method_13_code (sm_Q x zx_sy (sm_Pv zx_sy (xw x))) (px_Reader_nextNumber N S) S 0 [(0, .ref ((xw x).2.2 102))] [] := by
  unfold px_Reader_nextNumber
  refine sm_aload_n (pc := 0) 0 ok dx_Reader_nextNumber_0 rfl ?_
  refine sm_iconst (pc := 1) (0 : Int32) ok dx_Reader_nextNumber_1 zk_0 ?_
  refine sm_putI (pc := 2) (ci := 4) (k := 5) ok dx_Reader_nextNumber_2 rfl rfl zc_i4 zc_y4 zc_t4 zc_n4 (by decide) rfl rfl rfl wd_240 (fun S_1 => ?_)
  exact tx_Reader_nextNumber_b5 ok hr N N _
theorem cx_Reader_nextNumber {l : Launch} {wc : sm_Wc} (hj : sm_inj zx_sy wc) (N : Nat) (S : sm_St) : sm_Ct l zx_sy wc yx_Reader_nextNumber prog_6_method_13_code 1 none 1 20 [.ref (wc.2.2 102)] S (sm_Pv zx_sy wc) (px_Reader_nextNumber N S) :=
  sm_entry (Pq := fun wc => sm_Pv zx_sy wc) (fun wc => [.ref (wc.2.2 102)]) (lv := fun wc => [(0, .ref (wc.2.2 102))]) (by decide) hj zx_ok zx_stb (fun _ => Nat.le_of_ble_eq_true rfl) (fun _ => rfl) (fun x _ ok hr => tx_Reader_nextNumber ok hr N S)
set_option maxHeartbeats 4000000 in
set_option maxRecDepth 20000 in
theorem tx_JString_coder {x : sm_Cx} (ok : sm_Ok x zx_sy prog_15_method_152_code "java/lang/String" 1 0 0) (hr : (xh x).sig.returnType = (some .byte)) (N : Nat) (S : sm_St) (w : Nat) (hw : w < 3) : sm_Sm x zx_sy prog_15_method_152_code (sm_Q x zx_sy (sm_Pi zx_sy (xw x))) (px_JString_coder N S w) S 0 [(0, .ref ((xw x).2.2 (1001 + w)))] [] := by
  unfold px_JString_coder
  refine sm_gsC (pc := 0) ok dx_JString_coder_0 wd_544 ?_
  refine sm_if_eq (pc := 3) 13 ok dx_JString_coder_3 (by decide) (fun _ => ?_) (fun _ => ?_)
  · refine sm_iconst (pc := 13) (1 : Int32) ok dx_JString_coder_13 zk_1 ?_
    exact sm_nret (pc := 14) ok dx_JString_coder_14 hr rfl
  · refine sm_aload_n (pc := 6) 0 ok dx_JString_coder_6 rfl ?_
    refine sm_gfK (pc := 7) (w := w) ok dx_JString_coder_7 hw wd_1510 ?_
    refine sm_goto (pc := 10) 14 ok dx_JString_coder_10 (by decide) ?_
    exact sm_nret (pc := 14) ok dx_JString_coder_14 hr rfl
theorem cx_JString_coder {l : Launch} {wc : sm_Wc} (hj : sm_inj zx_sy wc) (N : Nat) (S : sm_St) (w : Nat) (hw : w < 3) : sm_Ct l zx_sy wc yx_JString_coder prog_15_method_152_code 1 (some .byte) 0 0 [.ref (wc.2.2 (1001 + w))] S (sm_Pi zx_sy wc) (px_JString_coder N S w) :=
  sm_entry (Pq := fun wc => sm_Pi zx_sy wc) (fun wc => [.ref (wc.2.2 (1001 + w))]) (lv := fun wc => [(0, .ref (wc.2.2 (1001 + w)))]) (by decide) hj zx_ok zx_stb (fun _ => Nat.le_of_ble_eq_true rfl) (fun _ => rfl) (fun x _ ok hr => tx_JString_coder ok hr N S w hw)
set_option maxHeartbeats 4000000 in
set_option maxRecDepth 20000 in
theorem tx_JString_length {x : sm_Cx} (ok : sm_Ok x zx_sy prog_15_method_54_code "java/lang/String" 1 1 20) (hr : (xh x).sig.returnType = (some .int)) (N : Nat) (S : sm_St) (w : Nat) (hw : w < 3) : sm_Sm x zx_sy prog_15_method_54_code (sm_Q x zx_sy (sm_Pi zx_sy (xw x))) (px_JString_length N S w) S 0 [(0, .ref ((xw x).2.2 (1001 + w)))] [] := by
  unfold px_JString_length
  refine sm_aload_n (pc := 0) 0 ok dx_JString_length_0 rfl ?_
  refine sm_gfV (pc := 1) (w := w) ok dx_JString_length_1 hw wd_1509 ?_
  refine sm_alS (pc := 4) ok dx_JString_length_4 hw ?_
  refine sm_aload_n (pc := 5) 0 ok dx_JString_length_5 rfl ?_
  refine sm_callT_i (pc := 6) (w := w) [] ok dx_JString_length_6 wd_540 mwx_JString_coder hw rfl (Nat.le_of_ble_eq_true rfl) (Nat.le_of_ble_eq_true rfl) rfl rfl (Nat.le_of_ble_eq_true rfl) (cx_JString_coder (sm_okj ok) N S w hw) (fun r_2 S_1 => ?_)
  refine sm_ishr (pc := 9) ok dx_JString_length_9 ?_
  exact sm_iret (pc := 10) ok dx_JString_length_10 hr
theorem cx_JString_length {l : Launch} {wc : sm_Wc} (hj : sm_inj zx_sy wc) (N : Nat) (S : sm_St) (w : Nat) (hw : w < 3) : sm_Ct l zx_sy wc yx_JString_length prog_15_method_54_code 1 (some .int) 1 20 [.ref (wc.2.2 (1001 + w))] S (sm_Pi zx_sy wc) (px_JString_length N S w) :=
  sm_entry (Pq := fun wc => sm_Pi zx_sy wc) (fun wc => [.ref (wc.2.2 (1001 + w))]) (lv := fun wc => [(0, .ref (wc.2.2 (1001 + w)))]) (by decide) hj zx_ok zx_stb (fun _ => Nat.le_of_ble_eq_true rfl) (fun _ => rfl) (fun x _ ok hr => tx_JString_length ok hr N S w hw)
set_option maxHeartbeats 4000000 in
set_option maxRecDepth 20000 in
theorem tx_JString_isLatin1 {x : sm_Cx} (ok : sm_Ok x zx_sy prog_15_method_154_code "java/lang/String" 1 0 0) (hr : (xh x).sig.returnType = (some .boolean)) (N : Nat) (S : sm_St) (w : Nat) (hw : w < 3) : sm_Sm x zx_sy prog_15_method_154_code (sm_Q x zx_sy (sm_Pi zx_sy (xw x))) (px_JString_isLatin1 N S w) S 0 [(0, .ref ((xw x).2.2 (1001 + w)))] [] := by
  unfold px_JString_isLatin1
  refine sm_gsC (pc := 0) ok dx_JString_isLatin1_0 wd_544 ?_
  refine sm_if_eq (pc := 3) 17 ok dx_JString_isLatin1_3 (by decide) (fun _ => ?_) (fun _ => ?_)
  · refine sm_iconst (pc := 17) (0 : Int32) ok dx_JString_isLatin1_17 zk_0 ?_
    exact sm_zret (pc := 18) ok dx_JString_isLatin1_18 hr rfl
  · refine sm_aload_n (pc := 6) 0 ok dx_JString_isLatin1_6 rfl ?_
    refine sm_gfK (pc := 7) (w := w) ok dx_JString_isLatin1_7 hw wd_1510 ?_
    refine sm_if_ne (pc := 10) 17 ok dx_JString_isLatin1_10 (by decide) (fun _ => ?_) (fun _ => ?_)
    · refine sm_iconst (pc := 17) (0 : Int32) ok dx_JString_isLatin1_17 zk_0 ?_
      exact sm_zret (pc := 18) ok dx_JString_isLatin1_18 hr rfl
    · refine sm_iconst (pc := 13) (1 : Int32) ok dx_JString_isLatin1_13 zk_1 ?_
      refine sm_goto (pc := 14) 18 ok dx_JString_isLatin1_14 (by decide) ?_
      exact sm_zret (pc := 18) ok dx_JString_isLatin1_18 hr rfl
theorem cx_JString_isLatin1 {l : Launch} {wc : sm_Wc} (hj : sm_inj zx_sy wc) (N : Nat) (S : sm_St) (w : Nat) (hw : w < 3) : sm_Ct l zx_sy wc yx_JString_isLatin1 prog_15_method_154_code 1 (some .boolean) 0 0 [.ref (wc.2.2 (1001 + w))] S (sm_Pi zx_sy wc) (px_JString_isLatin1 N S w) :=
  sm_entry (Pq := fun wc => sm_Pi zx_sy wc) (fun wc => [.ref (wc.2.2 (1001 + w))]) (lv := fun wc => [(0, .ref (wc.2.2 (1001 + w)))]) (by decide) hj zx_ok zx_stb (fun _ => Nat.le_of_ble_eq_true rfl) (fun _ => rfl) (fun x _ ok hr => tx_JString_isLatin1 ok hr N S w hw)
set_option maxHeartbeats 4000000 in
set_option maxRecDepth 20000 in
theorem tx_JPreconditions_checkIndex {x : sm_Cx} (ok : sm_Ok x zx_sy prog_19_method_11_code "jdk/internal/util/Preconditions" 3 0 0) (hr : (xh x).sig.returnType = (some .int)) (N : Nat) (S : sm_St) (v0 : Int32) (v1 : Int32) {f2 : Option Nat} : sm_Sm x zx_sy prog_19_method_11_code (sm_Q x zx_sy (sm_Pi zx_sy (xw x))) (px_JPreconditions_checkIndex N S v0 v1) S 0 [(0, .int v0), (1, .int v1), (2, va_rf f2)] [] := by
  unfold px_JPreconditions_checkIndex
  refine sm_iload_n (pc := 0) 0 ok dx_JPreconditions_checkIndex_0 rfl ?_
  refine sm_if_lt (pc := 1) 9 ok dx_JPreconditions_checkIndex_1 (by decide) (fun _ => ?_) (fun _ => ?_)
  · exact sm_none
  · refine sm_iload_n (pc := 4) 0 ok dx_JPreconditions_checkIndex_4 rfl ?_
    refine sm_iload_n (pc := 5) 1 ok dx_JPreconditions_checkIndex_5 rfl ?_
    refine sm_icmp_lt (pc := 6) 16 ok dx_JPreconditions_checkIndex_6 (by decide) (fun _ => ?_) (fun _ => ?_)
    · refine sm_iload_n (pc := 16) 0 ok dx_JPreconditions_checkIndex_16 rfl ?_
      exact sm_iret (pc := 17) ok dx_JPreconditions_checkIndex_17 hr
    · exact sm_none
theorem cx_JPreconditions_checkIndex {l : Launch} {wc : sm_Wc} (hj : sm_inj zx_sy wc) (N : Nat) (S : sm_St) (v0 : Int32) (v1 : Int32) {f2 : Option Nat} : sm_Ct l zx_sy wc yx_JPreconditions_checkIndex prog_19_method_11_code 3 (some .int) 0 0 [.int v0, .int v1, va_rf f2] S (sm_Pi zx_sy wc) (px_JPreconditions_checkIndex N S v0 v1) :=
  sm_entry (Pq := fun wc => sm_Pi zx_sy wc) (fun wc => [.int v0, .int v1, va_rf f2]) (lv := fun wc => [(0, .int v0), (1, .int v1), (2, va_rf f2)]) (by decide) hj zx_ok zx_stb (fun _ => by cases f2 <;> exact Nat.le_of_ble_eq_true rfl) (fun _ => rfl) (fun x _ ok hr => tx_JPreconditions_checkIndex ok hr N S v0 v1)
set_option maxHeartbeats 4000000 in
set_option maxRecDepth 20000 in
theorem tx_JString_checkIndex {x : sm_Cx} (ok : sm_Ok x zx_sy prog_15_method_155_code "java/lang/String" 2 1 22) (hr : (xh x).sig.returnType = none) (N : Nat) (S : sm_St) (v0 : Int32) (v1 : Int32) : sm_Sm x zx_sy prog_15_method_155_code (sm_Q x zx_sy (sm_Pv zx_sy (xw x))) (px_JString_checkIndex N S v0 v1) S 0 [(0, .int v0), (1, .int v1)] [] := by
  unfold px_JString_checkIndex
  refine sm_iload_n (pc := 0) 0 ok dx_JString_checkIndex_0 rfl ?_
  refine sm_iload_n (pc := 1) 1 ok dx_JString_checkIndex_1 rfl ?_
  refine sm_gsF (pc := 2) ok dx_JString_checkIndex_2 wd_560 (fun fq_1 => ?_)
  refine sm_callS_i (pc := 5) [.int v0, .int v1, va_rf fq_1] ok dx_JString_checkIndex_5 wd_562 mwx_JPreconditions_checkIndex (Nat.le_of_ble_eq_true rfl) (Nat.le_of_ble_eq_true rfl) rfl rfl (Nat.le_of_ble_eq_true rfl) (cx_JPreconditions_checkIndex (sm_okj ok) N S v0 v1) (fun r_3 S_2 => ?_)
  refine sm_pop (pc := 8) ok dx_JString_checkIndex_8 rfl ?_
  exact sm_vret (pc := 9) ok dx_JString_checkIndex_9 hr
theorem cx_JString_checkIndex {l : Launch} {wc : sm_Wc} (hj : sm_inj zx_sy wc) (N : Nat) (S : sm_St) (v0 : Int32) (v1 : Int32) : sm_Ct l zx_sy wc yx_JString_checkIndex prog_15_method_155_code 2 none 1 22 [.int v0, .int v1] S (sm_Pv zx_sy wc) (px_JString_checkIndex N S v0 v1) :=
  sm_entry (Pq := fun wc => sm_Pv zx_sy wc) (fun wc => [.int v0, .int v1]) (lv := fun wc => [(0, .int v0), (1, .int v1)]) (by decide) hj zx_ok zx_stb (fun _ => Nat.le_of_ble_eq_true rfl) (fun _ => rfl) (fun x _ ok hr => tx_JString_checkIndex ok hr N S v0 v1)
set_option maxHeartbeats 4000000 in
set_option maxRecDepth 20000 in
theorem tx_JStringLatin1_charAt {x : sm_Cx} (ok : sm_Ok x zx_sy prog_16_method_2_code "java/lang/StringLatin1" 2 2 43) (hr : (xh x).sig.returnType = (some .char)) (N : Nat) (S : sm_St) (w : Nat) (v1 : Int32) (hw : w < 3) : sm_Sm x zx_sy prog_16_method_2_code (sm_Q x zx_sy (sm_Pi zx_sy (xw x))) (px_JStringLatin1_charAt N S w v1) S 0 [(0, .ref ((xw x).2.2 (1004 + w))), (1, .int v1)] [] := by
  unfold px_JStringLatin1_charAt
  refine sm_iload_n (pc := 0) 1 ok dx_JStringLatin1_charAt_0 rfl ?_
  refine sm_aload_n (pc := 1) 0 ok dx_JStringLatin1_charAt_1 rfl ?_
  refine sm_alS (pc := 2) ok dx_JStringLatin1_charAt_2 hw ?_
  refine sm_callS_v (pc := 3) [.int v1, .int (5 : Int32)] ok dx_JStringLatin1_charAt_3 wd_557 mwx_JString_checkIndex (Nat.le_of_ble_eq_true rfl) (Nat.le_of_ble_eq_true rfl) rfl rfl (Nat.le_of_ble_eq_true rfl) (cx_JString_checkIndex (sm_okj ok) N S v1 (5 : Int32)) (fun S_1 => ?_)
  refine sm_aload_n (pc := 6) 0 ok dx_JStringLatin1_charAt_6 rfl ?_
  refine sm_iload_n (pc := 7) 1 ok dx_JStringLatin1_charAt_7 rfl ?_
  refine sm_baS (pc := 8) (w := w) ok dx_JStringLatin1_charAt_8 hw ?_
  refine sm_sipush (pc := 9) (255 : Int32) ok dx_JStringLatin1_charAt_9 zs_255 ?_
  refine sm_iand (pc := 12) ok dx_JStringLatin1_charAt_12 ?_
  refine sm_i2c (pc := 13) ok dx_JStringLatin1_charAt_13 ?_
  exact sm_nret (pc := 14) ok dx_JStringLatin1_charAt_14 hr rfl
theorem cx_JStringLatin1_charAt {l : Launch} {wc : sm_Wc} (hj : sm_inj zx_sy wc) (N : Nat) (S : sm_St) (w : Nat) (v1 : Int32) (hw : w < 3) : sm_Ct l zx_sy wc yx_JStringLatin1_charAt prog_16_method_2_code 2 (some .char) 2 43 [.ref (wc.2.2 (1004 + w)), .int v1] S (sm_Pi zx_sy wc) (px_JStringLatin1_charAt N S w v1) :=
  sm_entry (Pq := fun wc => sm_Pi zx_sy wc) (fun wc => [.ref (wc.2.2 (1004 + w)), .int v1]) (lv := fun wc => [(0, .ref (wc.2.2 (1004 + w))), (1, .int v1)]) (by decide) hj zx_ok zx_stb (fun _ => Nat.le_of_ble_eq_true rfl) (fun _ => rfl) (fun x _ ok hr => tx_JStringLatin1_charAt ok hr N S w v1 hw)
set_option maxHeartbeats 4000000 in
set_option maxRecDepth 20000 in
theorem tx_JString_charAt {x : sm_Cx} (ok : sm_Ok x zx_sy prog_15_method_56_code "java/lang/String" 2 3 64) (hr : (xh x).sig.returnType = (some .char)) (N : Nat) (S : sm_St) (w : Nat) (v1 : Int32) (hw : w < 3) : sm_Sm x zx_sy prog_15_method_56_code (sm_Q x zx_sy (sm_Pi zx_sy (xw x))) (px_JString_charAt N S w v1) S 0 [(0, .ref ((xw x).2.2 (1001 + w))), (1, .int v1)] [] := by
  unfold px_JString_charAt
  refine sm_aload_n (pc := 0) 0 ok dx_JString_charAt_0 rfl ?_
  refine sm_callT_i (pc := 1) (w := w) [] ok dx_JString_charAt_1 wd_550 mwx_JString_isLatin1 hw rfl (Nat.le_of_ble_eq_true rfl) (Nat.le_of_ble_eq_true rfl) rfl rfl (Nat.le_of_ble_eq_true rfl) (cx_JString_isLatin1 (sm_okj ok) N S w hw) (fun r_2 S_1 => ?_)
  refine sm_if_eq (pc := 4) 16 ok dx_JString_charAt_4 (by decide) (fun _ => ?_) (fun _ => ?_)
  · exact sm_none
  · refine sm_aload_n (pc := 7) 0 ok dx_JString_charAt_7 rfl ?_
    refine sm_gfV (pc := 8) (w := w) ok dx_JString_charAt_8 hw wd_1509 ?_
    refine sm_iload_n (pc := 11) 1 ok dx_JString_charAt_11 rfl ?_
    refine sm_callS_i (pc := 12) [.ref ((xw x).2.2 (1004 + w)), .int v1] ok dx_JString_charAt_12 wd_554 mwx_JStringLatin1_charAt (Nat.le_of_ble_eq_true rfl) (Nat.le_of_ble_eq_true rfl) rfl rfl (Nat.le_of_ble_eq_true rfl) (cx_JStringLatin1_charAt (sm_okj ok) N S_1 w v1 hw) (fun r_4 S_3 => ?_)
    exact sm_nret (pc := 15) ok dx_JString_charAt_15 hr rfl
theorem cx_JString_charAt {l : Launch} {wc : sm_Wc} (hj : sm_inj zx_sy wc) (N : Nat) (S : sm_St) (w : Nat) (v1 : Int32) (hw : w < 3) : sm_Ct l zx_sy wc yx_JString_charAt prog_15_method_56_code 2 (some .char) 3 64 [.ref (wc.2.2 (1001 + w)), .int v1] S (sm_Pi zx_sy wc) (px_JString_charAt N S w v1) :=
  sm_entry (Pq := fun wc => sm_Pi zx_sy wc) (fun wc => [.ref (wc.2.2 (1001 + w)), .int v1]) (lv := fun wc => [(0, .ref (wc.2.2 (1001 + w))), (1, .int v1)]) (by decide) hj zx_ok zx_stb (fun _ => Nat.le_of_ble_eq_true rfl) (fun _ => rfl) (fun x _ ok hr => tx_JString_charAt ok hr N S w v1 hw)
set_option maxHeartbeats 4000000 in
set_option maxRecDepth 20000 in
theorem tx_Reader_spells_b20 {x : sm_Cx} (ok : sm_Ok x zx_sy prog_6_method_12_code "LentShades$Reader" 3 4 85) (hr : (xh x).sig.returnType = (some .boolean)) (N : Nat) (w : Nat) (hw : w < 3) : ∀ (n : Nat) (v2 : Int32) (S : sm_St), sm_Sm x zx_sy prog_6_method_12_code (sm_Q x zx_sy (sm_Pi zx_sy (xw x))) (px_Reader_spells_b20 N w n v2 S) S 20 [(0, .ref ((xw x).2.2 102)), (1, .ref ((xw x).2.2 (1001 + w))), (2, .int v2)] [] := by
  intro n
  induction n with
  | zero =>
    intro v2 S
    exact sm_none
  | succ n ih =>
    intro v2 S
    show sm_Sm x zx_sy prog_6_method_12_code (sm_Q x zx_sy (sm_Pi zx_sy (xw x))) (sm_b2 (px_JString_length N S w) (fun (r_5 : Int32) (S_4 : sm_St) => if r_5 ≤ v2 then (some ((1 : Int32), S_4)) else (if sm_in ((S_4.1 102 3) + v2) 200 = true then (sm_b2 (px_JString_charAt N S_4 w v2) (fun (r_7 : Int32) (S_6 : sm_St) => if (S_4.1 103 ((S_4.1 102 3) + v2).toNatClampNeg) = r_7 then (sm_lt (v2 + (1 : Int32)) (fun (v2_8 : Int32) => (px_Reader_spells_b20 N w n) v2_8 S_6)) else (some ((0 : Int32), S_6)))) else none))) S 20 [(0, .ref ((xw x).2.2 102)), (1, .ref ((xw x).2.2 (1001 + w))), (2, .int v2)] []
    refine sm_iload_n (pc := 20) 2 ok dx_Reader_spells_20 rfl ?_
    refine sm_aload_n (pc := 21) 1 ok dx_Reader_spells_21 rfl ?_
    refine sm_callT_i (pc := 22) (w := w) [] ok dx_Reader_spells_22 wd_536 mwx_JString_length hw rfl (Nat.le_of_ble_eq_true rfl) (Nat.le_of_ble_eq_true rfl) rfl rfl (Nat.le_of_ble_eq_true rfl) (cx_JString_length (sm_okj ok) N S w hw) (fun r_5 S_4 => ?_)
    refine sm_icmp_ge (pc := 25) 55 ok dx_Reader_spells_25 (by decide) (fun _ => ?_) (fun _ => ?_)
    · refine sm_iconst (pc := 55) (1 : Int32) ok dx_Reader_spells_55 zk_1 ?_
      exact sm_zret (pc := 56) ok dx_Reader_spells_56 hr rfl
    · refine sm_aload_n (pc := 28) 0 ok dx_Reader_spells_28 rfl ?_
      refine sm_getR (pc := 29) (ci := 4) (k := 0) ok dx_Reader_spells_29 rfl rfl zc_i4 (by decide) rfl wd_234 ?_
      refine sm_aload_n (pc := 32) 0 ok dx_Reader_spells_32 rfl ?_
      refine sm_getI (pc := 33) (ci := 4) (k := 3) ok dx_Reader_spells_33 rfl rfl zc_i4 (by decide) rfl wd_238 ?_
      refine sm_iload_n (pc := 36) 2 ok dx_Reader_spells_36 rfl ?_
      refine sm_iadd (pc := 37) ok dx_Reader_spells_37 ?_
      refine sm_iald (pc := 38) ok dx_Reader_spells_38 rfl ?_
      refine sm_aload_n (pc := 39) 1 ok dx_Reader_spells_39 rfl ?_
      refine sm_iload_n (pc := 40) 2 ok dx_Reader_spells_40 rfl ?_
      refine sm_callT_i (pc := 41) (w := w) [.int v2] ok dx_Reader_spells_41 wd_546 mwx_JString_charAt hw rfl (Nat.le_of_ble_eq_true rfl) (Nat.le_of_ble_eq_true rfl) rfl rfl (Nat.le_of_ble_eq_true rfl) (cx_JString_charAt (sm_okj ok) N S_4 w v2 hw) (fun r_7 S_6 => ?_)
      refine sm_icmp_eq (pc := 44) 49 ok dx_Reader_spells_44 (by decide) (fun _ => ?_) (fun _ => ?_)
      · refine sm_iinc (pc := 49) (i := 2) 2 (1 : Int32) ok dx_Reader_spells_49 rfl zk_1 (by decide) (fun v => [(2, .int v), (0, .ref ((xw x).2.2 102)), (1, .ref ((xw x).2.2 (1001 + w)))]) (fun _ => rfl) (fun v2_8 => ?_)
        refine sm_goto (pc := 52) 20 ok dx_Reader_spells_52 (by decide) ?_
        refine sm_lv [1, 2, 0] rfl ?_
        exact ih _ _
      · refine sm_iconst (pc := 47) (0 : Int32) ok dx_Reader_spells_47 zk_0 ?_
        exact sm_zret (pc := 48) ok dx_Reader_spells_48 hr rfl
set_option maxHeartbeats 4000000 in
set_option maxRecDepth 20000 in
theorem tx_Reader_spells {x : sm_Cx} (ok : sm_Ok x zx_sy prog_6_method_12_code "LentShades$Reader" 3 4 85) (hr : (xh x).sig.returnType = (some .boolean)) (N : Nat) (S : sm_St) (w : Nat) (hw : w < 3) : sm_Sm x zx_sy prog_6_method_12_code (sm_Q x zx_sy (sm_Pi zx_sy (xw x))) (px_Reader_spells N S w) S 0 [(0, .ref ((xw x).2.2 102)), (1, .ref ((xw x).2.2 (1001 + w)))] [] := by
  unfold px_Reader_spells
  refine sm_aload_n (pc := 0) 0 ok dx_Reader_spells_0 rfl ?_
  refine sm_getI (pc := 1) (ci := 4) (k := 2) ok dx_Reader_spells_1 rfl rfl zc_i4 (by decide) rfl wd_237 ?_
  refine sm_aload_n (pc := 4) 0 ok dx_Reader_spells_4 rfl ?_
  refine sm_getI (pc := 5) (ci := 4) (k := 3) ok dx_Reader_spells_5 rfl rfl zc_i4 (by decide) rfl wd_238 ?_
  refine sm_isub (pc := 8) ok dx_Reader_spells_8 ?_
  refine sm_aload_n (pc := 9) 1 ok dx_Reader_spells_9 rfl ?_
  refine sm_callT_i (pc := 10) (w := w) [] ok dx_Reader_spells_10 wd_536 mwx_JString_length hw rfl (Nat.le_of_ble_eq_true rfl) (Nat.le_of_ble_eq_true rfl) rfl rfl (Nat.le_of_ble_eq_true rfl) (cx_JString_length (sm_okj ok) N S w hw) (fun r_2 S_1 => ?_)
  refine sm_icmp_eq (pc := 13) 18 ok dx_Reader_spells_13 (by decide) (fun _ => ?_) (fun _ => ?_)
  · refine sm_iconst (pc := 18) (0 : Int32) ok dx_Reader_spells_18 zk_0 ?_
    refine sm_istore_n (pc := 19) (i := 2) ok dx_Reader_spells_19 rfl (by decide) (fun v => [(2, .int v), (0, .ref ((xw x).2.2 102)), (1, .ref ((xw x).2.2 (1001 + w)))]) (fun _ => rfl) (fun v2_3 => ?_)
    refine sm_lv [1, 2, 0] rfl ?_
    exact tx_Reader_spells_b20 ok hr N w hw N _ _
  · refine sm_iconst (pc := 16) (0 : Int32) ok dx_Reader_spells_16 zk_0 ?_
    exact sm_zret (pc := 17) ok dx_Reader_spells_17 hr rfl
theorem cx_Reader_spells {l : Launch} {wc : sm_Wc} (hj : sm_inj zx_sy wc) (N : Nat) (S : sm_St) (w : Nat) (hw : w < 3) : sm_Ct l zx_sy wc yx_Reader_spells prog_6_method_12_code 3 (some .boolean) 4 85 [.ref (wc.2.2 102), .ref (wc.2.2 (1001 + w))] S (sm_Pi zx_sy wc) (px_Reader_spells N S w) :=
  sm_entry (Pq := fun wc => sm_Pi zx_sy wc) (fun wc => [.ref (wc.2.2 102), .ref (wc.2.2 (1001 + w))]) (lv := fun wc => [(0, .ref (wc.2.2 102)), (1, .ref (wc.2.2 (1001 + w)))]) (by decide) hj zx_ok zx_stb (fun _ => Nat.le_of_ble_eq_true rfl) (fun _ => rfl) (fun x _ ok hr => tx_Reader_spells ok hr N S w hw)
set_option maxHeartbeats 4000000 in
set_option maxRecDepth 20000 in
theorem tx_Reader_nextWord_b89 {x : sm_Cx} (ok : sm_Ok x zx_sy prog_6_method_11_code "LentShades$Reader" 1 5 107) (hr : (xh x).sig.returnType = none) (N : Nat) (s1 : Int32) (S : sm_St) : sm_Sm x zx_sy prog_6_method_11_code (sm_Q x zx_sy (sm_Pv zx_sy (xw x))) (px_Reader_nextWord_b89 N s1 S) S 89 [] [.int s1, .ref ((xw x).2.2 102)] := by
  unfold px_Reader_nextWord_b89
  refine sm_putI (pc := 89) (ci := 4) (k := 4) ok dx_Reader_nextWord_89 rfl rfl zc_i4 zc_y4 zc_t4 zc_n4 (by decide) rfl rfl rfl wd_239 (fun S_12 => ?_)
  exact sm_vret (pc := 92) ok dx_Reader_nextWord_92 hr
set_option maxHeartbeats 4000000 in
set_option maxRecDepth 20000 in
theorem tx_Reader_nextWord_b39 {x : sm_Cx} (ok : sm_Ok x zx_sy prog_6_method_11_code "LentShades$Reader" 1 5 107) (hr : (xh x).sig.returnType = none) (N : Nat) (S : sm_St) : sm_Sm x zx_sy prog_6_method_11_code (sm_Q x zx_sy (sm_Pv zx_sy (xw x))) (px_Reader_nextWord_b39 N S) S 39 [(0, .ref ((xw x).2.2 102))] [] := by
  unfold px_Reader_nextWord_b39
  refine sm_aload_n (pc := 39) 0 ok dx_Reader_nextWord_39 rfl ?_
  refine sm_ldcS (pc := 40) (w := 0) ok dx_Reader_nextWord_40 rfl ?_
  refine sm_callV_i (pc := 42) (ci := 4) [.ref ((xw x).2.2 (1001 + 0))] ok dx_Reader_nextWord_42 wd_532 mwx_Reader_spells rfl rfl (Nat.le_of_ble_eq_true rfl) (Nat.le_of_ble_eq_true rfl) rfl rfl (Nat.le_of_ble_eq_true rfl) (cx_Reader_spells (sm_okj ok) N S 0 (by decide)) (fun r_5 S_4 => ?_)
  refine sm_if_eq (pc := 45) 56 ok dx_Reader_nextWord_45 (by decide) (fun _ => ?_) (fun _ => ?_)
  · refine sm_aload_n (pc := 56) 0 ok dx_Reader_nextWord_56 rfl ?_
    refine sm_ldcS (pc := 57) (w := 1) ok dx_Reader_nextWord_57 rfl ?_
    refine sm_callV_i (pc := 59) (ci := 4) [.ref ((xw x).2.2 (1001 + 1))] ok dx_Reader_nextWord_59 wd_532 mwx_Reader_spells rfl rfl (Nat.le_of_ble_eq_true rfl) (Nat.le_of_ble_eq_true rfl) rfl rfl (Nat.le_of_ble_eq_true rfl) (cx_Reader_spells (sm_okj ok) N S_4 1 (by decide)) (fun r_7 S_6 => ?_)
    refine sm_if_eq (pc := 62) 73 ok dx_Reader_nextWord_62 (by decide) (fun _ => ?_) (fun _ => ?_)
    · refine sm_aload_n (pc := 73) 0 ok dx_Reader_nextWord_73 rfl ?_
      refine sm_aload_n (pc := 74) 0 ok dx_Reader_nextWord_74 rfl ?_
      refine sm_ldcS (pc := 75) (w := 2) ok dx_Reader_nextWord_75 rfl ?_
      refine sm_callV_i (pc := 77) (ci := 4) [.ref ((xw x).2.2 (1001 + 2))] ok dx_Reader_nextWord_77 wd_532 mwx_Reader_spells rfl rfl (Nat.le_of_ble_eq_true rfl) (Nat.le_of_ble_eq_true rfl) rfl rfl (Nat.le_of_ble_eq_true rfl) (cx_Reader_spells (sm_okj ok) N S_6 2 (by decide)) (fun r_9 S_8 => ?_)
      refine sm_if_eq (pc := 80) 87 ok dx_Reader_nextWord_80 (by decide) (fun _ => ?_) (fun _ => ?_)
      · refine sm_bipush (pc := 87) (6 : Int32) ok dx_Reader_nextWord_87 zb_6 ?_
        refine sm_lv [] rfl ?_
        exact tx_Reader_nextWord_b89 ok hr N _ _
      · refine sm_iconst (pc := 83) (3 : Int32) ok dx_Reader_nextWord_83 zk_3 ?_
        refine sm_goto (pc := 84) 89 ok dx_Reader_nextWord_84 (by decide) ?_
        refine sm_lv [] rfl ?_
        exact tx_Reader_nextWord_b89 ok hr N _ _
    · refine sm_aload_n (pc := 65) 0 ok dx_Reader_nextWord_65 rfl ?_
      refine sm_iconst (pc := 66) (2 : Int32) ok dx_Reader_nextWord_66 zk_2 ?_
      refine sm_putI (pc := 67) (ci := 4) (k := 4) ok dx_Reader_nextWord_67 rfl rfl zc_i4 zc_y4 zc_t4 zc_n4 (by decide) rfl rfl rfl wd_239 (fun S_10 => ?_)
      refine sm_goto (pc := 70) 92 ok dx_Reader_nextWord_70 (by decide) ?_
      exact sm_vret (pc := 92) ok dx_Reader_nextWord_92 hr
  · refine sm_aload_n (pc := 48) 0 ok dx_Reader_nextWord_48 rfl ?_
    refine sm_iconst (pc := 49) (1 : Int32) ok dx_Reader_nextWord_49 zk_1 ?_
    refine sm_putI (pc := 50) (ci := 4) (k := 4) ok dx_Reader_nextWord_50 rfl rfl zc_i4 zc_y4 zc_t4 zc_n4 (by decide) rfl rfl rfl wd_239 (fun S_11 => ?_)
    refine sm_goto (pc := 53) 92 ok dx_Reader_nextWord_53 (by decide) ?_
    exact sm_vret (pc := 92) ok dx_Reader_nextWord_92 hr
set_option maxHeartbeats 4000000 in
set_option maxRecDepth 20000 in
theorem tx_Reader_nextWord_b0 {x : sm_Cx} (ok : sm_Ok x zx_sy prog_6_method_11_code "LentShades$Reader" 1 5 107) (hr : (xh x).sig.returnType = none) (N : Nat) : ∀ (n : Nat) (S : sm_St), sm_Sm x zx_sy prog_6_method_11_code (sm_Q x zx_sy (sm_Pv zx_sy (xw x))) (px_Reader_nextWord_b0 N n S) S 0 [(0, .ref ((xw x).2.2 102))] [] := by
  intro n
  induction n with
  | zero =>
    intro S
    exact sm_none
  | succ n ih =>
    intro S
    show sm_Sm x zx_sy prog_6_method_11_code (sm_Q x zx_sy (sm_Pv zx_sy (xw x))) (if (S.1 102 1) ≤ (S.1 102 2) then (px_Reader_nextWord_b39 N S) else (if sm_in (S.1 102 2) 200 = true then (sm_b2 (px_Reader_isLetter N S (S.1 103 (S.1 102 2).toNatClampNeg)) (fun (r_2 : Int32) (S_1 : sm_St) => if r_2 = 0 then (px_Reader_nextWord_b39 N S_1) else (sm_lt (sm_sI S_1 102 2 ((S_1.1 102 2) + (1 : Int32))) (fun (S_3 : sm_St) => (px_Reader_nextWord_b0 N n) S_3)))) else none)) S 0 [(0, .ref ((xw x).2.2 102))] []
    refine sm_aload_n (pc := 0) 0 ok dx_Reader_nextWord_0 rfl ?_
    refine sm_getI (pc := 1) (ci := 4) (k := 2) ok dx_Reader_nextWord_1 rfl rfl zc_i4 (by decide) rfl wd_237 ?_
    refine sm_aload_n (pc := 4) 0 ok dx_Reader_nextWord_4 rfl ?_
    refine sm_getI (pc := 5) (ci := 4) (k := 1) ok dx_Reader_nextWord_5 rfl rfl zc_i4 (by decide) rfl wd_235 ?_
    refine sm_icmp_ge (pc := 8) 39 ok dx_Reader_nextWord_8 (by decide) (fun _ => ?_) (fun _ => ?_)
    · exact tx_Reader_nextWord_b39 ok hr N _
    · refine sm_aload_n (pc := 11) 0 ok dx_Reader_nextWord_11 rfl ?_
      refine sm_getR (pc := 12) (ci := 4) (k := 0) ok dx_Reader_nextWord_12 rfl rfl zc_i4 (by decide) rfl wd_234 ?_
      refine sm_aload_n (pc := 15) 0 ok dx_Reader_nextWord_15 rfl ?_
      refine sm_getI (pc := 16) (ci := 4) (k := 2) ok dx_Reader_nextWord_16 rfl rfl zc_i4 (by decide) rfl wd_237 ?_
      refine sm_iald (pc := 19) ok dx_Reader_nextWord_19 rfl ?_
      refine sm_callS_i (pc := 20) [.int (S.1 103 (S.1 102 2).toNatClampNeg)] ok dx_Reader_nextWord_20 wd_524 mwx_Reader_isLetter (Nat.le_of_ble_eq_true rfl) (Nat.le_of_ble_eq_true rfl) rfl rfl (Nat.le_of_ble_eq_true rfl) (cx_Reader_isLetter (sm_okj ok) N S (S.1 103 (S.1 102 2).toNatClampNeg)) (fun r_2 S_1 => ?_)
      refine sm_if_eq (pc := 23) 39 ok dx_Reader_nextWord_23 (by decide) (fun _ => ?_) (fun _ => ?_)
      · exact tx_Reader_nextWord_b39 ok hr N _
      · refine sm_aload_n (pc := 26) 0 ok dx_Reader_nextWord_26 rfl ?_
        refine sm_dup (pc := 27) ok dx_Reader_nextWord_27 rfl ?_
        refine sm_getI (pc := 28) (ci := 4) (k := 2) ok dx_Reader_nextWord_28 rfl rfl zc_i4 (by decide) rfl wd_237 ?_
        refine sm_iconst (pc := 31) (1 : Int32) ok dx_Reader_nextWord_31 zk_1 ?_
        refine sm_iadd (pc := 32) ok dx_Reader_nextWord_32 ?_
        refine sm_putI (pc := 33) (ci := 4) (k := 2) ok dx_Reader_nextWord_33 rfl rfl zc_i4 zc_y4 zc_t4 zc_n4 (by decide) rfl rfl rfl wd_237 (fun S_3 => ?_)
        refine sm_goto (pc := 36) 0 ok dx_Reader_nextWord_36 (by decide) ?_
        exact ih _
set_option maxHeartbeats 4000000 in
set_option maxRecDepth 20000 in
theorem tx_Reader_nextWord {x : sm_Cx} (ok : sm_Ok x zx_sy prog_6_method_11_code "LentShades$Reader" 1 5 107) (hr : (xh x).sig.returnType = none) (N : Nat) (S : sm_St) : sm_Sm x zx_sy prog_6_method_11_code (sm_Q x zx_sy (sm_Pv zx_sy (xw x))) (px_Reader_nextWord N S) S 0 [(0, .ref ((xw x).2.2 102))] [] := by
  unfold px_Reader_nextWord
  exact tx_Reader_nextWord_b0 ok hr N N _
theorem cx_Reader_nextWord {l : Launch} {wc : sm_Wc} (hj : sm_inj zx_sy wc) (N : Nat) (S : sm_St) : sm_Ct l zx_sy wc yx_Reader_nextWord prog_6_method_11_code 1 none 5 107 [.ref (wc.2.2 102)] S (sm_Pv zx_sy wc) (px_Reader_nextWord N S) :=
  sm_entry (Pq := fun wc => sm_Pv zx_sy wc) (fun wc => [.ref (wc.2.2 102)]) (lv := fun wc => [(0, .ref (wc.2.2 102))]) (by decide) hj zx_ok zx_stb (fun _ => Nat.le_of_ble_eq_true rfl) (fun _ => rfl) (fun x _ ok hr => tx_Reader_nextWord ok hr N S)
set_option maxHeartbeats 4000000 in
set_option maxRecDepth 20000 in
theorem tx_Reader_next_b130 {x : sm_Cx} (ok : sm_Ok x zx_sy prog_6_method_10_code "LentShades$Reader" 1 6 127) (hr : (xh x).sig.returnType = none) (N : Nat) (s1 : Int32) (S : sm_St) : sm_Sm x zx_sy prog_6_method_10_code (sm_Q x zx_sy (sm_Pv zx_sy (xw x))) (px_Reader_next_b130 N s1 S) S 130 [(0, .ref ((xw x).2.2 102))] [.int s1, .ref ((xw x).2.2 102)] := by
  unfold px_Reader_next_b130
  refine sm_putI (pc := 130) (ci := 4) (k := 4) ok dx_Reader_next_130 rfl rfl zc_i4 zc_y4 zc_t4 zc_n4 (by decide) rfl rfl rfl wd_239 (fun S_10 => ?_)
  refine sm_aload_n (pc := 133) 0 ok dx_Reader_next_133 rfl ?_
  refine sm_dup (pc := 134) ok dx_Reader_next_134 rfl ?_
  refine sm_getI (pc := 135) (ci := 4) (k := 2) ok dx_Reader_next_135 rfl rfl zc_i4 (by decide) rfl wd_237 ?_
  refine sm_iconst (pc := 138) (1 : Int32) ok dx_Reader_next_138 zk_1 ?_
  refine sm_iadd (pc := 139) ok dx_Reader_next_139 ?_
  refine sm_putI (pc := 140) (ci := 4) (k := 2) ok dx_Reader_next_140 rfl rfl zc_i4 zc_y4 zc_t4 zc_n4 (by decide) rfl rfl rfl wd_237 (fun S_11 => ?_)
  exact sm_vret (pc := 143) ok dx_Reader_next_143 hr
set_option maxHeartbeats 4000000 in
set_option maxRecDepth 20000 in
theorem tx_Reader_next_b38 {x : sm_Cx} (ok : sm_Ok x zx_sy prog_6_method_10_code "LentShades$Reader" 1 6 127) (hr : (xh x).sig.returnType = none) (N : Nat) (S : sm_St) : sm_Sm x zx_sy prog_6_method_10_code (sm_Q x zx_sy (sm_Pv zx_sy (xw x))) (px_Reader_next_b38 N S) S 38 [(0, .ref ((xw x).2.2 102))] [] := by
  unfold px_Reader_next_b38
  refine sm_aload_n (pc := 38) 0 ok dx_Reader_next_38 rfl ?_
  refine sm_aload_n (pc := 39) 0 ok dx_Reader_next_39 rfl ?_
  refine sm_getI (pc := 40) (ci := 4) (k := 2) ok dx_Reader_next_40 rfl rfl zc_i4 (by decide) rfl wd_237 ?_
  refine sm_putI (pc := 43) (ci := 4) (k := 3) ok dx_Reader_next_43 rfl rfl zc_i4 zc_y4 zc_t4 zc_n4 (by decide) rfl rfl rfl wd_238 (fun S_2 => ?_)
  refine sm_aload_n (pc := 46) 0 ok dx_Reader_next_46 rfl ?_
  refine sm_getI (pc := 47) (ci := 4) (k := 2) ok dx_Reader_next_47 rfl rfl zc_i4 (by decide) rfl wd_237 ?_
  refine sm_aload_n (pc := 50) 0 ok dx_Reader_next_50 rfl ?_
  refine sm_getI (pc := 51) (ci := 4) (k := 1) ok dx_Reader_next_51 rfl rfl zc_i4 (by decide) rfl wd_235 ?_
  refine sm_icmp_lt (pc := 54) 65 ok dx_Reader_next_54 (by decide) (fun _ => ?_) (fun _ => ?_)
  · refine sm_aload_n (pc := 65) 0 ok dx_Reader_next_65 rfl ?_
    refine sm_getR (pc := 66) (ci := 4) (k := 0) ok dx_Reader_next_66 rfl rfl zc_i4 (by decide) rfl wd_234 ?_
    refine sm_aload_n (pc := 69) 0 ok dx_Reader_next_69 rfl ?_
    refine sm_getI (pc := 70) (ci := 4) (k := 2) ok dx_Reader_next_70 rfl rfl zc_i4 (by decide) rfl wd_237 ?_
    refine sm_iald (pc := 73) ok dx_Reader_next_73 rfl ?_
    refine sm_callS_i (pc := 74) [.int (S_2.1 103 (S_2.1 102 2).toNatClampNeg)] ok dx_Reader_next_74 wd_524 mwx_Reader_isLetter (Nat.le_of_ble_eq_true rfl) (Nat.le_of_ble_eq_true rfl) rfl rfl (Nat.le_of_ble_eq_true rfl) (cx_Reader_isLetter (sm_okj ok) N S_2 (S_2.1 103 (S_2.1 102 2).toNatClampNeg)) (fun r_4 S_3 => ?_)
    refine sm_if_eq (pc := 77) 87 ok dx_Reader_next_77 (by decide) (fun _ => ?_) (fun _ => ?_)
    · refine sm_aload_n (pc := 87) 0 ok dx_Reader_next_87 rfl ?_
      refine sm_getR (pc := 88) (ci := 4) (k := 0) ok dx_Reader_next_88 rfl rfl zc_i4 (by decide) rfl wd_234 ?_
      refine sm_aload_n (pc := 91) 0 ok dx_Reader_next_91 rfl ?_
      refine sm_getI (pc := 92) (ci := 4) (k := 2) ok dx_Reader_next_92 rfl rfl zc_i4 (by decide) rfl wd_237 ?_
      refine sm_iald (pc := 95) ok dx_Reader_next_95 rfl ?_
      refine sm_callS_i (pc := 96) [.int (S_3.1 103 (S_3.1 102 2).toNatClampNeg)] ok dx_Reader_next_96 wd_586 mwx_Reader_isFigure (Nat.le_of_ble_eq_true rfl) (Nat.le_of_ble_eq_true rfl) rfl rfl (Nat.le_of_ble_eq_true rfl) (cx_Reader_isFigure (sm_okj ok) N S_3 (S_3.1 103 (S_3.1 102 2).toNatClampNeg)) (fun r_6 S_5 => ?_)
      refine sm_if_eq (pc := 99) 109 ok dx_Reader_next_99 (by decide) (fun _ => ?_) (fun _ => ?_)
      · refine sm_aload_n (pc := 109) 0 ok dx_Reader_next_109 rfl ?_
        refine sm_aload_n (pc := 110) 0 ok dx_Reader_next_110 rfl ?_
        refine sm_getR (pc := 111) (ci := 4) (k := 0) ok dx_Reader_next_111 rfl rfl zc_i4 (by decide) rfl wd_234 ?_
        refine sm_aload_n (pc := 114) 0 ok dx_Reader_next_114 rfl ?_
        refine sm_getI (pc := 115) (ci := 4) (k := 2) ok dx_Reader_next_115 rfl rfl zc_i4 (by decide) rfl wd_237 ?_
        refine sm_iald (pc := 118) ok dx_Reader_next_118 rfl ?_
        refine sm_bipush (pc := 119) (59 : Int32) ok dx_Reader_next_119 zb_59 ?_
        refine sm_icmp_ne (pc := 121) 128 ok dx_Reader_next_121 (by decide) (fun _ => ?_) (fun _ => ?_)
        · refine sm_bipush (pc := 128) (6 : Int32) ok dx_Reader_next_128 zb_6 ?_
          exact tx_Reader_next_b130 ok hr N _ _
        · refine sm_iconst (pc := 124) (5 : Int32) ok dx_Reader_next_124 zk_5 ?_
          refine sm_goto (pc := 125) 130 ok dx_Reader_next_125 (by decide) ?_
          exact tx_Reader_next_b130 ok hr N _ _
      · refine sm_aload_n (pc := 102) 0 ok dx_Reader_next_102 rfl ?_
        refine sm_callV_v (pc := 103) (ci := 4) [] ok dx_Reader_next_103 wd_589 mwx_Reader_nextNumber rfl rfl (Nat.le_of_ble_eq_true rfl) (Nat.le_of_ble_eq_true rfl) rfl rfl (Nat.le_of_ble_eq_true rfl) (cx_Reader_nextNumber (sm_okj ok) N S_5) (fun S_7 => ?_)
        refine sm_goto (pc := 106) 143 ok dx_Reader_next_106 (by decide) ?_
        exact sm_vret (pc := 143) ok dx_Reader_next_143 hr
    · refine sm_aload_n (pc := 80) 0 ok dx_Reader_next_80 rfl ?_
      refine sm_callV_v (pc := 81) (ci := 4) [] ok dx_Reader_next_81 wd_527 mwx_Reader_nextWord rfl rfl (Nat.le_of_ble_eq_true rfl) (Nat.le_of_ble_eq_true rfl) rfl rfl (Nat.le_of_ble_eq_true rfl) (cx_Reader_nextWord (sm_okj ok) N S_3) (fun S_8 => ?_)
      refine sm_goto (pc := 84) 143 ok dx_Reader_next_84 (by decide) ?_
      exact sm_vret (pc := 143) ok dx_Reader_next_143 hr
  · refine sm_aload_n (pc := 57) 0 ok dx_Reader_next_57 rfl ?_
    refine sm_iconst (pc := 58) (0 : Int32) ok dx_Reader_next_58 zk_0 ?_
    refine sm_putI (pc := 59) (ci := 4) (k := 4) ok dx_Reader_next_59 rfl rfl zc_i4 zc_y4 zc_t4 zc_n4 (by decide) rfl rfl rfl wd_239 (fun S_9 => ?_)
    refine sm_goto (pc := 62) 143 ok dx_Reader_next_62 (by decide) ?_
    exact sm_vret (pc := 143) ok dx_Reader_next_143 hr
set_option maxHeartbeats 4000000 in
set_option maxRecDepth 20000 in
theorem tx_Reader_next_b0 {x : sm_Cx} (ok : sm_Ok x zx_sy prog_6_method_10_code "LentShades$Reader" 1 6 127) (hr : (xh x).sig.returnType = none) (N : Nat) : ∀ (n : Nat) (S : sm_St), sm_Sm x zx_sy prog_6_method_10_code (sm_Q x zx_sy (sm_Pv zx_sy (xw x))) (px_Reader_next_b0 N n S) S 0 [(0, .ref ((xw x).2.2 102))] [] := by
  intro n
  induction n with
  | zero =>
    intro S
    exact sm_none
  | succ n ih =>
    intro S
    show sm_Sm x zx_sy prog_6_method_10_code (sm_Q x zx_sy (sm_Pv zx_sy (xw x))) (if (S.1 102 1) ≤ (S.1 102 2) then (px_Reader_next_b38 N S) else (if sm_in (S.1 102 2) 200 = true then (if (S.1 103 (S.1 102 2).toNatClampNeg) = (32 : Int32) then (sm_lt (sm_sI S 102 2 ((S.1 102 2) + (1 : Int32))) (fun (S_1 : sm_St) => (px_Reader_next_b0 N n) S_1)) else (px_Reader_next_b38 N S)) else none)) S 0 [(0, .ref ((xw x).2.2 102))] []
    refine sm_aload_n (pc := 0) 0 ok dx_Reader_next_0 rfl ?_
    refine sm_getI (pc := 1) (ci := 4) (k := 2) ok dx_Reader_next_1 rfl rfl zc_i4 (by decide) rfl wd_237 ?_
    refine sm_aload_n (pc := 4) 0 ok dx_Reader_next_4 rfl ?_
    refine sm_getI (pc := 5) (ci := 4) (k := 1) ok dx_Reader_next_5 rfl rfl zc_i4 (by decide) rfl wd_235 ?_
    refine sm_icmp_ge (pc := 8) 38 ok dx_Reader_next_8 (by decide) (fun _ => ?_) (fun _ => ?_)
    · exact tx_Reader_next_b38 ok hr N _
    · refine sm_aload_n (pc := 11) 0 ok dx_Reader_next_11 rfl ?_
      refine sm_getR (pc := 12) (ci := 4) (k := 0) ok dx_Reader_next_12 rfl rfl zc_i4 (by decide) rfl wd_234 ?_
      refine sm_aload_n (pc := 15) 0 ok dx_Reader_next_15 rfl ?_
      refine sm_getI (pc := 16) (ci := 4) (k := 2) ok dx_Reader_next_16 rfl rfl zc_i4 (by decide) rfl wd_237 ?_
      refine sm_iald (pc := 19) ok dx_Reader_next_19 rfl ?_
      refine sm_bipush (pc := 20) (32 : Int32) ok dx_Reader_next_20 zb_32 ?_
      refine sm_icmp_ne (pc := 22) 38 ok dx_Reader_next_22 (by decide) (fun _ => ?_) (fun _ => ?_)
      · exact tx_Reader_next_b38 ok hr N _
      · refine sm_aload_n (pc := 25) 0 ok dx_Reader_next_25 rfl ?_
        refine sm_dup (pc := 26) ok dx_Reader_next_26 rfl ?_
        refine sm_getI (pc := 27) (ci := 4) (k := 2) ok dx_Reader_next_27 rfl rfl zc_i4 (by decide) rfl wd_237 ?_
        refine sm_iconst (pc := 30) (1 : Int32) ok dx_Reader_next_30 zk_1 ?_
        refine sm_iadd (pc := 31) ok dx_Reader_next_31 ?_
        refine sm_putI (pc := 32) (ci := 4) (k := 2) ok dx_Reader_next_32 rfl rfl zc_i4 zc_y4 zc_t4 zc_n4 (by decide) rfl rfl rfl wd_237 (fun S_1 => ?_)
        refine sm_goto (pc := 35) 0 ok dx_Reader_next_35 (by decide) ?_
        exact ih _
set_option maxHeartbeats 4000000 in
set_option maxRecDepth 20000 in
theorem tx_Reader_next {x : sm_Cx} (ok : sm_Ok x zx_sy prog_6_method_10_code "LentShades$Reader" 1 6 127) (hr : (xh x).sig.returnType = none) (N : Nat) (S : sm_St) : sm_Sm x zx_sy prog_6_method_10_code (sm_Q x zx_sy (sm_Pv zx_sy (xw x))) (px_Reader_next N S) S 0 [(0, .ref ((xw x).2.2 102))] [] := by
  unfold px_Reader_next
  exact tx_Reader_next_b0 ok hr N N _
theorem cx_Reader_next {l : Launch} {wc : sm_Wc} (hj : sm_inj zx_sy wc) (N : Nat) (S : sm_St) : sm_Ct l zx_sy wc yx_Reader_next prog_6_method_10_code 1 none 6 127 [.ref (wc.2.2 102)] S (sm_Pv zx_sy wc) (px_Reader_next N S) :=
  sm_entry (Pq := fun wc => sm_Pv zx_sy wc) (fun wc => [.ref (wc.2.2 102)]) (lv := fun wc => [(0, .ref (wc.2.2 102))]) (by decide) hj zx_ok zx_stb (fun _ => Nat.le_of_ble_eq_true rfl) (fun _ => rfl) (fun x _ ok hr => tx_Reader_next ok hr N S)
set_option maxHeartbeats 4000000 in
set_option maxRecDepth 20000 in
theorem tx_Reader_number {x : sm_Cx} (ok : sm_Ok x zx_sy prog_6_method_8_code "LentShades$Reader" 2 7 147) (hr : (xh x).sig.returnType = (some .boolean)) (N : Nat) (S : sm_St) (v1 : Int32) : sm_Sm x zx_sy prog_6_method_8_code (sm_Q x zx_sy (sm_Pi zx_sy (xw x))) (px_Reader_number N S v1) S 0 [(0, .ref ((xw x).2.2 102)), (1, .int v1)] [] := by
  unfold px_Reader_number
  refine sm_aload_n (pc := 0) 0 ok dx_Reader_number_0 rfl ?_
  refine sm_callV_v (pc := 1) (ci := 4) [] ok dx_Reader_number_1 wd_520 mwx_Reader_next rfl rfl (Nat.le_of_ble_eq_true rfl) (Nat.le_of_ble_eq_true rfl) rfl rfl (Nat.le_of_ble_eq_true rfl) (cx_Reader_next (sm_okj ok) N S) (fun S_1 => ?_)
  refine sm_aload_n (pc := 4) 0 ok dx_Reader_number_4 rfl ?_
  refine sm_getI (pc := 5) (ci := 4) (k := 4) ok dx_Reader_number_5 rfl rfl zc_i4 (by decide) rfl wd_239 ?_
  refine sm_iconst (pc := 8) (4 : Int32) ok dx_Reader_number_8 zk_4 ?_
  refine sm_icmp_ne (pc := 9) 24 ok dx_Reader_number_9 (by decide) (fun _ => ?_) (fun _ => ?_)
  · refine sm_iconst (pc := 24) (0 : Int32) ok dx_Reader_number_24 zk_0 ?_
    exact sm_zret (pc := 25) ok dx_Reader_number_25 hr rfl
  · refine sm_aload_n (pc := 12) 0 ok dx_Reader_number_12 rfl ?_
    refine sm_getI (pc := 13) (ci := 4) (k := 5) ok dx_Reader_number_13 rfl rfl zc_i4 (by decide) rfl wd_240 ?_
    refine sm_iload_n (pc := 16) 1 ok dx_Reader_number_16 rfl ?_
    refine sm_icmp_gt (pc := 17) 24 ok dx_Reader_number_17 (by decide) (fun _ => ?_) (fun _ => ?_)
    · refine sm_iconst (pc := 24) (0 : Int32) ok dx_Reader_number_24 zk_0 ?_
      exact sm_zret (pc := 25) ok dx_Reader_number_25 hr rfl
    · refine sm_iconst (pc := 20) (1 : Int32) ok dx_Reader_number_20 zk_1 ?_
      refine sm_goto (pc := 21) 25 ok dx_Reader_number_21 (by decide) ?_
      exact sm_zret (pc := 25) ok dx_Reader_number_25 hr rfl
theorem cx_Reader_number {l : Launch} {wc : sm_Wc} (hj : sm_inj zx_sy wc) (N : Nat) (S : sm_St) (v1 : Int32) : sm_Ct l zx_sy wc yx_Reader_number prog_6_method_8_code 2 (some .boolean) 7 147 [.ref (wc.2.2 102), .int v1] S (sm_Pi zx_sy wc) (px_Reader_number N S v1) :=
  sm_entry (Pq := fun wc => sm_Pi zx_sy wc) (fun wc => [.ref (wc.2.2 102), .int v1]) (lv := fun wc => [(0, .ref (wc.2.2 102)), (1, .int v1)]) (by decide) hj zx_ok zx_stb (fun _ => Nat.le_of_ble_eq_true rfl) (fun _ => rfl) (fun x _ ok hr => tx_Reader_number ok hr N S v1)
set_option maxHeartbeats 4000000 in
set_option maxRecDepth 20000 in
theorem tx_Reader_stop {x : sm_Cx} (ok : sm_Ok x zx_sy prog_6_method_9_code "LentShades$Reader" 1 7 147) (hr : (xh x).sig.returnType = (some .boolean)) (N : Nat) (S : sm_St) : sm_Sm x zx_sy prog_6_method_9_code (sm_Q x zx_sy (sm_Pi zx_sy (xw x))) (px_Reader_stop N S) S 0 [(0, .ref ((xw x).2.2 102))] [] := by
  unfold px_Reader_stop
  refine sm_aload_n (pc := 0) 0 ok dx_Reader_stop_0 rfl ?_
  refine sm_callV_v (pc := 1) (ci := 4) [] ok dx_Reader_stop_1 wd_520 mwx_Reader_next rfl rfl (Nat.le_of_ble_eq_true rfl) (Nat.le_of_ble_eq_true rfl) rfl rfl (Nat.le_of_ble_eq_true rfl) (cx_Reader_next (sm_okj ok) N S) (fun S_1 => ?_)
  refine sm_aload_n (pc := 4) 0 ok dx_Reader_stop_4 rfl ?_
  refine sm_getI (pc := 5) (ci := 4) (k := 4) ok dx_Reader_stop_5 rfl rfl zc_i4 (by decide) rfl wd_239 ?_
  refine sm_iconst (pc := 8) (5 : Int32) ok dx_Reader_stop_8 zk_5 ?_
  refine sm_icmp_ne (pc := 9) 16 ok dx_Reader_stop_9 (by decide) (fun _ => ?_) (fun _ => ?_)
  · refine sm_iconst (pc := 16) (0 : Int32) ok dx_Reader_stop_16 zk_0 ?_
    exact sm_zret (pc := 17) ok dx_Reader_stop_17 hr rfl
  · refine sm_iconst (pc := 12) (1 : Int32) ok dx_Reader_stop_12 zk_1 ?_
    refine sm_goto (pc := 13) 17 ok dx_Reader_stop_13 (by decide) ?_
    exact sm_zret (pc := 17) ok dx_Reader_stop_17 hr rfl
theorem cx_Reader_stop {l : Launch} {wc : sm_Wc} (hj : sm_inj zx_sy wc) (N : Nat) (S : sm_St) : sm_Ct l zx_sy wc yx_Reader_stop prog_6_method_9_code 1 (some .boolean) 7 147 [.ref (wc.2.2 102)] S (sm_Pi zx_sy wc) (px_Reader_stop N S) :=
  sm_entry (Pq := fun wc => sm_Pi zx_sy wc) (fun wc => [.ref (wc.2.2 102)]) (lv := fun wc => [(0, .ref (wc.2.2 102))]) (by decide) hj zx_ok zx_stb (fun _ => Nat.le_of_ble_eq_true rfl) (fun _ => rfl) (fun x _ ok hr => tx_Reader_stop ok hr N S)
set_option maxHeartbeats 4000000 in
set_option maxRecDepth 20000 in
theorem tx_Reader_clothItem_N {x : sm_Cx} (ok : sm_Ok x zx_sy prog_6_method_4_code "LentShades$Reader" 4 8 168) (hr : (xh x).sig.returnType = (some .boolean)) (N : Nat) (S : sm_St) : sm_Sm x zx_sy prog_6_method_4_code (sm_Q x zx_sy (sm_Pi zx_sy (xw x))) (px_Reader_clothItem_N N S) S 0 [(0, .ref ((xw x).2.2 102)), (1, .null)] [] := by
  unfold px_Reader_clothItem_N
  refine sm_aload_n (pc := 0) 0 ok dx_Reader_clothItem_0 rfl ?_
  refine sm_getI (pc := 1) (ci := 4) (k := 6) ok dx_Reader_clothItem_1 rfl rfl zc_i4 (by decide) rfl wd_241 ?_
  refine sm_iconst (pc := 4) (4 : Int32) ok dx_Reader_clothItem_4 zk_4 ?_
  refine sm_icmp_ge (pc := 5) 16 ok dx_Reader_clothItem_5 (by decide) (fun _ => ?_) (fun _ => ?_)
  · refine sm_iconst (pc := 16) (0 : Int32) ok dx_Reader_clothItem_16 zk_0 ?_
    exact sm_zret (pc := 17) ok dx_Reader_clothItem_17 hr rfl
  · refine sm_aload_n (pc := 8) 0 ok dx_Reader_clothItem_8 rfl ?_
    refine sm_iconst (pc := 9) (4 : Int32) ok dx_Reader_clothItem_9 zk_4 ?_
    refine sm_callV_i (pc := 10) (ci := 4) [.int (4 : Int32)] ok dx_Reader_clothItem_10 wd_597 mwx_Reader_number rfl rfl (Nat.le_of_ble_eq_true rfl) (Nat.le_of_ble_eq_true rfl) rfl rfl (Nat.le_of_ble_eq_true rfl) (cx_Reader_number (sm_okj ok) N S (4 : Int32)) (fun r_2 S_1 => ?_)
    refine sm_if_ne (pc := 13) 18 ok dx_Reader_clothItem_13 (by decide) (fun _ => ?_) (fun _ => ?_)
    · refine sm_aload_n (pc := 18) 0 ok dx_Reader_clothItem_18 rfl ?_
      refine sm_getI (pc := 19) (ci := 4) (k := 5) ok dx_Reader_clothItem_19 rfl rfl zc_i4 (by decide) rfl wd_240 ?_
      refine sm_istore_n (pc := 22) (i := 2) ok dx_Reader_clothItem_22 rfl (by decide) (fun v => [(2, .int v), (0, .ref ((xw x).2.2 102)), (1, .null)]) (fun _ => rfl) (fun v2_3 => ?_)
      refine sm_aload_n (pc := 23) 1 ok dx_Reader_clothItem_23 rfl ?_
      refine sm_iconst (pc := 24) (3 : Int32) ok dx_Reader_clothItem_24 zk_3 ?_
      refine sm_callV_i (pc := 25) (ci := 4) [.int (3 : Int32)] ok dx_Reader_clothItem_25 wd_597 mwx_Reader_number rfl rfl (Nat.le_of_ble_eq_true rfl) (Nat.le_of_ble_eq_true rfl) rfl rfl (Nat.le_of_ble_eq_true rfl) (cx_Reader_number (sm_okj ok) N S_1 (3 : Int32)) (fun r_5 S_4 => ?_)
      refine sm_if_ne (pc := 28) 33 ok dx_Reader_clothItem_28 (by decide) (fun _ => ?_) (fun _ => ?_)
      · refine sm_aload_n (pc := 33) 1 ok dx_Reader_clothItem_33 rfl ?_
        refine sm_getI (pc := 34) (ci := 4) (k := 5) ok dx_Reader_clothItem_34 rfl rfl zc_i4 (by decide) rfl wd_240 ?_
        refine sm_istore_n (pc := 37) (i := 3) ok dx_Reader_clothItem_37 rfl (by decide) (fun v => [(3, .int v), (2, .int v2_3), (0, .ref ((xw x).2.2 102)), (1, .null)]) (fun _ => rfl) (fun v3_6 => ?_)
        refine sm_aload_n (pc := 38) 2 ok dx_Reader_clothItem_38 rfl ?_
        refine sm_bipush (pc := 39) (12 : Int32) ok dx_Reader_clothItem_39 zb_12 ?_
        refine sm_callV_i (pc := 41) (ci := 4) [.int (12 : Int32)] ok dx_Reader_clothItem_41 wd_597 mwx_Reader_number rfl rfl (Nat.le_of_ble_eq_true rfl) (Nat.le_of_ble_eq_true rfl) rfl rfl (Nat.le_of_ble_eq_true rfl) (cx_Reader_number (sm_okj ok) N S_4 (12 : Int32)) (fun r_8 S_7 => ?_)
        refine sm_if_eq (pc := 44) 54 ok dx_Reader_clothItem_44 (by decide) (fun _ => ?_) (fun _ => ?_)
        · refine sm_iconst (pc := 54) (0 : Int32) ok dx_Reader_clothItem_54 zk_0 ?_
          exact sm_zret (pc := 55) ok dx_Reader_clothItem_55 hr rfl
        · refine sm_aload_n (pc := 47) 2 ok dx_Reader_clothItem_47 rfl ?_
          refine sm_callV_i (pc := 48) (ci := 4) [] ok dx_Reader_clothItem_48 wd_601 mwx_Reader_stop rfl rfl (Nat.le_of_ble_eq_true rfl) (Nat.le_of_ble_eq_true rfl) rfl rfl (Nat.le_of_ble_eq_true rfl) (cx_Reader_stop (sm_okj ok) N S_7) (fun r_10 S_9 => ?_)
          refine sm_if_ne (pc := 51) 56 ok dx_Reader_clothItem_51 (by decide) (fun _ => ?_) (fun _ => ?_)
          · refine sm_aload_n (pc := 56) 2 ok dx_Reader_clothItem_56 rfl ?_
            refine sm_dup (pc := 57) ok dx_Reader_clothItem_57 rfl ?_
            refine sm_getI (pc := 58) (ci := 4) (k := 6) ok dx_Reader_clothItem_58 rfl rfl zc_i4 (by decide) rfl wd_241 ?_
            refine sm_iconst (pc := 61) (1 : Int32) ok dx_Reader_clothItem_61 zk_1 ?_
            refine sm_iadd (pc := 62) ok dx_Reader_clothItem_62 ?_
            refine sm_putI (pc := 63) (ci := 4) (k := 6) ok dx_Reader_clothItem_63 rfl rfl zc_i4 zc_y4 zc_t4 zc_n4 (by decide) rfl rfl rfl wd_241 (fun S_11 => ?_)
            refine sm_aload_nN (pc := 66) 3 ok dx_Reader_clothItem_66 rfl ?_
            refine sm_ifnullY (pc := 67) 80 ok dx_Reader_clothItem_67 (by decide) ?_
            refine sm_iconst (pc := 80) (1 : Int32) ok dx_Reader_clothItem_80 zk_1 ?_
            exact sm_zret (pc := 81) ok dx_Reader_clothItem_81 hr rfl
          · refine sm_iconst (pc := 54) (0 : Int32) ok dx_Reader_clothItem_54 zk_0 ?_
            exact sm_zret (pc := 55) ok dx_Reader_clothItem_55 hr rfl
      · refine sm_iconst (pc := 31) (0 : Int32) ok dx_Reader_clothItem_31 zk_0 ?_
        exact sm_zret (pc := 32) ok dx_Reader_clothItem_32 hr rfl
    · refine sm_iconst (pc := 16) (0 : Int32) ok dx_Reader_clothItem_16 zk_0 ?_
      exact sm_zret (pc := 17) ok dx_Reader_clothItem_17 hr rfl
theorem cx_Reader_clothItem_N {l : Launch} {wc : sm_Wc} (hj : sm_inj zx_sy wc) (N : Nat) (S : sm_St) : sm_Ct l zx_sy wc yx_Reader_clothItem prog_6_method_4_code 4 (some .boolean) 8 168 [.ref (wc.2.2 102), .null] S (sm_Pi zx_sy wc) (px_Reader_clothItem_N N S) :=
  sm_entry (Pq := fun wc => sm_Pi zx_sy wc) (fun wc => [.ref (wc.2.2 102), .null]) (lv := fun wc => [(0, .ref (wc.2.2 102)), (1, .null)]) (by decide) hj zx_ok zx_stb (fun _ => Nat.le_of_ble_eq_true rfl) (fun _ => rfl) (fun x _ ok hr => tx_Reader_clothItem_N ok hr N S)
set_option maxHeartbeats 4000000 in
set_option maxRecDepth 20000 in
theorem tx_Reader_thingItem_N {x : sm_Cx} (ok : sm_Ok x zx_sy prog_6_method_5_code "LentShades$Reader" 2 8 168) (hr : (xh x).sig.returnType = (some .boolean)) (N : Nat) (S : sm_St) : sm_Sm x zx_sy prog_6_method_5_code (sm_Q x zx_sy (sm_Pi zx_sy (xw x))) (px_Reader_thingItem_N N S) S 0 [(0, .ref ((xw x).2.2 102)), (1, .null)] [] := by
  unfold px_Reader_thingItem_N
  refine sm_aload_n (pc := 0) 0 ok dx_Reader_thingItem_0 rfl ?_
  refine sm_getI (pc := 1) (ci := 4) (k := 7) ok dx_Reader_thingItem_1 rfl rfl zc_i4 (by decide) rfl wd_242 ?_
  refine sm_iconst (pc := 4) (4 : Int32) ok dx_Reader_thingItem_4 zk_4 ?_
  refine sm_icmp_ge (pc := 5) 24 ok dx_Reader_thingItem_5 (by decide) (fun _ => ?_) (fun _ => ?_)
  · refine sm_iconst (pc := 24) (0 : Int32) ok dx_Reader_thingItem_24 zk_0 ?_
    exact sm_zret (pc := 25) ok dx_Reader_thingItem_25 hr rfl
  · refine sm_aload_n (pc := 8) 0 ok dx_Reader_thingItem_8 rfl ?_
    refine sm_bipush (pc := 9) (12 : Int32) ok dx_Reader_thingItem_9 zb_12 ?_
    refine sm_callV_i (pc := 11) (ci := 4) [.int (12 : Int32)] ok dx_Reader_thingItem_11 wd_597 mwx_Reader_number rfl rfl (Nat.le_of_ble_eq_true rfl) (Nat.le_of_ble_eq_true rfl) rfl rfl (Nat.le_of_ble_eq_true rfl) (cx_Reader_number (sm_okj ok) N S (12 : Int32)) (fun r_2 S_1 => ?_)
    refine sm_if_eq (pc := 14) 24 ok dx_Reader_thingItem_14 (by decide) (fun _ => ?_) (fun _ => ?_)
    · refine sm_iconst (pc := 24) (0 : Int32) ok dx_Reader_thingItem_24 zk_0 ?_
      exact sm_zret (pc := 25) ok dx_Reader_thingItem_25 hr rfl
    · refine sm_aload_n (pc := 17) 0 ok dx_Reader_thingItem_17 rfl ?_
      refine sm_callV_i (pc := 18) (ci := 4) [] ok dx_Reader_thingItem_18 wd_601 mwx_Reader_stop rfl rfl (Nat.le_of_ble_eq_true rfl) (Nat.le_of_ble_eq_true rfl) rfl rfl (Nat.le_of_ble_eq_true rfl) (cx_Reader_stop (sm_okj ok) N S_1) (fun r_4 S_3 => ?_)
      refine sm_if_ne (pc := 21) 26 ok dx_Reader_thingItem_21 (by decide) (fun _ => ?_) (fun _ => ?_)
      · refine sm_aload_n (pc := 26) 0 ok dx_Reader_thingItem_26 rfl ?_
        refine sm_dup (pc := 27) ok dx_Reader_thingItem_27 rfl ?_
        refine sm_getI (pc := 28) (ci := 4) (k := 7) ok dx_Reader_thingItem_28 rfl rfl zc_i4 (by decide) rfl wd_242 ?_
        refine sm_iconst (pc := 31) (1 : Int32) ok dx_Reader_thingItem_31 zk_1 ?_
        refine sm_iadd (pc := 32) ok dx_Reader_thingItem_32 ?_
        refine sm_putI (pc := 33) (ci := 4) (k := 7) ok dx_Reader_thingItem_33 rfl rfl zc_i4 zc_y4 zc_t4 zc_n4 (by decide) rfl rfl rfl wd_242 (fun S_5 => ?_)
        refine sm_aload_nN (pc := 36) 1 ok dx_Reader_thingItem_36 rfl ?_
        refine sm_ifnullY (pc := 37) 48 ok dx_Reader_thingItem_37 (by decide) ?_
        refine sm_iconst (pc := 48) (1 : Int32) ok dx_Reader_thingItem_48 zk_1 ?_
        exact sm_zret (pc := 49) ok dx_Reader_thingItem_49 hr rfl
      · refine sm_iconst (pc := 24) (0 : Int32) ok dx_Reader_thingItem_24 zk_0 ?_
        exact sm_zret (pc := 25) ok dx_Reader_thingItem_25 hr rfl
theorem cx_Reader_thingItem_N {l : Launch} {wc : sm_Wc} (hj : sm_inj zx_sy wc) (N : Nat) (S : sm_St) : sm_Ct l zx_sy wc yx_Reader_thingItem prog_6_method_5_code 2 (some .boolean) 8 168 [.ref (wc.2.2 102), .null] S (sm_Pi zx_sy wc) (px_Reader_thingItem_N N S) :=
  sm_entry (Pq := fun wc => sm_Pi zx_sy wc) (fun wc => [.ref (wc.2.2 102), .null]) (lv := fun wc => [(0, .ref (wc.2.2 102)), (1, .null)]) (by decide) hj zx_ok zx_stb (fun _ => Nat.le_of_ble_eq_true rfl) (fun _ => rfl) (fun x _ ok hr => tx_Reader_thingItem_N ok hr N S)
set_option maxHeartbeats 4000000 in
set_option maxRecDepth 20000 in
theorem tx_Reader_isThere {x : sm_Cx} (ok : sm_Ok x zx_sy prog_6_method_7_code "LentShades$Reader" 2 0 0) (hr : (xh x).sig.returnType = (some .boolean)) (N : Nat) (S : sm_St) (v1 : Int32) : sm_Sm x zx_sy prog_6_method_7_code (sm_Q x zx_sy (sm_Pi zx_sy (xw x))) (px_Reader_isThere N S v1) S 0 [(0, .ref ((xw x).2.2 102)), (1, .int v1)] [] := by
  unfold px_Reader_isThere
  refine sm_iload_n (pc := 0) 1 ok dx_Reader_isThere_0 rfl ?_
  refine sm_iconst (pc := 1) (4 : Int32) ok dx_Reader_isThere_1 zk_4 ?_
  refine sm_icmp_ge (pc := 2) 21 ok dx_Reader_isThere_2 (by decide) (fun _ => ?_) (fun _ => ?_)
  · refine sm_iload_n (pc := 21) 1 ok dx_Reader_isThere_21 rfl ?_
    refine sm_iconst (pc := 22) (4 : Int32) ok dx_Reader_isThere_22 zk_4 ?_
    refine sm_isub (pc := 23) ok dx_Reader_isThere_23 ?_
    refine sm_aload_n (pc := 24) 0 ok dx_Reader_isThere_24 rfl ?_
    refine sm_getI (pc := 25) (ci := 4) (k := 7) ok dx_Reader_isThere_25 rfl rfl zc_i4 (by decide) rfl wd_242 ?_
    refine sm_icmp_ge (pc := 28) 35 ok dx_Reader_isThere_28 (by decide) (fun _ => ?_) (fun _ => ?_)
    · refine sm_iconst (pc := 35) (0 : Int32) ok dx_Reader_isThere_35 zk_0 ?_
      exact sm_zret (pc := 36) ok dx_Reader_isThere_36 hr rfl
    · refine sm_iconst (pc := 31) (1 : Int32) ok dx_Reader_isThere_31 zk_1 ?_
      refine sm_goto (pc := 32) 36 ok dx_Reader_isThere_32 (by decide) ?_
      exact sm_zret (pc := 36) ok dx_Reader_isThere_36 hr rfl
  · refine sm_iload_n (pc := 5) 1 ok dx_Reader_isThere_5 rfl ?_
    refine sm_aload_n (pc := 6) 0 ok dx_Reader_isThere_6 rfl ?_
    refine sm_getI (pc := 7) (ci := 4) (k := 6) ok dx_Reader_isThere_7 rfl rfl zc_i4 (by decide) rfl wd_241 ?_
    refine sm_icmp_ge (pc := 10) 17 ok dx_Reader_isThere_10 (by decide) (fun _ => ?_) (fun _ => ?_)
    · refine sm_iconst (pc := 17) (0 : Int32) ok dx_Reader_isThere_17 zk_0 ?_
      refine sm_goto (pc := 18) 36 ok dx_Reader_isThere_18 (by decide) ?_
      exact sm_zret (pc := 36) ok dx_Reader_isThere_36 hr rfl
    · refine sm_iconst (pc := 13) (1 : Int32) ok dx_Reader_isThere_13 zk_1 ?_
      refine sm_goto (pc := 14) 36 ok dx_Reader_isThere_14 (by decide) ?_
      exact sm_zret (pc := 36) ok dx_Reader_isThere_36 hr rfl
theorem cx_Reader_isThere {l : Launch} {wc : sm_Wc} (hj : sm_inj zx_sy wc) (N : Nat) (S : sm_St) (v1 : Int32) : sm_Ct l zx_sy wc yx_Reader_isThere prog_6_method_7_code 2 (some .boolean) 0 0 [.ref (wc.2.2 102), .int v1] S (sm_Pi zx_sy wc) (px_Reader_isThere N S v1) :=
  sm_entry (Pq := fun wc => sm_Pi zx_sy wc) (fun wc => [.ref (wc.2.2 102), .int v1]) (lv := fun wc => [(0, .ref (wc.2.2 102)), (1, .int v1)]) (by decide) hj zx_ok zx_stb (fun _ => Nat.le_of_ble_eq_true rfl) (fun _ => rfl) (fun x _ ok hr => tx_Reader_isThere ok hr N S v1)
set_option maxHeartbeats 4000000 in
set_option maxRecDepth 20000 in
theorem tx_Reader_touchItem_N_b72 {x : sm_Cx} (ok : sm_Ok x zx_sy prog_6_method_6_code "LentShades$Reader" 4 8 168) (hr : (xh x).sig.returnType = (some .boolean)) (N : Nat) (v2 : Int32) (v3 : Int32) (S : sm_St) : sm_Sm x zx_sy prog_6_method_6_code (sm_Q x zx_sy (sm_Pi zx_sy (xw x))) (px_Reader_touchItem_N_b72 N v2 v3 S) S 72 [(0, .ref ((xw x).2.2 102)), (1, .null), (2, .int v2), (3, .int v3)] [] := by
  unfold px_Reader_touchItem_N_b72
  refine sm_aload_n (pc := 72) 0 ok dx_Reader_touchItem_72 rfl ?_
  refine sm_iconst (pc := 73) (3 : Int32) ok dx_Reader_touchItem_73 zk_3 ?_
  refine sm_callV_i (pc := 74) (ci := 4) [.int (3 : Int32)] ok dx_Reader_touchItem_74 wd_597 mwx_Reader_number rfl rfl (Nat.le_of_ble_eq_true rfl) (Nat.le_of_ble_eq_true rfl) rfl rfl (Nat.le_of_ble_eq_true rfl) (cx_Reader_number (sm_okj ok) N S (3 : Int32)) (fun r_12 S_11 => ?_)
  refine sm_if_eq (pc := 77) 87 ok dx_Reader_touchItem_77 (by decide) (fun _ => ?_) (fun _ => ?_)
  · refine sm_iconst (pc := 87) (0 : Int32) ok dx_Reader_touchItem_87 zk_0 ?_
    exact sm_zret (pc := 88) ok dx_Reader_touchItem_88 hr rfl
  · refine sm_aload_n (pc := 80) 0 ok dx_Reader_touchItem_80 rfl ?_
    refine sm_callV_i (pc := 81) (ci := 4) [] ok dx_Reader_touchItem_81 wd_601 mwx_Reader_stop rfl rfl (Nat.le_of_ble_eq_true rfl) (Nat.le_of_ble_eq_true rfl) rfl rfl (Nat.le_of_ble_eq_true rfl) (cx_Reader_stop (sm_okj ok) N S_11) (fun r_14 S_13 => ?_)
    refine sm_if_ne (pc := 84) 89 ok dx_Reader_touchItem_84 (by decide) (fun _ => ?_) (fun _ => ?_)
    · refine sm_aload_nN (pc := 89) 1 ok dx_Reader_touchItem_89 rfl ?_
      refine sm_ifnullY (pc := 90) 106 ok dx_Reader_touchItem_90 (by decide) ?_
      refine sm_iconst (pc := 106) (1 : Int32) ok dx_Reader_touchItem_106 zk_1 ?_
      exact sm_zret (pc := 107) ok dx_Reader_touchItem_107 hr rfl
    · refine sm_iconst (pc := 87) (0 : Int32) ok dx_Reader_touchItem_87 zk_0 ?_
      exact sm_zret (pc := 88) ok dx_Reader_touchItem_88 hr rfl
set_option maxHeartbeats 4000000 in
set_option maxRecDepth 20000 in
theorem tx_Reader_touchItem_N {x : sm_Cx} (ok : sm_Ok x zx_sy prog_6_method_6_code "LentShades$Reader" 4 8 168) (hr : (xh x).sig.returnType = (some .boolean)) (N : Nat) (S : sm_St) : sm_Sm x zx_sy prog_6_method_6_code (sm_Q x zx_sy (sm_Pi zx_sy (xw x))) (px_Reader_touchItem_N N S) S 0 [(0, .ref ((xw x).2.2 102)), (1, .null)] [] := by
  unfold px_Reader_touchItem_N
  refine sm_aload_n (pc := 0) 0 ok dx_Reader_touchItem_0 rfl ?_
  refine sm_bipush (pc := 1) (7 : Int32) ok dx_Reader_touchItem_1 zb_7 ?_
  refine sm_callV_i (pc := 3) (ci := 4) [.int (7 : Int32)] ok dx_Reader_touchItem_3 wd_597 mwx_Reader_number rfl rfl (Nat.le_of_ble_eq_true rfl) (Nat.le_of_ble_eq_true rfl) rfl rfl (Nat.le_of_ble_eq_true rfl) (cx_Reader_number (sm_okj ok) N S (7 : Int32)) (fun r_2 S_1 => ?_)
  refine sm_if_eq (pc := 6) 20 ok dx_Reader_touchItem_6 (by decide) (fun _ => ?_) (fun _ => ?_)
  · refine sm_iconst (pc := 20) (0 : Int32) ok dx_Reader_touchItem_20 zk_0 ?_
    exact sm_zret (pc := 21) ok dx_Reader_touchItem_21 hr rfl
  · refine sm_aload_n (pc := 9) 0 ok dx_Reader_touchItem_9 rfl ?_
    refine sm_aload_n (pc := 10) 0 ok dx_Reader_touchItem_10 rfl ?_
    refine sm_getI (pc := 11) (ci := 4) (k := 5) ok dx_Reader_touchItem_11 rfl rfl zc_i4 (by decide) rfl wd_240 ?_
    refine sm_callV_i (pc := 14) (ci := 4) [.int (S_1.1 102 5)] ok dx_Reader_touchItem_14 wd_615 mwx_Reader_isThere rfl rfl (Nat.le_of_ble_eq_true rfl) (Nat.le_of_ble_eq_true rfl) rfl rfl (Nat.le_of_ble_eq_true rfl) (cx_Reader_isThere (sm_okj ok) N S_1 (S_1.1 102 5)) (fun r_4 S_3 => ?_)
    refine sm_if_ne (pc := 17) 22 ok dx_Reader_touchItem_17 (by decide) (fun _ => ?_) (fun _ => ?_)
    · refine sm_aload_n (pc := 22) 0 ok dx_Reader_touchItem_22 rfl ?_
      refine sm_getI (pc := 23) (ci := 4) (k := 5) ok dx_Reader_touchItem_23 rfl rfl zc_i4 (by decide) rfl wd_240 ?_
      refine sm_istore_n (pc := 26) (i := 2) ok dx_Reader_touchItem_26 rfl (by decide) (fun v => [(2, .int v), (0, .ref ((xw x).2.2 102)), (1, .null)]) (fun _ => rfl) (fun v2_5 => ?_)
      refine sm_aload_n (pc := 27) 1 ok dx_Reader_touchItem_27 rfl ?_
      refine sm_bipush (pc := 28) (7 : Int32) ok dx_Reader_touchItem_28 zb_7 ?_
      refine sm_callV_i (pc := 30) (ci := 4) [.int (7 : Int32)] ok dx_Reader_touchItem_30 wd_597 mwx_Reader_number rfl rfl (Nat.le_of_ble_eq_true rfl) (Nat.le_of_ble_eq_true rfl) rfl rfl (Nat.le_of_ble_eq_true rfl) (cx_Reader_number (sm_okj ok) N S_3 (7 : Int32)) (fun r_7 S_6 => ?_)
      refine sm_if_eq (pc := 33) 55 ok dx_Reader_touchItem_33 (by decide) (fun _ => ?_) (fun _ => ?_)
      · refine sm_iconst (pc := 55) (0 : Int32) ok dx_Reader_touchItem_55 zk_0 ?_
        exact sm_zret (pc := 56) ok dx_Reader_touchItem_56 hr rfl
      · refine sm_aload_n (pc := 36) 1 ok dx_Reader_touchItem_36 rfl ?_
        refine sm_aload_n (pc := 37) 1 ok dx_Reader_touchItem_37 rfl ?_
        refine sm_getI (pc := 38) (ci := 4) (k := 5) ok dx_Reader_touchItem_38 rfl rfl zc_i4 (by decide) rfl wd_240 ?_
        refine sm_callV_i (pc := 41) (ci := 4) [.int (S_6.1 102 5)] ok dx_Reader_touchItem_41 wd_615 mwx_Reader_isThere rfl rfl (Nat.le_of_ble_eq_true rfl) (Nat.le_of_ble_eq_true rfl) rfl rfl (Nat.le_of_ble_eq_true rfl) (cx_Reader_isThere (sm_okj ok) N S_6 (S_6.1 102 5)) (fun r_9 S_8 => ?_)
        refine sm_if_eq (pc := 44) 55 ok dx_Reader_touchItem_44 (by decide) (fun _ => ?_) (fun _ => ?_)
        · refine sm_iconst (pc := 55) (0 : Int32) ok dx_Reader_touchItem_55 zk_0 ?_
          exact sm_zret (pc := 56) ok dx_Reader_touchItem_56 hr rfl
        · refine sm_aload_n (pc := 47) 1 ok dx_Reader_touchItem_47 rfl ?_
          refine sm_getI (pc := 48) (ci := 4) (k := 5) ok dx_Reader_touchItem_48 rfl rfl zc_i4 (by decide) rfl wd_240 ?_
          refine sm_iload_n (pc := 51) 0 ok dx_Reader_touchItem_51 rfl ?_
          refine sm_icmp_ne (pc := 52) 57 ok dx_Reader_touchItem_52 (by decide) (fun _ => ?_) (fun _ => ?_)
          · refine sm_aload_n (pc := 57) 1 ok dx_Reader_touchItem_57 rfl ?_
            refine sm_getI (pc := 58) (ci := 4) (k := 5) ok dx_Reader_touchItem_58 rfl rfl zc_i4 (by decide) rfl wd_240 ?_
            refine sm_istore_n (pc := 61) (i := 3) ok dx_Reader_touchItem_61 rfl (by decide) (fun v => [(3, .int v), (2, .int v2_5), (0, .ref ((xw x).2.2 102)), (1, .null)]) (fun _ => rfl) (fun v3_10 => ?_)
            refine sm_iload_n (pc := 62) 1 ok dx_Reader_touchItem_62 rfl ?_
            refine sm_iconst (pc := 63) (4 : Int32) ok dx_Reader_touchItem_63 zk_4 ?_
            refine sm_icmp_lt (pc := 64) 72 ok dx_Reader_touchItem_64 (by decide) (fun _ => ?_) (fun _ => ?_)
            · refine sm_lv [2, 3, 1, 0] rfl ?_
              exact tx_Reader_touchItem_N_b72 ok hr N _ _ _
            · refine sm_iload_n (pc := 67) 0 ok dx_Reader_touchItem_67 rfl ?_
              refine sm_iconst (pc := 68) (4 : Int32) ok dx_Reader_touchItem_68 zk_4 ?_
              refine sm_icmp_ge (pc := 69) 87 ok dx_Reader_touchItem_69 (by decide) (fun _ => ?_) (fun _ => ?_)
              · refine sm_iconst (pc := 87) (0 : Int32) ok dx_Reader_touchItem_87 zk_0 ?_
                exact sm_zret (pc := 88) ok dx_Reader_touchItem_88 hr rfl
              · refine sm_lv [2, 3, 1, 0] rfl ?_
                exact tx_Reader_touchItem_N_b72 ok hr N _ _ _
          · refine sm_iconst (pc := 55) (0 : Int32) ok dx_Reader_touchItem_55 zk_0 ?_
            exact sm_zret (pc := 56) ok dx_Reader_touchItem_56 hr rfl
    · refine sm_iconst (pc := 20) (0 : Int32) ok dx_Reader_touchItem_20 zk_0 ?_
      exact sm_zret (pc := 21) ok dx_Reader_touchItem_21 hr rfl
theorem cx_Reader_touchItem_N {l : Launch} {wc : sm_Wc} (hj : sm_inj zx_sy wc) (N : Nat) (S : sm_St) : sm_Ct l zx_sy wc yx_Reader_touchItem prog_6_method_6_code 4 (some .boolean) 8 168 [.ref (wc.2.2 102), .null] S (sm_Pi zx_sy wc) (px_Reader_touchItem_N N S) :=
  sm_entry (Pq := fun wc => sm_Pi zx_sy wc) (fun wc => [.ref (wc.2.2 102), .null]) (lv := fun wc => [(0, .ref (wc.2.2 102)), (1, .null)]) (by decide) hj zx_ok zx_stb (fun _ => Nat.le_of_ble_eq_true rfl) (fun _ => rfl) (fun x _ ok hr => tx_Reader_touchItem_N ok hr N S)
set_option maxHeartbeats 4000000 in
set_option maxRecDepth 20000 in
theorem tx_Reader_readInto_N_b102 {x : sm_Cx} (ok : sm_Ok x zx_sy prog_6_method_3_code "LentShades$Reader" 5 9 191) (hr : (xh x).sig.returnType = (some .int)) (N : Nat) (S : sm_St) : sm_Sm x zx_sy prog_6_method_3_code (sm_Q x zx_sy (sm_Pi zx_sy (xw x))) (px_Reader_readInto_N_b102 N S) S 102 [(0, .ref ((xw x).2.2 102))] [] := by
  unfold px_Reader_readInto_N_b102
  refine sm_bipush (pc := 102) (-10 : Int32) ok dx_Reader_readInto_102 zb_m10 ?_
  refine sm_aload_n (pc := 104) 0 ok dx_Reader_readInto_104 rfl ?_
  refine sm_getI (pc := 105) (ci := 4) (k := 3) ok dx_Reader_readInto_105 rfl rfl zc_i4 (by decide) rfl wd_238 ?_
  refine sm_isub (pc := 108) ok dx_Reader_readInto_108 ?_
  exact sm_iret (pc := 109) ok dx_Reader_readInto_109 hr
set_option maxHeartbeats 4000000 in
set_option maxRecDepth 20000 in
theorem tx_Reader_readInto_N_b86 {x : sm_Cx} (ok : sm_Ok x zx_sy prog_6_method_3_code "LentShades$Reader" 5 9 191) (hr : (xh x).sig.returnType = (some .int)) (N : Nat) {r17 : Int32 → sm_St → Option (Int32 × sm_St)} (h17 : ∀ (v2 : Int32) (S : sm_St), sm_Sm x zx_sy prog_6_method_3_code (sm_Q x zx_sy (sm_Pi zx_sy (xw x))) (r17 v2 S) S 17 [(0, .ref ((xw x).2.2 102)), (1, .null), (2, .int v2)] []) (v2 : Int32) (s0 : Int32) (S : sm_St) : sm_Sm x zx_sy prog_6_method_3_code (sm_Q x zx_sy (sm_Pi zx_sy (xw x))) (px_Reader_readInto_N_b86 N r17 v2 s0 S) S 86 [(0, .ref ((xw x).2.2 102)), (1, .null), (2, .int v2)] [.int s0] := by
  unfold px_Reader_readInto_N_b86
  refine sm_istore (pc := 86) (i := 4) ok dx_Reader_readInto_86 (by decide) (fun v => [(4, .int v), (0, .ref ((xw x).2.2 102)), (1, .null), (2, .int v2)]) (fun _ => rfl) (fun v4_9 => ?_)
  refine sm_iload (pc := 88) 0 ok dx_Reader_readInto_88 rfl ?_
  refine sm_if_ne (pc := 90) 96 ok dx_Reader_readInto_90 (by decide) (fun _ => ?_) (fun _ => ?_)
  · refine sm_iinc (pc := 96) (i := 2) 3 (1 : Int32) ok dx_Reader_readInto_96 rfl zk_1 (by decide) (fun v => [(2, .int v), (4, .int v4_9), (0, .ref ((xw x).2.2 102)), (1, .null)]) (fun _ => rfl) (fun v2_10 => ?_)
    refine sm_goto (pc := 99) 17 ok dx_Reader_readInto_99 (by decide) ?_
    refine sm_lv [2, 3, 0] rfl ?_
    exact h17 _ _
  · refine sm_goto (pc := 93) 102 ok dx_Reader_readInto_93 (by decide) ?_
    refine sm_lv [1] rfl ?_
    exact tx_Reader_readInto_N_b102 ok hr N _
set_option maxHeartbeats 4000000 in
set_option maxRecDepth 20000 in
theorem tx_Reader_readInto_N_b85 {x : sm_Cx} (ok : sm_Ok x zx_sy prog_6_method_3_code "LentShades$Reader" 5 9 191) (hr : (xh x).sig.returnType = (some .int)) (N : Nat) {r17 : Int32 → sm_St → Option (Int32 × sm_St)} (h17 : ∀ (v2 : Int32) (S : sm_St), sm_Sm x zx_sy prog_6_method_3_code (sm_Q x zx_sy (sm_Pi zx_sy (xw x))) (r17 v2 S) S 17 [(0, .ref ((xw x).2.2 102)), (1, .null), (2, .int v2)] []) (v2 : Int32) (S : sm_St) : sm_Sm x zx_sy prog_6_method_3_code (sm_Q x zx_sy (sm_Pi zx_sy (xw x))) (px_Reader_readInto_N_b85 N r17 v2 S) S 85 [(0, .ref ((xw x).2.2 102)), (1, .null), (2, .int v2)] [] := by
  unfold px_Reader_readInto_N_b85
  refine sm_iconst (pc := 85) (0 : Int32) ok dx_Reader_readInto_85 zk_0 ?_
  exact tx_Reader_readInto_N_b86 ok hr N h17 _ _ _
set_option maxHeartbeats 4000000 in
set_option maxRecDepth 20000 in
theorem tx_Reader_readInto_N_b81 {x : sm_Cx} (ok : sm_Ok x zx_sy prog_6_method_3_code "LentShades$Reader" 5 9 191) (hr : (xh x).sig.returnType = (some .int)) (N : Nat) {r17 : Int32 → sm_St → Option (Int32 × sm_St)} (h17 : ∀ (v2 : Int32) (S : sm_St), sm_Sm x zx_sy prog_6_method_3_code (sm_Q x zx_sy (sm_Pi zx_sy (xw x))) (r17 v2 S) S 17 [(0, .ref ((xw x).2.2 102)), (1, .null), (2, .int v2)] []) (v2 : Int32) (S : sm_St) : sm_Sm x zx_sy prog_6_method_3_code (sm_Q x zx_sy (sm_Pi zx_sy (xw x))) (px_Reader_readInto_N_b81 N r17 v2 S) S 81 [(0, .ref ((xw x).2.2 102)), (1, .null), (2, .int v2)] [] := by
  unfold px_Reader_readInto_N_b81
  refine sm_iconst (pc := 81) (1 : Int32) ok dx_Reader_readInto_81 zk_1 ?_
  refine sm_goto (pc := 82) 86 ok dx_Reader_readInto_82 (by decide) ?_
  exact tx_Reader_readInto_N_b86 ok hr N h17 _ _ _
set_option maxHeartbeats 4000000 in
set_option maxRecDepth 20000 in
theorem tx_Reader_readInto_N_b68 {x : sm_Cx} (ok : sm_Ok x zx_sy prog_6_method_3_code "LentShades$Reader" 5 9 191) (hr : (xh x).sig.returnType = (some .int)) (N : Nat) {r17 : Int32 → sm_St → Option (Int32 × sm_St)} (h17 : ∀ (v2 : Int32) (S : sm_St), sm_Sm x zx_sy prog_6_method_3_code (sm_Q x zx_sy (sm_Pi zx_sy (xw x))) (r17 v2 S) S 17 [(0, .ref ((xw x).2.2 102)), (1, .null), (2, .int v2)] []) (v2 : Int32) (v3 : Int32) (S : sm_St) : sm_Sm x zx_sy prog_6_method_3_code (sm_Q x zx_sy (sm_Pi zx_sy (xw x))) (px_Reader_readInto_N_b68 N r17 v2 v3 S) S 68 [(0, .ref ((xw x).2.2 102)), (1, .null), (2, .int v2), (3, .int v3)] [] := by
  unfold px_Reader_readInto_N_b68
  refine sm_iload_n (pc := 68) 3 ok dx_Reader_readInto_68 rfl ?_
  refine sm_iconst (pc := 69) (3 : Int32) ok dx_Reader_readInto_69 zk_3 ?_
  refine sm_icmp_ne (pc := 70) 85 ok dx_Reader_readInto_70 (by decide) (fun _ => ?_) (fun _ => ?_)
  · refine sm_lv [0, 1, 2] rfl ?_
    exact tx_Reader_readInto_N_b85 ok hr N h17 _ _
  · refine sm_aload_n (pc := 73) 0 ok dx_Reader_readInto_73 rfl ?_
    refine sm_aload_nN (pc := 74) 1 ok dx_Reader_readInto_74 rfl ?_
    refine sm_callV_i (pc := 75) (ci := 4) [.null] ok dx_Reader_readInto_75 wd_611 mwx_Reader_touchItem rfl rfl (Nat.le_of_ble_eq_true rfl) (Nat.le_of_ble_eq_true rfl) rfl rfl (Nat.le_of_ble_eq_true rfl) (cx_Reader_touchItem_N (sm_okj ok) N S) (fun r_14 S_13 => ?_)
    refine sm_if_eq (pc := 78) 85 ok dx_Reader_readInto_78 (by decide) (fun _ => ?_) (fun _ => ?_)
    · refine sm_lv [0, 1, 2] rfl ?_
      exact tx_Reader_readInto_N_b85 ok hr N h17 _ _
    · refine sm_lv [0, 1, 2] rfl ?_
      exact tx_Reader_readInto_N_b81 ok hr N h17 _ _
set_option maxHeartbeats 4000000 in
set_option maxRecDepth 20000 in
theorem tx_Reader_readInto_N_b55 {x : sm_Cx} (ok : sm_Ok x zx_sy prog_6_method_3_code "LentShades$Reader" 5 9 191) (hr : (xh x).sig.returnType = (some .int)) (N : Nat) {r17 : Int32 → sm_St → Option (Int32 × sm_St)} (h17 : ∀ (v2 : Int32) (S : sm_St), sm_Sm x zx_sy prog_6_method_3_code (sm_Q x zx_sy (sm_Pi zx_sy (xw x))) (r17 v2 S) S 17 [(0, .ref ((xw x).2.2 102)), (1, .null), (2, .int v2)] []) (v2 : Int32) (v3 : Int32) (S : sm_St) : sm_Sm x zx_sy prog_6_method_3_code (sm_Q x zx_sy (sm_Pi zx_sy (xw x))) (px_Reader_readInto_N_b55 N r17 v2 v3 S) S 55 [(0, .ref ((xw x).2.2 102)), (1, .null), (2, .int v2), (3, .int v3)] [] := by
  unfold px_Reader_readInto_N_b55
  refine sm_iload_n (pc := 55) 3 ok dx_Reader_readInto_55 rfl ?_
  refine sm_iconst (pc := 56) (2 : Int32) ok dx_Reader_readInto_56 zk_2 ?_
  refine sm_icmp_ne (pc := 57) 68 ok dx_Reader_readInto_57 (by decide) (fun _ => ?_) (fun _ => ?_)
  · exact tx_Reader_readInto_N_b68 ok hr N h17 _ _ _
  · refine sm_aload_n (pc := 60) 0 ok dx_Reader_readInto_60 rfl ?_
    refine sm_aload_nN (pc := 61) 1 ok dx_Reader_readInto_61 rfl ?_
    refine sm_callV_i (pc := 62) (ci := 4) [.null] ok dx_Reader_readInto_62 wd_606 mwx_Reader_thingItem rfl rfl (Nat.le_of_ble_eq_true rfl) (Nat.le_of_ble_eq_true rfl) rfl rfl (Nat.le_of_ble_eq_true rfl) (cx_Reader_thingItem_N (sm_okj ok) N S) (fun r_12 S_11 => ?_)
    refine sm_if_ne (pc := 65) 81 ok dx_Reader_readInto_65 (by decide) (fun _ => ?_) (fun _ => ?_)
    · refine sm_lv [0, 1, 2] rfl ?_
      exact tx_Reader_readInto_N_b81 ok hr N h17 _ _
    · exact tx_Reader_readInto_N_b68 ok hr N h17 _ _ _
set_option maxHeartbeats 4000000 in
set_option maxRecDepth 20000 in
theorem tx_Reader_readInto_N_b17 {x : sm_Cx} (ok : sm_Ok x zx_sy prog_6_method_3_code "LentShades$Reader" 5 9 191) (hr : (xh x).sig.returnType = (some .int)) (N : Nat) : ∀ (n : Nat) (v2 : Int32) (S : sm_St), sm_Sm x zx_sy prog_6_method_3_code (sm_Q x zx_sy (sm_Pi zx_sy (xw x))) (px_Reader_readInto_N_b17 N n v2 S) S 17 [(0, .ref ((xw x).2.2 102)), (1, .null), (2, .int v2)] [] := by
  intro n
  induction n with
  | zero =>
    intro v2 S
    exact sm_none
  | succ n ih =>
    intro v2 S
    show sm_Sm x zx_sy prog_6_method_3_code (sm_Q x zx_sy (sm_Pi zx_sy (xw x))) (if (200 : Int32) < v2 then (px_Reader_readInto_N_b102 N S) else (sm_b1 (px_Reader_next N S) (fun (S_5 : sm_St) => if (S_5.1 102 4) = 0 then (some (v2, S_5)) else (sm_lt (S_5.1 102 4) (fun (v3_6 : Int32) => if v3_6 = (1 : Int32) then (sm_b2 (px_Reader_clothItem_N N S_5) (fun (r_8 : Int32) (S_7 : sm_St) => if r_8 = 0 then (px_Reader_readInto_N_b55 N (px_Reader_readInto_N_b17 N n) v2 v3_6 S_7) else (px_Reader_readInto_N_b81 N (px_Reader_readInto_N_b17 N n) v2 S_7))) else (px_Reader_readInto_N_b55 N (px_Reader_readInto_N_b17 N n) v2 v3_6 S_5)))))) S 17 [(0, .ref ((xw x).2.2 102)), (1, .null), (2, .int v2)] []
    refine sm_iload_n (pc := 17) 2 ok dx_Reader_readInto_17 rfl ?_
    refine sm_sipush (pc := 18) (200 : Int32) ok dx_Reader_readInto_18 zs_200 ?_
    refine sm_icmp_gt (pc := 21) 102 ok dx_Reader_readInto_21 (by decide) (fun _ => ?_) (fun _ => ?_)
    · refine sm_lv [0] rfl ?_
      exact tx_Reader_readInto_N_b102 ok hr N _
    · refine sm_aload_n (pc := 24) 0 ok dx_Reader_readInto_24 rfl ?_
      refine sm_callV_v (pc := 25) (ci := 4) [] ok dx_Reader_readInto_25 wd_520 mwx_Reader_next rfl rfl (Nat.le_of_ble_eq_true rfl) (Nat.le_of_ble_eq_true rfl) rfl rfl (Nat.le_of_ble_eq_true rfl) (cx_Reader_next (sm_okj ok) N S) (fun S_5 => ?_)
      refine sm_aload_n (pc := 28) 0 ok dx_Reader_readInto_28 rfl ?_
      refine sm_getI (pc := 29) (ci := 4) (k := 4) ok dx_Reader_readInto_29 rfl rfl zc_i4 (by decide) rfl wd_239 ?_
      refine sm_if_ne (pc := 32) 37 ok dx_Reader_readInto_32 (by decide) (fun _ => ?_) (fun _ => ?_)
      · refine sm_aload_n (pc := 37) 0 ok dx_Reader_readInto_37 rfl ?_
        refine sm_getI (pc := 38) (ci := 4) (k := 4) ok dx_Reader_readInto_38 rfl rfl zc_i4 (by decide) rfl wd_239 ?_
        refine sm_istore_n (pc := 41) (i := 3) ok dx_Reader_readInto_41 rfl (by decide) (fun v => [(3, .int v), (0, .ref ((xw x).2.2 102)), (1, .null), (2, .int v2)]) (fun _ => rfl) (fun v3_6 => ?_)
        refine sm_iload_n (pc := 42) 0 ok dx_Reader_readInto_42 rfl ?_
        refine sm_iconst (pc := 43) (1 : Int32) ok dx_Reader_readInto_43 zk_1 ?_
        refine sm_icmp_ne (pc := 44) 55 ok dx_Reader_readInto_44 (by decide) (fun _ => ?_) (fun _ => ?_)
        · refine sm_lv [1, 2, 3, 0] rfl ?_
          exact tx_Reader_readInto_N_b55 ok hr N ih _ _ _
        · refine sm_aload_n (pc := 47) 1 ok dx_Reader_readInto_47 rfl ?_
          refine sm_aload_nN (pc := 48) 2 ok dx_Reader_readInto_48 rfl ?_
          refine sm_callV_i (pc := 49) (ci := 4) [.null] ok dx_Reader_readInto_49 wd_593 mwx_Reader_clothItem rfl rfl (Nat.le_of_ble_eq_true rfl) (Nat.le_of_ble_eq_true rfl) rfl rfl (Nat.le_of_ble_eq_true rfl) (cx_Reader_clothItem_N (sm_okj ok) N S_5) (fun r_8 S_7 => ?_)
          refine sm_if_ne (pc := 52) 81 ok dx_Reader_readInto_52 (by decide) (fun _ => ?_) (fun _ => ?_)
          · refine sm_lv [1, 2, 3] rfl ?_
            exact tx_Reader_readInto_N_b81 ok hr N ih _ _
          · refine sm_lv [1, 2, 3, 0] rfl ?_
            exact tx_Reader_readInto_N_b55 ok hr N ih _ _ _
      · refine sm_iload_n (pc := 35) 2 ok dx_Reader_readInto_35 rfl ?_
        exact sm_iret (pc := 36) ok dx_Reader_readInto_36 hr
set_option maxHeartbeats 4000000 in
set_option maxRecDepth 20000 in
theorem tx_Reader_readInto_N {x : sm_Cx} (ok : sm_Ok x zx_sy prog_6_method_3_code "LentShades$Reader" 5 9 191) (hr : (xh x).sig.returnType = (some .int)) (N : Nat) (S : sm_St) : sm_Sm x zx_sy prog_6_method_3_code (sm_Q x zx_sy (sm_Pi zx_sy (xw x))) (px_Reader_readInto_N N S) S 0 [(0, .ref ((xw x).2.2 102)), (1, .null)] [] := by
  unfold px_Reader_readInto_N
  refine sm_aload_n (pc := 0) 0 ok dx_Reader_readInto_0 rfl ?_
  refine sm_iconst (pc := 1) (0 : Int32) ok dx_Reader_readInto_1 zk_0 ?_
  refine sm_putI (pc := 2) (ci := 4) (k := 2) ok dx_Reader_readInto_2 rfl rfl zc_i4 zc_y4 zc_t4 zc_n4 (by decide) rfl rfl rfl wd_237 (fun S_1 => ?_)
  refine sm_aload_n (pc := 5) 0 ok dx_Reader_readInto_5 rfl ?_
  refine sm_iconst (pc := 6) (0 : Int32) ok dx_Reader_readInto_6 zk_0 ?_
  refine sm_putI (pc := 7) (ci := 4) (k := 6) ok dx_Reader_readInto_7 rfl rfl zc_i4 zc_y4 zc_t4 zc_n4 (by decide) rfl rfl rfl wd_241 (fun S_2 => ?_)
  refine sm_aload_n (pc := 10) 0 ok dx_Reader_readInto_10 rfl ?_
  refine sm_iconst (pc := 11) (0 : Int32) ok dx_Reader_readInto_11 zk_0 ?_
  refine sm_putI (pc := 12) (ci := 4) (k := 7) ok dx_Reader_readInto_12 rfl rfl zc_i4 zc_y4 zc_t4 zc_n4 (by decide) rfl rfl rfl wd_242 (fun S_3 => ?_)
  refine sm_iconst (pc := 15) (0 : Int32) ok dx_Reader_readInto_15 zk_0 ?_
  refine sm_istore_n (pc := 16) (i := 2) ok dx_Reader_readInto_16 rfl (by decide) (fun v => [(2, .int v), (0, .ref ((xw x).2.2 102)), (1, .null)]) (fun _ => rfl) (fun v2_4 => ?_)
  refine sm_lv [1, 2, 0] rfl ?_
  exact tx_Reader_readInto_N_b17 ok hr N N _ _
theorem cx_Reader_readInto_N {l : Launch} {wc : sm_Wc} (hj : sm_inj zx_sy wc) (N : Nat) (S : sm_St) : sm_Ct l zx_sy wc yx_Reader_readInto prog_6_method_3_code 5 (some .int) 9 191 [.ref (wc.2.2 102), .null] S (sm_Pi zx_sy wc) (px_Reader_readInto_N N S) :=
  sm_entry (Pq := fun wc => sm_Pi zx_sy wc) (fun wc => [.ref (wc.2.2 102), .null]) (lv := fun wc => [(0, .ref (wc.2.2 102)), (1, .null)]) (by decide) hj zx_ok zx_stb (fun _ => Nat.le_of_ble_eq_true rfl) (fun _ => rfl) (fun x _ ok hr => tx_Reader_readInto_N ok hr N S)
set_option maxHeartbeats 4000000 in
set_option maxRecDepth 20000 in
theorem tx_Shades_reset {x : sm_Cx} (ok : sm_Ok x zx_sy prog_8_method_2_code "LentShades$Shades" 1 0 0) (hr : (xh x).sig.returnType = none) (N : Nat) (S : sm_St) (p : Nat) (hp : zx_sy.1 p = (16, 0)) : sm_Sm x zx_sy prog_8_method_2_code (sm_Q x zx_sy (sm_Pv zx_sy (xw x))) (px_Shades_reset N S p) S 0 [(0, .ref ((xw x).2.2 p))] [] := by
  unfold px_Shades_reset
  refine sm_aload_n (pc := 0) 0 ok dx_Shades_reset_0 rfl ?_
  refine sm_getR (pc := 1) (ci := 6) (k := 0) ok dx_Shades_reset_1 hp rfl zc_i6 (by decide) rfl wd_146 ?_
  refine sm_bipush (pc := 4) (80 : Int32) ok dx_Shades_reset_4 zb_80 ?_
  refine sm_iconst (pc := 6) (1 : Int32) ok dx_Shades_reset_6 zk_1 ?_
  refine sm_iast (pc := 7) ok dx_Shades_reset_7 (zx_Shades_1 hp) (fun S_1 => ?_)
  refine sm_aload_n (pc := 8) 0 ok dx_Shades_reset_8 rfl ?_
  refine sm_iconst (pc := 9) (1 : Int32) ok dx_Shades_reset_9 zk_1 ?_
  refine sm_putI (pc := 10) (ci := 6) (k := 1) ok dx_Shades_reset_10 hp rfl zc_i6 zc_y6 zc_t6 zc_n6 (by decide) rfl rfl rfl wd_149 (fun S_2 => ?_)
  exact sm_vret (pc := 13) ok dx_Shades_reset_13 hr
theorem cx_Shades_reset {l : Launch} {wc : sm_Wc} (hj : sm_inj zx_sy wc) (N : Nat) (S : sm_St) (p : Nat) (hp : zx_sy.1 p = (16, 0)) : sm_Ct l zx_sy wc yx_Shades_reset prog_8_method_2_code 1 none 0 0 [.ref (wc.2.2 p)] S (sm_Pv zx_sy wc) (px_Shades_reset N S p) :=
  sm_entry (Pq := fun wc => sm_Pv zx_sy wc) (fun wc => [.ref (wc.2.2 p)]) (lv := fun wc => [(0, .ref (wc.2.2 p))]) (by decide) hj zx_ok zx_stb (fun _ => Nat.le_of_ble_eq_true rfl) (fun _ => rfl) (fun x _ ok hr => tx_Shades_reset ok hr N S p hp)
