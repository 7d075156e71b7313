set_option maxHeartbeats 4000000 in
set_option maxRecDepth 20000 in
theorem tx_Mover_lesser {x : sm_Cx} (ok : sm_Ok x zx_sy prog_5_method_9_code "LentShades$Mover" 1 0 0) (hr : (xh x).sig.returnType = (some .int)) (N : Nat) (S : sm_St) (v0 : Int32) : sm_Sm x zx_sy prog_5_method_9_code (sm_Q x zx_sy (sm_Pi zx_sy (xw x))) (px_Mover_lesser N S v0) S 0 [(0, .int v0)] [] := by
  unfold px_Mover_lesser
  refine sm_iload_n (pc := 0) 0 ok dx_Mover_lesser_0 rfl ?_
  refine sm_iconst (pc := 1) (4 : Int32) ok dx_Mover_lesser_1 zk_4 ?_
  refine sm_ishr (pc := 2) ok dx_Mover_lesser_2 ?_
  refine sm_iconst (pc := 3) (3 : Int32) ok dx_Mover_lesser_3 zk_3 ?_
  refine sm_iand (pc := 4) ok dx_Mover_lesser_4 ?_
  exact sm_iret (pc := 5) ok dx_Mover_lesser_5 hr
theorem cx_Mover_lesser {l : Launch} {wc : sm_Wc} (hj : sm_inj zx_sy wc) (N : Nat) (S : sm_St) (v0 : Int32) : sm_Ct l zx_sy wc yx_Mover_lesser prog_5_method_9_code 1 (some .int) 0 0 [.int v0] S (sm_Pi zx_sy wc) (px_Mover_lesser N S v0) :=
  sm_entry (Pq := fun wc => sm_Pi zx_sy wc) (fun wc => [.int v0]) (lv := fun wc => [(0, .int v0)]) (by decide) hj zx_ok zx_stb (fun _ => Nat.le_of_ble_eq_true rfl) (fun _ => rfl) (fun x _ ok hr => tx_Mover_lesser ok hr N S v0)
set_option maxHeartbeats 4000000 in
set_option maxRecDepth 20000 in
theorem tx_Mover_other {x : sm_Cx} (ok : sm_Ok x zx_sy prog_5_method_10_code "LentShades$Mover" 1 0 0) (hr : (xh x).sig.returnType = (some .int)) (N : Nat) (S : sm_St) (v0 : Int32) : sm_Sm x zx_sy prog_5_method_10_code (sm_Q x zx_sy (sm_Pi zx_sy (xw x))) (px_Mover_other N S v0) S 0 [(0, .int v0)] [] := by
  unfold px_Mover_other
  refine sm_iload_n (pc := 0) 0 ok dx_Mover_other_0 rfl ?_
  refine sm_iconst (pc := 1) (1 : Int32) ok dx_Mover_other_1 zk_1 ?_
  refine sm_ishr (pc := 2) ok dx_Mover_other_2 ?_
  refine sm_bipush (pc := 3) (7 : Int32) ok dx_Mover_other_3 zb_7 ?_
  refine sm_iand (pc := 5) ok dx_Mover_other_5 ?_
  exact sm_iret (pc := 6) ok dx_Mover_other_6 hr
theorem cx_Mover_other {l : Launch} {wc : sm_Wc} (hj : sm_inj zx_sy wc) (N : Nat) (S : sm_St) (v0 : Int32) : sm_Ct l zx_sy wc yx_Mover_other prog_5_method_10_code 1 (some .int) 0 0 [.int v0] S (sm_Pi zx_sy wc) (px_Mover_other N S v0) :=
  sm_entry (Pq := fun wc => sm_Pi zx_sy wc) (fun wc => [.int v0]) (lv := fun wc => [(0, .int v0)]) (by decide) hj zx_ok zx_stb (fun _ => Nat.le_of_ble_eq_true rfl) (fun _ => rfl) (fun x _ ok hr => tx_Mover_other ok hr N S v0)
set_option maxHeartbeats 4000000 in
set_option maxRecDepth 20000 in
theorem tx_Mover_hoursOf {x : sm_Cx} (ok : sm_Ok x zx_sy prog_5_method_11_code "LentShades$Mover" 1 0 0) (hr : (xh x).sig.returnType = (some .int)) (N : Nat) (S : sm_St) (v0 : Int32) : sm_Sm x zx_sy prog_5_method_11_code (sm_Q x zx_sy (sm_Pi zx_sy (xw x))) (px_Mover_hoursOf N S v0) S 0 [(0, .int v0)] [] := by
  unfold px_Mover_hoursOf
  refine sm_iload_n (pc := 0) 0 ok dx_Mover_hoursOf_0 rfl ?_
  refine sm_iconst (pc := 1) (1 : Int32) ok dx_Mover_hoursOf_1 zk_1 ?_
  refine sm_iand (pc := 2) ok dx_Mover_hoursOf_2 ?_
  refine sm_if_ne (pc := 3) 10 ok dx_Mover_hoursOf_3 (by decide) (fun _ => ?_) (fun _ => ?_)
  · refine sm_iconst (pc := 10) (3 : Int32) ok dx_Mover_hoursOf_10 zk_3 ?_
    exact sm_iret (pc := 11) ok dx_Mover_hoursOf_11 hr
  · refine sm_iconst (pc := 6) (0 : Int32) ok dx_Mover_hoursOf_6 zk_0 ?_
    refine sm_goto (pc := 7) 11 ok dx_Mover_hoursOf_7 (by decide) ?_
    exact sm_iret (pc := 11) ok dx_Mover_hoursOf_11 hr
theorem cx_Mover_hoursOf {l : Launch} {wc : sm_Wc} (hj : sm_inj zx_sy wc) (N : Nat) (S : sm_St) (v0 : Int32) : sm_Ct l zx_sy wc yx_Mover_hoursOf prog_5_method_11_code 1 (some .int) 0 0 [.int v0] S (sm_Pi zx_sy wc) (px_Mover_hoursOf N S v0) :=
  sm_entry (Pq := fun wc => sm_Pi zx_sy wc) (fun wc => [.int v0]) (lv := fun wc => [(0, .int v0)]) (by decide) hj zx_ok zx_stb (fun _ => Nat.le_of_ble_eq_true rfl) (fun _ => rfl) (fun x _ ok hr => tx_Mover_hoursOf ok hr N S v0)
set_option maxHeartbeats 4000000 in
set_option maxRecDepth 20000 in
theorem tx_Mover_changes_b66 {x : sm_Cx} (ok : sm_Ok x zx_sy prog_5_method_6_code "LentShades$Mover" 6 2 42) (hr : (xh x).sig.returnType = (some .boolean)) (N : Nat) (q1 : Nat) (hq1 : zx_sy.1 q1 = (12, 0)) (v2 : Int32) (v3 : Int32) (v4 : Int32) (s0 : Int32) (S : sm_St) : sm_Sm x zx_sy prog_5_method_6_code (sm_Q x zx_sy (sm_Pi zx_sy (xw x))) (px_Mover_changes_b66 N q1 v2 v3 v4 s0 S) S 66 [(1, .ref ((xw x).2.2 q1)), (2, .int v2), (3, .int v3), (4, .int v4)] [.int s0] := by
  unfold px_Mover_changes_b66
  refine sm_istore (pc := 66) (i := 5) ok dx_Mover_changes_66 (by decide) (fun v => [(5, .int v), (1, .ref ((xw x).2.2 q1)), (2, .int v2), (3, .int v3), (4, .int v4)]) (fun _ => rfl) (fun v5_11 => ?_)
  refine sm_iload (pc := 68) 0 ok dx_Mover_changes_68 rfl ?_
  refine sm_if_ne (pc := 70) 93 ok dx_Mover_changes_70 (by decide) (fun _ => ?_) (fun _ => ?_)
  · refine sm_iconst (pc := 93) (0 : Int32) ok dx_Mover_changes_93 zk_0 ?_
    exact sm_zret (pc := 94) ok dx_Mover_changes_94 hr rfl
  · refine sm_aload_n (pc := 73) 1 ok dx_Mover_changes_73 rfl ?_
    refine sm_getR (pc := 74) (ci := 2) (k := 5) ok dx_Mover_changes_74 hq1 rfl zc_i2 (by decide) rfl wd_175 ?_
    refine sm_iload_n (pc := 77) 3 ok dx_Mover_changes_77 rfl ?_
    refine sm_aald5 (pc := 78) ok dx_Mover_changes_78 (zx_House_6 hq1) (fun hb_12 => ?_)
    refine sm_iload (pc := 79) 4 ok dx_Mover_changes_79 rfl ?_
    refine sm_iald (pc := 81) ok dx_Mover_changes_81 (zx_hrow6 hq1 hb_12) ?_
    refine sm_iload_n (pc := 82) 2 ok dx_Mover_changes_82 rfl ?_
    refine sm_callS_i (pc := 83) [.int v2] ok dx_Mover_changes_83 wd_813 mwx_Mover_hoursOf (Nat.le_of_ble_eq_true rfl) (Nat.le_of_ble_eq_true rfl) rfl rfl (Nat.le_of_ble_eq_true rfl) (cx_Mover_hoursOf (sm_okj ok) N S v2) (fun r_14 S_13 => ?_)
    refine sm_icmp_eq (pc := 86) 93 ok dx_Mover_changes_86 (by decide) (fun _ => ?_) (fun _ => ?_)
    · refine sm_iconst (pc := 93) (0 : Int32) ok dx_Mover_changes_93 zk_0 ?_
      exact sm_zret (pc := 94) ok dx_Mover_changes_94 hr rfl
    · refine sm_iconst (pc := 89) (1 : Int32) ok dx_Mover_changes_89 zk_1 ?_
      refine sm_goto (pc := 90) 94 ok dx_Mover_changes_90 (by decide) ?_
      exact sm_zret (pc := 94) ok dx_Mover_changes_94 hr rfl
set_option maxHeartbeats 4000000 in
set_option maxRecDepth 20000 in
theorem tx_Mover_changes_b65 {x : sm_Cx} (ok : sm_Ok x zx_sy prog_5_method_6_code "LentShades$Mover" 6 2 42) (hr : (xh x).sig.returnType = (some .boolean)) (N : Nat) (q1 : Nat) (hq1 : zx_sy.1 q1 = (12, 0)) (v2 : Int32) (v3 : Int32) (v4 : Int32) (S : sm_St) : sm_Sm x zx_sy prog_5_method_6_code (sm_Q x zx_sy (sm_Pi zx_sy (xw x))) (px_Mover_changes_b65 N q1 v2 v3 v4 S) S 65 [(1, .ref ((xw x).2.2 q1)), (2, .int v2), (3, .int v3), (4, .int v4)] [] := by
  unfold px_Mover_changes_b65
  refine sm_iconst (pc := 65) (0 : Int32) ok dx_Mover_changes_65 zk_0 ?_
  exact tx_Mover_changes_b66 ok hr N q1 hq1 _ _ _ _ _
set_option maxHeartbeats 4000000 in
set_option maxRecDepth 20000 in
theorem tx_Mover_changes {x : sm_Cx} (ok : sm_Ok x zx_sy prog_5_method_6_code "LentShades$Mover" 6 2 42) (hr : (xh x).sig.returnType = (some .boolean)) (N : Nat) (S : sm_St) (q1 : Nat) (v2 : Int32) (hq1 : zx_sy.1 q1 = (12, 0)) : sm_Sm x zx_sy prog_5_method_6_code (sm_Q x zx_sy (sm_Pi zx_sy (xw x))) (px_Mover_changes N S q1 v2) S 0 [(0, .ref ((xw x).2.2 132)), (1, .ref ((xw x).2.2 q1)), (2, .int v2)] [] := by
  unfold px_Mover_changes
  refine sm_iload_n (pc := 0) 2 ok dx_Mover_changes_0 rfl ?_
  refine sm_callS_i (pc := 1) [.int v2] ok dx_Mover_changes_1 wd_805 mwx_Mover_lesser (Nat.le_of_ble_eq_true rfl) (Nat.le_of_ble_eq_true rfl) rfl rfl (Nat.le_of_ble_eq_true rfl) (cx_Mover_lesser (sm_okj ok) N S v2) (fun r_2 S_1 => ?_)
  refine sm_istore_n (pc := 4) (i := 3) ok dx_Mover_changes_4 rfl (by decide) (fun v => [(3, .int v), (0, .ref ((xw x).2.2 132)), (1, .ref ((xw x).2.2 q1)), (2, .int v2)]) (fun _ => rfl) (fun v3_3 => ?_)
  refine sm_iload_n (pc := 5) 3 ok dx_Mover_changes_5 rfl ?_
  refine sm_callS_i (pc := 6) [.int v2] ok dx_Mover_changes_6 wd_808 mwx_Mover_other (Nat.le_of_ble_eq_true rfl) (Nat.le_of_ble_eq_true rfl) rfl rfl (Nat.le_of_ble_eq_true rfl) (cx_Mover_other (sm_okj ok) N S_1 v2) (fun r_5 S_4 => ?_)
  refine sm_istore (pc := 9) (i := 4) ok dx_Mover_changes_9 (by decide) (fun v => [(4, .int v), (3, .int v3_3), (0, .ref ((xw x).2.2 132)), (1, .ref ((xw x).2.2 q1)), (2, .int v2)]) (fun _ => rfl) (fun v4_6 => ?_)
  refine sm_iload_n (pc := 11) 1 ok dx_Mover_changes_11 rfl ?_
  refine sm_iload (pc := 12) 0 ok dx_Mover_changes_12 rfl ?_
  refine sm_icmp_ge (pc := 14) 34 ok dx_Mover_changes_14 (by decide) (fun _ => ?_) (fun _ => ?_)
  · refine sm_iconst (pc := 34) (0 : Int32) ok dx_Mover_changes_34 zk_0 ?_
    exact sm_zret (pc := 35) ok dx_Mover_changes_35 hr rfl
  · refine sm_aload_n (pc := 17) 3 ok dx_Mover_changes_17 rfl ?_
    refine sm_iload_n (pc := 18) 1 ok dx_Mover_changes_18 rfl ?_
    refine sm_callV_i (pc := 19) (ci := 2) [.int v3_3] ok dx_Mover_changes_19 wd_811 mwx_House_hasCloth hq1 rfl (Nat.le_of_ble_eq_true rfl) (Nat.le_of_ble_eq_true rfl) rfl rfl (Nat.le_of_ble_eq_true rfl) (cx_House_hasCloth (sm_okj ok) N S_4 q1 v3_3 hq1) (fun r_8 S_7 => ?_)
    refine sm_if_eq (pc := 22) 34 ok dx_Mover_changes_22 (by decide) (fun _ => ?_) (fun _ => ?_)
    · refine sm_iconst (pc := 34) (0 : Int32) ok dx_Mover_changes_34 zk_0 ?_
      exact sm_zret (pc := 35) ok dx_Mover_changes_35 hr rfl
    · refine sm_aload_n (pc := 25) 3 ok dx_Mover_changes_25 rfl ?_
      refine sm_iload (pc := 26) 0 ok dx_Mover_changes_26 rfl ?_
      refine sm_callV_i (pc := 28) (ci := 2) [.int v4_6] ok dx_Mover_changes_28 wd_812 mwx_House_hasNumber hq1 rfl (Nat.le_of_ble_eq_true rfl) (Nat.le_of_ble_eq_true rfl) rfl rfl (Nat.le_of_ble_eq_true rfl) (cx_House_hasNumber (sm_okj ok) N S_7 q1 v4_6 hq1) (fun r_10 S_9 => ?_)
      refine sm_if_ne (pc := 31) 36 ok dx_Mover_changes_31 (by decide) (fun _ => ?_) (fun _ => ?_)
      · refine sm_aload_n (pc := 36) 2 ok dx_Mover_changes_36 rfl ?_
        refine sm_getI (pc := 37) (ci := 3) (k := 4) ok dx_Mover_changes_37 rfl rfl zc_i3 (by decide) rfl wd_362 ?_
        refine sm_iconst (pc := 40) (1 : Int32) ok dx_Mover_changes_40 zk_1 ?_
        refine sm_icmp_ne (pc := 41) 65 ok dx_Mover_changes_41 (by decide) (fun _ => ?_) (fun _ => ?_)
        · refine sm_lv [3, 4, 1, 0] rfl ?_
          exact tx_Mover_changes_b65 ok hr N q1 hq1 _ _ _ _
        · refine sm_iload_n (pc := 44) 1 ok dx_Mover_changes_44 rfl ?_
          refine sm_aload_n (pc := 45) 2 ok dx_Mover_changes_45 rfl ?_
          refine sm_getI (pc := 46) (ci := 3) (k := 1) ok dx_Mover_changes_46 rfl rfl zc_i3 (by decide) rfl wd_359 ?_
          refine sm_icmp_eq (pc := 49) 65 ok dx_Mover_changes_49 (by decide) (fun _ => ?_) (fun _ => ?_)
          · refine sm_lv [3, 4, 1, 0] rfl ?_
            exact tx_Mover_changes_b65 ok hr N q1 hq1 _ _ _ _
          · refine sm_iload (pc := 52) 0 ok dx_Mover_changes_52 rfl ?_
            refine sm_aload_n (pc := 54) 2 ok dx_Mover_changes_54 rfl ?_
            refine sm_getI (pc := 55) (ci := 3) (k := 1) ok dx_Mover_changes_55 rfl rfl zc_i3 (by decide) rfl wd_359 ?_
            refine sm_icmp_eq (pc := 58) 65 ok dx_Mover_changes_58 (by decide) (fun _ => ?_) (fun _ => ?_)
            · refine sm_lv [3, 4, 1, 0] rfl ?_
              exact tx_Mover_changes_b65 ok hr N q1 hq1 _ _ _ _
            · refine sm_iconst (pc := 61) (1 : Int32) ok dx_Mover_changes_61 zk_1 ?_
              refine sm_goto (pc := 62) 66 ok dx_Mover_changes_62 (by decide) ?_
              refine sm_lv [3, 4, 1, 0] rfl ?_
              exact tx_Mover_changes_b66 ok hr N q1 hq1 _ _ _ _ _
      · refine sm_iconst (pc := 34) (0 : Int32) ok dx_Mover_changes_34 zk_0 ?_
        exact sm_zret (pc := 35) ok dx_Mover_changes_35 hr rfl
theorem cx_Mover_changes {l : Launch} {wc : sm_Wc} (hj : sm_inj zx_sy wc) (N : Nat) (S : sm_St) (q1 : Nat) (v2 : Int32) (hq1 : zx_sy.1 q1 = (12, 0)) : sm_Ct l zx_sy wc yx_Mover_changes prog_5_method_6_code 6 (some .boolean) 2 42 [.ref (wc.2.2 132), .ref (wc.2.2 q1), .int v2] S (sm_Pi zx_sy wc) (px_Mover_changes N S q1 v2) :=
  sm_entry (Pq := fun wc => sm_Pi zx_sy wc) (fun wc => [.ref (wc.2.2 132), .ref (wc.2.2 q1), .int v2]) (lv := fun wc => [(0, .ref (wc.2.2 132)), (1, .ref (wc.2.2 q1)), (2, .int v2)]) (by decide) hj zx_ok zx_stb (fun _ => Nat.le_of_ble_eq_true rfl) (fun _ => rfl) (fun x _ ok hr => tx_Mover_changes ok hr N S q1 v2 hq1)
set_option maxHeartbeats 4000000 in
set_option maxRecDepth 20000 in
theorem tx_Mover_put {x : sm_Cx} (ok : sm_Ok x zx_sy prog_5_method_7_code "LentShades$Mover" 3 1 23) (hr : (xh x).sig.returnType = none) (N : Nat) (S : sm_St) (v1 : Int32) (v2 : Int32) : sm_Sm x zx_sy prog_5_method_7_code (sm_Q x zx_sy (sm_Pv zx_sy (xw x))) (px_Mover_put N S v1 v2) S 0 [(0, .ref ((xw x).2.2 132)), (1, .int v1), (2, .int v2)] [] := by
  unfold px_Mover_put
  refine sm_aload_n (pc := 0) 0 ok dx_Mover_put_0 rfl ?_
  refine sm_getR (pc := 1) (ci := 3) (k := 0) ok dx_Mover_put_1 rfl rfl zc_i3 (by decide) rfl wd_358 ?_
  refine sm_iload_n (pc := 4) 1 ok dx_Mover_put_4 rfl ?_
  refine sm_callS_i (pc := 5) [.int v1] ok dx_Mover_put_5 wd_805 mwx_Mover_lesser (Nat.le_of_ble_eq_true rfl) (Nat.le_of_ble_eq_true rfl) rfl rfl (Nat.le_of_ble_eq_true rfl) (cx_Mover_lesser (sm_okj ok) N S v1) (fun r_2 S_1 => ?_)
  refine sm_iload_n (pc := 8) 1 ok dx_Mover_put_8 rfl ?_
  refine sm_callS_i (pc := 9) [.int v1] ok dx_Mover_put_9 wd_808 mwx_Mover_other (Nat.le_of_ble_eq_true rfl) (Nat.le_of_ble_eq_true rfl) rfl rfl (Nat.le_of_ble_eq_true rfl) (cx_Mover_other (sm_okj ok) N S_1 v1) (fun r_4 S_3 => ?_)
  refine sm_iload_n (pc := 12) 2 ok dx_Mover_put_12 rfl ?_
  refine sm_callSN_v (pc := 13) [.ref ((xw x).2.2 133), .int r_2, .int r_4, .int v2] ok dx_Mover_put_13 (zx_nw ok 3 rfl) mwx_L_putHours (Nat.le_of_ble_eq_true rfl) (Nat.le_of_ble_eq_true rfl) rfl rfl (Nat.le_of_ble_eq_true rfl) (cx_L_putHours (sm_okj ok) N S_3 133 r_2 r_4 v2 (sm_tag rfl)) (fun S_5 => ?_)
  exact sm_vret (pc := 16) ok dx_Mover_put_16 hr
theorem cx_Mover_put {l : Launch} {wc : sm_Wc} (hj : sm_inj zx_sy wc) (N : Nat) (S : sm_St) (v1 : Int32) (v2 : Int32) : sm_Ct l zx_sy wc yx_Mover_put prog_5_method_7_code 3 none 1 23 [.ref (wc.2.2 132), .int v1, .int v2] S (sm_Pv zx_sy wc) (px_Mover_put N S v1 v2) :=
  sm_entry (Pq := fun wc => sm_Pv zx_sy wc) (fun wc => [.ref (wc.2.2 132), .int v1, .int v2]) (lv := fun wc => [(0, .ref (wc.2.2 132)), (1, .int v1), (2, .int v2)]) (by decide) hj zx_ok zx_stb (fun _ => Nat.le_of_ble_eq_true rfl) (fun _ => rfl) (fun x _ ok hr => tx_Mover_put ok hr N S v1 v2)
set_option maxHeartbeats 4000000 in
set_option maxRecDepth 20000 in
theorem tx_Mover_putBack {x : sm_Cx} (ok : sm_Ok x zx_sy prog_5_method_8_code "LentShades$Mover" 3 2 45) (hr : (xh x).sig.returnType = none) (N : Nat) (S : sm_St) (v1 : Int32) (q2 : Nat) (hq2 : zx_sy.1 q2 = (12, 0)) : sm_Sm x zx_sy prog_5_method_8_code (sm_Q x zx_sy (sm_Pv zx_sy (xw x))) (px_Mover_putBack N S v1 q2) S 0 [(0, .ref ((xw x).2.2 132)), (1, .int v1), (2, .ref ((xw x).2.2 q2))] [] := by
  unfold px_Mover_putBack
  refine sm_aload_n (pc := 0) 0 ok dx_Mover_putBack_0 rfl ?_
  refine sm_iload_n (pc := 1) 1 ok dx_Mover_putBack_1 rfl ?_
  refine sm_aload_n (pc := 2) 2 ok dx_Mover_putBack_2 rfl ?_
  refine sm_getR (pc := 3) (ci := 2) (k := 5) ok dx_Mover_putBack_3 hq2 rfl zc_i2 (by decide) rfl wd_175 ?_
  refine sm_iload_n (pc := 6) 1 ok dx_Mover_putBack_6 rfl ?_
  refine sm_callS_i (pc := 7) [.int v1] ok dx_Mover_putBack_7 wd_805 mwx_Mover_lesser (Nat.le_of_ble_eq_true rfl) (Nat.le_of_ble_eq_true rfl) rfl rfl (Nat.le_of_ble_eq_true rfl) (cx_Mover_lesser (sm_okj ok) N S v1) (fun r_2 S_1 => ?_)
  refine sm_aald5 (pc := 10) ok dx_Mover_putBack_10 (zx_House_6 hq2) (fun hb_3 => ?_)
  refine sm_iload_n (pc := 11) 1 ok dx_Mover_putBack_11 rfl ?_
  refine sm_callS_i (pc := 12) [.int v1] ok dx_Mover_putBack_12 wd_808 mwx_Mover_other (Nat.le_of_ble_eq_true rfl) (Nat.le_of_ble_eq_true rfl) rfl rfl (Nat.le_of_ble_eq_true rfl) (cx_Mover_other (sm_okj ok) N S_1 v1) (fun r_5 S_4 => ?_)
  refine sm_iald (pc := 15) ok dx_Mover_putBack_15 (zx_hrow6 hq2 hb_3) ?_
  refine sm_callV_v (pc := 16) (ci := 3) [.int v1, .int (S_4.1 (q2 + 7 + r_2.toNatClampNeg) r_5.toNatClampNeg)] ok dx_Mover_putBack_16 wd_816 mwx_Mover_put rfl rfl (Nat.le_of_ble_eq_true rfl) (Nat.le_of_ble_eq_true rfl) rfl rfl (Nat.le_of_ble_eq_true rfl) (cx_Mover_put (sm_okj ok) N S_4 v1 (S_4.1 (q2 + 7 + r_2.toNatClampNeg) r_5.toNatClampNeg)) (fun S_6 => ?_)
  exact sm_vret (pc := 19) ok dx_Mover_putBack_19 hr
theorem cx_Mover_putBack {l : Launch} {wc : sm_Wc} (hj : sm_inj zx_sy wc) (N : Nat) (S : sm_St) (v1 : Int32) (q2 : Nat) (hq2 : zx_sy.1 q2 = (12, 0)) : sm_Ct l zx_sy wc yx_Mover_putBack prog_5_method_8_code 3 none 2 45 [.ref (wc.2.2 132), .int v1, .ref (wc.2.2 q2)] S (sm_Pv zx_sy wc) (px_Mover_putBack N S v1 q2) :=
  sm_entry (Pq := fun wc => sm_Pv zx_sy wc) (fun wc => [.ref (wc.2.2 132), .int v1, .ref (wc.2.2 q2)]) (lv := fun wc => [(0, .ref (wc.2.2 132)), (1, .int v1), (2, .ref (wc.2.2 q2))]) (by decide) hj zx_ok zx_stb (fun _ => Nat.le_of_ble_eq_true rfl) (fun _ => rfl) (fun x _ ok hr => tx_Mover_putBack ok hr N S v1 q2 hq2)
set_option maxHeartbeats 4000000 in
set_option maxRecDepth 20000 in
theorem tx_Mover_reachedByOneMore_b50 {x : sm_Cx} (ok : sm_Ok x zx_sy prog_5_method_4_code "LentShades$Mover" 5 5 128) (hr : (xh x).sig.returnType = (some .int)) (N : Nat) (q1 : Nat) (hq1 : zx_sy.1 q1 = (12, 0)) {r3 : Int32 → sm_St → Option (Int32 × sm_St)} (h3 : ∀ (v4 : Int32) (S : sm_St), sm_Sm x zx_sy prog_5_method_4_code (sm_Q x zx_sy (sm_Pi zx_sy (xw x))) (r3 v4 S) S 3 [(0, .ref ((xw x).2.2 132)), (1, .ref ((xw x).2.2 q1)), (2, .ref ((xw x).2.2 110)), (4, .int v4)] []) (v4 : Int32) (S : sm_St) : sm_Sm x zx_sy prog_5_method_4_code (sm_Q x zx_sy (sm_Pi zx_sy (xw x))) (px_Mover_reachedByOneMore_b50 N q1 r3 v4 S) S 50 [(0, .ref ((xw x).2.2 132)), (1, .ref ((xw x).2.2 q1)), (2, .ref ((xw x).2.2 110)), (4, .int v4)] [] := by
  unfold px_Mover_reachedByOneMore_b50
  refine sm_iinc (pc := 50) (i := 4) 3 (1 : Int32) ok dx_Mover_reachedByOneMore_50 rfl zk_1 (by decide) (fun v => [(4, .int v), (0, .ref ((xw x).2.2 132)), (1, .ref ((xw x).2.2 q1)), (2, .ref ((xw x).2.2 110))]) (fun _ => rfl) (fun v4_10 => ?_)
  refine sm_goto (pc := 53) 3 ok dx_Mover_reachedByOneMore_53 (by decide) ?_
  refine sm_lv [1, 2, 3, 0] rfl ?_
  exact h3 _ _
set_option maxHeartbeats 4000000 in
set_option maxRecDepth 20000 in
theorem tx_Mover_reachedByOneMore_b3 {x : sm_Cx} (ok : sm_Ok x zx_sy prog_5_method_4_code "LentShades$Mover" 5 5 128) (hr : (xh x).sig.returnType = (some .int)) (N : Nat) (q1 : Nat) (hq1 : zx_sy.1 q1 = (12, 0)) : ∀ (n : Nat) (v4 : Int32) (S : sm_St), sm_Sm x zx_sy prog_5_method_4_code (sm_Q x zx_sy (sm_Pi zx_sy (xw x))) (px_Mover_reachedByOneMore_b3 N q1 n v4 S) S 3 [(0, .ref ((xw x).2.2 132)), (1, .ref ((xw x).2.2 q1)), (2, .ref ((xw x).2.2 110)), (4, .int v4)] [] := by
  intro n
  induction n with
  | zero =>
    intro v4 S
    exact sm_none
  | succ n ih =>
    intro v4 S
    show sm_Sm x zx_sy prog_5_method_4_code (sm_Q x zx_sy (sm_Pi zx_sy (xw x))) (if (64 : Int32) ≤ v4 then (some ((-1 : Int32), S)) else (sm_b2 (px_Mover_changes N S q1 v4) (fun (r_3 : Int32) (S_2 : sm_St) => if r_3 = 0 then (px_Mover_reachedByOneMore_b50 N q1 (px_Mover_reachedByOneMore_b3 N q1 n) v4 S_2) else (sm_b2 (px_Mover_hoursOf N S_2 v4) (fun (r_5 : Int32) (S_4 : sm_St) => sm_b1 (px_Mover_put N S_4 v4 r_5) (fun (S_6 : sm_St) => sm_b2 (px_Mover_reached N S_6 q1) (fun (r_8 : Int32) (S_7 : sm_St) => if r_8 = 0 then (sm_b1 (px_Mover_putBack N S_7 v4 q1) (fun (S_9 : sm_St) => px_Mover_reachedByOneMore_b50 N q1 (px_Mover_reachedByOneMore_b3 N q1 n) v4 S_9)) else (some (v4, S_7))))))))) S 3 [(0, .ref ((xw x).2.2 132)), (1, .ref ((xw x).2.2 q1)), (2, .ref ((xw x).2.2 110)), (4, .int v4)] []
    refine sm_iload (pc := 3) 3 ok dx_Mover_reachedByOneMore_3 rfl ?_
    refine sm_bipush (pc := 5) (64 : Int32) ok dx_Mover_reachedByOneMore_5 zb_64 ?_
    refine sm_icmp_ge (pc := 7) 56 ok dx_Mover_reachedByOneMore_7 (by decide) (fun _ => ?_) (fun _ => ?_)
    · refine sm_iconst (pc := 56) (-1 : Int32) ok dx_Mover_reachedByOneMore_56 zk_m1 ?_
      exact sm_iret (pc := 57) ok dx_Mover_reachedByOneMore_57 hr
    · refine sm_aload_n (pc := 10) 0 ok dx_Mover_reachedByOneMore_10 rfl ?_
      refine sm_aload_n (pc := 11) 1 ok dx_Mover_reachedByOneMore_11 rfl ?_
      refine sm_iload (pc := 12) 3 ok dx_Mover_reachedByOneMore_12 rfl ?_
      refine sm_callV_i (pc := 14) (ci := 3) [.ref ((xw x).2.2 q1), .int v4] ok dx_Mover_reachedByOneMore_14 wd_801 mwx_Mover_changes rfl rfl (Nat.le_of_ble_eq_true rfl) (Nat.le_of_ble_eq_true rfl) rfl rfl (Nat.le_of_ble_eq_true rfl) (cx_Mover_changes (sm_okj ok) N S q1 v4 hq1) (fun r_3 S_2 => ?_)
      refine sm_if_eq (pc := 17) 50 ok dx_Mover_reachedByOneMore_17 (by decide) (fun _ => ?_) (fun _ => ?_)
      · exact tx_Mover_reachedByOneMore_b50 ok hr N q1 hq1 ih _ _
      · refine sm_aload_n (pc := 20) 0 ok dx_Mover_reachedByOneMore_20 rfl ?_
        refine sm_iload (pc := 21) 3 ok dx_Mover_reachedByOneMore_21 rfl ?_
        refine sm_iload (pc := 23) 3 ok dx_Mover_reachedByOneMore_23 rfl ?_
        refine sm_callS_i (pc := 25) [.int v4] ok dx_Mover_reachedByOneMore_25 wd_813 mwx_Mover_hoursOf (Nat.le_of_ble_eq_true rfl) (Nat.le_of_ble_eq_true rfl) rfl rfl (Nat.le_of_ble_eq_true rfl) (cx_Mover_hoursOf (sm_okj ok) N S_2 v4) (fun r_5 S_4 => ?_)
        refine sm_callV_v (pc := 28) (ci := 3) [.int v4, .int r_5] ok dx_Mover_reachedByOneMore_28 wd_816 mwx_Mover_put rfl rfl (Nat.le_of_ble_eq_true rfl) (Nat.le_of_ble_eq_true rfl) rfl rfl (Nat.le_of_ble_eq_true rfl) (cx_Mover_put (sm_okj ok) N S_4 v4 r_5) (fun S_6 => ?_)
        refine sm_aload_n (pc := 31) 0 ok dx_Mover_reachedByOneMore_31 rfl ?_
        refine sm_aload_n (pc := 32) 1 ok dx_Mover_reachedByOneMore_32 rfl ?_
        refine sm_aload_n (pc := 33) 2 ok dx_Mover_reachedByOneMore_33 rfl ?_
        refine sm_callV_i (pc := 34) (ci := 3) [.ref ((xw x).2.2 q1), .ref ((xw x).2.2 110)] ok dx_Mover_reachedByOneMore_34 wd_786 mwx_Mover_reached rfl rfl (Nat.le_of_ble_eq_true rfl) (Nat.le_of_ble_eq_true rfl) rfl rfl (Nat.le_of_ble_eq_true rfl) (cx_Mover_reached (sm_okj ok) N S_6 q1 hq1) (fun r_8 S_7 => ?_)
        refine sm_if_eq (pc := 37) 43 ok dx_Mover_reachedByOneMore_37 (by decide) (fun _ => ?_) (fun _ => ?_)
        · refine sm_aload_n (pc := 43) 0 ok dx_Mover_reachedByOneMore_43 rfl ?_
          refine sm_iload (pc := 44) 3 ok dx_Mover_reachedByOneMore_44 rfl ?_
          refine sm_aload_n (pc := 46) 1 ok dx_Mover_reachedByOneMore_46 rfl ?_
          refine sm_callV_v (pc := 47) (ci := 3) [.int v4, .ref ((xw x).2.2 q1)] ok dx_Mover_reachedByOneMore_47 wd_821 mwx_Mover_putBack rfl rfl (Nat.le_of_ble_eq_true rfl) (Nat.le_of_ble_eq_true rfl) rfl rfl (Nat.le_of_ble_eq_true rfl) (cx_Mover_putBack (sm_okj ok) N S_7 v4 q1 hq1) (fun S_9 => ?_)
          exact tx_Mover_reachedByOneMore_b50 ok hr N q1 hq1 ih _ _
        · refine sm_iload (pc := 40) 3 ok dx_Mover_reachedByOneMore_40 rfl ?_
          exact sm_iret (pc := 42) ok dx_Mover_reachedByOneMore_42 hr
set_option maxHeartbeats 4000000 in
set_option maxRecDepth 20000 in
theorem tx_Mover_reachedByOneMore {x : sm_Cx} (ok : sm_Ok x zx_sy prog_5_method_4_code "LentShades$Mover" 5 5 128) (hr : (xh x).sig.returnType = (some .int)) (N : Nat) (S : sm_St) (q1 : Nat) (v3 : Int32) (hq1 : zx_sy.1 q1 = (12, 0)) : sm_Sm x zx_sy prog_5_method_4_code (sm_Q x zx_sy (sm_Pi zx_sy (xw x))) (px_Mover_reachedByOneMore N S q1 v3) S 0 [(0, .ref ((xw x).2.2 132)), (1, .ref ((xw x).2.2 q1)), (2, .ref ((xw x).2.2 110)), (3, .int v3)] [] := by
  unfold px_Mover_reachedByOneMore
  refine sm_iload_n (pc := 0) 3 ok dx_Mover_reachedByOneMore_0 rfl ?_
  refine sm_istore (pc := 1) (i := 4) ok dx_Mover_reachedByOneMore_1 (by decide) (fun v => [(4, .int v), (0, .ref ((xw x).2.2 132)), (1, .ref ((xw x).2.2 q1)), (2, .ref ((xw x).2.2 110)), (3, .int v3)]) (fun _ => rfl) (fun v4_1 => ?_)
  refine sm_lv [1, 2, 3, 0] rfl ?_
  exact tx_Mover_reachedByOneMore_b3 ok hr N q1 hq1 N _ _
theorem cx_Mover_reachedByOneMore {l : Launch} {wc : sm_Wc} (hj : sm_inj zx_sy wc) (N : Nat) (S : sm_St) (q1 : Nat) (v3 : Int32) (hq1 : zx_sy.1 q1 = (12, 0)) : sm_Ct l zx_sy wc yx_Mover_reachedByOneMore prog_5_method_4_code 5 (some .int) 5 128 [.ref (wc.2.2 132), .ref (wc.2.2 q1), .ref (wc.2.2 110), .int v3] S (sm_Pi zx_sy wc) (px_Mover_reachedByOneMore N S q1 v3) :=
  sm_entry (Pq := fun wc => sm_Pi zx_sy wc) (fun wc => [.ref (wc.2.2 132), .ref (wc.2.2 q1), .ref (wc.2.2 110), .int v3]) (lv := fun wc => [(0, .ref (wc.2.2 132)), (1, .ref (wc.2.2 q1)), (2, .ref (wc.2.2 110)), (3, .int v3)]) (by decide) hj zx_ok zx_stb (fun _ => Nat.le_of_ble_eq_true rfl) (fun _ => rfl) (fun x _ ok hr => tx_Mover_reachedByOneMore ok hr N S q1 v3 hq1)
set_option maxHeartbeats 4000000 in
set_option maxRecDepth 20000 in
theorem tx_Mover_search_b126 {x : sm_Cx} (ok : sm_Ok x zx_sy prog_5_method_3_code "LentShades$Mover" 4 6 152) (hr : (xh x).sig.returnType = (some .int)) (N : Nat) (q1 : Nat) (hq1 : zx_sy.1 q1 = (12, 0)) {r66 : Int32 → sm_St → Option (Int32 × sm_St)} (h66 : ∀ (v3 : Int32) (S : sm_St), sm_Sm x zx_sy prog_5_method_3_code (sm_Q x zx_sy (sm_Pi zx_sy (xw x))) (r66 v3 S) S 66 [(0, .ref ((xw x).2.2 132)), (1, .ref ((xw x).2.2 q1)), (2, .ref ((xw x).2.2 110)), (3, .int v3)] []) (v3 : Int32) (S : sm_St) : sm_Sm x zx_sy prog_5_method_3_code (sm_Q x zx_sy (sm_Pi zx_sy (xw x))) (px_Mover_search_b126 N q1 r66 v3 S) S 126 [(0, .ref ((xw x).2.2 132)), (1, .ref ((xw x).2.2 q1)), (2, .ref ((xw x).2.2 110)), (3, .int v3)] [] := by
  unfold px_Mover_search_b126
  refine sm_iinc (pc := 126) (i := 3) 3 (1 : Int32) ok dx_Mover_search_126 rfl zk_1 (by decide) (fun v => [(3, .int v), (0, .ref ((xw x).2.2 132)), (1, .ref ((xw x).2.2 q1)), (2, .ref ((xw x).2.2 110))]) (fun _ => rfl) (fun v3_22 => ?_)
  refine sm_goto (pc := 129) 66 ok dx_Mover_search_129 (by decide) ?_
  refine sm_lv [1, 2, 3, 0] rfl ?_
  exact h66 _ _
set_option maxHeartbeats 4000000 in
set_option maxRecDepth 20000 in
theorem tx_Mover_search_b66 {x : sm_Cx} (ok : sm_Ok x zx_sy prog_5_method_3_code "LentShades$Mover" 4 6 152) (hr : (xh x).sig.returnType = (some .int)) (N : Nat) (q1 : Nat) (hq1 : zx_sy.1 q1 = (12, 0)) : ∀ (n : Nat) (v3 : Int32) (S : sm_St), sm_Sm x zx_sy prog_5_method_3_code (sm_Q x zx_sy (sm_Pi zx_sy (xw x))) (px_Mover_search_b66 N q1 n v3 S) S 66 [(0, .ref ((xw x).2.2 132)), (1, .ref ((xw x).2.2 q1)), (2, .ref ((xw x).2.2 110)), (3, .int v3)] [] := by
  intro n
  induction n with
  | zero =>
    intro v3 S
    exact sm_none
  | succ n ih =>
    intro v3 S
    show sm_Sm x zx_sy prog_5_method_3_code (sm_Q x zx_sy (sm_Pi zx_sy (xw x))) (if (64 : Int32) ≤ v3 then (some ((-1 : Int32), S)) else (sm_b2 (px_Mover_changes N S q1 v3) (fun (r_13 : Int32) (S_12 : sm_St) => if r_13 = 0 then (px_Mover_search_b126 N q1 (px_Mover_search_b66 N q1 n) v3 S_12) else (sm_b2 (px_Mover_hoursOf N S_12 v3) (fun (r_15 : Int32) (S_14 : sm_St) => sm_b1 (px_Mover_put N S_14 v3 r_15) (fun (S_16 : sm_St) => sm_lt (sm_sI S_16 132 5 v3) (fun (S_17 : sm_St) => sm_b2 (px_Mover_reachedByOneMore N S_17 q1 ((v3 ||| (1 : Int32)) + (1 : Int32))) (fun (r_19 : Int32) (S_18 : sm_St) => sm_lt (sm_sI S_18 132 6 r_19) (fun (S_20 : sm_St) => if (S_20.1 132 6) = (-1 : Int32) then (sm_b1 (px_Mover_putBack N S_20 v3 q1) (fun (S_21 : sm_St) => px_Mover_search_b126 N q1 (px_Mover_search_b66 N q1 n) v3 S_21)) else (some ((2 : Int32), S_20))))))))))) S 66 [(0, .ref ((xw x).2.2 132)), (1, .ref ((xw x).2.2 q1)), (2, .ref ((xw x).2.2 110)), (3, .int v3)] []
    refine sm_iload_n (pc := 66) 3 ok dx_Mover_search_66 rfl ?_
    refine sm_bipush (pc := 67) (64 : Int32) ok dx_Mover_search_67 zb_64 ?_
    refine sm_icmp_ge (pc := 69) 132 ok dx_Mover_search_69 (by decide) (fun _ => ?_) (fun _ => ?_)
    · refine sm_iconst (pc := 132) (-1 : Int32) ok dx_Mover_search_132 zk_m1 ?_
      exact sm_iret (pc := 133) ok dx_Mover_search_133 hr
    · refine sm_aload_n (pc := 72) 0 ok dx_Mover_search_72 rfl ?_
      refine sm_aload_n (pc := 73) 1 ok dx_Mover_search_73 rfl ?_
      refine sm_iload_n (pc := 74) 3 ok dx_Mover_search_74 rfl ?_
      refine sm_callV_i (pc := 75) (ci := 3) [.ref ((xw x).2.2 q1), .int v3] ok dx_Mover_search_75 wd_801 mwx_Mover_changes rfl rfl (Nat.le_of_ble_eq_true rfl) (Nat.le_of_ble_eq_true rfl) rfl rfl (Nat.le_of_ble_eq_true rfl) (cx_Mover_changes (sm_okj ok) N S q1 v3 hq1) (fun r_13 S_12 => ?_)
      refine sm_if_eq (pc := 78) 126 ok dx_Mover_search_78 (by decide) (fun _ => ?_) (fun _ => ?_)
      · exact tx_Mover_search_b126 ok hr N q1 hq1 ih _ _
      · refine sm_aload_n (pc := 81) 0 ok dx_Mover_search_81 rfl ?_
        refine sm_iload_n (pc := 82) 3 ok dx_Mover_search_82 rfl ?_
        refine sm_iload_n (pc := 83) 3 ok dx_Mover_search_83 rfl ?_
        refine sm_callS_i (pc := 84) [.int v3] ok dx_Mover_search_84 wd_813 mwx_Mover_hoursOf (Nat.le_of_ble_eq_true rfl) (Nat.le_of_ble_eq_true rfl) rfl rfl (Nat.le_of_ble_eq_true rfl) (cx_Mover_hoursOf (sm_okj ok) N S_12 v3) (fun r_15 S_14 => ?_)
        refine sm_callV_v (pc := 87) (ci := 3) [.int v3, .int r_15] ok dx_Mover_search_87 wd_816 mwx_Mover_put rfl rfl (Nat.le_of_ble_eq_true rfl) (Nat.le_of_ble_eq_true rfl) rfl rfl (Nat.le_of_ble_eq_true rfl) (cx_Mover_put (sm_okj ok) N S_14 v3 r_15) (fun S_16 => ?_)
        refine sm_aload_n (pc := 90) 0 ok dx_Mover_search_90 rfl ?_
        refine sm_iload_n (pc := 91) 3 ok dx_Mover_search_91 rfl ?_
        refine sm_putI (pc := 92) (ci := 3) (k := 5) ok dx_Mover_search_92 rfl rfl zc_i3 zc_y3 zc_t3 zc_n3 (by decide) rfl rfl rfl wd_363 (fun S_17 => ?_)
        refine sm_aload_n (pc := 95) 0 ok dx_Mover_search_95 rfl ?_
        refine sm_aload_n (pc := 96) 0 ok dx_Mover_search_96 rfl ?_
        refine sm_aload_n (pc := 97) 1 ok dx_Mover_search_97 rfl ?_
        refine sm_aload_n (pc := 98) 2 ok dx_Mover_search_98 rfl ?_
        refine sm_iload_n (pc := 99) 3 ok dx_Mover_search_99 rfl ?_
        refine sm_iconst (pc := 100) (1 : Int32) ok dx_Mover_search_100 zk_1 ?_
        refine sm_ior (pc := 101) ok dx_Mover_search_101 ?_
        refine sm_iconst (pc := 102) (1 : Int32) ok dx_Mover_search_102 zk_1 ?_
        refine sm_iadd (pc := 103) ok dx_Mover_search_103 ?_
        refine sm_callV_i (pc := 104) (ci := 3) [.ref ((xw x).2.2 q1), .ref ((xw x).2.2 110), .int ((v3 ||| (1 : Int32)) + (1 : Int32))] ok dx_Mover_search_104 wd_797 mwx_Mover_reachedByOneMore rfl rfl (Nat.le_of_ble_eq_true rfl) (Nat.le_of_ble_eq_true rfl) rfl rfl (Nat.le_of_ble_eq_true rfl) (cx_Mover_reachedByOneMore (sm_okj ok) N S_17 q1 ((v3 ||| (1 : Int32)) + (1 : Int32)) hq1) (fun r_19 S_18 => ?_)
        refine sm_putI (pc := 107) (ci := 3) (k := 6) ok dx_Mover_search_107 rfl rfl zc_i3 zc_y3 zc_t3 zc_n3 (by decide) rfl rfl rfl wd_365 (fun S_20 => ?_)
        refine sm_aload_n (pc := 110) 0 ok dx_Mover_search_110 rfl ?_
        refine sm_getI (pc := 111) (ci := 3) (k := 6) ok dx_Mover_search_111 rfl rfl zc_i3 (by decide) rfl wd_365 ?_
        refine sm_iconst (pc := 114) (-1 : Int32) ok dx_Mover_search_114 zk_m1 ?_
        refine sm_icmp_eq (pc := 115) 120 ok dx_Mover_search_115 (by decide) (fun _ => ?_) (fun _ => ?_)
        · refine sm_aload_n (pc := 120) 0 ok dx_Mover_search_120 rfl ?_
          refine sm_iload_n (pc := 121) 3 ok dx_Mover_search_121 rfl ?_
          refine sm_aload_n (pc := 122) 1 ok dx_Mover_search_122 rfl ?_
          refine sm_callV_v (pc := 123) (ci := 3) [.int v3, .ref ((xw x).2.2 q1)] ok dx_Mover_search_123 wd_821 mwx_Mover_putBack rfl rfl (Nat.le_of_ble_eq_true rfl) (Nat.le_of_ble_eq_true rfl) rfl rfl (Nat.le_of_ble_eq_true rfl) (cx_Mover_putBack (sm_okj ok) N S_20 v3 q1 hq1) (fun S_21 => ?_)
          exact tx_Mover_search_b126 ok hr N q1 hq1 ih _ _
        · refine sm_iconst (pc := 118) (2 : Int32) ok dx_Mover_search_118 zk_2 ?_
          exact sm_iret (pc := 119) ok dx_Mover_search_119 hr
set_option maxHeartbeats 4000000 in
set_option maxRecDepth 20000 in
theorem tx_Mover_search_b2 {x : sm_Cx} (ok : sm_Ok x zx_sy prog_5_method_3_code "LentShades$Mover" 4 6 152) (hr : (xh x).sig.returnType = (some .int)) (N : Nat) (q1 : Nat) (hq1 : zx_sy.1 q1 = (12, 0)) : ∀ (n : Nat) (v3 : Int32) (S : sm_St), sm_Sm x zx_sy prog_5_method_3_code (sm_Q x zx_sy (sm_Pi zx_sy (xw x))) (px_Mover_search_b2 N q1 n v3 S) S 2 [(0, .ref ((xw x).2.2 132)), (1, .ref ((xw x).2.2 q1)), (2, .ref ((xw x).2.2 110)), (3, .int v3)] [] := by
  intro n
  induction n with
  | zero =>
    intro v3 S
    exact sm_none
  | succ n ih =>
    intro v3 S
    show sm_Sm x zx_sy prog_5_method_3_code (sm_Q x zx_sy (sm_Pi zx_sy (xw x))) (if (4 : Int32) ≤ v3 then (sm_b2 (px_Mover_reached N S q1) (fun (r_3 : Int32) (S_2 : sm_St) => if r_3 = 0 then (sm_b2 (px_Mover_reachedByOneMore N S_2 q1 (0 : Int32)) (fun (r_5 : Int32) (S_4 : sm_St) => sm_lt (sm_sI S_4 132 5 r_5) (fun (S_6 : sm_St) => if (S_6.1 132 5) = (-1 : Int32) then (sm_lt (0 : Int32) (fun (v3_7 : Int32) => px_Mover_search_b66 N q1 N v3_7 S_6)) else (some ((1 : Int32), S_6))))) else (some ((0 : Int32), S_2)))) else (if sm_in v3 4 = true then (if sm_in v3 4 = true then (if sm_cpk (0 : Int32) (0 : Int32) (8 : Int32) 8 8 = true then sm_lt (sm_sF S (134 + v3.toNatClampNeg) (va_cpy (S.1 (q1 + 7 + v3.toNatClampNeg)) (S.1 (134 + v3.toNatClampNeg)) (0 : Int32).toNatClampNeg (0 : Int32).toNatClampNeg (8 : Int32).toNatClampNeg)) (fun (S_10 : sm_St) => sm_lt (v3 + (1 : Int32)) (fun (v3_11 : Int32) => (px_Mover_search_b2 N q1 n) v3_11 S_10)) else none) else none) else none)) S 2 [(0, .ref ((xw x).2.2 132)), (1, .ref ((xw x).2.2 q1)), (2, .ref ((xw x).2.2 110)), (3, .int v3)] []
    refine sm_iload_n (pc := 2) 3 ok dx_Mover_search_2 rfl ?_
    refine sm_iconst (pc := 3) (4 : Int32) ok dx_Mover_search_3 zk_4 ?_
    refine sm_icmp_ge (pc := 4) 32 ok dx_Mover_search_4 (by decide) (fun _ => ?_) (fun _ => ?_)
    · refine sm_aload_n (pc := 32) 0 ok dx_Mover_search_32 rfl ?_
      refine sm_aload_n (pc := 33) 1 ok dx_Mover_search_33 rfl ?_
      refine sm_aload_n (pc := 34) 2 ok dx_Mover_search_34 rfl ?_
      refine sm_callV_i (pc := 35) (ci := 3) [.ref ((xw x).2.2 q1), .ref ((xw x).2.2 110)] ok dx_Mover_search_35 wd_786 mwx_Mover_reached rfl rfl (Nat.le_of_ble_eq_true rfl) (Nat.le_of_ble_eq_true rfl) rfl rfl (Nat.le_of_ble_eq_true rfl) (cx_Mover_reached (sm_okj ok) N S q1 hq1) (fun r_3 S_2 => ?_)
      refine sm_if_eq (pc := 38) 43 ok dx_Mover_search_38 (by decide) (fun _ => ?_) (fun _ => ?_)
      · refine sm_aload_n (pc := 43) 0 ok dx_Mover_search_43 rfl ?_
        refine sm_aload_n (pc := 44) 0 ok dx_Mover_search_44 rfl ?_
        refine sm_aload_n (pc := 45) 1 ok dx_Mover_search_45 rfl ?_
        refine sm_aload_n (pc := 46) 2 ok dx_Mover_search_46 rfl ?_
        refine sm_iconst (pc := 47) (0 : Int32) ok dx_Mover_search_47 zk_0 ?_
        refine sm_callV_i (pc := 48) (ci := 3) [.ref ((xw x).2.2 q1), .ref ((xw x).2.2 110), .int (0 : Int32)] ok dx_Mover_search_48 wd_797 mwx_Mover_reachedByOneMore rfl rfl (Nat.le_of_ble_eq_true rfl) (Nat.le_of_ble_eq_true rfl) rfl rfl (Nat.le_of_ble_eq_true rfl) (cx_Mover_reachedByOneMore (sm_okj ok) N S_2 q1 (0 : Int32) hq1) (fun r_5 S_4 => ?_)
        refine sm_putI (pc := 51) (ci := 3) (k := 5) ok dx_Mover_search_51 rfl rfl zc_i3 zc_y3 zc_t3 zc_n3 (by decide) rfl rfl rfl wd_363 (fun S_6 => ?_)
        refine sm_aload_n (pc := 54) 0 ok dx_Mover_search_54 rfl ?_
        refine sm_getI (pc := 55) (ci := 3) (k := 5) ok dx_Mover_search_55 rfl rfl zc_i3 (by decide) rfl wd_363 ?_
        refine sm_iconst (pc := 58) (-1 : Int32) ok dx_Mover_search_58 zk_m1 ?_
        refine sm_icmp_eq (pc := 59) 64 ok dx_Mover_search_59 (by decide) (fun _ => ?_) (fun _ => ?_)
        · refine sm_iconst (pc := 64) (0 : Int32) ok dx_Mover_search_64 zk_0 ?_
          refine sm_istore_n (pc := 65) (i := 3) ok dx_Mover_search_65 rfl (by decide) (fun v => [(3, .int v), (0, .ref ((xw x).2.2 132)), (1, .ref ((xw x).2.2 q1)), (2, .ref ((xw x).2.2 110))]) (fun _ => rfl) (fun v3_7 => ?_)
          refine sm_lv [1, 2, 3, 0] rfl ?_
          exact tx_Mover_search_b66 ok hr N q1 hq1 N _ _
        · refine sm_iconst (pc := 62) (1 : Int32) ok dx_Mover_search_62 zk_1 ?_
          exact sm_iret (pc := 63) ok dx_Mover_search_63 hr
      · refine sm_iconst (pc := 41) (0 : Int32) ok dx_Mover_search_41 zk_0 ?_
        exact sm_iret (pc := 42) ok dx_Mover_search_42 hr
    · refine sm_aload_n (pc := 7) 1 ok dx_Mover_search_7 rfl ?_
      refine sm_getR (pc := 8) (ci := 2) (k := 5) ok dx_Mover_search_8 hq1 rfl zc_i2 (by decide) rfl wd_175 ?_
      refine sm_iload_n (pc := 11) 3 ok dx_Mover_search_11 rfl ?_
      refine sm_aald5 (pc := 12) ok dx_Mover_search_12 (zx_House_6 hq1) (fun hb_8 => ?_)
      refine sm_iconst (pc := 13) (0 : Int32) ok dx_Mover_search_13 zk_0 ?_
      refine sm_aload_n (pc := 14) 0 ok dx_Mover_search_14 rfl ?_
      refine sm_getR (pc := 15) (ci := 3) (k := 0) ok dx_Mover_search_15 rfl rfl zc_i3 (by decide) rfl wd_358 ?_
      refine sm_iload_n (pc := 18) 3 ok dx_Mover_search_18 rfl ?_
      refine sm_aald5 (pc := 19) ok dx_Mover_search_19 rfl (fun hb_9 => ?_)
      refine sm_iconst (pc := 20) (0 : Int32) ok dx_Mover_search_20 zk_0 ?_
      refine sm_bipush (pc := 21) (8 : Int32) ok dx_Mover_search_21 zb_8 ?_
      refine sm_acopy (pc := 23) ok dx_Mover_search_23 wd_785 wd_734 wd_733 wd_118 (zx_hrow6 hq1 hb_8) (zx_rows 133 4 8 (by decide) hb_9) (by decide) (by decide) (by decide) (fun S_10 => ?_)
      refine sm_iinc (pc := 26) (i := 3) 3 (1 : Int32) ok dx_Mover_search_26 rfl zk_1 (by decide) (fun v => [(3, .int v), (0, .ref ((xw x).2.2 132)), (1, .ref ((xw x).2.2 q1)), (2, .ref ((xw x).2.2 110))]) (fun _ => rfl) (fun v3_11 => ?_)
      refine sm_goto (pc := 29) 2 ok dx_Mover_search_29 (by decide) ?_
      refine sm_lv [1, 2, 3, 0] rfl ?_
      exact ih _ _
set_option maxHeartbeats 4000000 in
set_option maxRecDepth 20000 in
theorem tx_Mover_search {x : sm_Cx} (ok : sm_Ok x zx_sy prog_5_method_3_code "LentShades$Mover" 4 6 152) (hr : (xh x).sig.returnType = (some .int)) (N : Nat) (S : sm_St) (q1 : Nat) (hq1 : zx_sy.1 q1 = (12, 0)) : sm_Sm x zx_sy prog_5_method_3_code (sm_Q x zx_sy (sm_Pi zx_sy (xw x))) (px_Mover_search N S q1) S 0 [(0, .ref ((xw x).2.2 132)), (1, .ref ((xw x).2.2 q1)), (2, .ref ((xw x).2.2 110))] [] := by
  unfold px_Mover_search
  refine sm_iconst (pc := 0) (0 : Int32) ok dx_Mover_search_0 zk_0 ?_
  refine sm_istore_n (pc := 1) (i := 3) ok dx_Mover_search_1 rfl (by decide) (fun v => [(3, .int v), (0, .ref ((xw x).2.2 132)), (1, .ref ((xw x).2.2 q1)), (2, .ref ((xw x).2.2 110))]) (fun _ => rfl) (fun v3_1 => ?_)
  refine sm_lv [1, 2, 3, 0] rfl ?_
  exact tx_Mover_search_b2 ok hr N q1 hq1 N _ _
theorem cx_Mover_search {l : Launch} {wc : sm_Wc} (hj : sm_inj zx_sy wc) (N : Nat) (S : sm_St) (q1 : Nat) (hq1 : zx_sy.1 q1 = (12, 0)) : sm_Ct l zx_sy wc yx_Mover_search prog_5_method_3_code 4 (some .int) 6 152 [.ref (wc.2.2 132), .ref (wc.2.2 q1), .ref (wc.2.2 110)] S (sm_Pi zx_sy wc) (px_Mover_search N S q1) :=
  sm_entry (Pq := fun wc => sm_Pi zx_sy wc) (fun wc => [.ref (wc.2.2 132), .ref (wc.2.2 q1), .ref (wc.2.2 110)]) (lv := fun wc => [(0, .ref (wc.2.2 132)), (1, .ref (wc.2.2 q1)), (2, .ref (wc.2.2 110))]) (by decide) hj zx_ok zx_stb (fun _ => Nat.le_of_ble_eq_true rfl) (fun _ => rfl) (fun x _ ok hr => tx_Mover_search ok hr N S q1 hq1)
set_option maxHeartbeats 4000000 in
set_option maxRecDepth 20000 in
theorem tx_Mover_told {x : sm_Cx} (ok : sm_Ok x zx_sy prog_5_method_12_code "LentShades$Mover" 2 1 20) (hr : (xh x).sig.returnType = (some .int)) (N : Nat) (S : sm_St) (v1 : Int32) : sm_Sm x zx_sy prog_5_method_12_code (sm_Q x zx_sy (sm_Pi zx_sy (xw x))) (px_Mover_told N S v1) S 0 [(0, .ref ((xw x).2.2 132)), (1, .int v1)] [] := by
  unfold px_Mover_told
  refine sm_sipush (pc := 0) (1000 : Int32) ok dx_Mover_told_0 zs_1000 ?_
  refine sm_iload_n (pc := 3) 1 ok dx_Mover_told_3 rfl ?_
  refine sm_callS_i (pc := 4) [.int v1] ok dx_Mover_told_4 wd_805 mwx_Mover_lesser (Nat.le_of_ble_eq_true rfl) (Nat.le_of_ble_eq_true rfl) rfl rfl (Nat.le_of_ble_eq_true rfl) (cx_Mover_lesser (sm_okj ok) N S v1) (fun r_2 S_1 => ?_)
  refine sm_imul (pc := 7) ok dx_Mover_told_7 ?_
  refine sm_bipush (pc := 8) (100 : Int32) ok dx_Mover_told_8 zb_100 ?_
  refine sm_iload_n (pc := 10) 1 ok dx_Mover_told_10 rfl ?_
  refine sm_callS_i (pc := 11) [.int v1] ok dx_Mover_told_11 wd_808 mwx_Mover_other (Nat.le_of_ble_eq_true rfl) (Nat.le_of_ble_eq_true rfl) rfl rfl (Nat.le_of_ble_eq_true rfl) (cx_Mover_other (sm_okj ok) N S_1 v1) (fun r_4 S_3 => ?_)
  refine sm_imul (pc := 14) ok dx_Mover_told_14 ?_
  refine sm_iadd (pc := 15) ok dx_Mover_told_15 ?_
  refine sm_iload_n (pc := 16) 1 ok dx_Mover_told_16 rfl ?_
  refine sm_callS_i (pc := 17) [.int v1] ok dx_Mover_told_17 wd_813 mwx_Mover_hoursOf (Nat.le_of_ble_eq_true rfl) (Nat.le_of_ble_eq_true rfl) rfl rfl (Nat.le_of_ble_eq_true rfl) (cx_Mover_hoursOf (sm_okj ok) N S_3 v1) (fun r_6 S_5 => ?_)
  refine sm_iadd (pc := 20) ok dx_Mover_told_20 ?_
  exact sm_iret (pc := 21) ok dx_Mover_told_21 hr
theorem cx_Mover_told {l : Launch} {wc : sm_Wc} (hj : sm_inj zx_sy wc) (N : Nat) (S : sm_St) (v1 : Int32) : sm_Ct l zx_sy wc yx_Mover_told prog_5_method_12_code 2 (some .int) 1 20 [.ref (wc.2.2 132), .int v1] S (sm_Pi zx_sy wc) (px_Mover_told N S v1) :=
  sm_entry (Pq := fun wc => sm_Pi zx_sy wc) (fun wc => [.ref (wc.2.2 132), .int v1]) (lv := fun wc => [(0, .ref (wc.2.2 132)), (1, .int v1)]) (by decide) hj zx_ok zx_stb (fun _ => Nat.le_of_ble_eq_true rfl) (fun _ => rfl) (fun x _ ok hr => tx_Mover_told ok hr N S v1)
set_option maxHeartbeats 4000000 in
set_option maxRecDepth 20000 in
theorem tx_L_moves_b59 {x : sm_Cx} (ok : sm_Ok x zx_sy prog_1_method_14_code "LentShades" 8 7 175) (hr : (xh x).sig.returnType = (some .int)) (N : Nat) (S : sm_St) : sm_Sm x zx_sy prog_1_method_14_code (sm_Q x zx_sy (sm_Pi zx_sy (xw x))) (px_L_moves_b59 N S) S 59 [(0, .ref ((xw x).2.2 0))] [] := by
  unfold px_L_moves_b59
  refine sm_aload_n (pc := 59) 0 ok dx_L_moves_59 rfl ?_
  refine sm_callV_i (pc := 60) (ci := 9) [] ok dx_L_moves_60 wd_450 mwx_L_refusedBad rfl rfl (Nat.le_of_ble_eq_true rfl) (Nat.le_of_ble_eq_true rfl) rfl rfl (Nat.le_of_ble_eq_true rfl) (cx_L_refusedBad (sm_okj ok) N S) (fun r_15 S_14 => ?_)
  refine sm_pop (pc := 63) ok dx_L_moves_63 rfl ?_
  refine sm_bipush (pc := 64) (-10 : Int32) ok dx_L_moves_64 zb_m10 ?_
  exact sm_iret (pc := 66) ok dx_L_moves_66 hr
set_option maxHeartbeats 4000000 in
set_option maxRecDepth 20000 in
theorem tx_L_moves_b31 {x : sm_Cx} (ok : sm_Ok x zx_sy prog_1_method_14_code "LentShades" 8 7 175) (hr : (xh x).sig.returnType = (some .int)) (N : Nat) (v1 : Int32) (v2 : Int32) (v3 : Int32) (v4 : Int32) (v5 : Int32) (s0 : Int32) (S : sm_St) : sm_Sm x zx_sy prog_1_method_14_code (sm_Q x zx_sy (sm_Pi zx_sy (xw x))) (px_L_moves_b31 N v1 v2 v3 v4 v5 s0 S) S 31 [(0, .ref ((xw x).2.2 0)), (1, .int v1), (2, .int v2), (3, .int v3), (4, .int v4), (5, .int v5)] [.int s0] := by
  unfold px_L_moves_b31
  refine sm_istore (pc := 31) (i := 6) ok dx_L_moves_31 (by decide) (fun v => [(6, .int v), (0, .ref ((xw x).2.2 0)), (1, .int v1), (2, .int v2), (3, .int v3), (4, .int v4), (5, .int v5)]) (fun _ => rfl) (fun v6_3 => ?_)
  refine sm_iload (pc := 33) 0 ok dx_L_moves_33 rfl ?_
  refine sm_if_eq (pc := 35) 59 ok dx_L_moves_35 (by decide) (fun _ => ?_) (fun _ => ?_)
  · refine sm_lv [1] rfl ?_
    exact tx_L_moves_b59 ok hr N _
  · refine sm_iload (pc := 38) 5 ok dx_L_moves_38 rfl ?_
    refine sm_iconst (pc := 40) (1 : Int32) ok dx_L_moves_40 zk_1 ?_
    refine sm_icmp_lt (pc := 41) 59 ok dx_L_moves_41 (by decide) (fun _ => ?_) (fun _ => ?_)
    · refine sm_lv [1] rfl ?_
      exact tx_L_moves_b59 ok hr N _
    · refine sm_iload (pc := 44) 5 ok dx_L_moves_44 rfl ?_
      refine sm_iconst (pc := 46) (3 : Int32) ok dx_L_moves_46 zk_3 ?_
      refine sm_icmp_gt (pc := 47) 59 ok dx_L_moves_47 (by decide) (fun _ => ?_) (fun _ => ?_)
      · refine sm_lv [1] rfl ?_
        exact tx_L_moves_b59 ok hr N _
      · refine sm_iload (pc := 50) 6 ok dx_L_moves_50 rfl ?_
        refine sm_iconst (pc := 52) (2 : Int32) ok dx_L_moves_52 zk_2 ?_
        refine sm_callS_i (pc := 53) [.int v5, .int (2 : Int32)] ok dx_L_moves_53 wd_447 mwx_L_within (Nat.le_of_ble_eq_true rfl) (Nat.le_of_ble_eq_true rfl) rfl rfl (Nat.le_of_ble_eq_true rfl) (cx_L_within (sm_okj ok) N S v5 (2 : Int32)) (fun r_5 S_4 => ?_)
        refine sm_if_ne (pc := 56) 67 ok dx_L_moves_56 (by decide) (fun _ => ?_) (fun _ => ?_)
        · refine sm_aload_n (pc := 67) 1 ok dx_L_moves_67 rfl ?_
          refine sm_getR (pc := 68) (ci := 9) (k := 8) ok dx_L_moves_68 rfl rfl zc_i9 (by decide) rfl wd_408 ?_
          refine sm_iload_n (pc := 71) 2 ok dx_L_moves_71 rfl ?_
          refine sm_iload_n (pc := 72) 3 ok dx_L_moves_72 rfl ?_
          refine sm_iload_n (pc := 73) 4 ok dx_L_moves_73 rfl ?_
          refine sm_iload (pc := 74) 5 ok dx_L_moves_74 rfl ?_
          refine sm_callV_v (pc := 76) (ci := 3) [.int v1, .int v2, .int v3, .int v4] ok dx_L_moves_76 wd_777 mwx_Mover_aim rfl rfl (Nat.le_of_ble_eq_true rfl) (Nat.le_of_ble_eq_true rfl) rfl rfl (Nat.le_of_ble_eq_true rfl) (cx_Mover_aim (sm_okj ok) N S_4 v1 v2 v3 v4) (fun S_6 => ?_)
          refine sm_aload_n (pc := 79) 1 ok dx_L_moves_79 rfl ?_
          refine sm_getR (pc := 80) (ci := 9) (k := 8) ok dx_L_moves_80 rfl rfl zc_i9 (by decide) rfl wd_408 ?_
          refine sm_aload_n (pc := 83) 1 ok dx_L_moves_83 rfl ?_
          refine sm_getR (pc := 84) (ci := 9) (k := 0) ok dx_L_moves_84 rfl rfl zc_i9 (by decide) rfl wd_400 ?_
          refine sm_aload_n (pc := 87) 1 ok dx_L_moves_87 rfl ?_
          refine sm_getR (pc := 88) (ci := 9) (k := 6) ok dx_L_moves_88 rfl rfl zc_i9 (by decide) rfl wd_406 ?_
          refine sm_callV_i (pc := 91) (ci := 3) [.ref ((xw x).2.2 1), .ref ((xw x).2.2 110)] ok dx_L_moves_91 wd_781 mwx_Mover_search rfl rfl (Nat.le_of_ble_eq_true rfl) (Nat.le_of_ble_eq_true rfl) rfl rfl (Nat.le_of_ble_eq_true rfl) (cx_Mover_search (sm_okj ok) N S_6 1 rfl) (fun r_8 S_7 => ?_)
          refine sm_istore (pc := 94) (i := 7) ok dx_L_moves_94 (by decide) (fun v => [(7, .int v), (6, .int v6_3), (0, .ref ((xw x).2.2 0)), (1, .int v1), (2, .int v2), (3, .int v3), (4, .int v4), (5, .int v5)]) (fun _ => rfl) (fun v7_9 => ?_)
          refine sm_iload (pc := 96) 0 ok dx_L_moves_96 rfl ?_
          refine sm_iconst (pc := 98) (-1 : Int32) ok dx_L_moves_98 zk_m1 ?_
          refine sm_icmp_eq (pc := 99) 107 ok dx_L_moves_99 (by decide) (fun _ => ?_) (fun _ => ?_)
          · refine sm_iload (pc := 107) 0 ok dx_L_moves_107 rfl ?_
            exact sm_iret (pc := 109) ok dx_L_moves_109 hr
          · refine sm_iload (pc := 102) 7 ok dx_L_moves_102 rfl ?_
            refine sm_if_ne (pc := 104) 110 ok dx_L_moves_104 (by decide) (fun _ => ?_) (fun _ => ?_)
            · refine sm_iload (pc := 110) 7 ok dx_L_moves_110 rfl ?_
              refine sm_iload (pc := 112) 0 ok dx_L_moves_112 rfl ?_
              refine sm_icmp_le (pc := 114) 120 ok dx_L_moves_114 (by decide) (fun _ => ?_) (fun _ => ?_)
              · refine sm_iload (pc := 120) 7 ok dx_L_moves_120 rfl ?_
                refine sm_iconst (pc := 122) (1 : Int32) ok dx_L_moves_122 zk_1 ?_
                refine sm_icmp_ne (pc := 123) 143 ok dx_L_moves_123 (by decide) (fun _ => ?_) (fun _ => ?_)
                · refine sm_aload_n (pc := 143) 2 ok dx_L_moves_143 rfl ?_
                  refine sm_getR (pc := 144) (ci := 9) (k := 8) ok dx_L_moves_144 rfl rfl zc_i9 (by decide) rfl wd_408 ?_
                  refine sm_aload_n (pc := 147) 2 ok dx_L_moves_147 rfl ?_
                  refine sm_getR (pc := 148) (ci := 9) (k := 8) ok dx_L_moves_148 rfl rfl zc_i9 (by decide) rfl wd_408 ?_
                  refine sm_getI (pc := 151) (ci := 3) (k := 6) ok dx_L_moves_151 rfl rfl zc_i3 (by decide) rfl wd_366 ?_
                  refine sm_callV_i (pc := 154) (ci := 3) [.int (S_7.1 132 6)] ok dx_L_moves_154 wd_825 mwx_Mover_told rfl rfl (Nat.le_of_ble_eq_true rfl) (Nat.le_of_ble_eq_true rfl) rfl rfl (Nat.le_of_ble_eq_true rfl) (cx_Mover_told (sm_okj ok) N S_7 (S_7.1 132 6)) (fun r_11 S_10 => ?_)
                  exact sm_iret (pc := 157) ok dx_L_moves_157 hr
                · refine sm_aload_n (pc := 126) 2 ok dx_L_moves_126 rfl ?_
                  refine sm_getR (pc := 127) (ci := 9) (k := 8) ok dx_L_moves_127 rfl rfl zc_i9 (by decide) rfl wd_408 ?_
                  refine sm_aload_n (pc := 130) 2 ok dx_L_moves_130 rfl ?_
                  refine sm_getR (pc := 131) (ci := 9) (k := 8) ok dx_L_moves_131 rfl rfl zc_i9 (by decide) rfl wd_408 ?_
                  refine sm_getI (pc := 134) (ci := 3) (k := 5) ok dx_L_moves_134 rfl rfl zc_i3 (by decide) rfl wd_364 ?_
                  refine sm_callV_i (pc := 137) (ci := 3) [.int (S_7.1 132 5)] ok dx_L_moves_137 wd_825 mwx_Mover_told rfl rfl (Nat.le_of_ble_eq_true rfl) (Nat.le_of_ble_eq_true rfl) rfl rfl (Nat.le_of_ble_eq_true rfl) (cx_Mover_told (sm_okj ok) N S_7 (S_7.1 132 5)) (fun r_13 S_12 => ?_)
                  refine sm_goto (pc := 140) 157 ok dx_L_moves_140 (by decide) ?_
                  exact sm_iret (pc := 157) ok dx_L_moves_157 hr
              · refine sm_bipush (pc := 117) (-5 : Int32) ok dx_L_moves_117 zb_m5 ?_
                exact sm_iret (pc := 119) ok dx_L_moves_119 hr
            · refine sm_iload (pc := 107) 0 ok dx_L_moves_107 rfl ?_
              exact sm_iret (pc := 109) ok dx_L_moves_109 hr
        · refine sm_lv [1] rfl ?_
          exact tx_L_moves_b59 ok hr N _
set_option maxHeartbeats 4000000 in
set_option maxRecDepth 20000 in
theorem tx_L_moves_b30 {x : sm_Cx} (ok : sm_Ok x zx_sy prog_1_method_14_code "LentShades" 8 7 175) (hr : (xh x).sig.returnType = (some .int)) (N : Nat) (v1 : Int32) (v2 : Int32) (v3 : Int32) (v4 : Int32) (v5 : Int32) (S : sm_St) : sm_Sm x zx_sy prog_1_method_14_code (sm_Q x zx_sy (sm_Pi zx_sy (xw x))) (px_L_moves_b30 N v1 v2 v3 v4 v5 S) S 30 [(0, .ref ((xw x).2.2 0)), (1, .int v1), (2, .int v2), (3, .int v3), (4, .int v4), (5, .int v5)] [] := by
  unfold px_L_moves_b30
  refine sm_iconst (pc := 30) (0 : Int32) ok dx_L_moves_30 zk_0 ?_
  exact tx_L_moves_b31 ok hr N _ _ _ _ _ _ _
set_option maxHeartbeats 4000000 in
set_option maxRecDepth 20000 in
theorem tx_L_moves {x : sm_Cx} (ok : sm_Ok x zx_sy prog_1_method_14_code "LentShades" 8 7 175) (hr : (xh x).sig.returnType = (some .int)) (N : Nat) (S : sm_St) (v1 : Int32) (v2 : Int32) (v3 : Int32) (v4 : Int32) (v5 : Int32) : sm_Sm x zx_sy prog_1_method_14_code (sm_Q x zx_sy (sm_Pi zx_sy (xw x))) (px_L_moves N S v1 v2 v3 v4 v5) S 0 [(0, .ref ((xw x).2.2 0)), (1, .int v1), (2, .int v2), (3, .int v3), (4, .int v4), (5, .int v5)] [] := by
  unfold px_L_moves
  refine sm_aload_n (pc := 0) 0 ok dx_L_moves_0 rfl ?_
  refine sm_getR (pc := 1) (ci := 9) (k := 0) ok dx_L_moves_1 rfl rfl zc_i9 (by decide) rfl wd_400 ?_
  refine sm_iload_n (pc := 4) 1 ok dx_L_moves_4 rfl ?_
  refine sm_callV_i (pc := 5) (ci := 2) [.int v1] ok dx_L_moves_5 wd_630 mwx_House_hasCloth rfl rfl (Nat.le_of_ble_eq_true rfl) (Nat.le_of_ble_eq_true rfl) rfl rfl (Nat.le_of_ble_eq_true rfl) (cx_House_hasCloth (sm_okj ok) N S 1 v1 rfl) (fun r_2 S_1 => ?_)
  refine sm_if_eq (pc := 8) 30 ok dx_L_moves_8 (by decide) (fun _ => ?_) (fun _ => ?_)
  · exact tx_L_moves_b30 ok hr N _ _ _ _ _ _
  · refine sm_iload_n (pc := 11) 2 ok dx_L_moves_11 rfl ?_
    refine sm_if_lt (pc := 12) 30 ok dx_L_moves_12 (by decide) (fun _ => ?_) (fun _ => ?_)
    · exact tx_L_moves_b30 ok hr N _ _ _ _ _ _
    · refine sm_iload_n (pc := 15) 2 ok dx_L_moves_15 rfl ?_
      refine sm_iload_n (pc := 16) 3 ok dx_L_moves_16 rfl ?_
      refine sm_icmp_gt (pc := 17) 30 ok dx_L_moves_17 (by decide) (fun _ => ?_) (fun _ => ?_)
      · exact tx_L_moves_b30 ok hr N _ _ _ _ _ _
      · refine sm_iload_n (pc := 20) 3 ok dx_L_moves_20 rfl ?_
        refine sm_bipush (pc := 21) (12 : Int32) ok dx_L_moves_21 zb_12 ?_
        refine sm_icmp_gt (pc := 23) 30 ok dx_L_moves_23 (by decide) (fun _ => ?_) (fun _ => ?_)
        · exact tx_L_moves_b30 ok hr N _ _ _ _ _ _
        · refine sm_iconst (pc := 26) (1 : Int32) ok dx_L_moves_26 zk_1 ?_
          refine sm_goto (pc := 27) 31 ok dx_L_moves_27 (by decide) ?_
          exact tx_L_moves_b31 ok hr N _ _ _ _ _ _ _
theorem cx_L_moves {l : Launch} {wc : sm_Wc} (hj : sm_inj zx_sy wc) (N : Nat) (S : sm_St) (v1 : Int32) (v2 : Int32) (v3 : Int32) (v4 : Int32) (v5 : Int32) : sm_Ct l zx_sy wc yx_L_moves prog_1_method_14_code 8 (some .int) 7 175 [.ref (wc.2.2 0), .int v1, .int v2, .int v3, .int v4, .int v5] S (sm_Pi zx_sy wc) (px_L_moves N S v1 v2 v3 v4 v5) :=
  sm_entry (Pq := fun wc => sm_Pi zx_sy wc) (fun wc => [.ref (wc.2.2 0), .int v1, .int v2, .int v3, .int v4, .int v5]) (lv := fun wc => [(0, .ref (wc.2.2 0)), (1, .int v1), (2, .int v2), (3, .int v3), (4, .int v4), (5, .int v5)]) (by decide) hj zx_ok zx_stb (fun _ => Nat.le_of_ble_eq_true rfl) (fun _ => rfl) (fun x _ ok hr => tx_L_moves ok hr N S v1 v2 v3 v4 v5)
set_option maxHeartbeats 4000000 in
set_option maxRecDepth 20000 in
theorem tx_L_bound_b26 {x : sm_Cx} (ok : sm_Ok x zx_sy prog_1_method_15_code "LentShades" 4 1 21) (hr : (xh x).sig.returnType = (some .int)) (N : Nat) (S : sm_St) : sm_Sm x zx_sy prog_1_method_15_code (sm_Q x zx_sy (sm_Pi zx_sy (xw x))) (px_L_bound_b26 N S) S 26 [(0, .ref ((xw x).2.2 0))] [] := by
  unfold px_L_bound_b26
  refine sm_aload_n (pc := 26) 0 ok dx_L_bound_26 rfl ?_
  refine sm_callV_i (pc := 27) (ci := 9) [] ok dx_L_bound_27 wd_450 mwx_L_refusedBad rfl rfl (Nat.le_of_ble_eq_true rfl) (Nat.le_of_ble_eq_true rfl) rfl rfl (Nat.le_of_ble_eq_true rfl) (cx_L_refusedBad (sm_okj ok) N S) (fun r_6 S_5 => ?_)
  exact sm_iret (pc := 30) ok dx_L_bound_30 hr
set_option maxHeartbeats 4000000 in
set_option maxRecDepth 20000 in
theorem tx_L_bound {x : sm_Cx} (ok : sm_Ok x zx_sy prog_1_method_15_code "LentShades" 4 1 21) (hr : (xh x).sig.returnType = (some .int)) (N : Nat) (S : sm_St) (v1 : Int32) (v2 : Int32) (v3 : Int32) : sm_Sm x zx_sy prog_1_method_15_code (sm_Q x zx_sy (sm_Pi zx_sy (xw x))) (px_L_bound N S v1 v2 v3) S 0 [(0, .ref ((xw x).2.2 0)), (1, .int v1), (2, .int v2), (3, .int v3)] [] := by
  unfold px_L_bound
  refine sm_aload_n (pc := 0) 0 ok dx_L_bound_0 rfl ?_
  refine sm_getR (pc := 1) (ci := 9) (k := 0) ok dx_L_bound_1 rfl rfl zc_i9 (by decide) rfl wd_400 ?_
  refine sm_iload_n (pc := 4) 1 ok dx_L_bound_4 rfl ?_
  refine sm_callV_i (pc := 5) (ci := 2) [.int v1] ok dx_L_bound_5 wd_630 mwx_House_hasCloth rfl rfl (Nat.le_of_ble_eq_true rfl) (Nat.le_of_ble_eq_true rfl) rfl rfl (Nat.le_of_ble_eq_true rfl) (cx_House_hasCloth (sm_okj ok) N S 1 v1 rfl) (fun r_2 S_1 => ?_)
  refine sm_if_eq (pc := 8) 26 ok dx_L_bound_8 (by decide) (fun _ => ?_) (fun _ => ?_)
  · refine sm_lv [0] rfl ?_
    exact tx_L_bound_b26 ok hr N _
  · refine sm_iload_n (pc := 11) 2 ok dx_L_bound_11 rfl ?_
    refine sm_if_lt (pc := 12) 26 ok dx_L_bound_12 (by decide) (fun _ => ?_) (fun _ => ?_)
    · refine sm_lv [0] rfl ?_
      exact tx_L_bound_b26 ok hr N _
    · refine sm_iload_n (pc := 15) 2 ok dx_L_bound_15 rfl ?_
      refine sm_iload_n (pc := 16) 3 ok dx_L_bound_16 rfl ?_
      refine sm_icmp_gt (pc := 17) 26 ok dx_L_bound_17 (by decide) (fun _ => ?_) (fun _ => ?_)
      · refine sm_lv [0] rfl ?_
        exact tx_L_bound_b26 ok hr N _
      · refine sm_iload_n (pc := 20) 3 ok dx_L_bound_20 rfl ?_
        refine sm_bipush (pc := 21) (12 : Int32) ok dx_L_bound_21 zb_12 ?_
        refine sm_icmp_le (pc := 23) 31 ok dx_L_bound_23 (by decide) (fun _ => ?_) (fun _ => ?_)
        · refine sm_aload_n (pc := 31) 0 ok dx_L_bound_31 rfl ?_
          refine sm_getR (pc := 32) (ci := 9) (k := 0) ok dx_L_bound_32 rfl rfl zc_i9 (by decide) rfl wd_400 ?_
          refine sm_getR (pc := 35) (ci := 2) (k := 2) ok dx_L_bound_35 rfl rfl zc_i2 (by decide) rfl wd_166 ?_
          refine sm_iload_n (pc := 38) 1 ok dx_L_bound_38 rfl ?_
          refine sm_iload_n (pc := 39) 2 ok dx_L_bound_39 rfl ?_
          refine sm_iast (pc := 40) ok dx_L_bound_40 rfl (fun S_3 => ?_)
          refine sm_aload_n (pc := 41) 0 ok dx_L_bound_41 rfl ?_
          refine sm_getR (pc := 42) (ci := 9) (k := 0) ok dx_L_bound_42 rfl rfl zc_i9 (by decide) rfl wd_400 ?_
          refine sm_getR (pc := 45) (ci := 2) (k := 3) ok dx_L_bound_45 rfl rfl zc_i2 (by decide) rfl wd_169 ?_
          refine sm_iload_n (pc := 48) 1 ok dx_L_bound_48 rfl ?_
          refine sm_iload_n (pc := 49) 3 ok dx_L_bound_49 rfl ?_
          refine sm_iast (pc := 50) ok dx_L_bound_50 rfl (fun S_4 => ?_)
          refine sm_iconst (pc := 51) (1 : Int32) ok dx_L_bound_51 zk_1 ?_
          exact sm_iret (pc := 52) ok dx_L_bound_52 hr
        · refine sm_lv [0] rfl ?_
          exact tx_L_bound_b26 ok hr N _
theorem cx_L_bound {l : Launch} {wc : sm_Wc} (hj : sm_inj zx_sy wc) (N : Nat) (S : sm_St) (v1 : Int32) (v2 : Int32) (v3 : Int32) : sm_Ct l zx_sy wc yx_L_bound prog_1_method_15_code 4 (some .int) 1 21 [.ref (wc.2.2 0), .int v1, .int v2, .int v3] S (sm_Pi zx_sy wc) (px_L_bound N S v1 v2 v3) :=
  sm_entry (Pq := fun wc => sm_Pi zx_sy wc) (fun wc => [.ref (wc.2.2 0), .int v1, .int v2, .int v3]) (lv := fun wc => [(0, .ref (wc.2.2 0)), (1, .int v1), (2, .int v2), (3, .int v3)]) (by decide) hj zx_ok zx_stb (fun _ => Nat.le_of_ble_eq_true rfl) (fun _ => rfl) (fun x _ ok hr => tx_L_bound ok hr N S v1 v2 v3)
set_option maxHeartbeats 4000000 in
set_option maxRecDepth 20000 in
theorem tx_Chest_lay_b10 {x : sm_Cx} (ok : sm_Ok x zx_sy prog_2_method_3_code "LentShades$Chest" 6 0 0) (hr : (xh x).sig.returnType = (some .boolean)) (N : Nat) : ∀ (n : Nat) (v2 : Int32) (v3 : Int32) (v4 : Int32) (v5 : Int32) (S : sm_St), sm_Sm x zx_sy prog_2_method_3_code (sm_Q x zx_sy (sm_Pi zx_sy (xw x))) (px_Chest_lay_b10 N n v2 v3 v4 v5 S) S 10 [(0, .ref ((xw x).2.2 138)), (2, .int v2), (3, .int v3), (4, .int v4), (5, .int v5)] [] := by
  intro n
  induction n with
  | zero =>
    intro v2 v3 v4 v5 S
    exact sm_none
  | succ n ih =>
    intro v2 v3 v4 v5 S
    show sm_Sm x zx_sy prog_2_method_3_code (sm_Q x zx_sy (sm_Pi zx_sy (xw x))) (if v5 < 0 then (if v4 = (((1 : Int32) <<< (v2 &&& 31)) - (1 : Int32)) then (some ((1 : Int32), S)) else (some ((0 : Int32), S))) else (if v2 = 0 then none else (if sm_in v5 4 = true then sm_lt (sm_sI S 144 v5.toNatClampNeg (v3 - v3 / v2 * v2)) (fun (S_4 : sm_St) => if v2 = 0 then none else (sm_lt (v3 / v2) (fun (v3_5 : Int32) => if sm_in v5 4 = true then (sm_lt (v4 ||| ((1 : Int32) <<< ((S_4.1 144 v5.toNatClampNeg) &&& 31))) (fun (v4_6 : Int32) => sm_lt (v5 + (-1 : Int32)) (fun (v5_7 : Int32) => (px_Chest_lay_b10 N n) v2 v3_5 v4_6 v5_7 S_4))) else none))) else none))) S 10 [(0, .ref ((xw x).2.2 138)), (2, .int v2), (3, .int v3), (4, .int v4), (5, .int v5)] []
    refine sm_iload (pc := 10) 4 ok dx_Chest_lay_10 rfl ?_
    refine sm_if_lt (pc := 12) 49 ok dx_Chest_lay_12 (by decide) (fun _ => ?_) (fun _ => ?_)
    · refine sm_iload (pc := 49) 3 ok dx_Chest_lay_49 rfl ?_
      refine sm_iconst (pc := 51) (1 : Int32) ok dx_Chest_lay_51 zk_1 ?_
      refine sm_iload_n (pc := 52) 1 ok dx_Chest_lay_52 rfl ?_
      refine sm_ishl (pc := 53) ok dx_Chest_lay_53 ?_
      refine sm_iconst (pc := 54) (1 : Int32) ok dx_Chest_lay_54 zk_1 ?_
      refine sm_isub (pc := 55) ok dx_Chest_lay_55 ?_
      refine sm_icmp_ne (pc := 56) 63 ok dx_Chest_lay_56 (by decide) (fun _ => ?_) (fun _ => ?_)
      · refine sm_iconst (pc := 63) (0 : Int32) ok dx_Chest_lay_63 zk_0 ?_
        exact sm_zret (pc := 64) ok dx_Chest_lay_64 hr rfl
      · refine sm_iconst (pc := 59) (1 : Int32) ok dx_Chest_lay_59 zk_1 ?_
        refine sm_goto (pc := 60) 64 ok dx_Chest_lay_60 (by decide) ?_
        exact sm_zret (pc := 64) ok dx_Chest_lay_64 hr rfl
    · refine sm_aload_n (pc := 15) 0 ok dx_Chest_lay_15 rfl ?_
      refine sm_getR (pc := 16) (ci := 0) (k := 1) ok dx_Chest_lay_16 rfl rfl zc_i0 (by decide) rfl wd_390 ?_
      refine sm_iload (pc := 19) 4 ok dx_Chest_lay_19 rfl ?_
      refine sm_iload_n (pc := 21) 2 ok dx_Chest_lay_21 rfl ?_
      refine sm_iload_n (pc := 22) 1 ok dx_Chest_lay_22 rfl ?_
      refine sm_irem (pc := 23) ok dx_Chest_lay_23 ?_
      refine sm_iast (pc := 24) ok dx_Chest_lay_24 rfl (fun S_4 => ?_)
      refine sm_iload_n (pc := 25) 2 ok dx_Chest_lay_25 rfl ?_
      refine sm_iload_n (pc := 26) 1 ok dx_Chest_lay_26 rfl ?_
      refine sm_idiv (pc := 27) ok dx_Chest_lay_27 ?_
      refine sm_istore_n (pc := 28) (i := 3) ok dx_Chest_lay_28 rfl (by decide) (fun v => [(3, .int v), (0, .ref ((xw x).2.2 138)), (2, .int v2), (4, .int v4), (5, .int v5)]) (fun _ => rfl) (fun v3_5 => ?_)
      refine sm_iload (pc := 29) 3 ok dx_Chest_lay_29 rfl ?_
      refine sm_iconst (pc := 31) (1 : Int32) ok dx_Chest_lay_31 zk_1 ?_
      refine sm_aload_n (pc := 32) 1 ok dx_Chest_lay_32 rfl ?_
      refine sm_getR (pc := 33) (ci := 0) (k := 1) ok dx_Chest_lay_33 rfl rfl zc_i0 (by decide) rfl wd_390 ?_
      refine sm_iload (pc := 36) 4 ok dx_Chest_lay_36 rfl ?_
      refine sm_iald (pc := 38) ok dx_Chest_lay_38 rfl ?_
      refine sm_ishl (pc := 39) ok dx_Chest_lay_39 ?_
      refine sm_ior (pc := 40) ok dx_Chest_lay_40 ?_
      refine sm_istore (pc := 41) (i := 4) ok dx_Chest_lay_41 (by decide) (fun v => [(4, .int v), (3, .int v3_5), (0, .ref ((xw x).2.2 138)), (2, .int v2), (5, .int v5)]) (fun _ => rfl) (fun v4_6 => ?_)
      refine sm_iinc (pc := 43) (i := 5) 4 (-1 : Int32) ok dx_Chest_lay_43 rfl zk_m1 (by decide) (fun v => [(5, .int v), (4, .int v4_6), (3, .int v3_5), (0, .ref ((xw x).2.2 138)), (2, .int v2)]) (fun _ => rfl) (fun v5_7 => ?_)
      refine sm_goto (pc := 46) 10 ok dx_Chest_lay_46 (by decide) ?_
      refine sm_lv [3, 4, 2, 1, 0] rfl ?_
      exact ih _ _ _ _ _
set_option maxHeartbeats 4000000 in
set_option maxRecDepth 20000 in
theorem tx_Chest_lay {x : sm_Cx} (ok : sm_Ok x zx_sy prog_2_method_3_code "LentShades$Chest" 6 0 0) (hr : (xh x).sig.returnType = (some .boolean)) (N : Nat) (S : sm_St) (v1 : Int32) (v2 : Int32) : sm_Sm x zx_sy prog_2_method_3_code (sm_Q x zx_sy (sm_Pi zx_sy (xw x))) (px_Chest_lay N S v1 v2) S 0 [(0, .ref ((xw x).2.2 138)), (1, .int v1), (2, .int v2)] [] := by
  unfold px_Chest_lay
  refine sm_iload_n (pc := 0) 1 ok dx_Chest_lay_0 rfl ?_
  refine sm_istore_n (pc := 1) (i := 3) ok dx_Chest_lay_1 rfl (by decide) (fun v => [(3, .int v), (0, .ref ((xw x).2.2 138)), (1, .int v1), (2, .int v2)]) (fun _ => rfl) (fun v3_1 => ?_)
  refine sm_iconst (pc := 2) (0 : Int32) ok dx_Chest_lay_2 zk_0 ?_
  refine sm_istore (pc := 3) (i := 4) ok dx_Chest_lay_3 (by decide) (fun v => [(4, .int v), (3, .int v3_1), (0, .ref ((xw x).2.2 138)), (1, .int v1), (2, .int v2)]) (fun _ => rfl) (fun v4_2 => ?_)
  refine sm_iload_n (pc := 5) 4 ok dx_Chest_lay_5 rfl ?_
  refine sm_iconst (pc := 6) (1 : Int32) ok dx_Chest_lay_6 zk_1 ?_
  refine sm_isub (pc := 7) ok dx_Chest_lay_7 ?_
  refine sm_istore (pc := 8) (i := 5) ok dx_Chest_lay_8 (by decide) (fun v => [(5, .int v), (4, .int v4_2), (3, .int v3_1), (0, .ref ((xw x).2.2 138)), (1, .int v1), (2, .int v2)]) (fun _ => rfl) (fun v5_3 => ?_)
  refine sm_lv [3, 5, 2, 1, 0] rfl ?_
  exact tx_Chest_lay_b10 ok hr N N _ _ _ _ _
theorem cx_Chest_lay {l : Launch} {wc : sm_Wc} (hj : sm_inj zx_sy wc) (N : Nat) (S : sm_St) (v1 : Int32) (v2 : Int32) : sm_Ct l zx_sy wc yx_Chest_lay prog_2_method_3_code 6 (some .boolean) 0 0 [.ref (wc.2.2 138), .int v1, .int v2] S (sm_Pi zx_sy wc) (px_Chest_lay N S v1 v2) :=
  sm_entry (Pq := fun wc => sm_Pi zx_sy wc) (fun wc => [.ref (wc.2.2 138), .int v1, .int v2]) (lv := fun wc => [(0, .ref (wc.2.2 138)), (1, .int v1), (2, .int v2)]) (by decide) hj zx_ok zx_stb (fun _ => Nat.le_of_ble_eq_true rfl) (fun _ => rfl) (fun x _ ok hr => tx_Chest_lay ok hr N S v1 v2)
set_option maxHeartbeats 4000000 in
set_option maxRecDepth 20000 in
theorem tx_Chest_fits_b103 {x : sm_Cx} (ok : sm_Ok x zx_sy prog_2_method_4_code "LentShades$Chest" 5 4 105) (hr : (xh x).sig.returnType = (some .boolean)) (N : Nat) (q1 : Nat) (hq1 : zx_sy.1 q1 = (12, 0)) : ∀ (n : Nat) (a3 : Nat) (v4 : Int32) (S : sm_St) (ha3 : zx_sy.1 a3 = (16, 0)), sm_Sm x zx_sy prog_2_method_4_code (sm_Q x zx_sy (sm_Pi zx_sy (xw x))) (px_Chest_fits_b103 N q1 n a3 v4 S) S 103 [(1, .ref ((xw x).2.2 q1)), (3, .ref ((xw x).2.2 a3)), (4, .int v4)] [] := by
  intro n
  induction n with
  | zero =>
    intro a3 v4 S ha3
    exact sm_none
  | succ n ih =>
    intro a3 v4 S ha3
    show sm_Sm x zx_sy prog_2_method_4_code (sm_Q x zx_sy (sm_Pi zx_sy (xw x))) (if (S.1 q1 9) ≤ v4 then (some ((1 : Int32), S)) else (if sm_in v4 4 = true then (sm_b2 (px_Shades_hasAtLeast N S a3 v4 (S.1 (q1 + 3) v4.toNatClampNeg)) (fun (r_16 : Int32) (S_15 : sm_St) => if r_16 = 0 then (some ((0 : Int32), S_15)) else (if sm_in v4 4 = true then (sm_b2 (px_Shades_hasAtMost N S_15 a3 v4 (S_15.1 (q1 + 4) v4.toNatClampNeg)) (fun (r_18 : Int32) (S_17 : sm_St) => if r_18 = 0 then (some ((0 : Int32), S_17)) else (sm_lt (v4 + (1 : Int32)) (fun (v4_19 : Int32) => (px_Chest_fits_b103 N q1 n) a3 v4_19 S_17)))) else none))) else none)) S 103 [(1, .ref ((xw x).2.2 q1)), (3, .ref ((xw x).2.2 a3)), (4, .int v4)] []
    refine sm_iload (pc := 103) 2 ok dx_Chest_fits_103 rfl ?_
    refine sm_aload_n (pc := 105) 0 ok dx_Chest_fits_105 rfl ?_
    refine sm_getI (pc := 106) (ci := 2) (k := 9) ok dx_Chest_fits_106 hq1 rfl zc_i2 (by decide) rfl wd_187 ?_
    refine sm_icmp_ge (pc := 109) 152 ok dx_Chest_fits_109 (by decide) (fun _ => ?_) (fun _ => ?_)
    · refine sm_iconst (pc := 152) (1 : Int32) ok dx_Chest_fits_152 zk_1 ?_
      exact sm_zret (pc := 153) ok dx_Chest_fits_153 hr rfl
    · refine sm_aload_n (pc := 112) 1 ok dx_Chest_fits_112 rfl ?_
      refine sm_iload (pc := 113) 2 ok dx_Chest_fits_113 rfl ?_
      refine sm_aload_n (pc := 115) 0 ok dx_Chest_fits_115 rfl ?_
      refine sm_getR (pc := 116) (ci := 2) (k := 2) ok dx_Chest_fits_116 hq1 rfl zc_i2 (by decide) rfl wd_165 ?_
      refine sm_iload (pc := 119) 2 ok dx_Chest_fits_119 rfl ?_
      refine sm_iald (pc := 121) ok dx_Chest_fits_121 (zx_House_3 hq1) ?_
      refine sm_callV_i (pc := 122) (ci := 6) [.int v4, .int (S.1 (q1 + 3) v4.toNatClampNeg)] ok dx_Chest_fits_122 wd_852 mwx_Shades_hasAtLeast ha3 rfl (Nat.le_of_ble_eq_true rfl) (Nat.le_of_ble_eq_true rfl) rfl rfl (Nat.le_of_ble_eq_true rfl) (cx_Shades_hasAtLeast (sm_okj ok) N S a3 v4 (S.1 (q1 + 3) v4.toNatClampNeg) ha3) (fun r_16 S_15 => ?_)
      refine sm_if_eq (pc := 125) 144 ok dx_Chest_fits_125 (by decide) (fun _ => ?_) (fun _ => ?_)
      · refine sm_iconst (pc := 144) (0 : Int32) ok dx_Chest_fits_144 zk_0 ?_
        exact sm_zret (pc := 145) ok dx_Chest_fits_145 hr rfl
      · refine sm_aload_n (pc := 128) 1 ok dx_Chest_fits_128 rfl ?_
        refine sm_iload (pc := 129) 2 ok dx_Chest_fits_129 rfl ?_
        refine sm_aload_n (pc := 131) 0 ok dx_Chest_fits_131 rfl ?_
        refine sm_getR (pc := 132) (ci := 2) (k := 3) ok dx_Chest_fits_132 hq1 rfl zc_i2 (by decide) rfl wd_168 ?_
        refine sm_iload (pc := 135) 2 ok dx_Chest_fits_135 rfl ?_
        refine sm_iald (pc := 137) ok dx_Chest_fits_137 (zx_House_4 hq1) ?_
        refine sm_callV_i (pc := 138) (ci := 6) [.int v4, .int (S_15.1 (q1 + 4) v4.toNatClampNeg)] ok dx_Chest_fits_138 wd_853 mwx_Shades_hasAtMost ha3 rfl (Nat.le_of_ble_eq_true rfl) (Nat.le_of_ble_eq_true rfl) rfl rfl (Nat.le_of_ble_eq_true rfl) (cx_Shades_hasAtMost (sm_okj ok) N S_15 a3 v4 (S_15.1 (q1 + 4) v4.toNatClampNeg) ha3) (fun r_18 S_17 => ?_)
        refine sm_if_ne (pc := 141) 146 ok dx_Chest_fits_141 (by decide) (fun _ => ?_) (fun _ => ?_)
        · refine sm_iinc (pc := 146) (i := 4) 2 (1 : Int32) ok dx_Chest_fits_146 rfl zk_1 (by decide) (fun v => [(4, .int v), (1, .ref ((xw x).2.2 q1)), (3, .ref ((xw x).2.2 a3))]) (fun _ => rfl) (fun v4_19 => ?_)
          refine sm_goto (pc := 149) 103 ok dx_Chest_fits_149 (by decide) ?_
          refine sm_lv [1, 2, 0] rfl ?_
          exact ih _ _ _ ha3
        · refine sm_iconst (pc := 144) (0 : Int32) ok dx_Chest_fits_144 zk_0 ?_
          exact sm_zret (pc := 145) ok dx_Chest_fits_145 hr rfl
set_option maxHeartbeats 4000000 in
set_option maxRecDepth 20000 in
theorem tx_Chest_fits_b41 {x : sm_Cx} (ok : sm_Ok x zx_sy prog_2_method_4_code "LentShades$Chest" 5 4 105) (hr : (xh x).sig.returnType = (some .boolean)) (N : Nat) (q1 : Nat) (hq1 : zx_sy.1 q1 = (12, 0)) : ∀ (n : Nat) (v3 : Int32) (S : sm_St), sm_Sm x zx_sy prog_2_method_4_code (sm_Q x zx_sy (sm_Pi zx_sy (xw x))) (px_Chest_fits_b41 N q1 n v3 S) S 41 [(0, .ref ((xw x).2.2 138)), (1, .ref ((xw x).2.2 q1)), (2, .ref ((xw x).2.2 110)), (3, .int v3)] [] := by
  intro n
  induction n with
  | zero =>
    intro v3 S
    exact sm_none
  | succ n ih =>
    intro v3 S
    show sm_Sm x zx_sy prog_2_method_4_code (sm_Q x zx_sy (sm_Pi zx_sy (xw x))) (if (S.1 q1 9) ≤ v3 then (sm_b1 (px_Takings_reckon N S q1 139 (q1 + 5)) (fun (S_8 : sm_St) => sm_b2 (px_Takings_behind N S_8 (q1 + 11) (1 : Int32)) (fun (r_10 : Nat) (S_9 : sm_St) => if (decide (zx_sy.1 r_10 = (16, 0))) = true then (sm_lt (0 : Int32) (fun (v4_12 : Int32) => px_Chest_fits_b103 N q1 N r_10 v4_12 S_9)) else none))) else (if sm_in (v3 - (1 : Int32)) 4 = true then (if sm_in v3 4 = true then (sm_b1 (px_L_putHours N S 139 (S.1 144 (v3 - (1 : Int32)).toNatClampNeg) (S.1 144 v3.toNatClampNeg) (3 : Int32)) (fun (S_13 : sm_St) => sm_lt (v3 + (1 : Int32)) (fun (v3_14 : Int32) => (px_Chest_fits_b41 N q1 n) v3_14 S_13))) else none) else none)) S 41 [(0, .ref ((xw x).2.2 138)), (1, .ref ((xw x).2.2 q1)), (2, .ref ((xw x).2.2 110)), (3, .int v3)] []
    refine sm_iload_n (pc := 41) 3 ok dx_Chest_fits_41 rfl ?_
    refine sm_aload_n (pc := 42) 1 ok dx_Chest_fits_42 rfl ?_
    refine sm_getI (pc := 43) (ci := 2) (k := 9) ok dx_Chest_fits_43 hq1 rfl zc_i2 (by decide) rfl wd_187 ?_
    refine sm_icmp_ge (pc := 46) 77 ok dx_Chest_fits_46 (by decide) (fun _ => ?_) (fun _ => ?_)
    · refine sm_aload_n (pc := 77) 2 ok dx_Chest_fits_77 rfl ?_
      refine sm_aload_n (pc := 78) 1 ok dx_Chest_fits_78 rfl ?_
      refine sm_aload_n (pc := 79) 0 ok dx_Chest_fits_79 rfl ?_
      refine sm_getR (pc := 80) (ci := 0) (k := 0) ok dx_Chest_fits_80 rfl rfl zc_i0 (by decide) rfl wd_389 ?_
      refine sm_aload_n (pc := 83) 1 ok dx_Chest_fits_83 rfl ?_
      refine sm_getR (pc := 84) (ci := 2) (k := 4) ok dx_Chest_fits_84 hq1 rfl zc_i2 (by decide) rfl wd_171 ?_
      refine sm_callV_v (pc := 87) (ci := 8) [.ref ((xw x).2.2 q1), .ref ((xw x).2.2 139), .ref ((xw x).2.2 (q1 + 5))] ok dx_Chest_fits_87 wd_850 mwx_Takings_reckon rfl rfl (Nat.le_of_ble_eq_true rfl) (Nat.le_of_ble_eq_true rfl) rfl rfl (Nat.le_of_ble_eq_true rfl) (cx_Takings_reckon (sm_okj ok) N S q1 139 (q1 + 5) hq1 (sm_tag rfl) (sm_tag (zx_House_5 hq1))) (fun S_8 => ?_)
      refine sm_aload_n (pc := 90) 2 ok dx_Chest_fits_90 rfl ?_
      refine sm_aload_n (pc := 91) 1 ok dx_Chest_fits_91 rfl ?_
      refine sm_getR (pc := 92) (ci := 2) (k := 6) ok dx_Chest_fits_92 hq1 rfl zc_i2 (by decide) rfl wd_179 ?_
      refine sm_iconst (pc := 95) (1 : Int32) ok dx_Chest_fits_95 zk_1 ?_
      refine sm_callV_r (pc := 96) (ci := 8) [.ref ((xw x).2.2 (q1 + 11)), .int (1 : Int32)] ok dx_Chest_fits_96 wd_851 mwx_Takings_behind rfl rfl (Nat.le_of_ble_eq_true rfl) (Nat.le_of_ble_eq_true rfl) rfl rfl (Nat.le_of_ble_eq_true rfl) (cx_Takings_behind (sm_okj ok) N S_8 (q1 + 11) (1 : Int32) (zx_House_11 hq1)) (fun r_10 S_9 => ?_)
      refine sm_ck (fun hc_11 => ?_)
      refine sm_astore_n (pc := 99) (i := 3) ok dx_Chest_fits_99 rfl (by decide) [(3, .ref ((xw x).2.2 r_10)), (0, .ref ((xw x).2.2 138)), (1, .ref ((xw x).2.2 q1)), (2, .ref ((xw x).2.2 110))] rfl ?_
      refine sm_iconst (pc := 100) (0 : Int32) ok dx_Chest_fits_100 zk_0 ?_
      refine sm_istore (pc := 101) (i := 4) ok dx_Chest_fits_101 (by decide) (fun v => [(4, .int v), (3, .ref ((xw x).2.2 r_10)), (0, .ref ((xw x).2.2 138)), (1, .ref ((xw x).2.2 q1)), (2, .ref ((xw x).2.2 110))]) (fun _ => rfl) (fun v4_12 => ?_)
      refine sm_lv [3, 1, 0] rfl ?_
      exact tx_Chest_fits_b103 ok hr N q1 hq1 N _ _ _ (of_decide_eq_true hc_11)
    · refine sm_aload_n (pc := 49) 0 ok dx_Chest_fits_49 rfl ?_
      refine sm_getR (pc := 50) (ci := 0) (k := 0) ok dx_Chest_fits_50 rfl rfl zc_i0 (by decide) rfl wd_389 ?_
      refine sm_aload_n (pc := 53) 0 ok dx_Chest_fits_53 rfl ?_
      refine sm_getR (pc := 54) (ci := 0) (k := 1) ok dx_Chest_fits_54 rfl rfl zc_i0 (by decide) rfl wd_390 ?_
      refine sm_iload_n (pc := 57) 3 ok dx_Chest_fits_57 rfl ?_
      refine sm_iconst (pc := 58) (1 : Int32) ok dx_Chest_fits_58 zk_1 ?_
      refine sm_isub (pc := 59) ok dx_Chest_fits_59 ?_
      refine sm_iald (pc := 60) ok dx_Chest_fits_60 rfl ?_
      refine sm_aload_n (pc := 61) 0 ok dx_Chest_fits_61 rfl ?_
      refine sm_getR (pc := 62) (ci := 0) (k := 1) ok dx_Chest_fits_62 rfl rfl zc_i0 (by decide) rfl wd_390 ?_
      refine sm_iload_n (pc := 65) 3 ok dx_Chest_fits_65 rfl ?_
      refine sm_iald (pc := 66) ok dx_Chest_fits_66 rfl ?_
      refine sm_iconst (pc := 67) (3 : Int32) ok dx_Chest_fits_67 zk_3 ?_
      refine sm_callSN_v (pc := 68) [.ref ((xw x).2.2 139), .int (S.1 144 (v3 - (1 : Int32)).toNatClampNeg), .int (S.1 144 v3.toNatClampNeg), .int (3 : Int32)] ok dx_Chest_fits_68 (zx_nw ok 4 rfl) mwx_L_putHours (Nat.le_of_ble_eq_true rfl) (Nat.le_of_ble_eq_true rfl) rfl rfl (Nat.le_of_ble_eq_true rfl) (cx_L_putHours (sm_okj ok) N S 139 (S.1 144 (v3 - (1 : Int32)).toNatClampNeg) (S.1 144 v3.toNatClampNeg) (3 : Int32) (sm_tag rfl)) (fun S_13 => ?_)
      refine sm_iinc (pc := 71) (i := 3) 3 (1 : Int32) ok dx_Chest_fits_71 rfl zk_1 (by decide) (fun v => [(3, .int v), (0, .ref ((xw x).2.2 138)), (1, .ref ((xw x).2.2 q1)), (2, .ref ((xw x).2.2 110))]) (fun _ => rfl) (fun v3_14 => ?_)
      refine sm_goto (pc := 74) 41 ok dx_Chest_fits_74 (by decide) ?_
      refine sm_lv [1, 2, 3, 0] rfl ?_
      exact ih _ _
set_option maxHeartbeats 4000000 in
set_option maxRecDepth 20000 in
theorem tx_Chest_fits_b10 {x : sm_Cx} (ok : sm_Ok x zx_sy prog_2_method_4_code "LentShades$Chest" 5 4 105) (hr : (xh x).sig.returnType = (some .boolean)) (N : Nat) (q1 : Nat) (hq1 : zx_sy.1 q1 = (12, 0)) {r2 : Int32 → sm_St → Option (Int32 × sm_St)} (h2 : ∀ (v3 : Int32) (S : sm_St), sm_Sm x zx_sy prog_2_method_4_code (sm_Q x zx_sy (sm_Pi zx_sy (xw x))) (r2 v3 S) S 2 [(0, .ref ((xw x).2.2 138)), (1, .ref ((xw x).2.2 q1)), (2, .ref ((xw x).2.2 110)), (3, .int v3)] []) : ∀ (n : Nat) (v3 : Int32) (v4 : Int32) (S : sm_St), sm_Sm x zx_sy prog_2_method_4_code (sm_Q x zx_sy (sm_Pi zx_sy (xw x))) (px_Chest_fits_b10 N q1 r2 n v3 v4 S) S 10 [(0, .ref ((xw x).2.2 138)), (1, .ref ((xw x).2.2 q1)), (2, .ref ((xw x).2.2 110)), (3, .int v3), (4, .int v4)] [] := by
  intro n
  induction n with
  | zero =>
    intro v3 v4 S
    exact sm_none
  | succ n ih =>
    intro v3 v4 S
    show sm_Sm x zx_sy prog_2_method_4_code (sm_Q x zx_sy (sm_Pi zx_sy (xw x))) (if (8 : Int32) ≤ v4 then (sm_lt (v3 + (1 : Int32)) (fun (v3_4 : Int32) => r2 v3_4 S)) else (if sm_in v3 4 = true then (if sm_in v4 8 = true then sm_lt (sm_sI S (140 + v3.toNatClampNeg) v4.toNatClampNeg (0 : Int32)) (fun (S_6 : sm_St) => sm_lt (v4 + (1 : Int32)) (fun (v4_7 : Int32) => (px_Chest_fits_b10 N q1 r2 n) v3 v4_7 S_6)) else none) else none)) S 10 [(0, .ref ((xw x).2.2 138)), (1, .ref ((xw x).2.2 q1)), (2, .ref ((xw x).2.2 110)), (3, .int v3), (4, .int v4)] []
    refine sm_iload (pc := 10) 4 ok dx_Chest_fits_10 rfl ?_
    refine sm_bipush (pc := 12) (8 : Int32) ok dx_Chest_fits_12 zb_8 ?_
    refine sm_icmp_ge (pc := 14) 33 ok dx_Chest_fits_14 (by decide) (fun _ => ?_) (fun _ => ?_)
    · refine sm_iinc (pc := 33) (i := 3) 3 (1 : Int32) ok dx_Chest_fits_33 rfl zk_1 (by decide) (fun v => [(3, .int v), (0, .ref ((xw x).2.2 138)), (1, .ref ((xw x).2.2 q1)), (2, .ref ((xw x).2.2 110)), (4, .int v4)]) (fun _ => rfl) (fun v3_4 => ?_)
      refine sm_goto (pc := 36) 2 ok dx_Chest_fits_36 (by decide) ?_
      refine sm_lv [1, 2, 3, 0] rfl ?_
      exact h2 _ _
    · refine sm_aload_n (pc := 17) 0 ok dx_Chest_fits_17 rfl ?_
      refine sm_getR (pc := 18) (ci := 0) (k := 0) ok dx_Chest_fits_18 rfl rfl zc_i0 (by decide) rfl wd_389 ?_
      refine sm_iload_n (pc := 21) 3 ok dx_Chest_fits_21 rfl ?_
      refine sm_aald5 (pc := 22) ok dx_Chest_fits_22 rfl (fun hb_5 => ?_)
      refine sm_iload (pc := 23) 4 ok dx_Chest_fits_23 rfl ?_
      refine sm_iconst (pc := 25) (0 : Int32) ok dx_Chest_fits_25 zk_0 ?_
      refine sm_iast (pc := 26) ok dx_Chest_fits_26 (zx_rows 139 4 8 (by decide) hb_5) (fun S_6 => ?_)
      refine sm_iinc (pc := 27) (i := 4) 4 (1 : Int32) ok dx_Chest_fits_27 rfl zk_1 (by decide) (fun v => [(4, .int v), (0, .ref ((xw x).2.2 138)), (1, .ref ((xw x).2.2 q1)), (2, .ref ((xw x).2.2 110)), (3, .int v3)]) (fun _ => rfl) (fun v4_7 => ?_)
      refine sm_goto (pc := 30) 10 ok dx_Chest_fits_30 (by decide) ?_
      refine sm_lv [1, 2, 3, 4, 0] rfl ?_
      exact ih _ _ _
set_option maxHeartbeats 4000000 in
set_option maxRecDepth 20000 in
theorem tx_Chest_fits_b2 {x : sm_Cx} (ok : sm_Ok x zx_sy prog_2_method_4_code "LentShades$Chest" 5 4 105) (hr : (xh x).sig.returnType = (some .boolean)) (N : Nat) (q1 : Nat) (hq1 : zx_sy.1 q1 = (12, 0)) : ∀ (n : Nat) (v3 : Int32) (S : sm_St), sm_Sm x zx_sy prog_2_method_4_code (sm_Q x zx_sy (sm_Pi zx_sy (xw x))) (px_Chest_fits_b2 N q1 n v3 S) S 2 [(0, .ref ((xw x).2.2 138)), (1, .ref ((xw x).2.2 q1)), (2, .ref ((xw x).2.2 110)), (3, .int v3)] [] := by
  intro n
  induction n with
  | zero =>
    intro v3 S
    exact sm_none
  | succ n ih =>
    intro v3 S
    show sm_Sm x zx_sy prog_2_method_4_code (sm_Q x zx_sy (sm_Pi zx_sy (xw x))) (if (4 : Int32) ≤ v3 then (sm_lt (1 : Int32) (fun (v3_2 : Int32) => px_Chest_fits_b41 N q1 N v3_2 S)) else (sm_lt (0 : Int32) (fun (v4_3 : Int32) => px_Chest_fits_b10 N q1 (px_Chest_fits_b2 N q1 n) N v3 v4_3 S))) S 2 [(0, .ref ((xw x).2.2 138)), (1, .ref ((xw x).2.2 q1)), (2, .ref ((xw x).2.2 110)), (3, .int v3)] []
    refine sm_iload_n (pc := 2) 3 ok dx_Chest_fits_2 rfl ?_
    refine sm_iconst (pc := 3) (4 : Int32) ok dx_Chest_fits_3 zk_4 ?_
    refine sm_icmp_ge (pc := 4) 39 ok dx_Chest_fits_4 (by decide) (fun _ => ?_) (fun _ => ?_)
    · refine sm_iconst (pc := 39) (1 : Int32) ok dx_Chest_fits_39 zk_1 ?_
      refine sm_istore_n (pc := 40) (i := 3) ok dx_Chest_fits_40 rfl (by decide) (fun v => [(3, .int v), (0, .ref ((xw x).2.2 138)), (1, .ref ((xw x).2.2 q1)), (2, .ref ((xw x).2.2 110))]) (fun _ => rfl) (fun v3_2 => ?_)
      refine sm_lv [1, 2, 3, 0] rfl ?_
      exact tx_Chest_fits_b41 ok hr N q1 hq1 N _ _
    · refine sm_iconst (pc := 7) (0 : Int32) ok dx_Chest_fits_7 zk_0 ?_
      refine sm_istore (pc := 8) (i := 4) ok dx_Chest_fits_8 (by decide) (fun v => [(4, .int v), (0, .ref ((xw x).2.2 138)), (1, .ref ((xw x).2.2 q1)), (2, .ref ((xw x).2.2 110)), (3, .int v3)]) (fun _ => rfl) (fun v4_3 => ?_)
      refine sm_lv [1, 2, 3, 4, 0] rfl ?_
      exact tx_Chest_fits_b10 ok hr N q1 hq1 ih N _ _ _
set_option maxHeartbeats 4000000 in
set_option maxRecDepth 20000 in
theorem tx_Chest_fits {x : sm_Cx} (ok : sm_Ok x zx_sy prog_2_method_4_code "LentShades$Chest" 5 4 105) (hr : (xh x).sig.returnType = (some .boolean)) (N : Nat) (S : sm_St) (q1 : Nat) (hq1 : zx_sy.1 q1 = (12, 0)) : sm_Sm x zx_sy prog_2_method_4_code (sm_Q x zx_sy (sm_Pi zx_sy (xw x))) (px_Chest_fits N S q1) S 0 [(0, .ref ((xw x).2.2 138)), (1, .ref ((xw x).2.2 q1)), (2, .ref ((xw x).2.2 110))] [] := by
  unfold px_Chest_fits
  refine sm_iconst (pc := 0) (0 : Int32) ok dx_Chest_fits_0 zk_0 ?_
  refine sm_istore_n (pc := 1) (i := 3) ok dx_Chest_fits_1 rfl (by decide) (fun v => [(3, .int v), (0, .ref ((xw x).2.2 138)), (1, .ref ((xw x).2.2 q1)), (2, .ref ((xw x).2.2 110))]) (fun _ => rfl) (fun v3_1 => ?_)
  refine sm_lv [1, 2, 3, 0] rfl ?_
  exact tx_Chest_fits_b2 ok hr N q1 hq1 N _ _
theorem cx_Chest_fits {l : Launch} {wc : sm_Wc} (hj : sm_inj zx_sy wc) (N : Nat) (S : sm_St) (q1 : Nat) (hq1 : zx_sy.1 q1 = (12, 0)) : sm_Ct l zx_sy wc yx_Chest_fits prog_2_method_4_code 5 (some .boolean) 4 105 [.ref (wc.2.2 138), .ref (wc.2.2 q1), .ref (wc.2.2 110)] S (sm_Pi zx_sy wc) (px_Chest_fits N S q1) :=
  sm_entry (Pq := fun wc => sm_Pi zx_sy wc) (fun wc => [.ref (wc.2.2 138), .ref (wc.2.2 q1), .ref (wc.2.2 110)]) (lv := fun wc => [(0, .ref (wc.2.2 138)), (1, .ref (wc.2.2 q1)), (2, .ref (wc.2.2 110))]) (by decide) hj zx_ok zx_stb (fun _ => Nat.le_of_ble_eq_true rfl) (fun _ => rfl) (fun x _ ok hr => tx_Chest_fits ok hr N S q1 hq1)
set_option maxHeartbeats 4000000 in
set_option maxRecDepth 20000 in
theorem tx_Chest_countOrders_b83 {x : sm_Cx} (ok : sm_Ok x zx_sy prog_2_method_2_code "LentShades$Chest" 6 5 129) (hr : (xh x).sig.returnType = (some .int)) (N : Nat) (q1 : Nat) (hq1 : zx_sy.1 q1 = (12, 0)) {r33 : Int32 → Int32 → Int32 → sm_St → Option (Int32 × sm_St)} (h33 : ∀ (v3 : Int32) (v4 : Int32) (v5 : Int32) (S : sm_St), sm_Sm x zx_sy prog_2_method_2_code (sm_Q x zx_sy (sm_Pi zx_sy (xw x))) (r33 v3 v4 v5 S) S 33 [(0, .ref ((xw x).2.2 138)), (1, .ref ((xw x).2.2 q1)), (2, .ref ((xw x).2.2 110)), (3, .int v3), (4, .int v4), (5, .int v5)] []) (v3 : Int32) (v4 : Int32) (v5 : Int32) (S : sm_St) : sm_Sm x zx_sy prog_2_method_2_code (sm_Q x zx_sy (sm_Pi zx_sy (xw x))) (px_Chest_countOrders_b83 N q1 r33 v3 v4 v5 S) S 83 [(0, .ref ((xw x).2.2 138)), (1, .ref ((xw x).2.2 q1)), (2, .ref ((xw x).2.2 110)), (3, .int v3), (4, .int v4), (5, .int v5)] [] := by
  unfold px_Chest_countOrders_b83
  refine sm_iinc (pc := 83) (i := 5) 5 (1 : Int32) ok dx_Chest_countOrders_83 rfl zk_1 (by decide) (fun v => [(5, .int v), (0, .ref ((xw x).2.2 138)), (1, .ref ((xw x).2.2 q1)), (2, .ref ((xw x).2.2 110)), (3, .int v3), (4, .int v4)]) (fun _ => rfl) (fun v5_13 => ?_)
  refine sm_goto (pc := 86) 33 ok dx_Chest_countOrders_86 (by decide) ?_
  refine sm_lv [1, 2, 3, 4, 5, 0] rfl ?_
  exact h33 _ _ _ _
set_option maxHeartbeats 4000000 in
set_option maxRecDepth 20000 in
theorem tx_Chest_countOrders_b80 {x : sm_Cx} (ok : sm_Ok x zx_sy prog_2_method_2_code "LentShades$Chest" 6 5 129) (hr : (xh x).sig.returnType = (some .int)) (N : Nat) (q1 : Nat) (hq1 : zx_sy.1 q1 = (12, 0)) {r33 : Int32 → Int32 → Int32 → sm_St → Option (Int32 × sm_St)} (h33 : ∀ (v3 : Int32) (v4 : Int32) (v5 : Int32) (S : sm_St), sm_Sm x zx_sy prog_2_method_2_code (sm_Q x zx_sy (sm_Pi zx_sy (xw x))) (r33 v3 v4 v5 S) S 33 [(0, .ref ((xw x).2.2 138)), (1, .ref ((xw x).2.2 q1)), (2, .ref ((xw x).2.2 110)), (3, .int v3), (4, .int v4), (5, .int v5)] []) (v3 : Int32) (v4 : Int32) (v5 : Int32) (S : sm_St) : sm_Sm x zx_sy prog_2_method_2_code (sm_Q x zx_sy (sm_Pi zx_sy (xw x))) (px_Chest_countOrders_b80 N q1 r33 v3 v4 v5 S) S 80 [(0, .ref ((xw x).2.2 138)), (1, .ref ((xw x).2.2 q1)), (2, .ref ((xw x).2.2 110)), (3, .int v3), (4, .int v4), (5, .int v5)] [] := by
  unfold px_Chest_countOrders_b80
  refine sm_iinc (pc := 80) (i := 4) 4 (1 : Int32) ok dx_Chest_countOrders_80 rfl zk_1 (by decide) (fun v => [(4, .int v), (0, .ref ((xw x).2.2 138)), (1, .ref ((xw x).2.2 q1)), (2, .ref ((xw x).2.2 110)), (3, .int v3), (5, .int v5)]) (fun _ => rfl) (fun v4_12 => ?_)
  refine sm_lv [1, 2, 3, 4, 0, 5] rfl ?_
  exact tx_Chest_countOrders_b83 ok hr N q1 hq1 h33 _ _ _ _
set_option maxHeartbeats 4000000 in
set_option maxRecDepth 20000 in
theorem tx_Chest_countOrders_b33 {x : sm_Cx} (ok : sm_Ok x zx_sy prog_2_method_2_code "LentShades$Chest" 6 5 129) (hr : (xh x).sig.returnType = (some .int)) (N : Nat) (q1 : Nat) (hq1 : zx_sy.1 q1 = (12, 0)) : ∀ (n : Nat) (v3 : Int32) (v4 : Int32) (v5 : Int32) (S : sm_St), sm_Sm x zx_sy prog_2_method_2_code (sm_Q x zx_sy (sm_Pi zx_sy (xw x))) (px_Chest_countOrders_b33 N q1 n v3 v4 v5 S) S 33 [(0, .ref ((xw x).2.2 138)), (1, .ref ((xw x).2.2 q1)), (2, .ref ((xw x).2.2 110)), (3, .int v3), (4, .int v4), (5, .int v5)] [] := by
  intro n
  induction n with
  | zero =>
    intro v3 v4 v5 S
    exact sm_none
  | succ n ih =>
    intro v3 v4 v5 S
    show sm_Sm x zx_sy prog_2_method_2_code (sm_Q x zx_sy (sm_Pi zx_sy (xw x))) (if v3 ≤ v5 then (some (v4, S)) else (sm_b2 (px_Chest_lay N S v5 (S.1 q1 9)) (fun (r_8 : Int32) (S_7 : sm_St) => if r_8 = 0 then (px_Chest_countOrders_b83 N q1 (px_Chest_countOrders_b33 N q1 n) v3 v4 v5 S_7) else (sm_b2 (px_Chest_fits N S_7 q1) (fun (r_10 : Int32) (S_9 : sm_St) => if r_10 = 0 then (px_Chest_countOrders_b83 N q1 (px_Chest_countOrders_b33 N q1 n) v3 v4 v5 S_9) else (if v4 = 0 then (if sm_cpk (0 : Int32) (0 : Int32) (4 : Int32) 4 4 = true then sm_lt (sm_sF S_9 145 (va_cpy (S_9.1 144) (S_9.1 145) (0 : Int32).toNatClampNeg (0 : Int32).toNatClampNeg (4 : Int32).toNatClampNeg)) (fun (S_11 : sm_St) => px_Chest_countOrders_b80 N q1 (px_Chest_countOrders_b33 N q1 n) v3 v4 v5 S_11) else none) else (px_Chest_countOrders_b80 N q1 (px_Chest_countOrders_b33 N q1 n) v3 v4 v5 S_9))))))) S 33 [(0, .ref ((xw x).2.2 138)), (1, .ref ((xw x).2.2 q1)), (2, .ref ((xw x).2.2 110)), (3, .int v3), (4, .int v4), (5, .int v5)] []
    refine sm_iload (pc := 33) 5 ok dx_Chest_countOrders_33 rfl ?_
    refine sm_iload_n (pc := 35) 3 ok dx_Chest_countOrders_35 rfl ?_
    refine sm_icmp_ge (pc := 36) 89 ok dx_Chest_countOrders_36 (by decide) (fun _ => ?_) (fun _ => ?_)
    · refine sm_iload (pc := 89) 4 ok dx_Chest_countOrders_89 rfl ?_
      exact sm_iret (pc := 91) ok dx_Chest_countOrders_91 hr
    · refine sm_aload_n (pc := 39) 0 ok dx_Chest_countOrders_39 rfl ?_
      refine sm_iload (pc := 40) 5 ok dx_Chest_countOrders_40 rfl ?_
      refine sm_aload_n (pc := 42) 1 ok dx_Chest_countOrders_42 rfl ?_
      refine sm_getI (pc := 43) (ci := 2) (k := 9) ok dx_Chest_countOrders_43 hq1 rfl zc_i2 (by decide) rfl wd_187 ?_
      refine sm_callV_i (pc := 46) (ci := 0) [.int v5, .int (S.1 q1 9)] ok dx_Chest_countOrders_46 wd_841 mwx_Chest_lay rfl rfl (Nat.le_of_ble_eq_true rfl) (Nat.le_of_ble_eq_true rfl) rfl rfl (Nat.le_of_ble_eq_true rfl) (cx_Chest_lay (sm_okj ok) N S v5 (S.1 q1 9)) (fun r_8 S_7 => ?_)
      refine sm_if_eq (pc := 49) 83 ok dx_Chest_countOrders_49 (by decide) (fun _ => ?_) (fun _ => ?_)
      · exact tx_Chest_countOrders_b83 ok hr N q1 hq1 ih _ _ _ _
      · refine sm_aload_n (pc := 52) 0 ok dx_Chest_countOrders_52 rfl ?_
        refine sm_aload_n (pc := 53) 1 ok dx_Chest_countOrders_53 rfl ?_
        refine sm_aload_n (pc := 54) 2 ok dx_Chest_countOrders_54 rfl ?_
        refine sm_callV_i (pc := 55) (ci := 0) [.ref ((xw x).2.2 q1), .ref ((xw x).2.2 110)] ok dx_Chest_countOrders_55 wd_845 mwx_Chest_fits rfl rfl (Nat.le_of_ble_eq_true rfl) (Nat.le_of_ble_eq_true rfl) rfl rfl (Nat.le_of_ble_eq_true rfl) (cx_Chest_fits (sm_okj ok) N S_7 q1 hq1) (fun r_10 S_9 => ?_)
        refine sm_if_eq (pc := 58) 83 ok dx_Chest_countOrders_58 (by decide) (fun _ => ?_) (fun _ => ?_)
        · exact tx_Chest_countOrders_b83 ok hr N q1 hq1 ih _ _ _ _
        · refine sm_iload (pc := 61) 4 ok dx_Chest_countOrders_61 rfl ?_
          refine sm_if_ne (pc := 63) 80 ok dx_Chest_countOrders_63 (by decide) (fun _ => ?_) (fun _ => ?_)
          · exact tx_Chest_countOrders_b80 ok hr N q1 hq1 ih _ _ _ _
          · refine sm_aload_n (pc := 66) 0 ok dx_Chest_countOrders_66 rfl ?_
            refine sm_getR (pc := 67) (ci := 0) (k := 1) ok dx_Chest_countOrders_67 rfl rfl zc_i0 (by decide) rfl wd_390 ?_
            refine sm_iconst (pc := 70) (0 : Int32) ok dx_Chest_countOrders_70 zk_0 ?_
            refine sm_aload_n (pc := 71) 0 ok dx_Chest_countOrders_71 rfl ?_
            refine sm_getR (pc := 72) (ci := 0) (k := 2) ok dx_Chest_countOrders_72 rfl rfl zc_i0 (by decide) rfl wd_391 ?_
            refine sm_iconst (pc := 75) (0 : Int32) ok dx_Chest_countOrders_75 zk_0 ?_
            refine sm_iconst (pc := 76) (4 : Int32) ok dx_Chest_countOrders_76 zk_4 ?_
            refine sm_acopy (pc := 77) ok dx_Chest_countOrders_77 wd_854 wd_734 wd_733 wd_118 rfl rfl (by decide) (by decide) (by decide) (fun S_11 => ?_)
            exact tx_Chest_countOrders_b80 ok hr N q1 hq1 ih _ _ _ _
set_option maxHeartbeats 4000000 in
set_option maxRecDepth 20000 in
theorem tx_Chest_countOrders_b5 {x : sm_Cx} (ok : sm_Ok x zx_sy prog_2_method_2_code "LentShades$Chest" 6 5 129) (hr : (xh x).sig.returnType = (some .int)) (N : Nat) (q1 : Nat) (hq1 : zx_sy.1 q1 = (12, 0)) : ∀ (n : Nat) (v3 : Int32) (v4 : Int32) (S : sm_St), sm_Sm x zx_sy prog_2_method_2_code (sm_Q x zx_sy (sm_Pi zx_sy (xw x))) (px_Chest_countOrders_b5 N q1 n v3 v4 S) S 5 [(0, .ref ((xw x).2.2 138)), (1, .ref ((xw x).2.2 q1)), (2, .ref ((xw x).2.2 110)), (3, .int v3), (4, .int v4)] [] := by
  intro n
  induction n with
  | zero =>
    intro v3 v4 S
    exact sm_none
  | succ n ih =>
    intro v3 v4 S
    show sm_Sm x zx_sy prog_2_method_2_code (sm_Q x zx_sy (sm_Pi zx_sy (xw x))) (if (S.1 q1 9) ≤ v4 then (sm_lt (0 : Int32) (fun (v4_3 : Int32) => sm_lt (0 : Int32) (fun (v5_4 : Int32) => px_Chest_countOrders_b33 N q1 N v3 v4_3 v5_4 S))) else (sm_lt (v3 * (S.1 q1 9)) (fun (v3_5 : Int32) => sm_lt (v4 + (1 : Int32)) (fun (v4_6 : Int32) => (px_Chest_countOrders_b5 N q1 n) v3_5 v4_6 S)))) S 5 [(0, .ref ((xw x).2.2 138)), (1, .ref ((xw x).2.2 q1)), (2, .ref ((xw x).2.2 110)), (3, .int v3), (4, .int v4)] []
    refine sm_iload (pc := 5) 4 ok dx_Chest_countOrders_5 rfl ?_
    refine sm_aload_n (pc := 7) 1 ok dx_Chest_countOrders_7 rfl ?_
    refine sm_getI (pc := 8) (ci := 2) (k := 9) ok dx_Chest_countOrders_8 hq1 rfl zc_i2 (by decide) rfl wd_187 ?_
    refine sm_icmp_ge (pc := 11) 27 ok dx_Chest_countOrders_11 (by decide) (fun _ => ?_) (fun _ => ?_)
    · refine sm_iconst (pc := 27) (0 : Int32) ok dx_Chest_countOrders_27 zk_0 ?_
      refine sm_istore (pc := 28) (i := 4) ok dx_Chest_countOrders_28 (by decide) (fun v => [(4, .int v), (0, .ref ((xw x).2.2 138)), (1, .ref ((xw x).2.2 q1)), (2, .ref ((xw x).2.2 110)), (3, .int v3)]) (fun _ => rfl) (fun v4_3 => ?_)
      refine sm_iconst (pc := 30) (0 : Int32) ok dx_Chest_countOrders_30 zk_0 ?_
      refine sm_istore (pc := 31) (i := 5) ok dx_Chest_countOrders_31 (by decide) (fun v => [(5, .int v), (4, .int v4_3), (0, .ref ((xw x).2.2 138)), (1, .ref ((xw x).2.2 q1)), (2, .ref ((xw x).2.2 110)), (3, .int v3)]) (fun _ => rfl) (fun v5_4 => ?_)
      refine sm_lv [2, 3, 4, 5, 1, 0] rfl ?_
      exact tx_Chest_countOrders_b33 ok hr N q1 hq1 N _ _ _ _
    · refine sm_iload_n (pc := 14) 3 ok dx_Chest_countOrders_14 rfl ?_
      refine sm_aload_n (pc := 15) 1 ok dx_Chest_countOrders_15 rfl ?_
      refine sm_getI (pc := 16) (ci := 2) (k := 9) ok dx_Chest_countOrders_16 hq1 rfl zc_i2 (by decide) rfl wd_187 ?_
      refine sm_imul (pc := 19) ok dx_Chest_countOrders_19 ?_
      refine sm_istore_n (pc := 20) (i := 3) ok dx_Chest_countOrders_20 rfl (by decide) (fun v => [(3, .int v), (0, .ref ((xw x).2.2 138)), (1, .ref ((xw x).2.2 q1)), (2, .ref ((xw x).2.2 110)), (4, .int v4)]) (fun _ => rfl) (fun v3_5 => ?_)
      refine sm_iinc (pc := 21) (i := 4) 4 (1 : Int32) ok dx_Chest_countOrders_21 rfl zk_1 (by decide) (fun v => [(4, .int v), (3, .int v3_5), (0, .ref ((xw x).2.2 138)), (1, .ref ((xw x).2.2 q1)), (2, .ref ((xw x).2.2 110))]) (fun _ => rfl) (fun v4_6 => ?_)
      refine sm_goto (pc := 24) 5 ok dx_Chest_countOrders_24 (by decide) ?_
      refine sm_lv [2, 3, 4, 1, 0] rfl ?_
      exact ih _ _ _
set_option maxHeartbeats 4000000 in
set_option maxRecDepth 20000 in
theorem tx_Chest_countOrders {x : sm_Cx} (ok : sm_Ok x zx_sy prog_2_method_2_code "LentShades$Chest" 6 5 129) (hr : (xh x).sig.returnType = (some .int)) (N : Nat) (S : sm_St) (q1 : Nat) (hq1 : zx_sy.1 q1 = (12, 0)) : sm_Sm x zx_sy prog_2_method_2_code (sm_Q x zx_sy (sm_Pi zx_sy (xw x))) (px_Chest_countOrders N S q1) S 0 [(0, .ref ((xw x).2.2 138)), (1, .ref ((xw x).2.2 q1)), (2, .ref ((xw x).2.2 110))] [] := by
  unfold px_Chest_countOrders
  refine sm_iconst (pc := 0) (1 : Int32) ok dx_Chest_countOrders_0 zk_1 ?_
  refine sm_istore_n (pc := 1) (i := 3) ok dx_Chest_countOrders_1 rfl (by decide) (fun v => [(3, .int v), (0, .ref ((xw x).2.2 138)), (1, .ref ((xw x).2.2 q1)), (2, .ref ((xw x).2.2 110))]) (fun _ => rfl) (fun v3_1 => ?_)
  refine sm_iconst (pc := 2) (0 : Int32) ok dx_Chest_countOrders_2 zk_0 ?_
  refine sm_istore (pc := 3) (i := 4) ok dx_Chest_countOrders_3 (by decide) (fun v => [(4, .int v), (3, .int v3_1), (0, .ref ((xw x).2.2 138)), (1, .ref ((xw x).2.2 q1)), (2, .ref ((xw x).2.2 110))]) (fun _ => rfl) (fun v4_2 => ?_)
  refine sm_lv [2, 3, 4, 1, 0] rfl ?_
  exact tx_Chest_countOrders_b5 ok hr N q1 hq1 N _ _ _
theorem cx_Chest_countOrders {l : Launch} {wc : sm_Wc} (hj : sm_inj zx_sy wc) (N : Nat) (S : sm_St) (q1 : Nat) (hq1 : zx_sy.1 q1 = (12, 0)) : sm_Ct l zx_sy wc yx_Chest_countOrders prog_2_method_2_code 6 (some .int) 5 129 [.ref (wc.2.2 138), .ref (wc.2.2 q1), .ref (wc.2.2 110)] S (sm_Pi zx_sy wc) (px_Chest_countOrders N S q1) :=
  sm_entry (Pq := fun wc => sm_Pi zx_sy wc) (fun wc => [.ref (wc.2.2 138), .ref (wc.2.2 q1), .ref (wc.2.2 110)]) (lv := fun wc => [(0, .ref (wc.2.2 138)), (1, .ref (wc.2.2 q1)), (2, .ref (wc.2.2 110))]) (by decide) hj zx_ok zx_stb (fun _ => Nat.le_of_ble_eq_true rfl) (fun _ => rfl) (fun x _ ok hr => tx_Chest_countOrders ok hr N S q1 hq1)
set_option maxHeartbeats 4000000 in
set_option maxRecDepth 20000 in
theorem tx_L_chest {x : sm_Cx} (ok : sm_Ok x zx_sy prog_1_method_16_code "LentShades" 3 6 154) (hr : (xh x).sig.returnType = (some .int)) (N : Nat) (S : sm_St) (v1 : Int32) : sm_Sm x zx_sy prog_1_method_16_code (sm_Q x zx_sy (sm_Pi zx_sy (xw x))) (px_L_chest N S v1) S 0 [(0, .ref ((xw x).2.2 0)), (1, .int v1)] [] := by
  unfold px_L_chest
  refine sm_iload_n (pc := 0) 1 ok dx_L_chest_0 rfl ?_
  refine sm_iconst (pc := 1) (-1 : Int32) ok dx_L_chest_1 zk_m1 ?_
  refine sm_icmp_ge (pc := 2) 13 ok dx_L_chest_2 (by decide) (fun _ => ?_) (fun _ => ?_)
  · refine sm_iload_n (pc := 13) 1 ok dx_L_chest_13 rfl ?_
    refine sm_aload_n (pc := 14) 0 ok dx_L_chest_14 rfl ?_
    refine sm_getR (pc := 15) (ci := 9) (k := 0) ok dx_L_chest_15 rfl rfl zc_i9 (by decide) rfl wd_400 ?_
    refine sm_getI (pc := 18) (ci := 2) (k := 9) ok dx_L_chest_18 rfl rfl zc_i2 (by decide) rfl wd_188 ?_
    refine sm_icmp_lt (pc := 21) 27 ok dx_L_chest_21 (by decide) (fun _ => ?_) (fun _ => ?_)
    · refine sm_aload_n (pc := 27) 0 ok dx_L_chest_27 rfl ?_
      refine sm_getR (pc := 28) (ci := 9) (k := 9) ok dx_L_chest_28 rfl rfl zc_i9 (by decide) rfl wd_409 ?_
      refine sm_aload_n (pc := 31) 0 ok dx_L_chest_31 rfl ?_
      refine sm_getR (pc := 32) (ci := 9) (k := 0) ok dx_L_chest_32 rfl rfl zc_i9 (by decide) rfl wd_400 ?_
      refine sm_aload_n (pc := 35) 0 ok dx_L_chest_35 rfl ?_
      refine sm_getR (pc := 36) (ci := 9) (k := 6) ok dx_L_chest_36 rfl rfl zc_i9 (by decide) rfl wd_406 ?_
      refine sm_callV_i (pc := 39) (ci := 0) [.ref ((xw x).2.2 1), .ref ((xw x).2.2 110)] ok dx_L_chest_39 wd_837 mwx_Chest_countOrders rfl rfl (Nat.le_of_ble_eq_true rfl) (Nat.le_of_ble_eq_true rfl) rfl rfl (Nat.le_of_ble_eq_true rfl) (cx_Chest_countOrders (sm_okj ok) N S 1 rfl) (fun r_2 S_1 => ?_)
      refine sm_istore_n (pc := 42) (i := 2) ok dx_L_chest_42 rfl (by decide) (fun v => [(2, .int v), (0, .ref ((xw x).2.2 0)), (1, .int v1)]) (fun _ => rfl) (fun v2_3 => ?_)
      refine sm_iload_n (pc := 43) 2 ok dx_L_chest_43 rfl ?_
      refine sm_iconst (pc := 44) (-1 : Int32) ok dx_L_chest_44 zk_m1 ?_
      refine sm_icmp_ne (pc := 45) 50 ok dx_L_chest_45 (by decide) (fun _ => ?_) (fun _ => ?_)
      · refine sm_iload_n (pc := 50) 0 ok dx_L_chest_50 rfl ?_
        refine sm_if_ne (pc := 51) 59 ok dx_L_chest_51 (by decide) (fun _ => ?_) (fun _ => ?_)
        · refine sm_aload_n (pc := 59) 1 ok dx_L_chest_59 rfl ?_
          refine sm_getR (pc := 60) (ci := 9) (k := 9) ok dx_L_chest_60 rfl rfl zc_i9 (by decide) rfl wd_409 ?_
          refine sm_getR (pc := 63) (ci := 0) (k := 2) ok dx_L_chest_63 rfl rfl zc_i0 (by decide) rfl wd_392 ?_
          refine sm_iload_n (pc := 66) 2 ok dx_L_chest_66 rfl ?_
          refine sm_iald (pc := 67) ok dx_L_chest_67 rfl ?_
          exact sm_iret (pc := 68) ok dx_L_chest_68 hr
        · refine sm_bipush (pc := 54) (-5 : Int32) ok dx_L_chest_54 zb_m5 ?_
          refine sm_goto (pc := 56) 68 ok dx_L_chest_56 (by decide) ?_
          exact sm_iret (pc := 68) ok dx_L_chest_68 hr
      · refine sm_iload_n (pc := 48) 0 ok dx_L_chest_48 rfl ?_
        exact sm_iret (pc := 49) ok dx_L_chest_49 hr
    · refine sm_bipush (pc := 24) (-5 : Int32) ok dx_L_chest_24 zb_m5 ?_
      exact sm_iret (pc := 26) ok dx_L_chest_26 hr
  · refine sm_aload_n (pc := 5) 0 ok dx_L_chest_5 rfl ?_
    refine sm_callV_i (pc := 6) (ci := 9) [] ok dx_L_chest_6 wd_450 mwx_L_refusedBad rfl rfl (Nat.le_of_ble_eq_true rfl) (Nat.le_of_ble_eq_true rfl) rfl rfl (Nat.le_of_ble_eq_true rfl) (cx_L_refusedBad (sm_okj ok) N S) (fun r_5 S_4 => ?_)
    refine sm_pop (pc := 9) ok dx_L_chest_9 rfl ?_
    refine sm_bipush (pc := 10) (-10 : Int32) ok dx_L_chest_10 zb_m10 ?_
    exact sm_iret (pc := 12) ok dx_L_chest_12 hr
theorem cx_L_chest {l : Launch} {wc : sm_Wc} (hj : sm_inj zx_sy wc) (N : Nat) (S : sm_St) (v1 : Int32) : sm_Ct l zx_sy wc yx_L_chest prog_1_method_16_code 3 (some .int) 6 154 [.ref (wc.2.2 0), .int v1] S (sm_Pi zx_sy wc) (px_L_chest N S v1) :=
  sm_entry (Pq := fun wc => sm_Pi zx_sy wc) (fun wc => [.ref (wc.2.2 0), .int v1]) (lv := fun wc => [(0, .ref (wc.2.2 0)), (1, .int v1)]) (by decide) hj zx_ok zx_stb (fun _ => Nat.le_of_ble_eq_true rfl) (fun _ => rfl) (fun x _ ok hr => tx_L_chest ok hr N S v1)
set_option maxHeartbeats 4000000 in
set_option maxRecDepth 20000 in
theorem tx_L_isShade {x : sm_Cx} (ok : sm_Ok x zx_sy prog_1_method_35_code "LentShades" 2 0 0) (hr : (xh x).sig.returnType = (some .boolean)) (N : Nat) (S : sm_St) (v0 : Int32) (v1 : Int32) : sm_Sm x zx_sy prog_1_method_35_code (sm_Q x zx_sy (sm_Pi zx_sy (xw x))) (px_L_isShade N S v0 v1) S 0 [(0, .int v0), (1, .int v1)] [] := by
  unfold px_L_isShade
  refine sm_iload_n (pc := 0) 1 ok dx_L_isShade_0 rfl ?_
  refine sm_iconst (pc := 1) (1 : Int32) ok dx_L_isShade_1 zk_1 ?_
  refine sm_icmp_lt (pc := 2) 24 ok dx_L_isShade_2 (by decide) (fun _ => ?_) (fun _ => ?_)
  · refine sm_iconst (pc := 24) (0 : Int32) ok dx_L_isShade_24 zk_0 ?_
    exact sm_zret (pc := 25) ok dx_L_isShade_25 hr rfl
  · refine sm_iload_n (pc := 5) 1 ok dx_L_isShade_5 rfl ?_
    refine sm_bipush (pc := 6) (99 : Int32) ok dx_L_isShade_6 zb_99 ?_
    refine sm_icmp_gt (pc := 8) 24 ok dx_L_isShade_8 (by decide) (fun _ => ?_) (fun _ => ?_)
    · refine sm_iconst (pc := 24) (0 : Int32) ok dx_L_isShade_24 zk_0 ?_
      exact sm_zret (pc := 25) ok dx_L_isShade_25 hr rfl
    · refine sm_iload_n (pc := 11) 0 ok dx_L_isShade_11 rfl ?_
      refine sm_if_lt (pc := 12) 24 ok dx_L_isShade_12 (by decide) (fun _ => ?_) (fun _ => ?_)
      · refine sm_iconst (pc := 24) (0 : Int32) ok dx_L_isShade_24 zk_0 ?_
        exact sm_zret (pc := 25) ok dx_L_isShade_25 hr rfl
      · refine sm_iload_n (pc := 15) 0 ok dx_L_isShade_15 rfl ?_
        refine sm_iload_n (pc := 16) 1 ok dx_L_isShade_16 rfl ?_
        refine sm_icmp_gt (pc := 17) 24 ok dx_L_isShade_17 (by decide) (fun _ => ?_) (fun _ => ?_)
        · refine sm_iconst (pc := 24) (0 : Int32) ok dx_L_isShade_24 zk_0 ?_
          exact sm_zret (pc := 25) ok dx_L_isShade_25 hr rfl
        · refine sm_iconst (pc := 20) (1 : Int32) ok dx_L_isShade_20 zk_1 ?_
          refine sm_goto (pc := 21) 25 ok dx_L_isShade_21 (by decide) ?_
          exact sm_zret (pc := 25) ok dx_L_isShade_25 hr rfl
theorem cx_L_isShade {l : Launch} {wc : sm_Wc} (hj : sm_inj zx_sy wc) (N : Nat) (S : sm_St) (v0 : Int32) (v1 : Int32) : sm_Ct l zx_sy wc yx_L_isShade prog_1_method_35_code 2 (some .boolean) 0 0 [.int v0, .int v1] S (sm_Pi zx_sy wc) (px_L_isShade N S v0 v1) :=
  sm_entry (Pq := fun wc => sm_Pi zx_sy wc) (fun wc => [.int v0, .int v1]) (lv := fun wc => [(0, .int v0), (1, .int v1)]) (by decide) hj zx_ok zx_stb (fun _ => Nat.le_of_ble_eq_true rfl) (fun _ => rfl) (fun x _ ok hr => tx_L_isShade ok hr N S v0 v1)
set_option maxHeartbeats 4000000 in
set_option maxRecDepth 20000 in
theorem tx_House_lenders_b37 {x : sm_Cx} (ok : sm_Ok x zx_sy prog_4_method_7_code "LentShades$House" 3 1 21) (hr : (xh x).sig.returnType = (some .int)) (N : Nat) (p : Nat) (hp : zx_sy.1 p = (12, 0)) {r13 : Int32 → Int32 → sm_St → Option (Int32 × sm_St)} (h13 : ∀ (v1 : Int32) (v2 : Int32) (S : sm_St), sm_Sm x zx_sy prog_4_method_7_code (sm_Q x zx_sy (sm_Pi zx_sy (xw x))) (r13 v1 v2 S) S 13 [(0, .ref ((xw x).2.2 p)), (1, .int v1), (2, .int v2)] []) (v2 : Int32) (s0 : Int32) (s1 : Int32) (S : sm_St) : sm_Sm x zx_sy prog_4_method_7_code (sm_Q x zx_sy (sm_Pi zx_sy (xw x))) (px_House_lenders_b37 N p r13 v2 s0 s1 S) S 37 [(0, .ref ((xw x).2.2 p)), (2, .int v2)] [.int s1, .int s0] := by
  unfold px_House_lenders_b37
  refine sm_ior (pc := 37) ok dx_House_lenders_37 ?_
  refine sm_istore_n (pc := 38) (i := 1) ok dx_House_lenders_38 rfl (by decide) (fun v => [(1, .int v), (0, .ref ((xw x).2.2 p)), (2, .int v2)]) (fun _ => rfl) (fun v1_5 => ?_)
  refine sm_iinc (pc := 39) (i := 2) 2 (1 : Int32) ok dx_House_lenders_39 rfl zk_1 (by decide) (fun v => [(2, .int v), (1, .int v1_5), (0, .ref ((xw x).2.2 p))]) (fun _ => rfl) (fun v2_6 => ?_)
  refine sm_goto (pc := 42) 13 ok dx_House_lenders_42 (by decide) ?_
  refine sm_lv [2, 1, 0] rfl ?_
  exact h13 _ _ _
set_option maxHeartbeats 4000000 in
set_option maxRecDepth 20000 in
theorem tx_House_lenders_b13 {x : sm_Cx} (ok : sm_Ok x zx_sy prog_4_method_7_code "LentShades$House" 3 1 21) (hr : (xh x).sig.returnType = (some .int)) (N : Nat) (p : Nat) (hp : zx_sy.1 p = (12, 0)) : ∀ (n : Nat) (v1 : Int32) (v2 : Int32) (S : sm_St), sm_Sm x zx_sy prog_4_method_7_code (sm_Q x zx_sy (sm_Pi zx_sy (xw x))) (px_House_lenders_b13 N p n v1 v2 S) S 13 [(0, .ref ((xw x).2.2 p)), (1, .int v1), (2, .int v2)] [] := by
  intro n
  induction n with
  | zero =>
    intro v1 v2 S
    exact sm_none
  | succ n ih =>
    intro v1 v2 S
    show sm_Sm x zx_sy prog_4_method_7_code (sm_Q x zx_sy (sm_Pi zx_sy (xw x))) (if (S.1 p 9) ≤ v2 then (some (v1, S)) else (sm_b2 (px_House_lends N S p v2) (fun (r_4 : Int32) (S_3 : sm_St) => if r_4 = 0 then (px_House_lenders_b37 N p (px_House_lenders_b13 N p n) v2 v1 (0 : Int32) S_3) else (px_House_lenders_b37 N p (px_House_lenders_b13 N p n) v2 v1 ((1 : Int32) <<< (v2 &&& 31)) S_3)))) S 13 [(0, .ref ((xw x).2.2 p)), (1, .int v1), (2, .int v2)] []
    refine sm_iload_n (pc := 13) 2 ok dx_House_lenders_13 rfl ?_
    refine sm_aload_n (pc := 14) 0 ok dx_House_lenders_14 rfl ?_
    refine sm_getI (pc := 15) (ci := 2) (k := 9) ok dx_House_lenders_15 hp rfl zc_i2 (by decide) rfl wd_186 ?_
    refine sm_icmp_ge (pc := 18) 45 ok dx_House_lenders_18 (by decide) (fun _ => ?_) (fun _ => ?_)
    · refine sm_iload_n (pc := 45) 1 ok dx_House_lenders_45 rfl ?_
      exact sm_iret (pc := 46) ok dx_House_lenders_46 hr
    · refine sm_iload_n (pc := 21) 1 ok dx_House_lenders_21 rfl ?_
      refine sm_aload_n (pc := 22) 0 ok dx_House_lenders_22 rfl ?_
      refine sm_iload_n (pc := 23) 2 ok dx_House_lenders_23 rfl ?_
      refine sm_callV_i (pc := 24) (ci := 2) [.int v2] ok dx_House_lenders_24 wd_866 mwx_House_lends hp rfl (Nat.le_of_ble_eq_true rfl) (Nat.le_of_ble_eq_true rfl) rfl rfl (Nat.le_of_ble_eq_true rfl) (cx_House_lends (sm_okj ok) N S p v2 hp) (fun r_4 S_3 => ?_)
      refine sm_if_eq (pc := 27) 36 ok dx_House_lenders_27 (by decide) (fun _ => ?_) (fun _ => ?_)
      · refine sm_iconst (pc := 36) (0 : Int32) ok dx_House_lenders_36 zk_0 ?_
        refine sm_lv [0, 2] rfl ?_
        exact tx_House_lenders_b37 ok hr N p hp ih _ _ _ _
      · refine sm_iconst (pc := 30) (1 : Int32) ok dx_House_lenders_30 zk_1 ?_
        refine sm_iload_n (pc := 31) 2 ok dx_House_lenders_31 rfl ?_
        refine sm_ishl (pc := 32) ok dx_House_lenders_32 ?_
        refine sm_goto (pc := 33) 37 ok dx_House_lenders_33 (by decide) ?_
        refine sm_lv [0, 2] rfl ?_
        exact tx_House_lenders_b37 ok hr N p hp ih _ _ _ _
set_option maxHeartbeats 4000000 in
set_option maxRecDepth 20000 in
theorem tx_House_lenders {x : sm_Cx} (ok : sm_Ok x zx_sy prog_4_method_7_code "LentShades$House" 3 1 21) (hr : (xh x).sig.returnType = (some .int)) (N : Nat) (S : sm_St) (p : Nat) (hp : zx_sy.1 p = (12, 0)) : sm_Sm x zx_sy prog_4_method_7_code (sm_Q x zx_sy (sm_Pi zx_sy (xw x))) (px_House_lenders N S p) S 0 [(0, .ref ((xw x).2.2 p))] [] := by
  unfold px_House_lenders
  refine sm_iconst (pc := 0) (1 : Int32) ok dx_House_lenders_0 zk_1 ?_
  refine sm_aload_n (pc := 1) 0 ok dx_House_lenders_1 rfl ?_
  refine sm_getI (pc := 2) (ci := 2) (k := 10) ok dx_House_lenders_2 hp rfl zc_i2 (by decide) rfl wd_189 ?_
  refine sm_ishl (pc := 5) ok dx_House_lenders_5 ?_
  refine sm_iconst (pc := 6) (1 : Int32) ok dx_House_lenders_6 zk_1 ?_
  refine sm_isub (pc := 7) ok dx_House_lenders_7 ?_
  refine sm_iconst (pc := 8) (4 : Int32) ok dx_House_lenders_8 zk_4 ?_
  refine sm_ishl (pc := 9) ok dx_House_lenders_9 ?_
  refine sm_istore_n (pc := 10) (i := 1) ok dx_House_lenders_10 rfl (by decide) (fun v => [(1, .int v), (0, .ref ((xw x).2.2 p))]) (fun _ => rfl) (fun v1_1 => ?_)
  refine sm_iconst (pc := 11) (0 : Int32) ok dx_House_lenders_11 zk_0 ?_
  refine sm_istore_n (pc := 12) (i := 2) ok dx_House_lenders_12 rfl (by decide) (fun v => [(2, .int v), (1, .int v1_1), (0, .ref ((xw x).2.2 p))]) (fun _ => rfl) (fun v2_2 => ?_)
  refine sm_lv [2, 1, 0] rfl ?_
  exact tx_House_lenders_b13 ok hr N p hp N _ _ _
theorem cx_House_lenders {l : Launch} {wc : sm_Wc} (hj : sm_inj zx_sy wc) (N : Nat) (S : sm_St) (p : Nat) (hp : zx_sy.1 p = (12, 0)) : sm_Ct l zx_sy wc yx_House_lenders prog_4_method_7_code 3 (some .int) 1 21 [.ref (wc.2.2 p)] S (sm_Pi zx_sy wc) (px_House_lenders N S p) :=
  sm_entry (Pq := fun wc => sm_Pi zx_sy wc) (fun wc => [.ref (wc.2.2 p)]) (lv := fun wc => [(0, .ref (wc.2.2 p))]) (by decide) hj zx_ok zx_stb (fun _ => Nat.le_of_ble_eq_true rfl) (fun _ => rfl) (fun x _ ok hr => tx_House_lenders ok hr N S p hp)
set_option maxHeartbeats 4000000 in
set_option maxRecDepth 20000 in
theorem tx_JInteger_bitCount {x : sm_Cx} (ok : sm_Ok x zx_sy prog_13_method_49_code "java/lang/Integer" 1 0 0) (hr : (xh x).sig.returnType = (some .int)) (N : Nat) (S : sm_St) (v0 : Int32) : sm_Sm x zx_sy prog_13_method_49_code (sm_Q x zx_sy (sm_Pi zx_sy (xw x))) (px_JInteger_bitCount N S v0) S 0 [(0, .int v0)] [] := by
  unfold px_JInteger_bitCount
  refine sm_iload_n (pc := 0) 0 ok dx_JInteger_bitCount_0 rfl ?_
  refine sm_iload_n (pc := 1) 0 ok dx_JInteger_bitCount_1 rfl ?_
  refine sm_iconst (pc := 2) (1 : Int32) ok dx_JInteger_bitCount_2 zk_1 ?_
  refine sm_iushr (pc := 3) ok dx_JInteger_bitCount_3 ?_
  refine sm_ldcw (pc := 4) ok dx_JInteger_bitCount_4 wd_875 ?_
  refine sm_iand (pc := 7) ok dx_JInteger_bitCount_7 ?_
  refine sm_isub (pc := 8) ok dx_JInteger_bitCount_8 ?_
  refine sm_istore_n (pc := 9) (i := 0) ok dx_JInteger_bitCount_9 rfl (by decide) (fun v => [(0, .int v)]) (fun _ => rfl) (fun v0_1 => ?_)
  refine sm_iload_n (pc := 10) 0 ok dx_JInteger_bitCount_10 rfl ?_
  refine sm_ldcw (pc := 11) ok dx_JInteger_bitCount_11 wd_876 ?_
  refine sm_iand (pc := 14) ok dx_JInteger_bitCount_14 ?_
  refine sm_iload_n (pc := 15) 0 ok dx_JInteger_bitCount_15 rfl ?_
  refine sm_iconst (pc := 16) (2 : Int32) ok dx_JInteger_bitCount_16 zk_2 ?_
  refine sm_iushr (pc := 17) ok dx_JInteger_bitCount_17 ?_
  refine sm_ldcw (pc := 18) ok dx_JInteger_bitCount_18 wd_876 ?_
  refine sm_iand (pc := 21) ok dx_JInteger_bitCount_21 ?_
  refine sm_iadd (pc := 22) ok dx_JInteger_bitCount_22 ?_
  refine sm_istore_n (pc := 23) (i := 0) ok dx_JInteger_bitCount_23 rfl (by decide) (fun v => [(0, .int v)]) (fun _ => rfl) (fun v0_2 => ?_)
  refine sm_iload_n (pc := 24) 0 ok dx_JInteger_bitCount_24 rfl ?_
  refine sm_iload_n (pc := 25) 0 ok dx_JInteger_bitCount_25 rfl ?_
  refine sm_iconst (pc := 26) (4 : Int32) ok dx_JInteger_bitCount_26 zk_4 ?_
  refine sm_iushr (pc := 27) ok dx_JInteger_bitCount_27 ?_
  refine sm_iadd (pc := 28) ok dx_JInteger_bitCount_28 ?_
  refine sm_ldcw (pc := 29) ok dx_JInteger_bitCount_29 wd_877 ?_
  refine sm_iand (pc := 32) ok dx_JInteger_bitCount_32 ?_
  refine sm_istore_n (pc := 33) (i := 0) ok dx_JInteger_bitCount_33 rfl (by decide) (fun v => [(0, .int v)]) (fun _ => rfl) (fun v0_3 => ?_)
  refine sm_iload_n (pc := 34) 0 ok dx_JInteger_bitCount_34 rfl ?_
  refine sm_iload_n (pc := 35) 0 ok dx_JInteger_bitCount_35 rfl ?_
  refine sm_bipush (pc := 36) (8 : Int32) ok dx_JInteger_bitCount_36 zb_8 ?_
  refine sm_iushr (pc := 38) ok dx_JInteger_bitCount_38 ?_
  refine sm_iadd (pc := 39) ok dx_JInteger_bitCount_39 ?_
  refine sm_istore_n (pc := 40) (i := 0) ok dx_JInteger_bitCount_40 rfl (by decide) (fun v => [(0, .int v)]) (fun _ => rfl) (fun v0_4 => ?_)
  refine sm_iload_n (pc := 41) 0 ok dx_JInteger_bitCount_41 rfl ?_
  refine sm_iload_n (pc := 42) 0 ok dx_JInteger_bitCount_42 rfl ?_
  refine sm_bipush (pc := 43) (16 : Int32) ok dx_JInteger_bitCount_43 zb_16 ?_
  refine sm_iushr (pc := 45) ok dx_JInteger_bitCount_45 ?_
  refine sm_iadd (pc := 46) ok dx_JInteger_bitCount_46 ?_
  refine sm_istore_n (pc := 47) (i := 0) ok dx_JInteger_bitCount_47 rfl (by decide) (fun v => [(0, .int v)]) (fun _ => rfl) (fun v0_5 => ?_)
  refine sm_iload_n (pc := 48) 0 ok dx_JInteger_bitCount_48 rfl ?_
  refine sm_bipush (pc := 49) (63 : Int32) ok dx_JInteger_bitCount_49 zb_63 ?_
  refine sm_iand (pc := 51) ok dx_JInteger_bitCount_51 ?_
  exact sm_iret (pc := 52) ok dx_JInteger_bitCount_52 hr
theorem cx_JInteger_bitCount {l : Launch} {wc : sm_Wc} (hj : sm_inj zx_sy wc) (N : Nat) (S : sm_St) (v0 : Int32) : sm_Ct l zx_sy wc yx_JInteger_bitCount prog_13_method_49_code 1 (some .int) 0 0 [.int v0] S (sm_Pi zx_sy wc) (px_JInteger_bitCount N S v0) :=
  sm_entry (Pq := fun wc => sm_Pi zx_sy wc) (fun wc => [.int v0]) (lv := fun wc => [(0, .int v0)]) (by decide) hj zx_ok zx_stb (fun _ => Nat.le_of_ble_eq_true rfl) (fun _ => rfl) (fun x _ ok hr => tx_JInteger_bitCount ok hr N S v0)
set_option maxHeartbeats 4000000 in
set_option maxRecDepth 20000 in
theorem tx_Sum_isZeroIn_b20 {x : sm_Cx} (ok : sm_Ok x zx_sy prog_9_method_4_code "LentShades$Sum" 8 0 0) (hr : (xh x).sig.returnType = (some .boolean)) (N : Nat) (p : Nat) (q1 : Nat) (hp : zx_sy.1 p = (17, 0)) (hq1 : zx_sy.1 q1 = (16, 0)) {r5 : Int64 → Int32 → sm_St → Option (Int32 × sm_St)} (h5 : ∀ (v2 : Int64) (v4 : Int32) (S : sm_St), sm_Sm x zx_sy prog_9_method_4_code (sm_Q x zx_sy (sm_Pi zx_sy (xw x))) (r5 v2 v4 S) S 5 [(0, .ref ((xw x).2.2 p)), (1, .ref ((xw x).2.2 q1)), (2, .long v2), (4, .int v4)] []) : ∀ (n : Nat) (v4 : Int32) (v5 : Int64) (v7 : Int32) (S : sm_St), sm_Sm x zx_sy prog_9_method_4_code (sm_Q x zx_sy (sm_Pi zx_sy (xw x))) (px_Sum_isZeroIn_b20 N p q1 r5 n v4 v5 v7 S) S 20 [(0, .ref ((xw x).2.2 p)), (1, .ref ((xw x).2.2 q1)), (4, .int v4), (5, .long v5), (7, .int v7)] [] := by
  intro n
  induction n with
  | zero =>
    intro v4 v5 v7 S
    exact sm_none
  | succ n ih =>
    intro v4 v5 v7 S
    show sm_Sm x zx_sy prog_9_method_4_code (sm_Q x zx_sy (sm_Pi zx_sy (xw x))) (if (5 : Int32) ≤ v7 then (if (v5 &&& (1073741823 : Int64)) = (0 : Int64) then (sm_lt (v5 >>> ((30 : Int32).toInt64 &&& 63)) (fun (v2_5 : Int64) => sm_lt (v4 + (1 : Int32)) (fun (v4_6 : Int32) => r5 v2_5 v4_6 S))) else (some ((0 : Int32), S))) else (if sm_in v7 5 = true then (if sm_in ((v7 * (20 : Int32)) + v4) 100 = true then (sm_lt (v5 + ((S.2.1 (p + 1) v7.toNatClampNeg) * (S.1 (q1 + 1) ((v7 * (20 : Int32)) + v4).toNatClampNeg).toInt64)) (fun (v5_7 : Int64) => sm_lt (v7 + (1 : Int32)) (fun (v7_8 : Int32) => (px_Sum_isZeroIn_b20 N p q1 r5 n) v4 v5_7 v7_8 S))) else none) else none)) S 20 [(0, .ref ((xw x).2.2 p)), (1, .ref ((xw x).2.2 q1)), (4, .int v4), (5, .long v5), (7, .int v7)] []
    refine sm_iload (pc := 20) 4 ok dx_Sum_isZeroIn_20 rfl ?_
    refine sm_iconst (pc := 22) (5 : Int32) ok dx_Sum_isZeroIn_22 zk_5 ?_
    refine sm_icmp_ge (pc := 23) 59 ok dx_Sum_isZeroIn_23 (by decide) (fun _ => ?_) (fun _ => ?_)
    · refine sm_lload (pc := 59) 3 ok dx_Sum_isZeroIn_59 rfl ?_
      refine sm_ldc2 (pc := 61) ok dx_Sum_isZeroIn_61 wd_678 ?_
      refine sm_land (pc := 64) ok dx_Sum_isZeroIn_64 ?_
      refine sm_lconst (pc := 65) (0 : Int64) ok dx_Sum_isZeroIn_65 zl_0 ?_
      refine sm_lif_eq (pc := 66) 72 ok dx_Sum_isZeroIn_66 dx_Sum_isZeroIn_67 (by decide) (fun _ => ?_) (fun _ => ?_)
      · refine sm_lload (pc := 72) 3 ok dx_Sum_isZeroIn_72 rfl ?_
        refine sm_bipush (pc := 74) (30 : Int32) ok dx_Sum_isZeroIn_74 zb_30 ?_
        refine sm_lshr (pc := 76) ok dx_Sum_isZeroIn_76 ?_
        refine sm_lstore_n (pc := 77) (i := 2) ok dx_Sum_isZeroIn_77 rfl (by decide) (fun v => [(2, .long v), (0, .ref ((xw x).2.2 p)), (1, .ref ((xw x).2.2 q1)), (4, .int v4), (5, .long v5), (7, .int v7)]) (fun _ => rfl) (fun v2_5 => ?_)
        refine sm_iinc (pc := 78) (i := 4) 3 (1 : Int32) ok dx_Sum_isZeroIn_78 rfl zk_1 (by decide) (fun v => [(4, .int v), (2, .long v2_5), (0, .ref ((xw x).2.2 p)), (1, .ref ((xw x).2.2 q1)), (5, .long v5), (7, .int v7)]) (fun _ => rfl) (fun v4_6 => ?_)
        refine sm_goto (pc := 81) 5 ok dx_Sum_isZeroIn_81 (by decide) ?_
        refine sm_lv [2, 3, 1, 0] rfl ?_
        exact h5 _ _ _
      · refine sm_iconst (pc := 70) (0 : Int32) ok dx_Sum_isZeroIn_70 zk_0 ?_
        exact sm_zret (pc := 71) ok dx_Sum_isZeroIn_71 hr rfl
    · refine sm_lload (pc := 26) 3 ok dx_Sum_isZeroIn_26 rfl ?_
      refine sm_aload_n (pc := 28) 0 ok dx_Sum_isZeroIn_28 rfl ?_
      refine sm_getR (pc := 29) (ci := 7) (k := 0) ok dx_Sum_isZeroIn_29 hp rfl zc_i7 (by decide) rfl wd_286 ?_
      refine sm_iload (pc := 32) 4 ok dx_Sum_isZeroIn_32 rfl ?_
      refine sm_lald (pc := 34) ok dx_Sum_isZeroIn_34 (zx_Sum_1 hp) ?_
      refine sm_aload_n (pc := 35) 1 ok dx_Sum_isZeroIn_35 rfl ?_
      refine sm_getR (pc := 36) (ci := 6) (k := 0) ok dx_Sum_isZeroIn_36 hq1 rfl zc_i6 (by decide) rfl wd_147 ?_
      refine sm_iload (pc := 39) 4 ok dx_Sum_isZeroIn_39 rfl ?_
      refine sm_bipush (pc := 41) (20 : Int32) ok dx_Sum_isZeroIn_41 zb_20 ?_
      refine sm_imul (pc := 43) ok dx_Sum_isZeroIn_43 ?_
      refine sm_iload (pc := 44) 2 ok dx_Sum_isZeroIn_44 rfl ?_
      refine sm_iadd (pc := 46) ok dx_Sum_isZeroIn_46 ?_
      refine sm_iald (pc := 47) ok dx_Sum_isZeroIn_47 (zx_Shades_1 hq1) ?_
      refine sm_i2l (pc := 48) ok dx_Sum_isZeroIn_48 ?_
      refine sm_lmul (pc := 49) ok dx_Sum_isZeroIn_49 ?_
      refine sm_ladd (pc := 50) ok dx_Sum_isZeroIn_50 ?_
      refine sm_lstore (pc := 51) (i := 5) ok dx_Sum_isZeroIn_51 (by decide) (fun v => [(5, .long v), (0, .ref ((xw x).2.2 p)), (1, .ref ((xw x).2.2 q1)), (4, .int v4), (7, .int v7)]) (fun _ => rfl) (fun v5_7 => ?_)
      refine sm_iinc (pc := 53) (i := 7) 4 (1 : Int32) ok dx_Sum_isZeroIn_53 rfl zk_1 (by decide) (fun v => [(7, .int v), (5, .long v5_7), (0, .ref ((xw x).2.2 p)), (1, .ref ((xw x).2.2 q1)), (4, .int v4)]) (fun _ => rfl) (fun v7_8 => ?_)
      refine sm_goto (pc := 56) 20 ok dx_Sum_isZeroIn_56 (by decide) ?_
      refine sm_lv [2, 3, 4, 1, 0] rfl ?_
      exact ih _ _ _ _
set_option maxHeartbeats 4000000 in
set_option maxRecDepth 20000 in
theorem tx_Sum_isZeroIn_b5 {x : sm_Cx} (ok : sm_Ok x zx_sy prog_9_method_4_code "LentShades$Sum" 8 0 0) (hr : (xh x).sig.returnType = (some .boolean)) (N : Nat) (p : Nat) (q1 : Nat) (hp : zx_sy.1 p = (17, 0)) (hq1 : zx_sy.1 q1 = (16, 0)) : ∀ (n : Nat) (v2 : Int64) (v4 : Int32) (S : sm_St), sm_Sm x zx_sy prog_9_method_4_code (sm_Q x zx_sy (sm_Pi zx_sy (xw x))) (px_Sum_isZeroIn_b5 N p q1 n v2 v4 S) S 5 [(0, .ref ((xw x).2.2 p)), (1, .ref ((xw x).2.2 q1)), (2, .long v2), (4, .int v4)] [] := by
  intro n
  induction n with
  | zero =>
    intro v2 v4 S
    exact sm_none
  | succ n ih =>
    intro v2 v4 S
    show sm_Sm x zx_sy prog_9_method_4_code (sm_Q x zx_sy (sm_Pi zx_sy (xw x))) (if (S.1 q1 1) ≤ v4 then (if v2 = (0 : Int64) then (some ((1 : Int32), S)) else (some ((0 : Int32), S))) else (sm_lt v2 (fun (v5_3 : Int64) => sm_lt (0 : Int32) (fun (v7_4 : Int32) => px_Sum_isZeroIn_b20 N p q1 (px_Sum_isZeroIn_b5 N p q1 n) N v4 v5_3 v7_4 S)))) S 5 [(0, .ref ((xw x).2.2 p)), (1, .ref ((xw x).2.2 q1)), (2, .long v2), (4, .int v4)] []
    refine sm_iload (pc := 5) 3 ok dx_Sum_isZeroIn_5 rfl ?_
    refine sm_aload_n (pc := 7) 1 ok dx_Sum_isZeroIn_7 rfl ?_
    refine sm_getI (pc := 8) (ci := 6) (k := 1) ok dx_Sum_isZeroIn_8 hq1 rfl zc_i6 (by decide) rfl wd_151 ?_
    refine sm_icmp_ge (pc := 11) 84 ok dx_Sum_isZeroIn_11 (by decide) (fun _ => ?_) (fun _ => ?_)
    · refine sm_lload_n (pc := 84) 2 ok dx_Sum_isZeroIn_84 rfl ?_
      refine sm_lconst (pc := 85) (0 : Int64) ok dx_Sum_isZeroIn_85 zl_0 ?_
      refine sm_lif_ne (pc := 86) 94 ok dx_Sum_isZeroIn_86 dx_Sum_isZeroIn_87 (by decide) (fun _ => ?_) (fun _ => ?_)
      · refine sm_iconst (pc := 94) (0 : Int32) ok dx_Sum_isZeroIn_94 zk_0 ?_
        exact sm_zret (pc := 95) ok dx_Sum_isZeroIn_95 hr rfl
      · refine sm_iconst (pc := 90) (1 : Int32) ok dx_Sum_isZeroIn_90 zk_1 ?_
        refine sm_goto (pc := 91) 95 ok dx_Sum_isZeroIn_91 (by decide) ?_
        exact sm_zret (pc := 95) ok dx_Sum_isZeroIn_95 hr rfl
    · refine sm_lload_n (pc := 14) 2 ok dx_Sum_isZeroIn_14 rfl ?_
      refine sm_lstore (pc := 15) (i := 5) ok dx_Sum_isZeroIn_15 (by decide) (fun v => [(5, .long v), (0, .ref ((xw x).2.2 p)), (1, .ref ((xw x).2.2 q1)), (2, .long v2), (4, .int v4)]) (fun _ => rfl) (fun v5_3 => ?_)
      refine sm_iconst (pc := 17) (0 : Int32) ok dx_Sum_isZeroIn_17 zk_0 ?_
      refine sm_istore (pc := 18) (i := 7) ok dx_Sum_isZeroIn_18 (by decide) (fun v => [(7, .int v), (5, .long v5_3), (0, .ref ((xw x).2.2 p)), (1, .ref ((xw x).2.2 q1)), (2, .long v2), (4, .int v4)]) (fun _ => rfl) (fun v7_4 => ?_)
      refine sm_lv [2, 3, 5, 1, 0] rfl ?_
      exact tx_Sum_isZeroIn_b20 ok hr N p q1 hp hq1 ih N _ _ _ _
set_option maxHeartbeats 4000000 in
set_option maxRecDepth 20000 in
theorem tx_Sum_isZeroIn {x : sm_Cx} (ok : sm_Ok x zx_sy prog_9_method_4_code "LentShades$Sum" 8 0 0) (hr : (xh x).sig.returnType = (some .boolean)) (N : Nat) (S : sm_St) (p : Nat) (q1 : Nat) (hp : zx_sy.1 p = (17, 0)) (hq1 : zx_sy.1 q1 = (16, 0)) : sm_Sm x zx_sy prog_9_method_4_code (sm_Q x zx_sy (sm_Pi zx_sy (xw x))) (px_Sum_isZeroIn N S p q1) S 0 [(0, .ref ((xw x).2.2 p)), (1, .ref ((xw x).2.2 q1))] [] := by
  unfold px_Sum_isZeroIn
  refine sm_lconst (pc := 0) (0 : Int64) ok dx_Sum_isZeroIn_0 zl_0 ?_
  refine sm_lstore_n (pc := 1) (i := 2) ok dx_Sum_isZeroIn_1 rfl (by decide) (fun v => [(2, .long v), (0, .ref ((xw x).2.2 p)), (1, .ref ((xw x).2.2 q1))]) (fun _ => rfl) (fun v2_1 => ?_)
  refine sm_iconst (pc := 2) (0 : Int32) ok dx_Sum_isZeroIn_2 zk_0 ?_
  refine sm_istore (pc := 3) (i := 4) ok dx_Sum_isZeroIn_3 (by decide) (fun v => [(4, .int v), (2, .long v2_1), (0, .ref ((xw x).2.2 p)), (1, .ref ((xw x).2.2 q1))]) (fun _ => rfl) (fun v4_2 => ?_)
  refine sm_lv [2, 3, 1, 0] rfl ?_
  exact tx_Sum_isZeroIn_b5 ok hr N p q1 hp hq1 N _ _ _
theorem cx_Sum_isZeroIn {l : Launch} {wc : sm_Wc} (hj : sm_inj zx_sy wc) (N : Nat) (S : sm_St) (p : Nat) (q1 : Nat) (hp : zx_sy.1 p = (17, 0)) (hq1 : zx_sy.1 q1 = (16, 0)) : sm_Ct l zx_sy wc yx_Sum_isZeroIn prog_9_method_4_code 8 (some .boolean) 0 0 [.ref (wc.2.2 p), .ref (wc.2.2 q1)] S (sm_Pi zx_sy wc) (px_Sum_isZeroIn N S p q1) :=
  sm_entry (Pq := fun wc => sm_Pi zx_sy wc) (fun wc => [.ref (wc.2.2 p), .ref (wc.2.2 q1)]) (lv := fun wc => [(0, .ref (wc.2.2 p)), (1, .ref (wc.2.2 q1))]) (by decide) hj zx_ok zx_stb (fun _ => Nat.le_of_ble_eq_true rfl) (fun _ => rfl) (fun x _ ok hr => tx_Sum_isZeroIn ok hr N S p q1 hp hq1)
set_option maxHeartbeats 4000000 in
set_option maxRecDepth 20000 in
theorem tx_L_gives_b101 {x : sm_Cx} (ok : sm_Ok x zx_sy prog_1_method_36_code "LentShades" 5 1 27) (hr : (xh x).sig.returnType = (some .boolean)) (N : Nat) {r52 : Int32 → Int32 → Int32 → Int32 → sm_St → Option (Int32 × sm_St)} (h52 : ∀ (v1 : Int32) (v2 : Int32) (v3 : Int32) (v4 : Int32) (S : sm_St), sm_Sm x zx_sy prog_1_method_36_code (sm_Q x zx_sy (sm_Pi zx_sy (xw x))) (r52 v1 v2 v3 v4 S) S 52 [(0, .ref ((xw x).2.2 0)), (1, .int v1), (2, .int v2), (3, .int v3), (4, .int v4)] []) (v1 : Int32) (v2 : Int32) (v3 : Int32) (v4 : Int32) (S : sm_St) : sm_Sm x zx_sy prog_1_method_36_code (sm_Q x zx_sy (sm_Pi zx_sy (xw x))) (px_L_gives_b101 N r52 v1 v2 v3 v4 S) S 101 [(0, .ref ((xw x).2.2 0)), (1, .int v1), (2, .int v2), (3, .int v3), (4, .int v4)] [] := by
  unfold px_L_gives_b101
  refine sm_iinc (pc := 101) (i := 4) 4 (1 : Int32) ok dx_L_gives_101 rfl zk_1 (by decide) (fun v => [(4, .int v), (0, .ref ((xw x).2.2 0)), (1, .int v1), (2, .int v2), (3, .int v3)]) (fun _ => rfl) (fun v4_12 => ?_)
  refine sm_goto (pc := 104) 52 ok dx_L_gives_104 (by decide) ?_
  refine sm_lv [1, 2, 3, 4, 0] rfl ?_
  exact h52 _ _ _ _ _
set_option maxHeartbeats 4000000 in
set_option maxRecDepth 20000 in
theorem tx_L_gives_b52 {x : sm_Cx} (ok : sm_Ok x zx_sy prog_1_method_36_code "LentShades" 5 1 27) (hr : (xh x).sig.returnType = (some .boolean)) (N : Nat) : ∀ (n : Nat) (v1 : Int32) (v2 : Int32) (v3 : Int32) (v4 : Int32) (S : sm_St), sm_Sm x zx_sy prog_1_method_36_code (sm_Q x zx_sy (sm_Pi zx_sy (xw x))) (px_L_gives_b52 N n v1 v2 v3 v4 S) S 52 [(0, .ref ((xw x).2.2 0)), (1, .int v1), (2, .int v2), (3, .int v3), (4, .int v4)] [] := by
  intro n
  induction n with
  | zero =>
    intro v1 v2 v3 v4 S
    exact sm_none
  | succ n ih =>
    intro v1 v2 v3 v4 S
    show sm_Sm x zx_sy prog_1_method_36_code (sm_Q x zx_sy (sm_Pi zx_sy (xw x))) (if (S.1 1 10) ≤ v4 then (if sm_in (4 : Int32) 5 = true then (sm_b2 (px_JInteger_bitCount N S v1) (fun (r_7 : Int32) (S_6 : sm_St) => if sm_in (4 : Int32) 5 = true then sm_lt (sm_sL S_6 108 (4 : Int32).toNatClampNeg ((S.2.1 108 (4 : Int32).toNatClampNeg) - (((12 : Int64) * v2.toInt64) * r_7.toInt64))) (fun (S_8 : sm_St) => sm_b2 (px_Sum_isZeroIn N S_8 107 12) (fun (r_10 : Int32) (S_9 : sm_St) => sm_rz r_10 S_9)) else none)) else none) else (if ((v1 >>> (((4 : Int32) + v4) &&& 31)) &&& (1 : Int32)) = 0 then (px_L_gives_b101 N (px_L_gives_b52 N n) v1 v2 v3 v4 S) else (if sm_in (4 : Int32) 5 = true then (if sm_in v4 4 = true then (if sm_in (4 : Int32) 5 = true then sm_lt (sm_sL S 108 (4 : Int32).toNatClampNeg ((S.2.1 108 (4 : Int32).toNatClampNeg) + (v3.toInt64 * (S.1 6 v4.toNatClampNeg).toInt64))) (fun (S_11 : sm_St) => px_L_gives_b101 N (px_L_gives_b52 N n) v1 v2 v3 v4 S_11) else none) else none) else none))) S 52 [(0, .ref ((xw x).2.2 0)), (1, .int v1), (2, .int v2), (3, .int v3), (4, .int v4)] []
    refine sm_iload (pc := 52) 4 ok dx_L_gives_52 rfl ?_
    refine sm_aload_n (pc := 54) 0 ok dx_L_gives_54 rfl ?_
    refine sm_getR (pc := 55) (ci := 9) (k := 0) ok dx_L_gives_55 rfl rfl zc_i9 (by decide) rfl wd_400 ?_
    refine sm_getI (pc := 58) (ci := 2) (k := 10) ok dx_L_gives_58 rfl rfl zc_i2 (by decide) rfl wd_190 ?_
    refine sm_icmp_ge (pc := 61) 107 ok dx_L_gives_61 (by decide) (fun _ => ?_) (fun _ => ?_)
    · refine sm_aload_n (pc := 107) 0 ok dx_L_gives_107 rfl ?_
      refine sm_getR (pc := 108) (ci := 9) (k := 5) ok dx_L_gives_108 rfl rfl zc_i9 (by decide) rfl wd_405 ?_
      refine sm_getR (pc := 111) (ci := 7) (k := 0) ok dx_L_gives_111 rfl rfl zc_i7 (by decide) rfl wd_290 ?_
      refine sm_iconst (pc := 114) (4 : Int32) ok dx_L_gives_114 zk_4 ?_
      refine sm_dup2 (pc := 115) ok dx_L_gives_115 rfl rfl ?_
      refine sm_lald (pc := 116) ok dx_L_gives_116 rfl ?_
      refine sm_ldc2 (pc := 117) ok dx_L_gives_117 wd_871 ?_
      refine sm_iload_n (pc := 120) 2 ok dx_L_gives_120 rfl ?_
      refine sm_i2l (pc := 121) ok dx_L_gives_121 ?_
      refine sm_lmul (pc := 122) ok dx_L_gives_122 ?_
      refine sm_iload_n (pc := 123) 1 ok dx_L_gives_123 rfl ?_
      refine sm_callS_i (pc := 124) [.int v1] ok dx_L_gives_124 wd_872 mwx_JInteger_bitCount (Nat.le_of_ble_eq_true rfl) (Nat.le_of_ble_eq_true rfl) rfl rfl (Nat.le_of_ble_eq_true rfl) (cx_JInteger_bitCount (sm_okj ok) N S v1) (fun r_7 S_6 => ?_)
      refine sm_i2l (pc := 127) ok dx_L_gives_127 ?_
      refine sm_lmul (pc := 128) ok dx_L_gives_128 ?_
      refine sm_lsub (pc := 129) ok dx_L_gives_129 ?_
      refine sm_last (pc := 130) ok dx_L_gives_130 rfl (fun S_8 => ?_)
      refine sm_aload_n (pc := 131) 0 ok dx_L_gives_131 rfl ?_
      refine sm_getR (pc := 132) (ci := 9) (k := 5) ok dx_L_gives_132 rfl rfl zc_i9 (by decide) rfl wd_405 ?_
      refine sm_aload_n (pc := 135) 0 ok dx_L_gives_135 rfl ?_
      refine sm_getR (pc := 136) (ci := 9) (k := 0) ok dx_L_gives_136 rfl rfl zc_i9 (by decide) rfl wd_400 ?_
      refine sm_getR (pc := 139) (ci := 2) (k := 6) ok dx_L_gives_139 rfl rfl zc_i2 (by decide) rfl wd_181 ?_
      refine sm_callV_i (pc := 142) (ci := 7) [.ref ((xw x).2.2 12)] ok dx_L_gives_142 wd_878 mwx_Sum_isZeroIn rfl rfl (Nat.le_of_ble_eq_true rfl) (Nat.le_of_ble_eq_true rfl) rfl rfl (Nat.le_of_ble_eq_true rfl) (cx_Sum_isZeroIn (sm_okj ok) N S_8 107 12 rfl rfl) (fun r_10 S_9 => ?_)
      exact sm_zretc (pc := 145) ok dx_L_gives_145 hr
    · refine sm_iload_n (pc := 64) 1 ok dx_L_gives_64 rfl ?_
      refine sm_iconst (pc := 65) (4 : Int32) ok dx_L_gives_65 zk_4 ?_
      refine sm_iload (pc := 66) 4 ok dx_L_gives_66 rfl ?_
      refine sm_iadd (pc := 68) ok dx_L_gives_68 ?_
      refine sm_ishr (pc := 69) ok dx_L_gives_69 ?_
      refine sm_iconst (pc := 70) (1 : Int32) ok dx_L_gives_70 zk_1 ?_
      refine sm_iand (pc := 71) ok dx_L_gives_71 ?_
      refine sm_if_eq (pc := 72) 101 ok dx_L_gives_72 (by decide) (fun _ => ?_) (fun _ => ?_)
      · exact tx_L_gives_b101 ok hr N ih _ _ _ _ _
      · refine sm_aload_n (pc := 75) 0 ok dx_L_gives_75 rfl ?_
        refine sm_getR (pc := 76) (ci := 9) (k := 5) ok dx_L_gives_76 rfl rfl zc_i9 (by decide) rfl wd_405 ?_
        refine sm_getR (pc := 79) (ci := 7) (k := 0) ok dx_L_gives_79 rfl rfl zc_i7 (by decide) rfl wd_290 ?_
        refine sm_iconst (pc := 82) (4 : Int32) ok dx_L_gives_82 zk_4 ?_
        refine sm_dup2 (pc := 83) ok dx_L_gives_83 rfl rfl ?_
        refine sm_lald (pc := 84) ok dx_L_gives_84 rfl ?_
        refine sm_iload_n (pc := 85) 3 ok dx_L_gives_85 rfl ?_
        refine sm_i2l (pc := 86) ok dx_L_gives_86 ?_
        refine sm_aload_n (pc := 87) 0 ok dx_L_gives_87 rfl ?_
        refine sm_getR (pc := 88) (ci := 9) (k := 0) ok dx_L_gives_88 rfl rfl zc_i9 (by decide) rfl wd_400 ?_
        refine sm_getR (pc := 91) (ci := 2) (k := 4) ok dx_L_gives_91 rfl rfl zc_i2 (by decide) rfl wd_173 ?_
        refine sm_iload (pc := 94) 4 ok dx_L_gives_94 rfl ?_
        refine sm_iald (pc := 96) ok dx_L_gives_96 rfl ?_
        refine sm_i2l (pc := 97) ok dx_L_gives_97 ?_
        refine sm_lmul (pc := 98) ok dx_L_gives_98 ?_
        refine sm_ladd (pc := 99) ok dx_L_gives_99 ?_
        refine sm_last (pc := 100) ok dx_L_gives_100 rfl (fun S_11 => ?_)
        exact tx_L_gives_b101 ok hr N ih _ _ _ _ _
set_option maxHeartbeats 4000000 in
set_option maxRecDepth 20000 in
theorem tx_L_gives_b43 {x : sm_Cx} (ok : sm_Ok x zx_sy prog_1_method_36_code "LentShades" 5 1 27) (hr : (xh x).sig.returnType = (some .boolean)) (N : Nat) {r10 : Int32 → Int32 → Int32 → Int32 → sm_St → Option (Int32 × sm_St)} (h10 : ∀ (v1 : Int32) (v2 : Int32) (v3 : Int32) (v4 : Int32) (S : sm_St), sm_Sm x zx_sy prog_1_method_36_code (sm_Q x zx_sy (sm_Pi zx_sy (xw x))) (r10 v1 v2 v3 v4 S) S 10 [(0, .ref ((xw x).2.2 0)), (1, .int v1), (2, .int v2), (3, .int v3), (4, .int v4)] []) (v1 : Int32) (v2 : Int32) (v3 : Int32) (v4 : Int32) (S : sm_St) : sm_Sm x zx_sy prog_1_method_36_code (sm_Q x zx_sy (sm_Pi zx_sy (xw x))) (px_L_gives_b43 N r10 v1 v2 v3 v4 S) S 43 [(0, .ref ((xw x).2.2 0)), (1, .int v1), (2, .int v2), (3, .int v3), (4, .int v4)] [] := by
  unfold px_L_gives_b43
  refine sm_iinc (pc := 43) (i := 4) 4 (1 : Int32) ok dx_L_gives_43 rfl zk_1 (by decide) (fun v => [(4, .int v), (0, .ref ((xw x).2.2 0)), (1, .int v1), (2, .int v2), (3, .int v3)]) (fun _ => rfl) (fun v4_5 => ?_)
  refine sm_goto (pc := 46) 10 ok dx_L_gives_46 (by decide) ?_
  refine sm_lv [1, 2, 3, 4, 0] rfl ?_
  exact h10 _ _ _ _ _
set_option maxHeartbeats 4000000 in
set_option maxRecDepth 20000 in
theorem tx_L_gives_b10 {x : sm_Cx} (ok : sm_Ok x zx_sy prog_1_method_36_code "LentShades" 5 1 27) (hr : (xh x).sig.returnType = (some .boolean)) (N : Nat) : ∀ (n : Nat) (v1 : Int32) (v2 : Int32) (v3 : Int32) (v4 : Int32) (S : sm_St), sm_Sm x zx_sy prog_1_method_36_code (sm_Q x zx_sy (sm_Pi zx_sy (xw x))) (px_L_gives_b10 N n v1 v2 v3 v4 S) S 10 [(0, .ref ((xw x).2.2 0)), (1, .int v1), (2, .int v2), (3, .int v3), (4, .int v4)] [] := by
  intro n
  induction n with
  | zero =>
    intro v1 v2 v3 v4 S
    exact sm_none
  | succ n ih =>
    intro v1 v2 v3 v4 S
    show sm_Sm x zx_sy prog_1_method_36_code (sm_Q x zx_sy (sm_Pi zx_sy (xw x))) (if (S.1 1 9) ≤ v4 then (sm_lt (0 : Int32) (fun (v4_3 : Int32) => px_L_gives_b52 N N v1 v2 v3 v4_3 S)) else (if ((v1 >>> (v4 &&& 31)) &&& (1 : Int32)) = 0 then (px_L_gives_b43 N (px_L_gives_b10 N n) v1 v2 v3 v4 S) else (if sm_in v4 5 = true then sm_lt (sm_sL S 108 v4.toNatClampNeg (v3.toInt64)) (fun (S_4 : sm_St) => px_L_gives_b43 N (px_L_gives_b10 N n) v1 v2 v3 v4 S_4) else none))) S 10 [(0, .ref ((xw x).2.2 0)), (1, .int v1), (2, .int v2), (3, .int v3), (4, .int v4)] []
    refine sm_iload (pc := 10) 4 ok dx_L_gives_10 rfl ?_
    refine sm_aload_n (pc := 12) 0 ok dx_L_gives_12 rfl ?_
    refine sm_getR (pc := 13) (ci := 9) (k := 0) ok dx_L_gives_13 rfl rfl zc_i9 (by decide) rfl wd_400 ?_
    refine sm_getI (pc := 16) (ci := 2) (k := 9) ok dx_L_gives_16 rfl rfl zc_i2 (by decide) rfl wd_188 ?_
    refine sm_icmp_ge (pc := 19) 49 ok dx_L_gives_19 (by decide) (fun _ => ?_) (fun _ => ?_)
    · refine sm_iconst (pc := 49) (0 : Int32) ok dx_L_gives_49 zk_0 ?_
      refine sm_istore (pc := 50) (i := 4) ok dx_L_gives_50 (by decide) (fun v => [(4, .int v), (0, .ref ((xw x).2.2 0)), (1, .int v1), (2, .int v2), (3, .int v3)]) (fun _ => rfl) (fun v4_3 => ?_)
      refine sm_lv [1, 2, 3, 4, 0] rfl ?_
      exact tx_L_gives_b52 ok hr N N _ _ _ _ _
    · refine sm_iload_n (pc := 22) 1 ok dx_L_gives_22 rfl ?_
      refine sm_iload (pc := 23) 4 ok dx_L_gives_23 rfl ?_
      refine sm_ishr (pc := 25) ok dx_L_gives_25 ?_
      refine sm_iconst (pc := 26) (1 : Int32) ok dx_L_gives_26 zk_1 ?_
      refine sm_iand (pc := 27) ok dx_L_gives_27 ?_
      refine sm_if_eq (pc := 28) 43 ok dx_L_gives_28 (by decide) (fun _ => ?_) (fun _ => ?_)
      · exact tx_L_gives_b43 ok hr N ih _ _ _ _ _
      · refine sm_aload_n (pc := 31) 0 ok dx_L_gives_31 rfl ?_
        refine sm_getR (pc := 32) (ci := 9) (k := 5) ok dx_L_gives_32 rfl rfl zc_i9 (by decide) rfl wd_405 ?_
        refine sm_getR (pc := 35) (ci := 7) (k := 0) ok dx_L_gives_35 rfl rfl zc_i7 (by decide) rfl wd_290 ?_
        refine sm_iload (pc := 38) 4 ok dx_L_gives_38 rfl ?_
        refine sm_iload_n (pc := 40) 3 ok dx_L_gives_40 rfl ?_
        refine sm_i2l (pc := 41) ok dx_L_gives_41 ?_
        refine sm_last (pc := 42) ok dx_L_gives_42 rfl (fun S_4 => ?_)
        exact tx_L_gives_b43 ok hr N ih _ _ _ _ _
set_option maxHeartbeats 4000000 in
set_option maxRecDepth 20000 in
theorem tx_L_gives {x : sm_Cx} (ok : sm_Ok x zx_sy prog_1_method_36_code "LentShades" 5 1 27) (hr : (xh x).sig.returnType = (some .boolean)) (N : Nat) (S : sm_St) (v1 : Int32) (v2 : Int32) (v3 : Int32) : sm_Sm x zx_sy prog_1_method_36_code (sm_Q x zx_sy (sm_Pi zx_sy (xw x))) (px_L_gives N S v1 v2 v3) S 0 [(0, .ref ((xw x).2.2 0)), (1, .int v1), (2, .int v2), (3, .int v3)] [] := by
  unfold px_L_gives
  refine sm_aload_n (pc := 0) 0 ok dx_L_gives_0 rfl ?_
  refine sm_getR (pc := 1) (ci := 9) (k := 5) ok dx_L_gives_1 rfl rfl zc_i9 (by decide) rfl wd_405 ?_
  refine sm_callV_v (pc := 4) (ci := 7) [] ok dx_L_gives_4 wd_685 mwx_Sum_begin rfl rfl (Nat.le_of_ble_eq_true rfl) (Nat.le_of_ble_eq_true rfl) rfl rfl (Nat.le_of_ble_eq_true rfl) (cx_Sum_begin (sm_okj ok) N S 107 rfl) (fun S_1 => ?_)
  refine sm_iconst (pc := 7) (0 : Int32) ok dx_L_gives_7 zk_0 ?_
  refine sm_istore (pc := 8) (i := 4) ok dx_L_gives_8 (by decide) (fun v => [(4, .int v), (0, .ref ((xw x).2.2 0)), (1, .int v1), (2, .int v2), (3, .int v3)]) (fun _ => rfl) (fun v4_2 => ?_)
  refine sm_lv [1, 2, 3, 4, 0] rfl ?_
  exact tx_L_gives_b10 ok hr N N _ _ _ _ _
theorem cx_L_gives {l : Launch} {wc : sm_Wc} (hj : sm_inj zx_sy wc) (N : Nat) (S : sm_St) (v1 : Int32) (v2 : Int32) (v3 : Int32) : sm_Ct l zx_sy wc yx_L_gives prog_1_method_36_code 5 (some .boolean) 1 27 [.ref (wc.2.2 0), .int v1, .int v2, .int v3] S (sm_Pi zx_sy wc) (px_L_gives N S v1 v2 v3) :=
  sm_entry (Pq := fun wc => sm_Pi zx_sy wc) (fun wc => [.ref (wc.2.2 0), .int v1, .int v2, .int v3]) (lv := fun wc => [(0, .ref (wc.2.2 0)), (1, .int v1), (2, .int v2), (3, .int v3)]) (by decide) hj zx_ok zx_stb (fun _ => Nat.le_of_ble_eq_true rfl) (fun _ => rfl) (fun x _ ok hr => tx_L_gives ok hr N S v1 v2 v3)
set_option maxHeartbeats 4000000 in
set_option maxRecDepth 20000 in
theorem tx_L_morning_b13 {x : sm_Cx} (ok : sm_Ok x zx_sy prog_1_method_17_code "LentShades" 7 2 51) (hr : (xh x).sig.returnType = (some .int)) (N : Nat) (S : sm_St) : sm_Sm x zx_sy prog_1_method_17_code (sm_Q x zx_sy (sm_Pi zx_sy (xw x))) (px_L_morning_b13 N S) S 13 [(0, .ref ((xw x).2.2 0))] [] := by
  unfold px_L_morning_b13
  refine sm_aload_n (pc := 13) 0 ok dx_L_morning_13 rfl ?_
  refine sm_callV_i (pc := 14) (ci := 9) [] ok dx_L_morning_14 wd_450 mwx_L_refusedBad rfl rfl (Nat.le_of_ble_eq_true rfl) (Nat.le_of_ble_eq_true rfl) rfl rfl (Nat.le_of_ble_eq_true rfl) (cx_L_refusedBad (sm_okj ok) N S) (fun r_13 S_12 => ?_)
  refine sm_pop (pc := 17) ok dx_L_morning_17 rfl ?_
  refine sm_bipush (pc := 18) (-10 : Int32) ok dx_L_morning_18 zb_m10 ?_
  exact sm_iret (pc := 20) ok dx_L_morning_20 hr
set_option maxHeartbeats 4000000 in
set_option maxRecDepth 20000 in
theorem tx_L_morning_b77 {x : sm_Cx} (ok : sm_Ok x zx_sy prog_1_method_17_code "LentShades" 7 2 51) (hr : (xh x).sig.returnType = (some .int)) (N : Nat) {r36 : Int32 → Int32 → Int32 → Int32 → Int32 → Int32 → sm_St → Option (Int32 × sm_St)} (h36 : ∀ (v1 : Int32) (v2 : Int32) (v3 : Int32) (v4 : Int32) (v5 : Int32) (v6 : Int32) (S : sm_St), sm_Sm x zx_sy prog_1_method_17_code (sm_Q x zx_sy (sm_Pi zx_sy (xw x))) (r36 v1 v2 v3 v4 v5 v6 S) S 36 [(0, .ref ((xw x).2.2 0)), (1, .int v1), (2, .int v2), (3, .int v3), (4, .int v4), (5, .int v5), (6, .int v6)] []) (v1 : Int32) (v2 : Int32) (v3 : Int32) (v4 : Int32) (v5 : Int32) (v6 : Int32) (S : sm_St) : sm_Sm x zx_sy prog_1_method_17_code (sm_Q x zx_sy (sm_Pi zx_sy (xw x))) (px_L_morning_b77 N r36 v1 v2 v3 v4 v5 v6 S) S 77 [(0, .ref ((xw x).2.2 0)), (1, .int v1), (2, .int v2), (3, .int v3), (4, .int v4), (5, .int v5), (6, .int v6)] [] := by
  unfold px_L_morning_b77
  refine sm_iinc (pc := 77) (i := 6) 6 (1 : Int32) ok dx_L_morning_77 rfl zk_1 (by decide) (fun v => [(6, .int v), (0, .ref ((xw x).2.2 0)), (1, .int v1), (2, .int v2), (3, .int v3), (4, .int v4), (5, .int v5)]) (fun _ => rfl) (fun v6_11 => ?_)
  refine sm_goto (pc := 80) 36 ok dx_L_morning_80 (by decide) ?_
  refine sm_lv [1, 2, 3, 4, 5, 6, 0] rfl ?_
  exact h36 _ _ _ _ _ _ _
set_option maxHeartbeats 4000000 in
set_option maxRecDepth 20000 in
theorem tx_L_morning_b36 {x : sm_Cx} (ok : sm_Ok x zx_sy prog_1_method_17_code "LentShades" 7 2 51) (hr : (xh x).sig.returnType = (some .int)) (N : Nat) : ∀ (n : Nat) (v1 : Int32) (v2 : Int32) (v3 : Int32) (v4 : Int32) (v5 : Int32) (v6 : Int32) (S : sm_St), sm_Sm x zx_sy prog_1_method_17_code (sm_Q x zx_sy (sm_Pi zx_sy (xw x))) (px_L_morning_b36 N n v1 v2 v3 v4 v5 v6 S) S 36 [(0, .ref ((xw x).2.2 0)), (1, .int v1), (2, .int v2), (3, .int v3), (4, .int v4), (5, .int v5), (6, .int v6)] [] := by
  intro n
  induction n with
  | zero =>
    intro v1 v2 v3 v4 v5 v6 S
    exact sm_none
  | succ n ih =>
    intro v1 v2 v3 v4 v5 v6 S
    show sm_Sm x zx_sy prog_1_method_17_code (sm_Q x zx_sy (sm_Pi zx_sy (xw x))) (if (256 : Int32) ≤ v6 then (if v3 = (-1 : Int32) then (some (v5, S)) else (some ((-5 : Int32), S))) else (if (v6 &&& (v4 ^^^ (-1 : Int32))) = 0 then (sm_b2 (px_L_gives N S v6 v1 v2) (fun (r_9 : Int32) (S_8 : sm_St) => if r_9 = 0 then (px_L_morning_b77 N (px_L_morning_b36 N n) v1 v2 v3 v4 v5 v6 S_8) else (if v5 = v3 then (some (v6, S_8)) else (sm_lt (v5 + (1 : Int32)) (fun (v5_10 : Int32) => px_L_morning_b77 N (px_L_morning_b36 N n) v1 v2 v3 v4 v5_10 v6 S_8))))) else (px_L_morning_b77 N (px_L_morning_b36 N n) v1 v2 v3 v4 v5 v6 S))) S 36 [(0, .ref ((xw x).2.2 0)), (1, .int v1), (2, .int v2), (3, .int v3), (4, .int v4), (5, .int v5), (6, .int v6)] []
    refine sm_iload (pc := 36) 6 ok dx_L_morning_36 rfl ?_
    refine sm_sipush (pc := 38) (256 : Int32) ok dx_L_morning_38 zs_256 ?_
    refine sm_icmp_ge (pc := 41) 83 ok dx_L_morning_41 (by decide) (fun _ => ?_) (fun _ => ?_)
    · refine sm_iload_n (pc := 83) 3 ok dx_L_morning_83 rfl ?_
      refine sm_iconst (pc := 84) (-1 : Int32) ok dx_L_morning_84 zk_m1 ?_
      refine sm_icmp_ne (pc := 85) 93 ok dx_L_morning_85 (by decide) (fun _ => ?_) (fun _ => ?_)
      · refine sm_bipush (pc := 93) (-5 : Int32) ok dx_L_morning_93 zb_m5 ?_
        exact sm_iret (pc := 95) ok dx_L_morning_95 hr
      · refine sm_iload (pc := 88) 5 ok dx_L_morning_88 rfl ?_
        refine sm_goto (pc := 90) 95 ok dx_L_morning_90 (by decide) ?_
        exact sm_iret (pc := 95) ok dx_L_morning_95 hr
    · refine sm_iload (pc := 44) 6 ok dx_L_morning_44 rfl ?_
      refine sm_iload (pc := 46) 4 ok dx_L_morning_46 rfl ?_
      refine sm_iconst (pc := 48) (-1 : Int32) ok dx_L_morning_48 zk_m1 ?_
      refine sm_ixor (pc := 49) ok dx_L_morning_49 ?_
      refine sm_iand (pc := 50) ok dx_L_morning_50 ?_
      refine sm_if_ne (pc := 51) 77 ok dx_L_morning_51 (by decide) (fun _ => ?_) (fun _ => ?_)
      · exact tx_L_morning_b77 ok hr N ih _ _ _ _ _ _ _
      · refine sm_aload_n (pc := 54) 0 ok dx_L_morning_54 rfl ?_
        refine sm_iload (pc := 55) 6 ok dx_L_morning_55 rfl ?_
        refine sm_iload_n (pc := 57) 1 ok dx_L_morning_57 rfl ?_
        refine sm_iload_n (pc := 58) 2 ok dx_L_morning_58 rfl ?_
        refine sm_callV_i (pc := 59) (ci := 9) [.int v6, .int v1, .int v2] ok dx_L_morning_59 wd_867 mwx_L_gives rfl rfl (Nat.le_of_ble_eq_true rfl) (Nat.le_of_ble_eq_true rfl) rfl rfl (Nat.le_of_ble_eq_true rfl) (cx_L_gives (sm_okj ok) N S v6 v1 v2) (fun r_9 S_8 => ?_)
        refine sm_if_eq (pc := 62) 77 ok dx_L_morning_62 (by decide) (fun _ => ?_) (fun _ => ?_)
        · exact tx_L_morning_b77 ok hr N ih _ _ _ _ _ _ _
        · refine sm_iload (pc := 65) 5 ok dx_L_morning_65 rfl ?_
          refine sm_iload_n (pc := 67) 3 ok dx_L_morning_67 rfl ?_
          refine sm_icmp_ne (pc := 68) 74 ok dx_L_morning_68 (by decide) (fun _ => ?_) (fun _ => ?_)
          · refine sm_iinc (pc := 74) (i := 5) 5 (1 : Int32) ok dx_L_morning_74 rfl zk_1 (by decide) (fun v => [(5, .int v), (0, .ref ((xw x).2.2 0)), (1, .int v1), (2, .int v2), (3, .int v3), (4, .int v4), (6, .int v6)]) (fun _ => rfl) (fun v5_10 => ?_)
            refine sm_lv [1, 2, 3, 4, 5, 0, 6] rfl ?_
            exact tx_L_morning_b77 ok hr N ih _ _ _ _ _ _ _
          · refine sm_iload (pc := 71) 6 ok dx_L_morning_71 rfl ?_
            exact sm_iret (pc := 73) ok dx_L_morning_73 hr
set_option maxHeartbeats 4000000 in
set_option maxRecDepth 20000 in
theorem tx_L_morning {x : sm_Cx} (ok : sm_Ok x zx_sy prog_1_method_17_code "LentShades" 7 2 51) (hr : (xh x).sig.returnType = (some .int)) (N : Nat) (S : sm_St) (v1 : Int32) (v2 : Int32) (v3 : Int32) : sm_Sm x zx_sy prog_1_method_17_code (sm_Q x zx_sy (sm_Pi zx_sy (xw x))) (px_L_morning N S v1 v2 v3) S 0 [(0, .ref ((xw x).2.2 0)), (1, .int v1), (2, .int v2), (3, .int v3)] [] := by
  unfold px_L_morning
  refine sm_iload_n (pc := 0) 1 ok dx_L_morning_0 rfl ?_
  refine sm_iload_n (pc := 1) 2 ok dx_L_morning_1 rfl ?_
  refine sm_callS_i (pc := 2) [.int v1, .int v2] ok dx_L_morning_2 wd_859 mwx_L_isShade (Nat.le_of_ble_eq_true rfl) (Nat.le_of_ble_eq_true rfl) rfl rfl (Nat.le_of_ble_eq_true rfl) (cx_L_isShade (sm_okj ok) N S v1 v2) (fun r_2 S_1 => ?_)
  refine sm_if_eq (pc := 5) 13 ok dx_L_morning_5 (by decide) (fun _ => ?_) (fun _ => ?_)
  · refine sm_lv [0] rfl ?_
    exact tx_L_morning_b13 ok hr N _
  · refine sm_iload_n (pc := 8) 3 ok dx_L_morning_8 rfl ?_
    refine sm_iconst (pc := 9) (-1 : Int32) ok dx_L_morning_9 zk_m1 ?_
    refine sm_icmp_ge (pc := 10) 21 ok dx_L_morning_10 (by decide) (fun _ => ?_) (fun _ => ?_)
    · refine sm_aload_n (pc := 21) 0 ok dx_L_morning_21 rfl ?_
      refine sm_getR (pc := 22) (ci := 9) (k := 0) ok dx_L_morning_22 rfl rfl zc_i9 (by decide) rfl wd_400 ?_
      refine sm_callV_i (pc := 25) (ci := 2) [] ok dx_L_morning_25 wd_862 mwx_House_lenders rfl rfl (Nat.le_of_ble_eq_true rfl) (Nat.le_of_ble_eq_true rfl) rfl rfl (Nat.le_of_ble_eq_true rfl) (cx_House_lenders (sm_okj ok) N S_1 1 rfl) (fun r_4 S_3 => ?_)
      refine sm_istore (pc := 28) (i := 4) ok dx_L_morning_28 (by decide) (fun v => [(4, .int v), (0, .ref ((xw x).2.2 0)), (1, .int v1), (2, .int v2), (3, .int v3)]) (fun _ => rfl) (fun v4_5 => ?_)
      refine sm_iconst (pc := 30) (0 : Int32) ok dx_L_morning_30 zk_0 ?_
      refine sm_istore (pc := 31) (i := 5) ok dx_L_morning_31 (by decide) (fun v => [(5, .int v), (4, .int v4_5), (0, .ref ((xw x).2.2 0)), (1, .int v1), (2, .int v2), (3, .int v3)]) (fun _ => rfl) (fun v5_6 => ?_)
      refine sm_iconst (pc := 33) (1 : Int32) ok dx_L_morning_33 zk_1 ?_
      refine sm_istore (pc := 34) (i := 6) ok dx_L_morning_34 (by decide) (fun v => [(6, .int v), (5, .int v5_6), (4, .int v4_5), (0, .ref ((xw x).2.2 0)), (1, .int v1), (2, .int v2), (3, .int v3)]) (fun _ => rfl) (fun v6_7 => ?_)
      refine sm_lv [3, 4, 5, 6, 2, 1, 0] rfl ?_
      exact tx_L_morning_b36 ok hr N N _ _ _ _ _ _ _
    · refine sm_lv [0] rfl ?_
      exact tx_L_morning_b13 ok hr N _
theorem cx_L_morning {l : Launch} {wc : sm_Wc} (hj : sm_inj zx_sy wc) (N : Nat) (S : sm_St) (v1 : Int32) (v2 : Int32) (v3 : Int32) : sm_Ct l zx_sy wc yx_L_morning prog_1_method_17_code 7 (some .int) 2 51 [.ref (wc.2.2 0), .int v1, .int v2, .int v3] S (sm_Pi zx_sy wc) (px_L_morning N S v1 v2 v3) :=
  sm_entry (Pq := fun wc => sm_Pi zx_sy wc) (fun wc => [.ref (wc.2.2 0), .int v1, .int v2, .int v3]) (lv := fun wc => [(0, .ref (wc.2.2 0)), (1, .int v1), (2, .int v2), (3, .int v3)]) (by decide) hj zx_ok zx_stb (fun _ => Nat.le_of_ble_eq_true rfl) (fun _ => rfl) (fun x _ ok hr => tx_L_morning ok hr N S v1 v2 v3)
set_option maxHeartbeats 4000000 in
set_option maxRecDepth 20000 in
theorem tx_L_surely_b62 {x : sm_Cx} (ok : sm_Ok x zx_sy prog_1_method_18_code "LentShades" 6 2 51) (hr : (xh x).sig.returnType = (some .int)) (N : Nat) {r27 : Int32 → Int32 → Int32 → Int32 → Int32 → sm_St → Option (Int32 × sm_St)} (h27 : ∀ (v1 : Int32) (v2 : Int32) (v3 : Int32) (v4 : Int32) (v5 : Int32) (S : sm_St), sm_Sm x zx_sy prog_1_method_18_code (sm_Q x zx_sy (sm_Pi zx_sy (xw x))) (r27 v1 v2 v3 v4 v5 S) S 27 [(0, .ref ((xw x).2.2 0)), (1, .int v1), (2, .int v2), (3, .int v3), (4, .int v4), (5, .int v5)] []) (v1 : Int32) (v2 : Int32) (v3 : Int32) (v4 : Int32) (v5 : Int32) (S : sm_St) : sm_Sm x zx_sy prog_1_method_18_code (sm_Q x zx_sy (sm_Pi zx_sy (xw x))) (px_L_surely_b62 N r27 v1 v2 v3 v4 v5 S) S 62 [(0, .ref ((xw x).2.2 0)), (1, .int v1), (2, .int v2), (3, .int v3), (4, .int v4), (5, .int v5)] [] := by
  unfold px_L_surely_b62
  refine sm_iinc (pc := 62) (i := 5) 5 (1 : Int32) ok dx_L_surely_62 rfl zk_1 (by decide) (fun v => [(5, .int v), (0, .ref ((xw x).2.2 0)), (1, .int v1), (2, .int v2), (3, .int v3), (4, .int v4)]) (fun _ => rfl) (fun v5_13 => ?_)
  refine sm_goto (pc := 65) 27 ok dx_L_surely_65 (by decide) ?_
  refine sm_lv [1, 2, 3, 4, 5, 0] rfl ?_
  exact h27 _ _ _ _ _ _
set_option maxHeartbeats 4000000 in
set_option maxRecDepth 20000 in
theorem tx_L_surely_b27 {x : sm_Cx} (ok : sm_Ok x zx_sy prog_1_method_18_code "LentShades" 6 2 51) (hr : (xh x).sig.returnType = (some .int)) (N : Nat) : ∀ (n : Nat) (v1 : Int32) (v2 : Int32) (v3 : Int32) (v4 : Int32) (v5 : Int32) (S : sm_St), sm_Sm x zx_sy prog_1_method_18_code (sm_Q x zx_sy (sm_Pi zx_sy (xw x))) (px_L_surely_b27 N n v1 v2 v3 v4 v5 S) S 27 [(0, .ref ((xw x).2.2 0)), (1, .int v1), (2, .int v2), (3, .int v3), (4, .int v4), (5, .int v5)] [] := by
  intro n
  induction n with
  | zero =>
    intro v1 v2 v3 v4 v5 S
    exact sm_none
  | succ n ih =>
    intro v1 v2 v3 v4 v5 S
    show sm_Sm x zx_sy prog_1_method_18_code (sm_Q x zx_sy (sm_Pi zx_sy (xw x))) (if (256 : Int32) ≤ v5 then (some (v4, S)) else (if (v5 &&& (v3 ^^^ (-1 : Int32))) = 0 then (sm_b2 (px_L_gives N S v5 v1 v2) (fun (r_11 : Int32) (S_10 : sm_St) => if r_11 = 0 then (px_L_surely_b62 N (px_L_surely_b27 N n) v1 v2 v3 v4 v5 S_10) else (sm_lt (v4 &&& v5) (fun (v4_12 : Int32) => px_L_surely_b62 N (px_L_surely_b27 N n) v1 v2 v3 v4_12 v5 S_10)))) else (px_L_surely_b62 N (px_L_surely_b27 N n) v1 v2 v3 v4 v5 S))) S 27 [(0, .ref ((xw x).2.2 0)), (1, .int v1), (2, .int v2), (3, .int v3), (4, .int v4), (5, .int v5)] []
    refine sm_iload (pc := 27) 5 ok dx_L_surely_27 rfl ?_
    refine sm_sipush (pc := 29) (256 : Int32) ok dx_L_surely_29 zs_256 ?_
    refine sm_icmp_ge (pc := 32) 68 ok dx_L_surely_32 (by decide) (fun _ => ?_) (fun _ => ?_)
    · refine sm_iload (pc := 68) 4 ok dx_L_surely_68 rfl ?_
      exact sm_iret (pc := 70) ok dx_L_surely_70 hr
    · refine sm_iload (pc := 35) 5 ok dx_L_surely_35 rfl ?_
      refine sm_iload_n (pc := 37) 3 ok dx_L_surely_37 rfl ?_
      refine sm_iconst (pc := 38) (-1 : Int32) ok dx_L_surely_38 zk_m1 ?_
      refine sm_ixor (pc := 39) ok dx_L_surely_39 ?_
      refine sm_iand (pc := 40) ok dx_L_surely_40 ?_
      refine sm_if_ne (pc := 41) 62 ok dx_L_surely_41 (by decide) (fun _ => ?_) (fun _ => ?_)
      · exact tx_L_surely_b62 ok hr N ih _ _ _ _ _ _
      · refine sm_aload_n (pc := 44) 0 ok dx_L_surely_44 rfl ?_
        refine sm_iload (pc := 45) 5 ok dx_L_surely_45 rfl ?_
        refine sm_iload_n (pc := 47) 1 ok dx_L_surely_47 rfl ?_
        refine sm_iload_n (pc := 48) 2 ok dx_L_surely_48 rfl ?_
        refine sm_callV_i (pc := 49) (ci := 9) [.int v5, .int v1, .int v2] ok dx_L_surely_49 wd_867 mwx_L_gives rfl rfl (Nat.le_of_ble_eq_true rfl) (Nat.le_of_ble_eq_true rfl) rfl rfl (Nat.le_of_ble_eq_true rfl) (cx_L_gives (sm_okj ok) N S v5 v1 v2) (fun r_11 S_10 => ?_)
        refine sm_if_eq (pc := 52) 62 ok dx_L_surely_52 (by decide) (fun _ => ?_) (fun _ => ?_)
        · exact tx_L_surely_b62 ok hr N ih _ _ _ _ _ _
        · refine sm_iload (pc := 55) 4 ok dx_L_surely_55 rfl ?_
          refine sm_iload (pc := 57) 5 ok dx_L_surely_57 rfl ?_
          refine sm_iand (pc := 59) ok dx_L_surely_59 ?_
          refine sm_istore (pc := 60) (i := 4) ok dx_L_surely_60 (by decide) (fun v => [(4, .int v), (0, .ref ((xw x).2.2 0)), (1, .int v1), (2, .int v2), (3, .int v3), (5, .int v5)]) (fun _ => rfl) (fun v4_12 => ?_)
          refine sm_lv [1, 2, 3, 4, 0, 5] rfl ?_
          exact tx_L_surely_b62 ok hr N ih _ _ _ _ _ _
set_option maxHeartbeats 4000000 in
set_option maxRecDepth 20000 in
theorem tx_L_surely {x : sm_Cx} (ok : sm_Ok x zx_sy prog_1_method_18_code "LentShades" 6 2 51) (hr : (xh x).sig.returnType = (some .int)) (N : Nat) (S : sm_St) (v1 : Int32) (v2 : Int32) : sm_Sm x zx_sy prog_1_method_18_code (sm_Q x zx_sy (sm_Pi zx_sy (xw x))) (px_L_surely N S v1 v2) S 0 [(0, .ref ((xw x).2.2 0)), (1, .int v1), (2, .int v2)] [] := by
  unfold px_L_surely
  refine sm_iload_n (pc := 0) 1 ok dx_L_surely_0 rfl ?_
  refine sm_iload_n (pc := 1) 2 ok dx_L_surely_1 rfl ?_
  refine sm_callS_i (pc := 2) [.int v1, .int v2] ok dx_L_surely_2 wd_859 mwx_L_isShade (Nat.le_of_ble_eq_true rfl) (Nat.le_of_ble_eq_true rfl) rfl rfl (Nat.le_of_ble_eq_true rfl) (cx_L_isShade (sm_okj ok) N S v1 v2) (fun r_2 S_1 => ?_)
  refine sm_if_ne (pc := 5) 13 ok dx_L_surely_5 (by decide) (fun _ => ?_) (fun _ => ?_)
  · refine sm_aload_n (pc := 13) 0 ok dx_L_surely_13 rfl ?_
    refine sm_getR (pc := 14) (ci := 9) (k := 0) ok dx_L_surely_14 rfl rfl zc_i9 (by decide) rfl wd_400 ?_
    refine sm_callV_i (pc := 17) (ci := 2) [] ok dx_L_surely_17 wd_862 mwx_House_lenders rfl rfl (Nat.le_of_ble_eq_true rfl) (Nat.le_of_ble_eq_true rfl) rfl rfl (Nat.le_of_ble_eq_true rfl) (cx_House_lenders (sm_okj ok) N S_1 1 rfl) (fun r_4 S_3 => ?_)
    refine sm_istore_n (pc := 20) (i := 3) ok dx_L_surely_20 rfl (by decide) (fun v => [(3, .int v), (0, .ref ((xw x).2.2 0)), (1, .int v1), (2, .int v2)]) (fun _ => rfl) (fun v3_5 => ?_)
    refine sm_iconst (pc := 21) (-1 : Int32) ok dx_L_surely_21 zk_m1 ?_
    refine sm_istore (pc := 22) (i := 4) ok dx_L_surely_22 (by decide) (fun v => [(4, .int v), (3, .int v3_5), (0, .ref ((xw x).2.2 0)), (1, .int v1), (2, .int v2)]) (fun _ => rfl) (fun v4_6 => ?_)
    refine sm_iconst (pc := 24) (1 : Int32) ok dx_L_surely_24 zk_1 ?_
    refine sm_istore (pc := 25) (i := 5) ok dx_L_surely_25 (by decide) (fun v => [(5, .int v), (4, .int v4_6), (3, .int v3_5), (0, .ref ((xw x).2.2 0)), (1, .int v1), (2, .int v2)]) (fun _ => rfl) (fun v5_7 => ?_)
    refine sm_lv [3, 4, 5, 2, 1, 0] rfl ?_
    exact tx_L_surely_b27 ok hr N N _ _ _ _ _ _
  · refine sm_aload_n (pc := 8) 0 ok dx_L_surely_8 rfl ?_
    refine sm_callV_i (pc := 9) (ci := 9) [] ok dx_L_surely_9 wd_450 mwx_L_refusedBad rfl rfl (Nat.le_of_ble_eq_true rfl) (Nat.le_of_ble_eq_true rfl) rfl rfl (Nat.le_of_ble_eq_true rfl) (cx_L_refusedBad (sm_okj ok) N S_1) (fun r_9 S_8 => ?_)
    exact sm_iret (pc := 12) ok dx_L_surely_12 hr
theorem cx_L_surely {l : Launch} {wc : sm_Wc} (hj : sm_inj zx_sy wc) (N : Nat) (S : sm_St) (v1 : Int32) (v2 : Int32) : sm_Ct l zx_sy wc yx_L_surely prog_1_method_18_code 6 (some .int) 2 51 [.ref (wc.2.2 0), .int v1, .int v2] S (sm_Pi zx_sy wc) (px_L_surely N S v1 v2) :=
  sm_entry (Pq := fun wc => sm_Pi zx_sy wc) (fun wc => [.ref (wc.2.2 0), .int v1, .int v2]) (lv := fun wc => [(0, .ref (wc.2.2 0)), (1, .int v1), (2, .int v2)]) (by decide) hj zx_ok zx_stb (fun _ => Nat.le_of_ble_eq_true rfl) (fun _ => rfl) (fun x _ ok hr => tx_L_surely ok hr N S v1 v2)
set_option maxHeartbeats 4000000 in
set_option maxRecDepth 20000 in
theorem tx_House_addBorrower {x : sm_Cx} (ok : sm_Ok x zx_sy prog_4_method_10_code "LentShades$House" 6 0 0) (hr : (xh x).sig.returnType = none) (N : Nat) (S : sm_St) (p : Nat) (v1 : Int32) (v2 : Int32) (v3 : Int32) (v4 : Int32) (hp : zx_sy.1 p = (12, 0)) : sm_Sm x zx_sy prog_4_method_10_code (sm_Q x zx_sy (sm_Pv zx_sy (xw x))) (px_House_addBorrower N S p v1 v2 v3 v4) S 0 [(0, .ref ((xw x).2.2 p)), (1, .int v1), (2, .int v2), (3, .int v3), (4, .int v4)] [] := by
  unfold px_House_addBorrower
  refine sm_aload_n (pc := 0) 0 ok dx_House_addBorrower_0 rfl ?_
  refine sm_getI (pc := 1) (ci := 2) (k := 13) ok dx_House_addBorrower_1 hp rfl zc_i2 (by decide) rfl wd_196 ?_
  refine sm_bipush (pc := 4) (6 : Int32) ok dx_House_addBorrower_4 zb_6 ?_
  refine sm_icmp_ge (pc := 6) 51 ok dx_House_addBorrower_6 (by decide) (fun _ => ?_) (fun _ => ?_)
  · exact sm_vret (pc := 51) ok dx_House_addBorrower_51 hr
  · refine sm_aload_n (pc := 9) 0 ok dx_House_addBorrower_9 rfl ?_
    refine sm_getR (pc := 10) (ci := 2) (k := 8) ok dx_House_addBorrower_10 hp rfl zc_i2 (by decide) rfl wd_183 ?_
    refine sm_aload_n (pc := 13) 0 ok dx_House_addBorrower_13 rfl ?_
    refine sm_getI (pc := 14) (ci := 2) (k := 13) ok dx_House_addBorrower_14 hp rfl zc_i2 (by decide) rfl wd_196 ?_
    refine sm_aald5 (pc := 17) ok dx_House_addBorrower_17 (zx_House_26 hp) (fun hb_1 => ?_)
    refine sm_astore (pc := 18) (i := 5) ok dx_House_addBorrower_18 (by decide) [(5, .ref ((xw x).2.2 (p + 27 + (S.1 p 13).toNatClampNeg))), (0, .ref ((xw x).2.2 p)), (1, .int v1), (2, .int v2), (3, .int v3), (4, .int v4)] rfl ?_
    refine sm_aload (pc := 20) 0 ok dx_House_addBorrower_20 rfl ?_
    refine sm_iconst (pc := 22) (0 : Int32) ok dx_House_addBorrower_22 zk_0 ?_
    refine sm_iload_n (pc := 23) 2 ok dx_House_addBorrower_23 rfl ?_
    refine sm_iast (pc := 24) ok dx_House_addBorrower_24 (zx_hrow26 hp hb_1) (fun S_2 => ?_)
    refine sm_aload (pc := 25) 0 ok dx_House_addBorrower_25 rfl ?_
    refine sm_iconst (pc := 27) (1 : Int32) ok dx_House_addBorrower_27 zk_1 ?_
    refine sm_iload_n (pc := 28) 3 ok dx_House_addBorrower_28 rfl ?_
    refine sm_iast (pc := 29) ok dx_House_addBorrower_29 (zx_hrow26 hp hb_1) (fun S_3 => ?_)
    refine sm_aload (pc := 30) 0 ok dx_House_addBorrower_30 rfl ?_
    refine sm_iconst (pc := 32) (2 : Int32) ok dx_House_addBorrower_32 zk_2 ?_
    refine sm_iload_n (pc := 33) 4 ok dx_House_addBorrower_33 rfl ?_
    refine sm_iast (pc := 34) ok dx_House_addBorrower_34 (zx_hrow26 hp hb_1) (fun S_4 => ?_)
    refine sm_aload (pc := 35) 0 ok dx_House_addBorrower_35 rfl ?_
    refine sm_iconst (pc := 37) (3 : Int32) ok dx_House_addBorrower_37 zk_3 ?_
    refine sm_iload (pc := 38) 5 ok dx_House_addBorrower_38 rfl ?_
    refine sm_iast (pc := 40) ok dx_House_addBorrower_40 (zx_hrow26 hp hb_1) (fun S_5 => ?_)
    refine sm_aload_n (pc := 41) 1 ok dx_House_addBorrower_41 rfl ?_
    refine sm_dup (pc := 42) ok dx_House_addBorrower_42 rfl ?_
    refine sm_getI (pc := 43) (ci := 2) (k := 13) ok dx_House_addBorrower_43 hp rfl zc_i2 (by decide) rfl wd_196 ?_
    refine sm_iconst (pc := 46) (1 : Int32) ok dx_House_addBorrower_46 zk_1 ?_
    refine sm_iadd (pc := 47) ok dx_House_addBorrower_47 ?_
    refine sm_putI (pc := 48) (ci := 2) (k := 13) ok dx_House_addBorrower_48 hp rfl zc_i2 zc_y2 zc_t2 zc_n2 (by decide) rfl rfl rfl wd_196 (fun S_6 => ?_)
    exact sm_vret (pc := 51) ok dx_House_addBorrower_51 hr
theorem cx_House_addBorrower {l : Launch} {wc : sm_Wc} (hj : sm_inj zx_sy wc) (N : Nat) (S : sm_St) (p : Nat) (v1 : Int32) (v2 : Int32) (v3 : Int32) (v4 : Int32) (hp : zx_sy.1 p = (12, 0)) : sm_Ct l zx_sy wc yx_House_addBorrower prog_4_method_10_code 6 none 0 0 [.ref (wc.2.2 p), .int v1, .int v2, .int v3, .int v4] S (sm_Pv zx_sy wc) (px_House_addBorrower N S p v1 v2 v3 v4) :=
  sm_entry (Pq := fun wc => sm_Pv zx_sy wc) (fun wc => [.ref (wc.2.2 p), .int v1, .int v2, .int v3, .int v4]) (lv := fun wc => [(0, .ref (wc.2.2 p)), (1, .int v1), (2, .int v2), (3, .int v3), (4, .int v4)]) (by decide) hj zx_ok zx_stb (fun _ => Nat.le_of_ble_eq_true rfl) (fun _ => rfl) (fun x _ ok hr => tx_House_addBorrower ok hr N S p v1 v2 v3 v4 hp)
set_option maxHeartbeats 4000000 in
set_option maxRecDepth 20000 in
theorem tx_L_borrower_b36 {x : sm_Cx} (ok : sm_Ok x zx_sy prog_1_method_19_code "LentShades" 5 1 25) (hr : (xh x).sig.returnType = (some .int)) (N : Nat) (S : sm_St) : sm_Sm x zx_sy prog_1_method_19_code (sm_Q x zx_sy (sm_Pi zx_sy (xw x))) (px_L_borrower_b36 N S) S 36 [(0, .ref ((xw x).2.2 0))] [] := by
  unfold px_L_borrower_b36
  refine sm_aload_n (pc := 36) 0 ok dx_L_borrower_36 rfl ?_
  refine sm_callV_i (pc := 37) (ci := 9) [] ok dx_L_borrower_37 wd_450 mwx_L_refusedBad rfl rfl (Nat.le_of_ble_eq_true rfl) (Nat.le_of_ble_eq_true rfl) rfl rfl (Nat.le_of_ble_eq_true rfl) (cx_L_refusedBad (sm_okj ok) N S) (fun r_9 S_8 => ?_)
  exact sm_iret (pc := 40) ok dx_L_borrower_40 hr
set_option maxHeartbeats 4000000 in
set_option maxRecDepth 20000 in
theorem tx_L_borrower {x : sm_Cx} (ok : sm_Ok x zx_sy prog_1_method_19_code "LentShades" 5 1 25) (hr : (xh x).sig.returnType = (some .int)) (N : Nat) (S : sm_St) (v1 : Int32) (v2 : Int32) (v3 : Int32) (v4 : Int32) : sm_Sm x zx_sy prog_1_method_19_code (sm_Q x zx_sy (sm_Pi zx_sy (xw x))) (px_L_borrower N S v1 v2 v3 v4) S 0 [(0, .ref ((xw x).2.2 0)), (1, .int v1), (2, .int v2), (3, .int v3), (4, .int v4)] [] := by
  unfold px_L_borrower
  refine sm_aload_n (pc := 0) 0 ok dx_L_borrower_0 rfl ?_
  refine sm_getR (pc := 1) (ci := 9) (k := 0) ok dx_L_borrower_1 rfl rfl zc_i9 (by decide) rfl wd_400 ?_
  refine sm_iload_n (pc := 4) 1 ok dx_L_borrower_4 rfl ?_
  refine sm_callV_i (pc := 5) (ci := 2) [.int v1] ok dx_L_borrower_5 wd_630 mwx_House_hasCloth rfl rfl (Nat.le_of_ble_eq_true rfl) (Nat.le_of_ble_eq_true rfl) rfl rfl (Nat.le_of_ble_eq_true rfl) (cx_House_hasCloth (sm_okj ok) N S 1 v1 rfl) (fun r_2 S_1 => ?_)
  refine sm_if_eq (pc := 8) 36 ok dx_L_borrower_8 (by decide) (fun _ => ?_) (fun _ => ?_)
  · refine sm_lv [0] rfl ?_
    exact tx_L_borrower_b36 ok hr N _
  · refine sm_iload_n (pc := 11) 2 ok dx_L_borrower_11 rfl ?_
    refine sm_if_lt (pc := 12) 36 ok dx_L_borrower_12 (by decide) (fun _ => ?_) (fun _ => ?_)
    · refine sm_lv [0] rfl ?_
      exact tx_L_borrower_b36 ok hr N _
    · refine sm_iload_n (pc := 15) 2 ok dx_L_borrower_15 rfl ?_
      refine sm_iload_n (pc := 16) 3 ok dx_L_borrower_16 rfl ?_
      refine sm_icmp_gt (pc := 17) 36 ok dx_L_borrower_17 (by decide) (fun _ => ?_) (fun _ => ?_)
      · refine sm_lv [0] rfl ?_
        exact tx_L_borrower_b36 ok hr N _
      · refine sm_iload_n (pc := 20) 3 ok dx_L_borrower_20 rfl ?_
        refine sm_bipush (pc := 21) (12 : Int32) ok dx_L_borrower_21 zb_12 ?_
        refine sm_icmp_gt (pc := 23) 36 ok dx_L_borrower_23 (by decide) (fun _ => ?_) (fun _ => ?_)
        · refine sm_lv [0] rfl ?_
          exact tx_L_borrower_b36 ok hr N _
        · refine sm_iload (pc := 26) 4 ok dx_L_borrower_26 rfl ?_
          refine sm_bipush (pc := 28) (12 : Int32) ok dx_L_borrower_28 zb_12 ?_
          refine sm_callS_i (pc := 30) [.int v4, .int (12 : Int32)] ok dx_L_borrower_30 wd_447 mwx_L_within (Nat.le_of_ble_eq_true rfl) (Nat.le_of_ble_eq_true rfl) rfl rfl (Nat.le_of_ble_eq_true rfl) (cx_L_within (sm_okj ok) N S_1 v4 (12 : Int32)) (fun r_4 S_3 => ?_)
          refine sm_if_ne (pc := 33) 41 ok dx_L_borrower_33 (by decide) (fun _ => ?_) (fun _ => ?_)
          · refine sm_aload_n (pc := 41) 0 ok dx_L_borrower_41 rfl ?_
            refine sm_getR (pc := 42) (ci := 9) (k := 0) ok dx_L_borrower_42 rfl rfl zc_i9 (by decide) rfl wd_400 ?_
            refine sm_getI (pc := 45) (ci := 2) (k := 13) ok dx_L_borrower_45 rfl rfl zc_i2 (by decide) rfl wd_197 ?_
            refine sm_bipush (pc := 48) (6 : Int32) ok dx_L_borrower_48 zb_6 ?_
            refine sm_icmp_lt (pc := 50) 58 ok dx_L_borrower_50 (by decide) (fun _ => ?_) (fun _ => ?_)
            · refine sm_aload_n (pc := 58) 0 ok dx_L_borrower_58 rfl ?_
              refine sm_getR (pc := 59) (ci := 9) (k := 0) ok dx_L_borrower_59 rfl rfl zc_i9 (by decide) rfl wd_400 ?_
              refine sm_iload_n (pc := 62) 1 ok dx_L_borrower_62 rfl ?_
              refine sm_iload_n (pc := 63) 2 ok dx_L_borrower_63 rfl ?_
              refine sm_iload_n (pc := 64) 3 ok dx_L_borrower_64 rfl ?_
              refine sm_iload (pc := 65) 4 ok dx_L_borrower_65 rfl ?_
              refine sm_callV_v (pc := 67) (ci := 2) [.int v1, .int v2, .int v3, .int v4] ok dx_L_borrower_67 wd_890 mwx_House_addBorrower rfl rfl (Nat.le_of_ble_eq_true rfl) (Nat.le_of_ble_eq_true rfl) rfl rfl (Nat.le_of_ble_eq_true rfl) (cx_House_addBorrower (sm_okj ok) N S_3 1 v1 v2 v3 v4 rfl) (fun S_5 => ?_)
              refine sm_aload_n (pc := 70) 0 ok dx_L_borrower_70 rfl ?_
              refine sm_getR (pc := 71) (ci := 9) (k := 0) ok dx_L_borrower_71 rfl rfl zc_i9 (by decide) rfl wd_400 ?_
              refine sm_getI (pc := 74) (ci := 2) (k := 13) ok dx_L_borrower_74 rfl rfl zc_i2 (by decide) rfl wd_197 ?_
              refine sm_iconst (pc := 77) (1 : Int32) ok dx_L_borrower_77 zk_1 ?_
              refine sm_isub (pc := 78) ok dx_L_borrower_78 ?_
              exact sm_iret (pc := 79) ok dx_L_borrower_79 hr
            · refine sm_aload_n (pc := 53) 0 ok dx_L_borrower_53 rfl ?_
              refine sm_callV_i (pc := 54) (ci := 9) [] ok dx_L_borrower_54 wd_454 mwx_L_refusedFull rfl rfl (Nat.le_of_ble_eq_true rfl) (Nat.le_of_ble_eq_true rfl) rfl rfl (Nat.le_of_ble_eq_true rfl) (cx_L_refusedFull (sm_okj ok) N S_3) (fun r_7 S_6 => ?_)
              exact sm_iret (pc := 57) ok dx_L_borrower_57 hr
          · refine sm_lv [0] rfl ?_
            exact tx_L_borrower_b36 ok hr N _
theorem cx_L_borrower {l : Launch} {wc : sm_Wc} (hj : sm_inj zx_sy wc) (N : Nat) (S : sm_St) (v1 : Int32) (v2 : Int32) (v3 : Int32) (v4 : Int32) : sm_Ct l zx_sy wc yx_L_borrower prog_1_method_19_code 5 (some .int) 1 25 [.ref (wc.2.2 0), .int v1, .int v2, .int v3, .int v4] S (sm_Pi zx_sy wc) (px_L_borrower N S v1 v2 v3 v4) :=
  sm_entry (Pq := fun wc => sm_Pi zx_sy wc) (fun wc => [.ref (wc.2.2 0), .int v1, .int v2, .int v3, .int v4]) (lv := fun wc => [(0, .ref (wc.2.2 0)), (1, .int v1), (2, .int v2), (3, .int v3), (4, .int v4)]) (by decide) hj zx_ok zx_stb (fun _ => Nat.le_of_ble_eq_true rfl) (fun _ => rfl) (fun x _ ok hr => tx_L_borrower ok hr N S v1 v2 v3 v4)
