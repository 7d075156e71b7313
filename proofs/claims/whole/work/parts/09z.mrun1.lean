set_option maxHeartbeats 4000000 in
set_option maxRecDepth 20000 in
theorem tm_thing {x : sm_Cx} (ok : sm_Ok x zm_sy prog_12_method_29_code "LentShadesModel" 3 1 25) (hr : (xh x).sig.returnType = (some .int)) (N : Nat) (S : sm_St) (v1 : Int32) : sm_Sm x zm_sy prog_12_method_29_code (sm_Q x zm_sy (sm_Pi zm_sy (xw x))) (pm_thing N S v1) S 0 [(0, .ref ((xw x).2.2 0)), (1, .int v1)] [] := by
  unfold pm_thing
  refine sm_iload_n (pc := 0) 1 ok dm_thing_0 rfl ?_
  refine sm_i2l (pc := 1) ok dm_thing_1 ?_
  refine sm_lconst (pc := 2) (0 : Int64) ok dm_thing_2 zl_0 ?_
  refine sm_ldc2 (pc := 3) ok dm_thing_3 wd_1109 ?_
  refine sm_callS_i (pc := 6) [.long (v1.toInt64), .long (0 : Int64), .long (12 : Int64)] ok dm_thing_6 wd_1105 mwm_in (Nat.le_of_ble_eq_true rfl) (Nat.le_of_ble_eq_true rfl) rfl rfl (Nat.le_of_ble_eq_true rfl) (cm_in (sm_okj ok) N S (v1.toInt64) (0 : Int64) (12 : Int64)) (fun r_2 S_1 => ?_)
  refine sm_if_ne (pc := 9) 19 ok dm_thing_9 (by decide) (fun _ => ?_) (fun _ => ?_)
  · refine sm_aload_n (pc := 19) 0 ok dm_thing_19 rfl ?_
    refine sm_callV_i (pc := 20) (ci := 10) [] ok dm_thing_20 wd_1142 mwm_things rfl rfl (Nat.le_of_ble_eq_true rfl) (Nat.le_of_ble_eq_true rfl) rfl rfl (Nat.le_of_ble_eq_true rfl) (cm_things (sm_okj ok) N S_1) (fun r_4 S_3 => ?_)
    refine sm_istore_n (pc := 23) (i := 2) ok dm_thing_23 rfl (by decide) (fun v => [(2, .int v), (0, .ref ((xw x).2.2 0)), (1, .int v1)]) (fun _ => rfl) (fun v2_5 => ?_)
    refine sm_iload_n (pc := 24) 0 ok dm_thing_24 rfl ?_
    refine sm_iconst (pc := 25) (4 : Int32) ok dm_thing_25 zk_4 ?_
    refine sm_icmp_ne (pc := 26) 34 ok dm_thing_26 (by decide) (fun _ => ?_) (fun _ => ?_)
    · refine sm_aload_n (pc := 34) 1 ok dm_thing_34 rfl ?_
      refine sm_getR (pc := 35) (ci := 10) (k := 0) ok dm_thing_35 rfl rfl zc_i10 (by decide) rfl wd_1003 ?_
      refine sm_bipush (pc := 38) (48 : Int32) ok dm_thing_38 zb_48 ?_
      refine sm_iload_n (pc := 40) 0 ok dm_thing_40 rfl ?_
      refine sm_iadd (pc := 41) ok dm_thing_41 ?_
      refine sm_iload_n (pc := 42) 2 ok dm_thing_42 rfl ?_
      refine sm_iast (pc := 43) ok dm_thing_43 rfl (fun S_6 => ?_)
      refine sm_aload_n (pc := 44) 1 ok dm_thing_44 rfl ?_
      refine sm_getR (pc := 45) (ci := 10) (k := 0) ok dm_thing_45 rfl rfl zc_i10 (by decide) rfl wd_1003 ?_
      refine sm_bipush (pc := 48) (77 : Int32) ok dm_thing_48 zb_77 ?_
      refine sm_dup2 (pc := 50) ok dm_thing_50 rfl rfl ?_
      refine sm_iald (pc := 51) ok dm_thing_51 rfl ?_
      refine sm_iconst (pc := 52) (1 : Int32) ok dm_thing_52 zk_1 ?_
      refine sm_iadd (pc := 53) ok dm_thing_53 ?_
      refine sm_iast (pc := 54) ok dm_thing_54 rfl (fun S_7 => ?_)
      refine sm_iload_n (pc := 55) 0 ok dm_thing_55 rfl ?_
      exact sm_iret (pc := 56) ok dm_thing_56 hr
    · refine sm_aload_n (pc := 29) 1 ok dm_thing_29 rfl ?_
      refine sm_callV_i (pc := 30) (ci := 10) [] ok dm_thing_30 wd_1118 mwm_full rfl rfl (Nat.le_of_ble_eq_true rfl) (Nat.le_of_ble_eq_true rfl) rfl rfl (Nat.le_of_ble_eq_true rfl) (cm_full (sm_okj ok) N S_3) (fun r_9 S_8 => ?_)
      exact sm_iret (pc := 33) ok dm_thing_33 hr
  · refine sm_aload_n (pc := 12) 0 ok dm_thing_12 rfl ?_
    refine sm_bipush (pc := 13) (-2 : Int32) ok dm_thing_13 zb_m2 ?_
    refine sm_callV_i (pc := 15) (ci := 10) [.int (-2 : Int32)] ok dm_thing_15 wd_1110 mwm_bad rfl rfl (Nat.le_of_ble_eq_true rfl) (Nat.le_of_ble_eq_true rfl) rfl rfl (Nat.le_of_ble_eq_true rfl) (cm_bad (sm_okj ok) N S_1 (-2 : Int32)) (fun r_11 S_10 => ?_)
    exact sm_iret (pc := 18) ok dm_thing_18 hr
theorem cm_thing {l : Launch} {wc : sm_Wc} (hj : sm_inj zm_sy wc) (N : Nat) (S : sm_St) (v1 : Int32) : sm_Ct l zm_sy wc ym_thing prog_12_method_29_code 3 (some .int) 1 25 [.ref (wc.2.2 0), .int v1] S (sm_Pi zm_sy wc) (pm_thing N S v1) :=
  sm_entry (Pq := fun wc => sm_Pi zm_sy wc) (fun wc => [.ref (wc.2.2 0), .int v1]) (lv := fun wc => [(0, .ref (wc.2.2 0)), (1, .int v1)]) (by decide) hj zm_ok zm_stb (fun _ => Nat.le_of_ble_eq_true rfl) (fun _ => rfl) (fun x _ ok hr => tm_thing ok hr N S v1)
set_option maxHeartbeats 4000000 in
set_option maxRecDepth 20000 in
theorem tm_putHours_b17 {x : sm_Cx} (ok : sm_Ok x zm_sy prog_12_method_30_code "LentShadesModel" 5 0 0) (hr : (xh x).sig.returnType = none) (N : Nat) (q0 : Nat) (hq0 : (zm_sy.1 q0).1 = 0) (v1 : Int32) (v2 : Int32) (v3 : Int32) (v4 : Int32) (S : sm_St) : sm_Sm x zm_sy prog_12_method_30_code (sm_Q x zm_sy (sm_Pv zm_sy (xw x))) (pm_putHours_b17 N q0 v1 v2 v3 v4 S) S 17 [(0, .ref ((xw x).2.2 q0)), (1, .int v1), (2, .int v2), (3, .int v3), (4, .int v4)] [] := by
  unfold pm_putHours_b17
  refine sm_iload_n (pc := 17) 3 ok dm_putHours_17 rfl ?_
  refine sm_iconst (pc := 18) (4 : Int32) ok dm_putHours_18 zk_4 ?_
  refine sm_icmp_ge (pc := 19) 34 ok dm_putHours_19 (by decide) (fun _ => ?_) (fun _ => ?_)
  · exact sm_vret (pc := 34) ok dm_putHours_34 hr
  · refine sm_aload_n (pc := 22) 0 ok dm_putHours_22 rfl ?_
    refine sm_iload_n (pc := 23) 1 ok dm_putHours_23 rfl ?_
    refine sm_bipush (pc := 24) (8 : Int32) ok dm_putHours_24 zb_8 ?_
    refine sm_iload_n (pc := 26) 3 ok dm_putHours_26 rfl ?_
    refine sm_imul (pc := 27) ok dm_putHours_27 ?_
    refine sm_iadd (pc := 28) ok dm_putHours_28 ?_
    refine sm_iload_n (pc := 29) 2 ok dm_putHours_29 rfl ?_
    refine sm_iadd (pc := 30) ok dm_putHours_30 ?_
    refine sm_iload (pc := 31) 4 ok dm_putHours_31 rfl ?_
    refine sm_iast (pc := 33) ok dm_putHours_33 (sm_sh0 hq0) (fun S_2 => ?_)
    exact sm_vret (pc := 34) ok dm_putHours_34 hr
set_option maxHeartbeats 4000000 in
set_option maxRecDepth 20000 in
theorem tm_putHours {x : sm_Cx} (ok : sm_Ok x zm_sy prog_12_method_30_code "LentShadesModel" 5 0 0) (hr : (xh x).sig.returnType = none) (N : Nat) (S : sm_St) (q0 : Nat) (v1 : Int32) (v2 : Int32) (v3 : Int32) (v4 : Int32) (hq0 : (zm_sy.1 q0).1 = 0) : sm_Sm x zm_sy prog_12_method_30_code (sm_Q x zm_sy (sm_Pv zm_sy (xw x))) (pm_putHours N S q0 v1 v2 v3 v4) S 0 [(0, .ref ((xw x).2.2 q0)), (1, .int v1), (2, .int v2), (3, .int v3), (4, .int v4)] [] := by
  unfold pm_putHours
  refine sm_iload_n (pc := 0) 2 ok dm_putHours_0 rfl ?_
  refine sm_iconst (pc := 1) (4 : Int32) ok dm_putHours_1 zk_4 ?_
  refine sm_icmp_ge (pc := 2) 17 ok dm_putHours_2 (by decide) (fun _ => ?_) (fun _ => ?_)
  · exact tm_putHours_b17 ok hr N q0 hq0 _ _ _ _ _
  · refine sm_aload_n (pc := 5) 0 ok dm_putHours_5 rfl ?_
    refine sm_iload_n (pc := 6) 1 ok dm_putHours_6 rfl ?_
    refine sm_bipush (pc := 7) (8 : Int32) ok dm_putHours_7 zb_8 ?_
    refine sm_iload_n (pc := 9) 2 ok dm_putHours_9 rfl ?_
    refine sm_imul (pc := 10) ok dm_putHours_10 ?_
    refine sm_iadd (pc := 11) ok dm_putHours_11 ?_
    refine sm_iload_n (pc := 12) 3 ok dm_putHours_12 rfl ?_
    refine sm_iadd (pc := 13) ok dm_putHours_13 ?_
    refine sm_iload (pc := 14) 4 ok dm_putHours_14 rfl ?_
    refine sm_iast (pc := 16) ok dm_putHours_16 (sm_sh0 hq0) (fun S_1 => ?_)
    exact tm_putHours_b17 ok hr N q0 hq0 _ _ _ _ _
theorem cm_putHours {l : Launch} {wc : sm_Wc} (hj : sm_inj zm_sy wc) (N : Nat) (S : sm_St) (q0 : Nat) (v1 : Int32) (v2 : Int32) (v3 : Int32) (v4 : Int32) (hq0 : (zm_sy.1 q0).1 = 0) : sm_Ct l zm_sy wc ym_putHours prog_12_method_30_code 5 none 0 0 [.ref (wc.2.2 q0), .int v1, .int v2, .int v3, .int v4] S (sm_Pv zm_sy wc) (pm_putHours N S q0 v1 v2 v3 v4) :=
  sm_entry (Pq := fun wc => sm_Pv zm_sy wc) (fun wc => [.ref (wc.2.2 q0), .int v1, .int v2, .int v3, .int v4]) (lv := fun wc => [(0, .ref (wc.2.2 q0)), (1, .int v1), (2, .int v2), (3, .int v3), (4, .int v4)]) (by decide) hj zm_ok zm_stb (fun _ => Nat.le_of_ble_eq_true rfl) (fun _ => rfl) (fun x _ ok hr => tm_putHours ok hr N S q0 v1 v2 v3 v4 hq0)
set_option maxHeartbeats 4000000 in
set_option maxRecDepth 20000 in
theorem tm_touch_b43 {x : sm_Cx} (ok : sm_Ok x zm_sy prog_12_method_31_code "LentShadesModel" 5 3 67) (hr : (xh x).sig.returnType = (some .int)) (N : Nat) (S : sm_St) : sm_Sm x zm_sy prog_12_method_31_code (sm_Q x zm_sy (sm_Pi zm_sy (xw x))) (pm_touch_b43 N S) S 43 [(0, .ref ((xw x).2.2 0))] [] := by
  unfold pm_touch_b43
  refine sm_aload_n (pc := 43) 0 ok dm_touch_43 rfl ?_
  refine sm_bipush (pc := 44) (-2 : Int32) ok dm_touch_44 zb_m2 ?_
  refine sm_callV_i (pc := 46) (ci := 10) [.int (-2 : Int32)] ok dm_touch_46 wd_1110 mwm_bad rfl rfl (Nat.le_of_ble_eq_true rfl) (Nat.le_of_ble_eq_true rfl) rfl rfl (Nat.le_of_ble_eq_true rfl) (cm_bad (sm_okj ok) N S (-2 : Int32)) (fun r_10 S_9 => ?_)
  exact sm_iret (pc := 49) ok dm_touch_49 hr
set_option maxHeartbeats 4000000 in
set_option maxRecDepth 20000 in
theorem tm_touch_b86 {x : sm_Cx} (ok : sm_Ok x zm_sy prog_12_method_31_code "LentShadesModel" 5 3 67) (hr : (xh x).sig.returnType = (some .int)) (N : Nat) (v1 : Int32) (v2 : Int32) (v3 : Int32) (s0 : Int32) (S : sm_St) : sm_Sm x zm_sy prog_12_method_31_code (sm_Q x zm_sy (sm_Pi zm_sy (xw x))) (pm_touch_b86 N v1 v2 v3 s0 S) S 86 [(0, .ref ((xw x).2.2 0)), (1, .int v1), (2, .int v2), (3, .int v3)] [.int s0] := by
  unfold pm_touch_b86
  refine sm_istore (pc := 86) (i := 4) ok dm_touch_86 (by decide) (fun v => [(4, .int v), (0, .ref ((xw x).2.2 0)), (1, .int v1), (2, .int v2), (3, .int v3)]) (fun _ => rfl) (fun v4_7 => ?_)
  refine sm_aload_n (pc := 88) 1 ok dm_touch_88 rfl ?_
  refine sm_getR (pc := 89) (ci := 10) (k := 0) ok dm_touch_89 rfl rfl zc_i10 (by decide) rfl wd_1003 ?_
  refine sm_bipush (pc := 92) (16 : Int32) ok dm_touch_92 zb_16 ?_
  refine sm_iload_n (pc := 94) 2 ok dm_touch_94 rfl ?_
  refine sm_iload_n (pc := 95) 3 ok dm_touch_95 rfl ?_
  refine sm_iload_n (pc := 96) 4 ok dm_touch_96 rfl ?_
  refine sm_callS_v (pc := 97) [.ref ((xw x).2.2 1), .int (16 : Int32), .int v1, .int v2, .int v3] ok dm_touch_97 wd_1158 mwm_putHours (Nat.le_of_ble_eq_true rfl) (Nat.le_of_ble_eq_true rfl) rfl rfl (Nat.le_of_ble_eq_true rfl) (cm_putHours (sm_okj ok) N S 1 (16 : Int32) v1 v2 v3 (sm_tag rfl)) (fun S_8 => ?_)
  refine sm_iload (pc := 100) 0 ok dm_touch_100 rfl ?_
  exact sm_iret (pc := 102) ok dm_touch_102 hr
set_option maxHeartbeats 4000000 in
set_option maxRecDepth 20000 in
theorem tm_touch_b31 {x : sm_Cx} (ok : sm_Ok x zm_sy prog_12_method_31_code "LentShadesModel" 5 3 67) (hr : (xh x).sig.returnType = (some .int)) (N : Nat) (v1 : Int32) (v2 : Int32) (v3 : Int32) (S : sm_St) : sm_Sm x zm_sy prog_12_method_31_code (sm_Q x zm_sy (sm_Pi zm_sy (xw x))) (pm_touch_b31 N v1 v2 v3 S) S 31 [(0, .ref ((xw x).2.2 0)), (1, .int v1), (2, .int v2), (3, .int v3)] [] := by
  unfold pm_touch_b31
  refine sm_iload_n (pc := 31) 3 ok dm_touch_31 rfl ?_
  refine sm_i2l (pc := 32) ok dm_touch_32 ?_
  refine sm_lconst (pc := 33) (0 : Int64) ok dm_touch_33 zl_0 ?_
  refine sm_ldc2 (pc := 34) ok dm_touch_34 wd_1108 ?_
  refine sm_callS_i (pc := 37) [.long (v3.toInt64), .long (0 : Int64), .long (3 : Int64)] ok dm_touch_37 wd_1105 mwm_in (Nat.le_of_ble_eq_true rfl) (Nat.le_of_ble_eq_true rfl) rfl rfl (Nat.le_of_ble_eq_true rfl) (cm_in (sm_okj ok) N S (v3.toInt64) (0 : Int64) (3 : Int64)) (fun r_6 S_5 => ?_)
  refine sm_if_ne (pc := 40) 50 ok dm_touch_40 (by decide) (fun _ => ?_) (fun _ => ?_)
  · refine sm_iload_n (pc := 50) 1 ok dm_touch_50 rfl ?_
    refine sm_iconst (pc := 51) (4 : Int32) ok dm_touch_51 zk_4 ?_
    refine sm_icmp_ge (pc := 52) 72 ok dm_touch_52 (by decide) (fun _ => ?_) (fun _ => ?_)
    · refine sm_aload_n (pc := 72) 0 ok dm_touch_72 rfl ?_
      refine sm_getR (pc := 73) (ci := 10) (k := 0) ok dm_touch_73 rfl rfl zc_i10 (by decide) rfl wd_1003 ?_
      refine sm_bipush (pc := 76) (16 : Int32) ok dm_touch_76 zb_16 ?_
      refine sm_bipush (pc := 78) (8 : Int32) ok dm_touch_78 zb_8 ?_
      refine sm_iload_n (pc := 80) 2 ok dm_touch_80 rfl ?_
      refine sm_imul (pc := 81) ok dm_touch_81 ?_
      refine sm_iadd (pc := 82) ok dm_touch_82 ?_
      refine sm_iload_n (pc := 83) 1 ok dm_touch_83 rfl ?_
      refine sm_iadd (pc := 84) ok dm_touch_84 ?_
      refine sm_iald (pc := 85) ok dm_touch_85 rfl ?_
      exact tm_touch_b86 ok hr N _ _ _ _ _
    · refine sm_aload_n (pc := 55) 0 ok dm_touch_55 rfl ?_
      refine sm_getR (pc := 56) (ci := 10) (k := 0) ok dm_touch_56 rfl rfl zc_i10 (by decide) rfl wd_1003 ?_
      refine sm_bipush (pc := 59) (16 : Int32) ok dm_touch_59 zb_16 ?_
      refine sm_bipush (pc := 61) (8 : Int32) ok dm_touch_61 zb_8 ?_
      refine sm_iload_n (pc := 63) 1 ok dm_touch_63 rfl ?_
      refine sm_imul (pc := 64) ok dm_touch_64 ?_
      refine sm_iadd (pc := 65) ok dm_touch_65 ?_
      refine sm_iload_n (pc := 66) 2 ok dm_touch_66 rfl ?_
      refine sm_iadd (pc := 67) ok dm_touch_67 ?_
      refine sm_iald (pc := 68) ok dm_touch_68 rfl ?_
      refine sm_goto (pc := 69) 86 ok dm_touch_69 (by decide) ?_
      exact tm_touch_b86 ok hr N _ _ _ _ _
  · refine sm_lv [0] rfl ?_
    exact tm_touch_b43 ok hr N _
set_option maxHeartbeats 4000000 in
set_option maxRecDepth 20000 in
theorem tm_touch {x : sm_Cx} (ok : sm_Ok x zm_sy prog_12_method_31_code "LentShadesModel" 5 3 67) (hr : (xh x).sig.returnType = (some .int)) (N : Nat) (S : sm_St) (v1 : Int32) (v2 : Int32) (v3 : Int32) : sm_Sm x zm_sy prog_12_method_31_code (sm_Q x zm_sy (sm_Pi zm_sy (xw x))) (pm_touch N S v1 v2 v3) S 0 [(0, .ref ((xw x).2.2 0)), (1, .int v1), (2, .int v2), (3, .int v3)] [] := by
  unfold pm_touch
  refine sm_aload_n (pc := 0) 0 ok dm_touch_0 rfl ?_
  refine sm_iload_n (pc := 1) 1 ok dm_touch_1 rfl ?_
  refine sm_callV_i (pc := 2) (ci := 10) [.int v1] ok dm_touch_2 wd_1150 mwm_isNumber rfl rfl (Nat.le_of_ble_eq_true rfl) (Nat.le_of_ble_eq_true rfl) rfl rfl (Nat.le_of_ble_eq_true rfl) (cm_isNumber (sm_okj ok) N S v1) (fun r_2 S_1 => ?_)
  refine sm_if_eq (pc := 5) 43 ok dm_touch_5 (by decide) (fun _ => ?_) (fun _ => ?_)
  · refine sm_lv [0] rfl ?_
    exact tm_touch_b43 ok hr N _
  · refine sm_aload_n (pc := 8) 0 ok dm_touch_8 rfl ?_
    refine sm_iload_n (pc := 9) 2 ok dm_touch_9 rfl ?_
    refine sm_callV_i (pc := 10) (ci := 10) [.int v2] ok dm_touch_10 wd_1150 mwm_isNumber rfl rfl (Nat.le_of_ble_eq_true rfl) (Nat.le_of_ble_eq_true rfl) rfl rfl (Nat.le_of_ble_eq_true rfl) (cm_isNumber (sm_okj ok) N S_1 v2) (fun r_4 S_3 => ?_)
    refine sm_if_eq (pc := 13) 43 ok dm_touch_13 (by decide) (fun _ => ?_) (fun _ => ?_)
    · refine sm_lv [0] rfl ?_
      exact tm_touch_b43 ok hr N _
    · refine sm_iload_n (pc := 16) 1 ok dm_touch_16 rfl ?_
      refine sm_iload_n (pc := 17) 2 ok dm_touch_17 rfl ?_
      refine sm_icmp_eq (pc := 18) 43 ok dm_touch_18 (by decide) (fun _ => ?_) (fun _ => ?_)
      · refine sm_lv [0] rfl ?_
        exact tm_touch_b43 ok hr N _
      · refine sm_iload_n (pc := 21) 1 ok dm_touch_21 rfl ?_
        refine sm_iconst (pc := 22) (3 : Int32) ok dm_touch_22 zk_3 ?_
        refine sm_icmp_le (pc := 23) 31 ok dm_touch_23 (by decide) (fun _ => ?_) (fun _ => ?_)
        · exact tm_touch_b31 ok hr N _ _ _ _
        · refine sm_iload_n (pc := 26) 2 ok dm_touch_26 rfl ?_
          refine sm_iconst (pc := 27) (3 : Int32) ok dm_touch_27 zk_3 ?_
          refine sm_icmp_gt (pc := 28) 43 ok dm_touch_28 (by decide) (fun _ => ?_) (fun _ => ?_)
          · refine sm_lv [0] rfl ?_
            exact tm_touch_b43 ok hr N _
          · exact tm_touch_b31 ok hr N _ _ _ _
theorem cm_touch {l : Launch} {wc : sm_Wc} (hj : sm_inj zm_sy wc) (N : Nat) (S : sm_St) (v1 : Int32) (v2 : Int32) (v3 : Int32) : sm_Ct l zm_sy wc ym_touch prog_12_method_31_code 5 (some .int) 3 67 [.ref (wc.2.2 0), .int v1, .int v2, .int v3] S (sm_Pi zm_sy wc) (pm_touch N S v1 v2 v3) :=
  sm_entry (Pq := fun wc => sm_Pi zm_sy wc) (fun wc => [.ref (wc.2.2 0), .int v1, .int v2, .int v3]) (lv := fun wc => [(0, .ref (wc.2.2 0)), (1, .int v1), (2, .int v2), (3, .int v3)]) (by decide) hj zm_ok zm_stb (fun _ => Nat.le_of_ble_eq_true rfl) (fun _ => rfl) (fun x _ ok hr => tm_touch ok hr N S v1 v2 v3)
set_option maxHeartbeats 4000000 in
set_option maxRecDepth 20000 in
theorem tm_colour_b20 {x : sm_Cx} (ok : sm_Ok x zm_sy prog_12_method_32_code "LentShadesModel" 4 2 46) (hr : (xh x).sig.returnType = (some .int)) (N : Nat) (S : sm_St) : sm_Sm x zm_sy prog_12_method_32_code (sm_Q x zm_sy (sm_Pi zm_sy (xw x))) (pm_colour_b20 N S) S 20 [(0, .ref ((xw x).2.2 0))] [] := by
  unfold pm_colour_b20
  refine sm_aload_n (pc := 20) 0 ok dm_colour_20 rfl ?_
  refine sm_bipush (pc := 21) (-2 : Int32) ok dm_colour_21 zb_m2 ?_
  refine sm_callV_i (pc := 23) (ci := 10) [.int (-2 : Int32)] ok dm_colour_23 wd_1110 mwm_bad rfl rfl (Nat.le_of_ble_eq_true rfl) (Nat.le_of_ble_eq_true rfl) rfl rfl (Nat.le_of_ble_eq_true rfl) (cm_bad (sm_okj ok) N S (-2 : Int32)) (fun r_8 S_7 => ?_)
  exact sm_iret (pc := 26) ok dm_colour_26 hr
set_option maxHeartbeats 4000000 in
set_option maxRecDepth 20000 in
theorem tm_colour {x : sm_Cx} (ok : sm_Ok x zm_sy prog_12_method_32_code "LentShadesModel" 4 2 46) (hr : (xh x).sig.returnType = (some .int)) (N : Nat) (S : sm_St) (v1 : Int32) (v2 : Int32) : sm_Sm x zm_sy prog_12_method_32_code (sm_Q x zm_sy (sm_Pi zm_sy (xw x))) (pm_colour N S v1 v2) S 0 [(0, .ref ((xw x).2.2 0)), (1, .int v1), (2, .int v2)] [] := by
  unfold pm_colour
  refine sm_aload_n (pc := 0) 0 ok dm_colour_0 rfl ?_
  refine sm_iload_n (pc := 1) 1 ok dm_colour_1 rfl ?_
  refine sm_callV_i (pc := 2) (ci := 10) [.int v1] ok dm_colour_2 wd_1165 mwm_isThing rfl rfl (Nat.le_of_ble_eq_true rfl) (Nat.le_of_ble_eq_true rfl) rfl rfl (Nat.le_of_ble_eq_true rfl) (cm_isThing (sm_okj ok) N S v1) (fun r_2 S_1 => ?_)
  refine sm_if_eq (pc := 5) 20 ok dm_colour_5 (by decide) (fun _ => ?_) (fun _ => ?_)
  · refine sm_lv [0] rfl ?_
    exact tm_colour_b20 ok hr N _
  · refine sm_iload_n (pc := 8) 2 ok dm_colour_8 rfl ?_
    refine sm_i2l (pc := 9) ok dm_colour_9 ?_
    refine sm_lconst (pc := 10) (0 : Int64) ok dm_colour_10 zl_0 ?_
    refine sm_ldc2 (pc := 11) ok dm_colour_11 wd_1109 ?_
    refine sm_callS_i (pc := 14) [.long (v2.toInt64), .long (0 : Int64), .long (12 : Int64)] ok dm_colour_14 wd_1105 mwm_in (Nat.le_of_ble_eq_true rfl) (Nat.le_of_ble_eq_true rfl) rfl rfl (Nat.le_of_ble_eq_true rfl) (cm_in (sm_okj ok) N S_1 (v2.toInt64) (0 : Int64) (12 : Int64)) (fun r_4 S_3 => ?_)
    refine sm_if_ne (pc := 17) 27 ok dm_colour_17 (by decide) (fun _ => ?_) (fun _ => ?_)
    · refine sm_aload_n (pc := 27) 0 ok dm_colour_27 rfl ?_
      refine sm_getR (pc := 28) (ci := 10) (k := 0) ok dm_colour_28 rfl rfl zc_i10 (by decide) rfl wd_1003 ?_
      refine sm_bipush (pc := 31) (48 : Int32) ok dm_colour_31 zb_48 ?_
      refine sm_iload_n (pc := 33) 1 ok dm_colour_33 rfl ?_
      refine sm_iadd (pc := 34) ok dm_colour_34 ?_
      refine sm_iald (pc := 35) ok dm_colour_35 rfl ?_
      refine sm_istore_n (pc := 36) (i := 3) ok dm_colour_36 rfl (by decide) (fun v => [(3, .int v), (0, .ref ((xw x).2.2 0)), (1, .int v1), (2, .int v2)]) (fun _ => rfl) (fun v3_5 => ?_)
      refine sm_aload_n (pc := 37) 1 ok dm_colour_37 rfl ?_
      refine sm_getR (pc := 38) (ci := 10) (k := 0) ok dm_colour_38 rfl rfl zc_i10 (by decide) rfl wd_1003 ?_
      refine sm_bipush (pc := 41) (48 : Int32) ok dm_colour_41 zb_48 ?_
      refine sm_iload_n (pc := 43) 2 ok dm_colour_43 rfl ?_
      refine sm_iadd (pc := 44) ok dm_colour_44 ?_
      refine sm_iload_n (pc := 45) 3 ok dm_colour_45 rfl ?_
      refine sm_iast (pc := 46) ok dm_colour_46 rfl (fun S_6 => ?_)
      refine sm_iload_n (pc := 47) 0 ok dm_colour_47 rfl ?_
      exact sm_iret (pc := 48) ok dm_colour_48 hr
    · refine sm_lv [0] rfl ?_
      exact tm_colour_b20 ok hr N _
theorem cm_colour {l : Launch} {wc : sm_Wc} (hj : sm_inj zm_sy wc) (N : Nat) (S : sm_St) (v1 : Int32) (v2 : Int32) : sm_Ct l zm_sy wc ym_colour prog_12_method_32_code 4 (some .int) 2 46 [.ref (wc.2.2 0), .int v1, .int v2] S (sm_Pi zm_sy wc) (pm_colour N S v1 v2) :=
  sm_entry (Pq := fun wc => sm_Pi zm_sy wc) (fun wc => [.ref (wc.2.2 0), .int v1, .int v2]) (lv := fun wc => [(0, .ref (wc.2.2 0)), (1, .int v1), (2, .int v2)]) (by decide) hj zm_ok zm_stb (fun _ => Nat.le_of_ble_eq_true rfl) (fun _ => rfl) (fun x _ ok hr => tm_colour ok hr N S v1 v2)
set_option maxHeartbeats 4000000 in
set_option maxRecDepth 20000 in
theorem tm_takeNow_b59 {x : sm_Cx} (ok : sm_Ok x zm_sy prog_12_method_33_code "LentShadesModel" 2 1 23) (hr : (xh x).sig.returnType = none) (N : Nat) : ∀ (n : Nat) (v1 : Int32) (S : sm_St), sm_Sm x zm_sy prog_12_method_33_code (sm_Q x zm_sy (sm_Pv zm_sy (xw x))) (pm_takeNow_b59 N n v1 S) S 59 [(0, .ref ((xw x).2.2 0)), (1, .int v1)] [] := by
  intro n
  induction n with
  | zero =>
    intro v1 S
    exact sm_none
  | succ n ih =>
    intro v1 S
    show sm_Sm x zm_sy prog_12_method_33_code (sm_Q x zm_sy (sm_Pv zm_sy (xw x))) (if (5 : Int32) ≤ v1 then (some S) else (sm_b1 (pm_copy N S ((14 : Int32) + v1) ((19 : Int32) + v1)) (fun (S_8 : sm_St) => sm_lt (v1 + (1 : Int32)) (fun (v1_9 : Int32) => (pm_takeNow_b59 N n) v1_9 S_8)))) S 59 [(0, .ref ((xw x).2.2 0)), (1, .int v1)] []
    refine sm_iload_n (pc := 59) 1 ok dm_takeNow_59 rfl ?_
    refine sm_iconst (pc := 60) (5 : Int32) ok dm_takeNow_60 zk_5 ?_
    refine sm_icmp_ge (pc := 61) 82 ok dm_takeNow_61 (by decide) (fun _ => ?_) (fun _ => ?_)
    · exact sm_vret (pc := 82) ok dm_takeNow_82 hr
    · refine sm_aload_n (pc := 64) 0 ok dm_takeNow_64 rfl ?_
      refine sm_bipush (pc := 65) (14 : Int32) ok dm_takeNow_65 zb_14 ?_
      refine sm_iload_n (pc := 67) 1 ok dm_takeNow_67 rfl ?_
      refine sm_iadd (pc := 68) ok dm_takeNow_68 ?_
      refine sm_bipush (pc := 69) (19 : Int32) ok dm_takeNow_69 zb_19 ?_
      refine sm_iload_n (pc := 71) 1 ok dm_takeNow_71 rfl ?_
      refine sm_iadd (pc := 72) ok dm_takeNow_72 ?_
      refine sm_callV_v (pc := 73) (ci := 10) [.int ((14 : Int32) + v1), .int ((19 : Int32) + v1)] ok dm_takeNow_73 wd_1126 mwm_copy rfl rfl (Nat.le_of_ble_eq_true rfl) (Nat.le_of_ble_eq_true rfl) rfl rfl (Nat.le_of_ble_eq_true rfl) (cm_copy (sm_okj ok) N S ((14 : Int32) + v1) ((19 : Int32) + v1)) (fun S_8 => ?_)
      refine sm_iinc (pc := 76) (i := 1) 1 (1 : Int32) ok dm_takeNow_76 rfl zk_1 (by decide) (fun v => [(1, .int v), (0, .ref ((xw x).2.2 0))]) (fun _ => rfl) (fun v1_9 => ?_)
      refine sm_goto (pc := 79) 59 ok dm_takeNow_79 (by decide) ?_
      refine sm_lv [1, 0] rfl ?_
      exact ih _ _
set_option maxHeartbeats 4000000 in
set_option maxRecDepth 20000 in
theorem tm_takeNow_b31 {x : sm_Cx} (ok : sm_Ok x zm_sy prog_12_method_33_code "LentShadesModel" 2 1 23) (hr : (xh x).sig.returnType = none) (N : Nat) : ∀ (n : Nat) (v1 : Int32) (S : sm_St), sm_Sm x zm_sy prog_12_method_33_code (sm_Q x zm_sy (sm_Pv zm_sy (xw x))) (pm_takeNow_b31 N n v1 S) S 31 [(0, .ref ((xw x).2.2 0)), (1, .int v1)] [] := by
  intro n
  induction n with
  | zero =>
    intro v1 S
    exact sm_none
  | succ n ih =>
    intro v1 S
    show sm_Sm x zm_sy prog_12_method_33_code (sm_Q x zm_sy (sm_Pv zm_sy (xw x))) (if (4 : Int32) ≤ v1 then (sm_lt (0 : Int32) (fun (v1_5 : Int32) => pm_takeNow_b59 N N v1_5 S)) else (if sm_in ((48 : Int32) + v1) 81 = true then (if sm_in v1 4 = true then sm_lt (sm_sI S 8 v1.toNatClampNeg (S.1 1 ((48 : Int32) + v1).toNatClampNeg)) (fun (S_6 : sm_St) => sm_lt (v1 + (1 : Int32)) (fun (v1_7 : Int32) => (pm_takeNow_b31 N n) v1_7 S_6)) else none) else none)) S 31 [(0, .ref ((xw x).2.2 0)), (1, .int v1)] []
    refine sm_iload_n (pc := 31) 1 ok dm_takeNow_31 rfl ?_
    refine sm_iconst (pc := 32) (4 : Int32) ok dm_takeNow_32 zk_4 ?_
    refine sm_icmp_ge (pc := 33) 57 ok dm_takeNow_33 (by decide) (fun _ => ?_) (fun _ => ?_)
    · refine sm_iconst (pc := 57) (0 : Int32) ok dm_takeNow_57 zk_0 ?_
      refine sm_istore_n (pc := 58) (i := 1) ok dm_takeNow_58 rfl (by decide) (fun v => [(1, .int v), (0, .ref ((xw x).2.2 0))]) (fun _ => rfl) (fun v1_5 => ?_)
      refine sm_lv [1, 0] rfl ?_
      exact tm_takeNow_b59 ok hr N N _ _
    · refine sm_aload_n (pc := 36) 0 ok dm_takeNow_36 rfl ?_
      refine sm_getR (pc := 37) (ci := 10) (k := 8) ok dm_takeNow_37 rfl rfl zc_i10 (by decide) rfl wd_1011 ?_
      refine sm_iload_n (pc := 40) 1 ok dm_takeNow_40 rfl ?_
      refine sm_aload_n (pc := 41) 0 ok dm_takeNow_41 rfl ?_
      refine sm_getR (pc := 42) (ci := 10) (k := 0) ok dm_takeNow_42 rfl rfl zc_i10 (by decide) rfl wd_1003 ?_
      refine sm_bipush (pc := 45) (48 : Int32) ok dm_takeNow_45 zb_48 ?_
      refine sm_iload_n (pc := 47) 1 ok dm_takeNow_47 rfl ?_
      refine sm_iadd (pc := 48) ok dm_takeNow_48 ?_
      refine sm_iald (pc := 49) ok dm_takeNow_49 rfl ?_
      refine sm_iast (pc := 50) ok dm_takeNow_50 rfl (fun S_6 => ?_)
      refine sm_iinc (pc := 51) (i := 1) 1 (1 : Int32) ok dm_takeNow_51 rfl zk_1 (by decide) (fun v => [(1, .int v), (0, .ref ((xw x).2.2 0))]) (fun _ => rfl) (fun v1_7 => ?_)
      refine sm_goto (pc := 54) 31 ok dm_takeNow_54 (by decide) ?_
      refine sm_lv [1, 0] rfl ?_
      exact ih _ _
set_option maxHeartbeats 4000000 in
set_option maxRecDepth 20000 in
theorem tm_takeNow_b2 {x : sm_Cx} (ok : sm_Ok x zm_sy prog_12_method_33_code "LentShadesModel" 2 1 23) (hr : (xh x).sig.returnType = none) (N : Nat) : ∀ (n : Nat) (v1 : Int32) (S : sm_St), sm_Sm x zm_sy prog_12_method_33_code (sm_Q x zm_sy (sm_Pv zm_sy (xw x))) (pm_takeNow_b2 N n v1 S) S 2 [(0, .ref ((xw x).2.2 0)), (1, .int v1)] [] := by
  intro n
  induction n with
  | zero =>
    intro v1 S
    exact sm_none
  | succ n ih =>
    intro v1 S
    show sm_Sm x zm_sy prog_12_method_33_code (sm_Q x zm_sy (sm_Pv zm_sy (xw x))) (if (32 : Int32) ≤ v1 then (sm_lt (0 : Int32) (fun (v1_2 : Int32) => pm_takeNow_b31 N N v1_2 S)) else (if sm_in ((16 : Int32) + v1) 81 = true then (if sm_in v1 32 = true then sm_lt (sm_sI S 7 v1.toNatClampNeg (S.1 1 ((16 : Int32) + v1).toNatClampNeg)) (fun (S_3 : sm_St) => sm_lt (v1 + (1 : Int32)) (fun (v1_4 : Int32) => (pm_takeNow_b2 N n) v1_4 S_3)) else none) else none)) S 2 [(0, .ref ((xw x).2.2 0)), (1, .int v1)] []
    refine sm_iload_n (pc := 2) 1 ok dm_takeNow_2 rfl ?_
    refine sm_bipush (pc := 3) (32 : Int32) ok dm_takeNow_3 zb_32 ?_
    refine sm_icmp_ge (pc := 5) 29 ok dm_takeNow_5 (by decide) (fun _ => ?_) (fun _ => ?_)
    · refine sm_iconst (pc := 29) (0 : Int32) ok dm_takeNow_29 zk_0 ?_
      refine sm_istore_n (pc := 30) (i := 1) ok dm_takeNow_30 rfl (by decide) (fun v => [(1, .int v), (0, .ref ((xw x).2.2 0))]) (fun _ => rfl) (fun v1_2 => ?_)
      refine sm_lv [1, 0] rfl ?_
      exact tm_takeNow_b31 ok hr N N _ _
    · refine sm_aload_n (pc := 8) 0 ok dm_takeNow_8 rfl ?_
      refine sm_getR (pc := 9) (ci := 10) (k := 7) ok dm_takeNow_9 rfl rfl zc_i10 (by decide) rfl wd_1010 ?_
      refine sm_iload_n (pc := 12) 1 ok dm_takeNow_12 rfl ?_
      refine sm_aload_n (pc := 13) 0 ok dm_takeNow_13 rfl ?_
      refine sm_getR (pc := 14) (ci := 10) (k := 0) ok dm_takeNow_14 rfl rfl zc_i10 (by decide) rfl wd_1003 ?_
      refine sm_bipush (pc := 17) (16 : Int32) ok dm_takeNow_17 zb_16 ?_
      refine sm_iload_n (pc := 19) 1 ok dm_takeNow_19 rfl ?_
      refine sm_iadd (pc := 20) ok dm_takeNow_20 ?_
      refine sm_iald (pc := 21) ok dm_takeNow_21 rfl ?_
      refine sm_iast (pc := 22) ok dm_takeNow_22 rfl (fun S_3 => ?_)
      refine sm_iinc (pc := 23) (i := 1) 1 (1 : Int32) ok dm_takeNow_23 rfl zk_1 (by decide) (fun v => [(1, .int v), (0, .ref ((xw x).2.2 0))]) (fun _ => rfl) (fun v1_4 => ?_)
      refine sm_goto (pc := 26) 2 ok dm_takeNow_26 (by decide) ?_
      refine sm_lv [1, 0] rfl ?_
      exact ih _ _
set_option maxHeartbeats 4000000 in
set_option maxRecDepth 20000 in
theorem tm_takeNow {x : sm_Cx} (ok : sm_Ok x zm_sy prog_12_method_33_code "LentShadesModel" 2 1 23) (hr : (xh x).sig.returnType = none) (N : Nat) (S : sm_St) : sm_Sm x zm_sy prog_12_method_33_code (sm_Q x zm_sy (sm_Pv zm_sy (xw x))) (pm_takeNow N S) S 0 [(0, .ref ((xw x).2.2 0))] [] := by
  unfold pm_takeNow
  refine sm_iconst (pc := 0) (0 : Int32) ok dm_takeNow_0 zk_0 ?_
  refine sm_istore_n (pc := 1) (i := 1) ok dm_takeNow_1 rfl (by decide) (fun v => [(1, .int v), (0, .ref ((xw x).2.2 0))]) (fun _ => rfl) (fun v1_1 => ?_)
  refine sm_lv [1, 0] rfl ?_
  exact tm_takeNow_b2 ok hr N N _ _
theorem cm_takeNow {l : Launch} {wc : sm_Wc} (hj : sm_inj zm_sy wc) (N : Nat) (S : sm_St) : sm_Ct l zm_sy wc ym_takeNow prog_12_method_33_code 2 none 1 23 [.ref (wc.2.2 0)] S (sm_Pv zm_sy wc) (pm_takeNow N S) :=
  sm_entry (Pq := fun wc => sm_Pv zm_sy wc) (fun wc => [.ref (wc.2.2 0)]) (lv := fun wc => [(0, .ref (wc.2.2 0))]) (by decide) hj zm_ok zm_stb (fun _ => Nat.le_of_ble_eq_true rfl) (fun _ => rfl) (fun x _ ok hr => tm_takeNow ok hr N S)
set_option maxHeartbeats 4000000 in
set_option maxRecDepth 20000 in
theorem tm_gives {x : sm_Cx} (ok : sm_Ok x zm_sy prog_12_method_34_code "LentShadesModel" 2 1 21) (hr : (xh x).sig.returnType = (some .boolean)) (N : Nat) (S : sm_St) (v1 : Int32) : sm_Sm x zm_sy prog_12_method_34_code (sm_Q x zm_sy (sm_Pi zm_sy (xw x))) (pm_gives N S v1) S 0 [(0, .ref ((xw x).2.2 0)), (1, .int v1)] [] := by
  unfold pm_gives
  refine sm_aload_n (pc := 0) 0 ok dm_gives_0 rfl ?_
  refine sm_iload_n (pc := 1) 1 ok dm_gives_1 rfl ?_
  refine sm_callV_i (pc := 2) (ci := 10) [.int v1] ok dm_gives_2 wd_1189 mwm_kindOf rfl rfl (Nat.le_of_ble_eq_true rfl) (Nat.le_of_ble_eq_true rfl) rfl rfl (Nat.le_of_ble_eq_true rfl) (cm_kindOf (sm_okj ok) N S v1) (fun r_2 S_1 => ?_)
  refine sm_iconst (pc := 5) (2 : Int32) ok dm_gives_5 zk_2 ?_
  refine sm_icmp_eq (pc := 6) 22 ok dm_gives_6 (by decide) (fun _ => ?_) (fun _ => ?_)
  · refine sm_iconst (pc := 22) (0 : Int32) ok dm_gives_22 zk_0 ?_
    exact sm_zret (pc := 23) ok dm_gives_23 hr rfl
  · refine sm_aload_n (pc := 9) 0 ok dm_gives_9 rfl ?_
    refine sm_iload_n (pc := 10) 1 ok dm_gives_10 rfl ?_
    refine sm_callV_i (pc := 11) (ci := 10) [.int v1] ok dm_gives_11 wd_1189 mwm_kindOf rfl rfl (Nat.le_of_ble_eq_true rfl) (Nat.le_of_ble_eq_true rfl) rfl rfl (Nat.le_of_ble_eq_true rfl) (cm_kindOf (sm_okj ok) N S_1 v1) (fun r_4 S_3 => ?_)
    refine sm_iconst (pc := 14) (4 : Int32) ok dm_gives_14 zk_4 ?_
    refine sm_icmp_eq (pc := 15) 22 ok dm_gives_15 (by decide) (fun _ => ?_) (fun _ => ?_)
    · refine sm_iconst (pc := 22) (0 : Int32) ok dm_gives_22 zk_0 ?_
      exact sm_zret (pc := 23) ok dm_gives_23 hr rfl
    · refine sm_iconst (pc := 18) (1 : Int32) ok dm_gives_18 zk_1 ?_
      refine sm_goto (pc := 19) 23 ok dm_gives_19 (by decide) ?_
      exact sm_zret (pc := 23) ok dm_gives_23 hr rfl
theorem cm_gives {l : Launch} {wc : sm_Wc} (hj : sm_inj zm_sy wc) (N : Nat) (S : sm_St) (v1 : Int32) : sm_Ct l zm_sy wc ym_gives prog_12_method_34_code 2 (some .boolean) 1 21 [.ref (wc.2.2 0), .int v1] S (sm_Pi zm_sy wc) (pm_gives N S v1) :=
  sm_entry (Pq := fun wc => sm_Pi zm_sy wc) (fun wc => [.ref (wc.2.2 0), .int v1]) (lv := fun wc => [(0, .ref (wc.2.2 0)), (1, .int v1)]) (by decide) hj zm_ok zm_stb (fun _ => Nat.le_of_ble_eq_true rfl) (fun _ => rfl) (fun x _ ok hr => tm_gives ok hr N S v1)
set_option maxHeartbeats 4000000 in
set_option maxRecDepth 20000 in
theorem tm_takes_b21 {x : sm_Cx} (ok : sm_Ok x zm_sy prog_12_method_35_code "LentShadesModel" 5 2 46) (hr : (xh x).sig.returnType = (some .int)) (N : Nat) (v1 : Int32) (v2 : Int32) (v3 : Int32) (s0 : Int32) (S : sm_St) : sm_Sm x zm_sy prog_12_method_35_code (sm_Q x zm_sy (sm_Pi zm_sy (xw x))) (pm_takes_b21 N v1 v2 v3 s0 S) S 21 [(0, .ref ((xw x).2.2 0)), (1, .int v1), (2, .int v2), (3, .int v3)] [.int s0] := by
  unfold pm_takes_b21
  refine sm_istore (pc := 21) (i := 4) ok dm_takes_21 (by decide) (fun v => [(4, .int v), (0, .ref ((xw x).2.2 0)), (1, .int v1), (2, .int v2), (3, .int v3)]) (fun _ => rfl) (fun v4_4 => ?_)
  refine sm_iload_n (pc := 23) 3 ok dm_takes_23 rfl ?_
  refine sm_iload_n (pc := 24) 2 ok dm_takes_24 rfl ?_
  refine sm_icmp_ne (pc := 25) 52 ok dm_takes_25 (by decide) (fun _ => ?_) (fun _ => ?_)
  · refine sm_iload_n (pc := 52) 3 ok dm_takes_52 rfl ?_
    refine sm_iconst (pc := 53) (4 : Int32) ok dm_takes_53 zk_4 ?_
    refine sm_icmp_ge (pc := 54) 89 ok dm_takes_54 (by decide) (fun _ => ?_) (fun _ => ?_)
    · refine sm_aload_n (pc := 89) 1 ok dm_takes_89 rfl ?_
      refine sm_iload_n (pc := 90) 3 ok dm_takes_90 rfl ?_
      refine sm_iconst (pc := 91) (4 : Int32) ok dm_takes_91 zk_4 ?_
      refine sm_isub (pc := 92) ok dm_takes_92 ?_
      refine sm_callV_i (pc := 93) (ci := 10) [.int (v2 - (4 : Int32))] ok dm_takes_93 wd_1165 mwm_isThing rfl rfl (Nat.le_of_ble_eq_true rfl) (Nat.le_of_ble_eq_true rfl) rfl rfl (Nat.le_of_ble_eq_true rfl) (cm_isThing (sm_okj ok) N S (v2 - (4 : Int32))) (fun r_6 S_5 => ?_)
      refine sm_if_ne (pc := 96) 103 ok dm_takes_96 (by decide) (fun _ => ?_) (fun _ => ?_)
      · refine sm_iload_n (pc := 103) 4 ok dm_takes_103 rfl ?_
        refine sm_iconst (pc := 104) (3 : Int32) ok dm_takes_104 zk_3 ?_
        refine sm_icmp_ne (pc := 105) 124 ok dm_takes_105 (by decide) (fun _ => ?_) (fun _ => ?_)
        · refine sm_aload_n (pc := 124) 1 ok dm_takes_124 rfl ?_
          refine sm_getR (pc := 125) (ci := 10) (k := 7) ok dm_takes_125 rfl rfl zc_i10 (by decide) rfl wd_1010 ?_
          refine sm_bipush (pc := 128) (8 : Int32) ok dm_takes_128 zb_8 ?_
          refine sm_iload_n (pc := 130) 2 ok dm_takes_130 rfl ?_
          refine sm_imul (pc := 131) ok dm_takes_131 ?_
          refine sm_iload_n (pc := 132) 3 ok dm_takes_132 rfl ?_
          refine sm_iadd (pc := 133) ok dm_takes_133 ?_
          refine sm_iald (pc := 134) ok dm_takes_134 rfl ?_
          exact sm_iret (pc := 135) ok dm_takes_135 hr
        · refine sm_iconst (pc := 108) (2 : Int32) ok dm_takes_108 zk_2 ?_
          refine sm_aload_n (pc := 109) 1 ok dm_takes_109 rfl ?_
          refine sm_getR (pc := 110) (ci := 10) (k := 7) ok dm_takes_110 rfl rfl zc_i10 (by decide) rfl wd_1010 ?_
          refine sm_bipush (pc := 113) (8 : Int32) ok dm_takes_113 zb_8 ?_
          refine sm_iload_n (pc := 115) 2 ok dm_takes_115 rfl ?_
          refine sm_imul (pc := 116) ok dm_takes_116 ?_
          refine sm_iload_n (pc := 117) 3 ok dm_takes_117 rfl ?_
          refine sm_iadd (pc := 118) ok dm_takes_118 ?_
          refine sm_iald (pc := 119) ok dm_takes_119 rfl ?_
          refine sm_imul (pc := 120) ok dm_takes_120 ?_
          refine sm_goto (pc := 121) 135 ok dm_takes_121 (by decide) ?_
          exact sm_iret (pc := 135) ok dm_takes_135 hr
      · refine sm_iconst (pc := 99) (0 : Int32) ok dm_takes_99 zk_0 ?_
        refine sm_goto (pc := 100) 135 ok dm_takes_100 (by decide) ?_
        exact sm_iret (pc := 135) ok dm_takes_135 hr
    · refine sm_aload_n (pc := 57) 1 ok dm_takes_57 rfl ?_
      refine sm_iload_n (pc := 58) 3 ok dm_takes_58 rfl ?_
      refine sm_callV_i (pc := 59) (ci := 10) [.int v2] ok dm_takes_59 wd_1154 mwm_isCloth rfl rfl (Nat.le_of_ble_eq_true rfl) (Nat.le_of_ble_eq_true rfl) rfl rfl (Nat.le_of_ble_eq_true rfl) (cm_isCloth (sm_okj ok) N S v2) (fun r_8 S_7 => ?_)
      refine sm_if_eq (pc := 62) 87 ok dm_takes_62 (by decide) (fun _ => ?_) (fun _ => ?_)
      · refine sm_iconst (pc := 87) (0 : Int32) ok dm_takes_87 zk_0 ?_
        exact sm_iret (pc := 88) ok dm_takes_88 hr
      · refine sm_aload_n (pc := 65) 1 ok dm_takes_65 rfl ?_
        refine sm_iload_n (pc := 66) 3 ok dm_takes_66 rfl ?_
        refine sm_callV_i (pc := 67) (ci := 10) [.int v2] ok dm_takes_67 wd_1201 mwm_gives rfl rfl (Nat.le_of_ble_eq_true rfl) (Nat.le_of_ble_eq_true rfl) rfl rfl (Nat.le_of_ble_eq_true rfl) (cm_gives (sm_okj ok) N S_7 v2) (fun r_10 S_9 => ?_)
        refine sm_if_eq (pc := 70) 87 ok dm_takes_70 (by decide) (fun _ => ?_) (fun _ => ?_)
        · refine sm_iconst (pc := 87) (0 : Int32) ok dm_takes_87 zk_0 ?_
          exact sm_iret (pc := 88) ok dm_takes_88 hr
        · refine sm_aload_n (pc := 73) 1 ok dm_takes_73 rfl ?_
          refine sm_getR (pc := 74) (ci := 10) (k := 7) ok dm_takes_74 rfl rfl zc_i10 (by decide) rfl wd_1010 ?_
          refine sm_bipush (pc := 77) (8 : Int32) ok dm_takes_77 zb_8 ?_
          refine sm_iload_n (pc := 79) 2 ok dm_takes_79 rfl ?_
          refine sm_imul (pc := 80) ok dm_takes_80 ?_
          refine sm_iload_n (pc := 81) 3 ok dm_takes_81 rfl ?_
          refine sm_iadd (pc := 82) ok dm_takes_82 ?_
          refine sm_iald (pc := 83) ok dm_takes_83 rfl ?_
          refine sm_goto (pc := 84) 88 ok dm_takes_84 (by decide) ?_
          exact sm_iret (pc := 88) ok dm_takes_88 hr
  · refine sm_iload (pc := 28) 0 ok dm_takes_28 rfl ?_
    refine sm_if_eq (pc := 30) 50 ok dm_takes_30 (by decide) (fun _ => ?_) (fun _ => ?_)
    · refine sm_iconst (pc := 50) (0 : Int32) ok dm_takes_50 zk_0 ?_
      exact sm_iret (pc := 51) ok dm_takes_51 hr
    · refine sm_aload_n (pc := 33) 1 ok dm_takes_33 rfl ?_
      refine sm_getR (pc := 34) (ci := 10) (k := 0) ok dm_takes_34 rfl rfl zc_i10 (by decide) rfl wd_1003 ?_
      refine sm_iconst (pc := 37) (0 : Int32) ok dm_takes_37 zk_0 ?_
      refine sm_iconst (pc := 38) (4 : Int32) ok dm_takes_38 zk_4 ?_
      refine sm_iload_n (pc := 39) 2 ok dm_takes_39 rfl ?_
      refine sm_imul (pc := 40) ok dm_takes_40 ?_
      refine sm_iadd (pc := 41) ok dm_takes_41 ?_
      refine sm_iconst (pc := 42) (1 : Int32) ok dm_takes_42 zk_1 ?_
      refine sm_iadd (pc := 43) ok dm_takes_43 ?_
      refine sm_iald (pc := 44) ok dm_takes_44 rfl ?_
      refine sm_iconst (pc := 45) (1 : Int32) ok dm_takes_45 zk_1 ?_
      refine sm_iadd (pc := 46) ok dm_takes_46 ?_
      refine sm_goto (pc := 47) 51 ok dm_takes_47 (by decide) ?_
      exact sm_iret (pc := 51) ok dm_takes_51 hr
set_option maxHeartbeats 4000000 in
set_option maxRecDepth 20000 in
theorem tm_takes_b16 {x : sm_Cx} (ok : sm_Ok x zm_sy prog_12_method_35_code "LentShadesModel" 5 2 46) (hr : (xh x).sig.returnType = (some .int)) (N : Nat) (v1 : Int32) (v2 : Int32) (v3 : Int32) (S : sm_St) : sm_Sm x zm_sy prog_12_method_35_code (sm_Q x zm_sy (sm_Pi zm_sy (xw x))) (pm_takes_b16 N v1 v2 v3 S) S 16 [(0, .ref ((xw x).2.2 0)), (1, .int v1), (2, .int v2), (3, .int v3)] [] := by
  unfold pm_takes_b16
  refine sm_iconst (pc := 16) (1 : Int32) ok dm_takes_16 zk_1 ?_
  refine sm_goto (pc := 17) 21 ok dm_takes_17 (by decide) ?_
  exact tm_takes_b21 ok hr N _ _ _ _ _
set_option maxHeartbeats 4000000 in
set_option maxRecDepth 20000 in
theorem tm_takes {x : sm_Cx} (ok : sm_Ok x zm_sy prog_12_method_35_code "LentShadesModel" 5 2 46) (hr : (xh x).sig.returnType = (some .int)) (N : Nat) (S : sm_St) (v1 : Int32) (v2 : Int32) : sm_Sm x zm_sy prog_12_method_35_code (sm_Q x zm_sy (sm_Pi zm_sy (xw x))) (pm_takes N S v1 v2) S 0 [(0, .ref ((xw x).2.2 0)), (1, .int v1), (2, .int v2)] [] := by
  unfold pm_takes
  refine sm_aload_n (pc := 0) 0 ok dm_takes_0 rfl ?_
  refine sm_iload_n (pc := 1) 1 ok dm_takes_1 rfl ?_
  refine sm_callV_i (pc := 2) (ci := 10) [.int v1] ok dm_takes_2 wd_1189 mwm_kindOf rfl rfl (Nat.le_of_ble_eq_true rfl) (Nat.le_of_ble_eq_true rfl) rfl rfl (Nat.le_of_ble_eq_true rfl) (cm_kindOf (sm_okj ok) N S v1) (fun r_2 S_1 => ?_)
  refine sm_istore_n (pc := 5) (i := 3) ok dm_takes_5 rfl (by decide) (fun v => [(3, .int v), (0, .ref ((xw x).2.2 0)), (1, .int v1), (2, .int v2)]) (fun _ => rfl) (fun v3_3 => ?_)
  refine sm_iload_n (pc := 6) 0 ok dm_takes_6 rfl ?_
  refine sm_iconst (pc := 7) (1 : Int32) ok dm_takes_7 zk_1 ?_
  refine sm_icmp_eq (pc := 8) 16 ok dm_takes_8 (by decide) (fun _ => ?_) (fun _ => ?_)
  · refine sm_lv [1, 2, 3, 0] rfl ?_
    exact tm_takes_b16 ok hr N _ _ _ _
  · refine sm_iload_n (pc := 11) 0 ok dm_takes_11 rfl ?_
    refine sm_iconst (pc := 12) (3 : Int32) ok dm_takes_12 zk_3 ?_
    refine sm_icmp_ne (pc := 13) 20 ok dm_takes_13 (by decide) (fun _ => ?_) (fun _ => ?_)
    · refine sm_iconst (pc := 20) (0 : Int32) ok dm_takes_20 zk_0 ?_
      refine sm_lv [1, 2, 3, 0] rfl ?_
      exact tm_takes_b21 ok hr N _ _ _ _ _
    · refine sm_lv [1, 2, 3, 0] rfl ?_
      exact tm_takes_b16 ok hr N _ _ _ _
theorem cm_takes {l : Launch} {wc : sm_Wc} (hj : sm_inj zm_sy wc) (N : Nat) (S : sm_St) (v1 : Int32) (v2 : Int32) : sm_Ct l zm_sy wc ym_takes prog_12_method_35_code 5 (some .int) 2 46 [.ref (wc.2.2 0), .int v1, .int v2] S (sm_Pi zm_sy wc) (pm_takes N S v1 v2) :=
  sm_entry (Pq := fun wc => sm_Pi zm_sy wc) (fun wc => [.ref (wc.2.2 0), .int v1, .int v2]) (lv := fun wc => [(0, .ref (wc.2.2 0)), (1, .int v1), (2, .int v2)]) (by decide) hj zm_ok zm_stb (fun _ => Nat.le_of_ble_eq_true rfl) (fun _ => rfl) (fun x _ ok hr => tm_takes ok hr N S v1 v2)
set_option maxHeartbeats 4000000 in
set_option maxRecDepth 20000 in
theorem tm_takesAll_b4 {x : sm_Cx} (ok : sm_Ok x zm_sy prog_12_method_36_code "LentShadesModel" 4 3 70) (hr : (xh x).sig.returnType = (some .int)) (N : Nat) : ∀ (n : Nat) (v1 : Int32) (v2 : Int32) (v3 : Int32) (S : sm_St), sm_Sm x zm_sy prog_12_method_36_code (sm_Q x zm_sy (sm_Pi zm_sy (xw x))) (pm_takesAll_b4 N n v1 v2 v3 S) S 4 [(0, .ref ((xw x).2.2 0)), (1, .int v1), (2, .int v2), (3, .int v3)] [] := by
  intro n
  induction n with
  | zero =>
    intro v1 v2 v3 S
    exact sm_none
  | succ n ih =>
    intro v1 v2 v3 S
    show sm_Sm x zm_sy prog_12_method_36_code (sm_Q x zm_sy (sm_Pi zm_sy (xw x))) (if (8 : Int32) ≤ v3 then (some (v2, S)) else (sm_b2 (pm_takes N S v1 v3) (fun (r_4 : Int32) (S_3 : sm_St) => sm_lt (v2 + r_4) (fun (v2_5 : Int32) => sm_lt (v3 + (1 : Int32)) (fun (v3_6 : Int32) => (pm_takesAll_b4 N n) v1 v2_5 v3_6 S_3))))) S 4 [(0, .ref ((xw x).2.2 0)), (1, .int v1), (2, .int v2), (3, .int v3)] []
    refine sm_iload_n (pc := 4) 3 ok dm_takesAll_4 rfl ?_
    refine sm_bipush (pc := 5) (8 : Int32) ok dm_takesAll_5 zb_8 ?_
    refine sm_icmp_ge (pc := 7) 25 ok dm_takesAll_7 (by decide) (fun _ => ?_) (fun _ => ?_)
    · refine sm_iload_n (pc := 25) 2 ok dm_takesAll_25 rfl ?_
      exact sm_iret (pc := 26) ok dm_takesAll_26 hr
    · refine sm_iload_n (pc := 10) 2 ok dm_takesAll_10 rfl ?_
      refine sm_aload_n (pc := 11) 0 ok dm_takesAll_11 rfl ?_
      refine sm_iload_n (pc := 12) 1 ok dm_takesAll_12 rfl ?_
      refine sm_iload_n (pc := 13) 3 ok dm_takesAll_13 rfl ?_
      refine sm_callV_i (pc := 14) (ci := 10) [.int v1, .int v3] ok dm_takesAll_14 wd_1197 mwm_takes rfl rfl (Nat.le_of_ble_eq_true rfl) (Nat.le_of_ble_eq_true rfl) rfl rfl (Nat.le_of_ble_eq_true rfl) (cm_takes (sm_okj ok) N S v1 v3) (fun r_4 S_3 => ?_)
      refine sm_iadd (pc := 17) ok dm_takesAll_17 ?_
      refine sm_istore_n (pc := 18) (i := 2) ok dm_takesAll_18 rfl (by decide) (fun v => [(2, .int v), (0, .ref ((xw x).2.2 0)), (1, .int v1), (3, .int v3)]) (fun _ => rfl) (fun v2_5 => ?_)
      refine sm_iinc (pc := 19) (i := 3) 3 (1 : Int32) ok dm_takesAll_19 rfl zk_1 (by decide) (fun v => [(3, .int v), (2, .int v2_5), (0, .ref ((xw x).2.2 0)), (1, .int v1)]) (fun _ => rfl) (fun v3_6 => ?_)
      refine sm_goto (pc := 22) 4 ok dm_takesAll_22 (by decide) ?_
      refine sm_lv [2, 3, 1, 0] rfl ?_
      exact ih _ _ _ _
set_option maxHeartbeats 4000000 in
set_option maxRecDepth 20000 in
theorem tm_takesAll {x : sm_Cx} (ok : sm_Ok x zm_sy prog_12_method_36_code "LentShadesModel" 4 3 70) (hr : (xh x).sig.returnType = (some .int)) (N : Nat) (S : sm_St) (v1 : Int32) : sm_Sm x zm_sy prog_12_method_36_code (sm_Q x zm_sy (sm_Pi zm_sy (xw x))) (pm_takesAll N S v1) S 0 [(0, .ref ((xw x).2.2 0)), (1, .int v1)] [] := by
  unfold pm_takesAll
  refine sm_iconst (pc := 0) (0 : Int32) ok dm_takesAll_0 zk_0 ?_
  refine sm_istore_n (pc := 1) (i := 2) ok dm_takesAll_1 rfl (by decide) (fun v => [(2, .int v), (0, .ref ((xw x).2.2 0)), (1, .int v1)]) (fun _ => rfl) (fun v2_1 => ?_)
  refine sm_iconst (pc := 2) (0 : Int32) ok dm_takesAll_2 zk_0 ?_
  refine sm_istore_n (pc := 3) (i := 3) ok dm_takesAll_3 rfl (by decide) (fun v => [(3, .int v), (2, .int v2_1), (0, .ref ((xw x).2.2 0)), (1, .int v1)]) (fun _ => rfl) (fun v3_2 => ?_)
  refine sm_lv [2, 3, 1, 0] rfl ?_
  exact tm_takesAll_b4 ok hr N N _ _ _ _
theorem cm_takesAll {l : Launch} {wc : sm_Wc} (hj : sm_inj zm_sy wc) (N : Nat) (S : sm_St) (v1 : Int32) : sm_Ct l zm_sy wc ym_takesAll prog_12_method_36_code 4 (some .int) 3 70 [.ref (wc.2.2 0), .int v1] S (sm_Pi zm_sy wc) (pm_takesAll N S v1) :=
  sm_entry (Pq := fun wc => sm_Pi zm_sy wc) (fun wc => [.ref (wc.2.2 0), .int v1]) (lv := fun wc => [(0, .ref (wc.2.2 0)), (1, .int v1)]) (by decide) hj zm_ok zm_stb (fun _ => Nat.le_of_ble_eq_true rfl) (fun _ => rfl) (fun x _ ok hr => tm_takesAll ok hr N S v1)
set_option maxHeartbeats 4000000 in
set_option maxRecDepth 20000 in
theorem tm_lay {x : sm_Cx} (ok : sm_Ok x zm_sy prog_12_method_37_code "LentShadesModel" 3 2 49) (hr : (xh x).sig.returnType = none) (N : Nat) (S : sm_St) (v1 : Int32) (v2 : Int32) : sm_Sm x zm_sy prog_12_method_37_code (sm_Q x zm_sy (sm_Pv zm_sy (xw x))) (pm_lay N S v1 v2) S 0 [(0, .ref ((xw x).2.2 0)), (1, .int v1), (2, .int v2)] [] := by
  unfold pm_lay
  refine sm_iload_n (pc := 0) 2 ok dm_lay_0 rfl ?_
  refine sm_iconst (pc := 1) (4 : Int32) ok dm_lay_1 zk_4 ?_
  refine sm_icmp_ge (pc := 2) 17 ok dm_lay_2 (by decide) (fun _ => ?_) (fun _ => ?_)
  · refine sm_aload_n (pc := 17) 0 ok dm_lay_17 rfl ?_
    refine sm_iload_n (pc := 18) 1 ok dm_lay_18 rfl ?_
    refine sm_bipush (pc := 19) (18 : Int32) ok dm_lay_19 zb_18 ?_
    refine sm_callV_v (pc := 21) (ci := 10) [.int v1, .int (18 : Int32)] ok dm_lay_21 wd_1126 mwm_copy rfl rfl (Nat.le_of_ble_eq_true rfl) (Nat.le_of_ble_eq_true rfl) rfl rfl (Nat.le_of_ble_eq_true rfl) (cm_copy (sm_okj ok) N S v1 (18 : Int32)) (fun S_1 => ?_)
    refine sm_aload_n (pc := 24) 0 ok dm_lay_24 rfl ?_
    refine sm_iload_n (pc := 25) 1 ok dm_lay_25 rfl ?_
    refine sm_aload_n (pc := 26) 0 ok dm_lay_26 rfl ?_
    refine sm_getR (pc := 27) (ci := 10) (k := 8) ok dm_lay_27 rfl rfl zc_i10 (by decide) rfl wd_1011 ?_
    refine sm_iload_n (pc := 30) 2 ok dm_lay_30 rfl ?_
    refine sm_iconst (pc := 31) (4 : Int32) ok dm_lay_31 zk_4 ?_
    refine sm_isub (pc := 32) ok dm_lay_32 ?_
    refine sm_iald (pc := 33) ok dm_lay_33 rfl ?_
    refine sm_i2l (pc := 34) ok dm_lay_34 ?_
    refine sm_callV_v (pc := 35) (ci := 10) [.int v1, .long ((S_1.1 8 (v2 - (4 : Int32)).toNatClampNeg).toInt64)] ok dm_lay_35 wd_1130 mwm_times rfl rfl (Nat.le_of_ble_eq_true rfl) (Nat.le_of_ble_eq_true rfl) rfl rfl (Nat.le_of_ble_eq_true rfl) (cm_times (sm_okj ok) N S_1 v1 ((S_1.1 8 (v2 - (4 : Int32)).toNatClampNeg).toInt64)) (fun S_2 => ?_)
    exact sm_vret (pc := 38) ok dm_lay_38 hr
  · refine sm_aload_n (pc := 5) 0 ok dm_lay_5 rfl ?_
    refine sm_iload_n (pc := 6) 1 ok dm_lay_6 rfl ?_
    refine sm_bipush (pc := 7) (14 : Int32) ok dm_lay_7 zb_14 ?_
    refine sm_iload_n (pc := 9) 2 ok dm_lay_9 rfl ?_
    refine sm_iadd (pc := 10) ok dm_lay_10 ?_
    refine sm_callV_v (pc := 11) (ci := 10) [.int v1, .int ((14 : Int32) + v2)] ok dm_lay_11 wd_1126 mwm_copy rfl rfl (Nat.le_of_ble_eq_true rfl) (Nat.le_of_ble_eq_true rfl) rfl rfl (Nat.le_of_ble_eq_true rfl) (cm_copy (sm_okj ok) N S v1 ((14 : Int32) + v2)) (fun S_3 => ?_)
    refine sm_goto (pc := 14) 38 ok dm_lay_14 (by decide) ?_
    exact sm_vret (pc := 38) ok dm_lay_38 hr
theorem cm_lay {l : Launch} {wc : sm_Wc} (hj : sm_inj zm_sy wc) (N : Nat) (S : sm_St) (v1 : Int32) (v2 : Int32) : sm_Ct l zm_sy wc ym_lay prog_12_method_37_code 3 none 2 49 [.ref (wc.2.2 0), .int v1, .int v2] S (sm_Pv zm_sy wc) (pm_lay N S v1 v2) :=
  sm_entry (Pq := fun wc => sm_Pv zm_sy wc) (fun wc => [.ref (wc.2.2 0), .int v1, .int v2]) (lv := fun wc => [(0, .ref (wc.2.2 0)), (1, .int v1), (2, .int v2)]) (by decide) hj zm_ok zm_stb (fun _ => Nat.le_of_ble_eq_true rfl) (fun _ => rfl) (fun x _ ok hr => tm_lay ok hr N S v1 v2)
set_option maxHeartbeats 4000000 in
set_option maxRecDepth 20000 in
theorem tm_divisor_b4 {x : sm_Cx} (ok : sm_Ok x zm_sy prog_12_method_38_code "LentShadesModel" 5 0 0) (hr : (xh x).sig.returnType = (some .int)) (N : Nat) : ∀ (n : Nat) (v2 : Int32) (v3 : Int32) (S : sm_St), sm_Sm x zm_sy prog_12_method_38_code (sm_Q x zm_sy (sm_Pi zm_sy (xw x))) (pm_divisor_b4 N n v2 v3 S) S 4 [(2, .int v2), (3, .int v3)] [] := by
  intro n
  induction n with
  | zero =>
    intro v2 v3 S
    exact sm_none
  | succ n ih =>
    intro v2 v3 S
    show sm_Sm x zm_sy prog_12_method_38_code (sm_Q x zm_sy (sm_Pi zm_sy (xw x))) (if v3 = 0 then (some (v2, S)) else (if v3 = 0 then none else (sm_lt (v2 - v2 / v3 * v3) (fun (v4_3 : Int32) => sm_lt v3 (fun (v2_4 : Int32) => sm_lt v4_3 (fun (v3_5 : Int32) => (pm_divisor_b4 N n) v2_4 v3_5 S)))))) S 4 [(2, .int v2), (3, .int v3)] []
    refine sm_iload_n (pc := 4) 1 ok dm_divisor_4 rfl ?_
    refine sm_if_eq (pc := 5) 21 ok dm_divisor_5 (by decide) (fun _ => ?_) (fun _ => ?_)
    · refine sm_iload_n (pc := 21) 0 ok dm_divisor_21 rfl ?_
      exact sm_iret (pc := 22) ok dm_divisor_22 hr
    · refine sm_iload_n (pc := 8) 0 ok dm_divisor_8 rfl ?_
      refine sm_iload_n (pc := 9) 1 ok dm_divisor_9 rfl ?_
      refine sm_irem (pc := 10) ok dm_divisor_10 ?_
      refine sm_istore (pc := 11) (i := 4) ok dm_divisor_11 (by decide) (fun v => [(4, .int v), (2, .int v2), (3, .int v3)]) (fun _ => rfl) (fun v4_3 => ?_)
      refine sm_iload_n (pc := 13) 2 ok dm_divisor_13 rfl ?_
      refine sm_istore_n (pc := 14) (i := 2) ok dm_divisor_14 rfl (by decide) (fun v => [(2, .int v), (4, .int v4_3), (3, .int v3)]) (fun _ => rfl) (fun v2_4 => ?_)
      refine sm_iload (pc := 15) 1 ok dm_divisor_15 rfl ?_
      refine sm_istore_n (pc := 17) (i := 3) ok dm_divisor_17 rfl (by decide) (fun v => [(3, .int v), (2, .int v2_4), (4, .int v4_3)]) (fun _ => rfl) (fun v3_5 => ?_)
      refine sm_goto (pc := 18) 4 ok dm_divisor_18 (by decide) ?_
      refine sm_lv [1, 0] rfl ?_
      exact ih _ _ _
set_option maxHeartbeats 4000000 in
set_option maxRecDepth 20000 in
theorem tm_divisor {x : sm_Cx} (ok : sm_Ok x zm_sy prog_12_method_38_code "LentShadesModel" 5 0 0) (hr : (xh x).sig.returnType = (some .int)) (N : Nat) (S : sm_St) (v0 : Int32) (v1 : Int32) : sm_Sm x zm_sy prog_12_method_38_code (sm_Q x zm_sy (sm_Pi zm_sy (xw x))) (pm_divisor N S v0 v1) S 0 [(0, .int v0), (1, .int v1)] [] := by
  unfold pm_divisor
  refine sm_iload_n (pc := 0) 0 ok dm_divisor_0 rfl ?_
  refine sm_istore_n (pc := 1) (i := 2) ok dm_divisor_1 rfl (by decide) (fun v => [(2, .int v), (0, .int v0), (1, .int v1)]) (fun _ => rfl) (fun v2_1 => ?_)
  refine sm_iload_n (pc := 2) 2 ok dm_divisor_2 rfl ?_
  refine sm_istore_n (pc := 3) (i := 3) ok dm_divisor_3 rfl (by decide) (fun v => [(3, .int v), (2, .int v2_1), (0, .int v0), (1, .int v1)]) (fun _ => rfl) (fun v3_2 => ?_)
  refine sm_lv [1, 0] rfl ?_
  exact tm_divisor_b4 ok hr N N _ _ _
theorem cm_divisor {l : Launch} {wc : sm_Wc} (hj : sm_inj zm_sy wc) (N : Nat) (S : sm_St) (v0 : Int32) (v1 : Int32) : sm_Ct l zm_sy wc ym_divisor prog_12_method_38_code 5 (some .int) 0 0 [.int v0, .int v1] S (sm_Pi zm_sy wc) (pm_divisor N S v0 v1) :=
  sm_entry (Pq := fun wc => sm_Pi zm_sy wc) (fun wc => [.int v0, .int v1]) (lv := fun wc => [(0, .int v0), (1, .int v1)]) (by decide) hj zm_ok zm_stb (fun _ => Nat.le_of_ble_eq_true rfl) (fun _ => rfl) (fun x _ ok hr => tm_divisor ok hr N S v0 v1)
set_option maxHeartbeats 4000000 in
set_option maxRecDepth 20000 in
theorem tm_isMean {x : sm_Cx} (ok : sm_Ok x zm_sy prog_12_method_39_code "LentShadesModel" 2 4 93) (hr : (xh x).sig.returnType = (some .boolean)) (N : Nat) (S : sm_St) (v1 : Int32) : sm_Sm x zm_sy prog_12_method_39_code (sm_Q x zm_sy (sm_Pi zm_sy (xw x))) (pm_isMean N S v1) S 0 [(0, .ref ((xw x).2.2 0)), (1, .int v1)] [] := by
  unfold pm_isMean
  refine sm_aload_n (pc := 0) 0 ok dm_isMean_0 rfl ?_
  refine sm_iload_n (pc := 1) 1 ok dm_isMean_1 rfl ?_
  refine sm_callV_i (pc := 2) (ci := 10) [.int v1] ok dm_isMean_2 wd_1189 mwm_kindOf rfl rfl (Nat.le_of_ble_eq_true rfl) (Nat.le_of_ble_eq_true rfl) rfl rfl (Nat.le_of_ble_eq_true rfl) (cm_kindOf (sm_okj ok) N S v1) (fun r_2 S_1 => ?_)
  refine sm_iconst (pc := 5) (4 : Int32) ok dm_isMean_5 zk_4 ?_
  refine sm_icmp_eq (pc := 6) 21 ok dm_isMean_6 (by decide) (fun _ => ?_) (fun _ => ?_)
  · refine sm_iconst (pc := 21) (0 : Int32) ok dm_isMean_21 zk_0 ?_
    exact sm_zret (pc := 22) ok dm_isMean_22 hr rfl
  · refine sm_aload_n (pc := 9) 0 ok dm_isMean_9 rfl ?_
    refine sm_iload_n (pc := 10) 1 ok dm_isMean_10 rfl ?_
    refine sm_callV_i (pc := 11) (ci := 10) [.int v1] ok dm_isMean_11 wd_1193 mwm_takesAll rfl rfl (Nat.le_of_ble_eq_true rfl) (Nat.le_of_ble_eq_true rfl) rfl rfl (Nat.le_of_ble_eq_true rfl) (cm_takesAll (sm_okj ok) N S_1 v1) (fun r_4 S_3 => ?_)
    refine sm_if_le (pc := 14) 21 ok dm_isMean_14 (by decide) (fun _ => ?_) (fun _ => ?_)
    · refine sm_iconst (pc := 21) (0 : Int32) ok dm_isMean_21 zk_0 ?_
      exact sm_zret (pc := 22) ok dm_isMean_22 hr rfl
    · refine sm_iconst (pc := 17) (1 : Int32) ok dm_isMean_17 zk_1 ?_
      refine sm_goto (pc := 18) 22 ok dm_isMean_18 (by decide) ?_
      exact sm_zret (pc := 22) ok dm_isMean_22 hr rfl
theorem cm_isMean {l : Launch} {wc : sm_Wc} (hj : sm_inj zm_sy wc) (N : Nat) (S : sm_St) (v1 : Int32) : sm_Ct l zm_sy wc ym_isMean prog_12_method_39_code 2 (some .boolean) 4 93 [.ref (wc.2.2 0), .int v1] S (sm_Pi zm_sy wc) (pm_isMean N S v1) :=
  sm_entry (Pq := fun wc => sm_Pi zm_sy wc) (fun wc => [.ref (wc.2.2 0), .int v1]) (lv := fun wc => [(0, .ref (wc.2.2 0)), (1, .int v1)]) (by decide) hj zm_ok zm_stb (fun _ => Nat.le_of_ble_eq_true rfl) (fun _ => rfl) (fun x _ ok hr => tm_isMean ok hr N S v1)
set_option maxHeartbeats 4000000 in
set_option maxRecDepth 20000 in
theorem tm_layMean_b52 {x : sm_Cx} (ok : sm_Ok x zm_sy prog_12_method_40_code "LentShadesModel" 4 4 93) (hr : (xh x).sig.returnType = none) (N : Nat) {r9 : Int32 → Int32 → Int32 → sm_St → Option (sm_St)} (h9 : ∀ (v1 : Int32) (v2 : Int32) (v3 : Int32) (S : sm_St), sm_Sm x zm_sy prog_12_method_40_code (sm_Q x zm_sy (sm_Pv zm_sy (xw x))) (r9 v1 v2 v3 S) S 9 [(0, .ref ((xw x).2.2 0)), (1, .int v1), (2, .int v2), (3, .int v3)] []) (v1 : Int32) (v2 : Int32) (v3 : Int32) (S : sm_St) : sm_Sm x zm_sy prog_12_method_40_code (sm_Q x zm_sy (sm_Pv zm_sy (xw x))) (pm_layMean_b52 N r9 v1 v2 v3 S) S 52 [(0, .ref ((xw x).2.2 0)), (1, .int v1), (2, .int v2), (3, .int v3)] [] := by
  unfold pm_layMean_b52
  refine sm_iinc (pc := 52) (i := 3) 3 (1 : Int32) ok dm_layMean_52 rfl zk_1 (by decide) (fun v => [(3, .int v), (0, .ref ((xw x).2.2 0)), (1, .int v1), (2, .int v2)]) (fun _ => rfl) (fun v3_14 => ?_)
  refine sm_goto (pc := 55) 9 ok dm_layMean_55 (by decide) ?_
  refine sm_lv [1, 2, 3, 0] rfl ?_
  exact h9 _ _ _ _
set_option maxHeartbeats 4000000 in
set_option maxRecDepth 20000 in
theorem tm_layMean_b9 {x : sm_Cx} (ok : sm_Ok x zm_sy prog_12_method_40_code "LentShadesModel" 4 4 93) (hr : (xh x).sig.returnType = none) (N : Nat) : ∀ (n : Nat) (v1 : Int32) (v2 : Int32) (v3 : Int32) (S : sm_St), sm_Sm x zm_sy prog_12_method_40_code (sm_Q x zm_sy (sm_Pv zm_sy (xw x))) (pm_layMean_b9 N n v1 v2 v3 S) S 9 [(0, .ref ((xw x).2.2 0)), (1, .int v1), (2, .int v2), (3, .int v3)] [] := by
  intro n
  induction n with
  | zero =>
    intro v1 v2 v3 S
    exact sm_none
  | succ n ih =>
    intro v1 v2 v3 S
    show sm_Sm x zm_sy prog_12_method_40_code (sm_Q x zm_sy (sm_Pv zm_sy (xw x))) (if (8 : Int32) ≤ v3 then (sm_b2 (pm_takesAll N S v1) (fun (r_4 : Int32) (S_3 : sm_St) => if r_4 = 0 then none else (sm_b1 (pm_times N S_3 (7 : Int32) ((v2 / r_4).toInt64)) (fun (S_5 : sm_St) => sm_b1 (pm_copy N S_5 ((10 : Int32) + v1) (7 : Int32)) (fun (S_6 : sm_St) => some S_6))))) else (sm_b2 (pm_takes N S v1 v3) (fun (r_8 : Int32) (S_7 : sm_St) => if r_8 ≤ 0 then (pm_layMean_b52 N (pm_layMean_b9 N n) v1 v2 v3 S_7) else (sm_b1 (pm_lay N S_7 (8 : Int32) v3) (fun (S_9 : sm_St) => sm_b2 (pm_takes N S_9 v1 v3) (fun (r_11 : Int32) (S_10 : sm_St) => sm_b1 (pm_times N S_10 (8 : Int32) (r_11.toInt64)) (fun (S_12 : sm_St) => sm_b1 (pm_add N S_12 (7 : Int32) (8 : Int32)) (fun (S_13 : sm_St) => pm_layMean_b52 N (pm_layMean_b9 N n) v1 v2 v3 S_13)))))))) S 9 [(0, .ref ((xw x).2.2 0)), (1, .int v1), (2, .int v2), (3, .int v3)] []
    refine sm_iload_n (pc := 9) 3 ok dm_layMean_9 rfl ?_
    refine sm_bipush (pc := 10) (8 : Int32) ok dm_layMean_10 zb_8 ?_
    refine sm_icmp_ge (pc := 12) 58 ok dm_layMean_12 (by decide) (fun _ => ?_) (fun _ => ?_)
    · refine sm_aload_n (pc := 58) 0 ok dm_layMean_58 rfl ?_
      refine sm_bipush (pc := 59) (7 : Int32) ok dm_layMean_59 zb_7 ?_
      refine sm_iload_n (pc := 61) 2 ok dm_layMean_61 rfl ?_
      refine sm_aload_n (pc := 62) 0 ok dm_layMean_62 rfl ?_
      refine sm_iload_n (pc := 63) 1 ok dm_layMean_63 rfl ?_
      refine sm_callV_i (pc := 64) (ci := 10) [.int v1] ok dm_layMean_64 wd_1193 mwm_takesAll rfl rfl (Nat.le_of_ble_eq_true rfl) (Nat.le_of_ble_eq_true rfl) rfl rfl (Nat.le_of_ble_eq_true rfl) (cm_takesAll (sm_okj ok) N S v1) (fun r_4 S_3 => ?_)
      refine sm_idiv (pc := 67) ok dm_layMean_67 ?_
      refine sm_i2l (pc := 68) ok dm_layMean_68 ?_
      refine sm_callV_v (pc := 69) (ci := 10) [.int (7 : Int32), .long ((v2 / r_4).toInt64)] ok dm_layMean_69 wd_1130 mwm_times rfl rfl (Nat.le_of_ble_eq_true rfl) (Nat.le_of_ble_eq_true rfl) rfl rfl (Nat.le_of_ble_eq_true rfl) (cm_times (sm_okj ok) N S_3 (7 : Int32) ((v2 / r_4).toInt64)) (fun S_5 => ?_)
      refine sm_aload_n (pc := 72) 0 ok dm_layMean_72 rfl ?_
      refine sm_bipush (pc := 73) (10 : Int32) ok dm_layMean_73 zb_10 ?_
      refine sm_iload_n (pc := 75) 1 ok dm_layMean_75 rfl ?_
      refine sm_iadd (pc := 76) ok dm_layMean_76 ?_
      refine sm_bipush (pc := 77) (7 : Int32) ok dm_layMean_77 zb_7 ?_
      refine sm_callV_v (pc := 79) (ci := 10) [.int ((10 : Int32) + v1), .int (7 : Int32)] ok dm_layMean_79 wd_1126 mwm_copy rfl rfl (Nat.le_of_ble_eq_true rfl) (Nat.le_of_ble_eq_true rfl) rfl rfl (Nat.le_of_ble_eq_true rfl) (cm_copy (sm_okj ok) N S_5 ((10 : Int32) + v1) (7 : Int32)) (fun S_6 => ?_)
      exact sm_vret (pc := 82) ok dm_layMean_82 hr
    · refine sm_aload_n (pc := 15) 0 ok dm_layMean_15 rfl ?_
      refine sm_iload_n (pc := 16) 1 ok dm_layMean_16 rfl ?_
      refine sm_iload_n (pc := 17) 3 ok dm_layMean_17 rfl ?_
      refine sm_callV_i (pc := 18) (ci := 10) [.int v1, .int v3] ok dm_layMean_18 wd_1197 mwm_takes rfl rfl (Nat.le_of_ble_eq_true rfl) (Nat.le_of_ble_eq_true rfl) rfl rfl (Nat.le_of_ble_eq_true rfl) (cm_takes (sm_okj ok) N S v1 v3) (fun r_8 S_7 => ?_)
      refine sm_if_le (pc := 21) 52 ok dm_layMean_21 (by decide) (fun _ => ?_) (fun _ => ?_)
      · exact tm_layMean_b52 ok hr N ih _ _ _ _
      · refine sm_aload_n (pc := 24) 0 ok dm_layMean_24 rfl ?_
        refine sm_bipush (pc := 25) (8 : Int32) ok dm_layMean_25 zb_8 ?_
        refine sm_iload_n (pc := 27) 3 ok dm_layMean_27 rfl ?_
        refine sm_callV_v (pc := 28) (ci := 10) [.int (8 : Int32), .int v3] ok dm_layMean_28 wd_1212 mwm_lay rfl rfl (Nat.le_of_ble_eq_true rfl) (Nat.le_of_ble_eq_true rfl) rfl rfl (Nat.le_of_ble_eq_true rfl) (cm_lay (sm_okj ok) N S_7 (8 : Int32) v3) (fun S_9 => ?_)
        refine sm_aload_n (pc := 31) 0 ok dm_layMean_31 rfl ?_
        refine sm_bipush (pc := 32) (8 : Int32) ok dm_layMean_32 zb_8 ?_
        refine sm_aload_n (pc := 34) 0 ok dm_layMean_34 rfl ?_
        refine sm_iload_n (pc := 35) 1 ok dm_layMean_35 rfl ?_
        refine sm_iload_n (pc := 36) 3 ok dm_layMean_36 rfl ?_
        refine sm_callV_i (pc := 37) (ci := 10) [.int v1, .int v3] ok dm_layMean_37 wd_1197 mwm_takes rfl rfl (Nat.le_of_ble_eq_true rfl) (Nat.le_of_ble_eq_true rfl) rfl rfl (Nat.le_of_ble_eq_true rfl) (cm_takes (sm_okj ok) N S_9 v1 v3) (fun r_11 S_10 => ?_)
        refine sm_i2l (pc := 40) ok dm_layMean_40 ?_
        refine sm_callV_v (pc := 41) (ci := 10) [.int (8 : Int32), .long (r_11.toInt64)] ok dm_layMean_41 wd_1130 mwm_times rfl rfl (Nat.le_of_ble_eq_true rfl) (Nat.le_of_ble_eq_true rfl) rfl rfl (Nat.le_of_ble_eq_true rfl) (cm_times (sm_okj ok) N S_10 (8 : Int32) (r_11.toInt64)) (fun S_12 => ?_)
        refine sm_aload_n (pc := 44) 0 ok dm_layMean_44 rfl ?_
        refine sm_bipush (pc := 45) (7 : Int32) ok dm_layMean_45 zb_7 ?_
        refine sm_bipush (pc := 47) (8 : Int32) ok dm_layMean_47 zb_8 ?_
        refine sm_callV_v (pc := 49) (ci := 10) [.int (7 : Int32), .int (8 : Int32)] ok dm_layMean_49 wd_1216 mwm_add rfl rfl (Nat.le_of_ble_eq_true rfl) (Nat.le_of_ble_eq_true rfl) rfl rfl (Nat.le_of_ble_eq_true rfl) (cm_add (sm_okj ok) N S_12 (7 : Int32) (8 : Int32)) (fun S_13 => ?_)
        exact tm_layMean_b52 ok hr N ih _ _ _ _
set_option maxHeartbeats 4000000 in
set_option maxRecDepth 20000 in
theorem tm_layMean {x : sm_Cx} (ok : sm_Ok x zm_sy prog_12_method_40_code "LentShadesModel" 4 4 93) (hr : (xh x).sig.returnType = none) (N : Nat) (S : sm_St) (v1 : Int32) (v2 : Int32) : sm_Sm x zm_sy prog_12_method_40_code (sm_Q x zm_sy (sm_Pv zm_sy (xw x))) (pm_layMean N S v1 v2) S 0 [(0, .ref ((xw x).2.2 0)), (1, .int v1), (2, .int v2)] [] := by
  unfold pm_layMean
  refine sm_aload_n (pc := 0) 0 ok dm_layMean_0 rfl ?_
  refine sm_bipush (pc := 1) (7 : Int32) ok dm_layMean_1 zb_7 ?_
  refine sm_lconst (pc := 3) (0 : Int64) ok dm_layMean_3 zl_0 ?_
  refine sm_callV_v (pc := 4) (ci := 10) [.int (7 : Int32), .long (0 : Int64)] ok dm_layMean_4 wd_998 mwm_set rfl rfl (Nat.le_of_ble_eq_true rfl) (Nat.le_of_ble_eq_true rfl) rfl rfl (Nat.le_of_ble_eq_true rfl) (cm_set (sm_okj ok) N S (7 : Int32) (0 : Int64)) (fun S_1 => ?_)
  refine sm_iconst (pc := 7) (0 : Int32) ok dm_layMean_7 zk_0 ?_
  refine sm_istore_n (pc := 8) (i := 3) ok dm_layMean_8 rfl (by decide) (fun v => [(3, .int v), (0, .ref ((xw x).2.2 0)), (1, .int v1), (2, .int v2)]) (fun _ => rfl) (fun v3_2 => ?_)
  refine sm_lv [1, 2, 3, 0] rfl ?_
  exact tm_layMean_b9 ok hr N N _ _ _ _
theorem cm_layMean {l : Launch} {wc : sm_Wc} (hj : sm_inj zm_sy wc) (N : Nat) (S : sm_St) (v1 : Int32) (v2 : Int32) : sm_Ct l zm_sy wc ym_layMean prog_12_method_40_code 4 none 4 93 [.ref (wc.2.2 0), .int v1, .int v2] S (sm_Pv zm_sy wc) (pm_layMean N S v1 v2) :=
  sm_entry (Pq := fun wc => sm_Pv zm_sy wc) (fun wc => [.ref (wc.2.2 0), .int v1, .int v2]) (lv := fun wc => [(0, .ref (wc.2.2 0)), (1, .int v1), (2, .int v2)]) (by decide) hj zm_ok zm_stb (fun _ => Nat.le_of_ble_eq_true rfl) (fun _ => rfl) (fun x _ ok hr => tm_layMean ok hr N S v1 v2)
set_option maxHeartbeats 4000000 in
set_option maxRecDepth 20000 in
theorem tm_layGreatest_b126 {x : sm_Cx} (ok : sm_Ok x zm_sy prog_12_method_41_code "LentShadesModel" 6 3 71) (hr : (xh x).sig.returnType = none) (N : Nat) (v1 : Int32) (v2 : Int32) (s1 : Int32) (s2 : Int32) (S : sm_St) : sm_Sm x zm_sy prog_12_method_41_code (sm_Q x zm_sy (sm_Pv zm_sy (xw x))) (pm_layGreatest_b126 N v1 v2 s1 s2 S) S 126 [(0, .ref ((xw x).2.2 0)), (1, .int v1), (2, .int v2)] [.int s2, .int s1, .ref ((xw x).2.2 0)] := by
  unfold pm_layGreatest_b126
  refine sm_callV_v (pc := 126) (ci := 10) [.int s1, .int s2] ok dm_layGreatest_126 wd_1126 mwm_copy rfl rfl (Nat.le_of_ble_eq_true rfl) (Nat.le_of_ble_eq_true rfl) rfl rfl (Nat.le_of_ble_eq_true rfl) (cm_copy (sm_okj ok) N S s1 s2) (fun S_14 => ?_)
  refine sm_aload_n (pc := 129) 0 ok dm_layGreatest_129 rfl ?_
  refine sm_bipush (pc := 130) (10 : Int32) ok dm_layGreatest_130 zb_10 ?_
  refine sm_iload_n (pc := 132) 1 ok dm_layGreatest_132 rfl ?_
  refine sm_iadd (pc := 133) ok dm_layGreatest_133 ?_
  refine sm_iload_n (pc := 134) 2 ok dm_layGreatest_134 rfl ?_
  refine sm_i2l (pc := 135) ok dm_layGreatest_135 ?_
  refine sm_callV_v (pc := 136) (ci := 10) [.int ((10 : Int32) + v1), .long (v2.toInt64)] ok dm_layGreatest_136 wd_1130 mwm_times rfl rfl (Nat.le_of_ble_eq_true rfl) (Nat.le_of_ble_eq_true rfl) rfl rfl (Nat.le_of_ble_eq_true rfl) (cm_times (sm_okj ok) N S_14 ((10 : Int32) + v1) (v2.toInt64)) (fun S_15 => ?_)
  exact sm_vret (pc := 139) ok dm_layGreatest_139 hr
set_option maxHeartbeats 4000000 in
set_option maxRecDepth 20000 in
theorem tm_layGreatest_b102 {x : sm_Cx} (ok : sm_Ok x zm_sy prog_12_method_41_code "LentShadesModel" 6 3 71) (hr : (xh x).sig.returnType = none) (N : Nat) {r5 : Int32 → Int32 → Int32 → Int32 → sm_St → Option (sm_St)} (h5 : ∀ (v1 : Int32) (v2 : Int32) (v3 : Int32) (v4 : Int32) (S : sm_St), sm_Sm x zm_sy prog_12_method_41_code (sm_Q x zm_sy (sm_Pv zm_sy (xw x))) (r5 v1 v2 v3 v4 S) S 5 [(0, .ref ((xw x).2.2 0)), (1, .int v1), (2, .int v2), (3, .int v3), (4, .int v4)] []) (v1 : Int32) (v2 : Int32) (v3 : Int32) (v4 : Int32) (S : sm_St) : sm_Sm x zm_sy prog_12_method_41_code (sm_Q x zm_sy (sm_Pv zm_sy (xw x))) (pm_layGreatest_b102 N r5 v1 v2 v3 v4 S) S 102 [(0, .ref ((xw x).2.2 0)), (1, .int v1), (2, .int v2), (3, .int v3), (4, .int v4)] [] := by
  unfold pm_layGreatest_b102
  refine sm_iinc (pc := 102) (i := 4) 4 (1 : Int32) ok dm_layGreatest_102 rfl zk_1 (by decide) (fun v => [(4, .int v), (0, .ref ((xw x).2.2 0)), (1, .int v1), (2, .int v2), (3, .int v3)]) (fun _ => rfl) (fun v4_13 => ?_)
  refine sm_goto (pc := 105) 5 ok dm_layGreatest_105 (by decide) ?_
  refine sm_lv [1, 2, 3, 4, 0] rfl ?_
  exact h5 _ _ _ _ _
set_option maxHeartbeats 4000000 in
set_option maxRecDepth 20000 in
theorem tm_layGreatest_b100 {x : sm_Cx} (ok : sm_Ok x zm_sy prog_12_method_41_code "LentShadesModel" 6 3 71) (hr : (xh x).sig.returnType = none) (N : Nat) {r5 : Int32 → Int32 → Int32 → Int32 → sm_St → Option (sm_St)} (h5 : ∀ (v1 : Int32) (v2 : Int32) (v3 : Int32) (v4 : Int32) (S : sm_St), sm_Sm x zm_sy prog_12_method_41_code (sm_Q x zm_sy (sm_Pv zm_sy (xw x))) (r5 v1 v2 v3 v4 S) S 5 [(0, .ref ((xw x).2.2 0)), (1, .int v1), (2, .int v2), (3, .int v3), (4, .int v4)] []) (v1 : Int32) (v2 : Int32) (v4 : Int32) (S : sm_St) : sm_Sm x zm_sy prog_12_method_41_code (sm_Q x zm_sy (sm_Pv zm_sy (xw x))) (pm_layGreatest_b100 N r5 v1 v2 v4 S) S 100 [(0, .ref ((xw x).2.2 0)), (1, .int v1), (2, .int v2), (4, .int v4)] [] := by
  unfold pm_layGreatest_b100
  refine sm_iconst (pc := 100) (1 : Int32) ok dm_layGreatest_100 zk_1 ?_
  refine sm_istore_n (pc := 101) (i := 3) ok dm_layGreatest_101 rfl (by decide) (fun v => [(3, .int v), (0, .ref ((xw x).2.2 0)), (1, .int v1), (2, .int v2), (4, .int v4)]) (fun _ => rfl) (fun v3_11 => ?_)
  refine sm_lv [1, 2, 3, 0, 4] rfl ?_
  exact tm_layGreatest_b102 ok hr N h5 _ _ _ _ _
set_option maxHeartbeats 4000000 in
set_option maxRecDepth 20000 in
theorem tm_layGreatest_b92 {x : sm_Cx} (ok : sm_Ok x zm_sy prog_12_method_41_code "LentShadesModel" 6 3 71) (hr : (xh x).sig.returnType = none) (N : Nat) {r5 : Int32 → Int32 → Int32 → Int32 → sm_St → Option (sm_St)} (h5 : ∀ (v1 : Int32) (v2 : Int32) (v3 : Int32) (v4 : Int32) (S : sm_St), sm_Sm x zm_sy prog_12_method_41_code (sm_Q x zm_sy (sm_Pv zm_sy (xw x))) (r5 v1 v2 v3 v4 S) S 5 [(0, .ref ((xw x).2.2 0)), (1, .int v1), (2, .int v2), (3, .int v3), (4, .int v4)] []) (v1 : Int32) (v2 : Int32) (v4 : Int32) (S : sm_St) : sm_Sm x zm_sy prog_12_method_41_code (sm_Q x zm_sy (sm_Pv zm_sy (xw x))) (pm_layGreatest_b92 N r5 v1 v2 v4 S) S 92 [(0, .ref ((xw x).2.2 0)), (1, .int v1), (2, .int v2), (4, .int v4)] [] := by
  unfold pm_layGreatest_b92
  refine sm_aload_n (pc := 92) 0 ok dm_layGreatest_92 rfl ?_
  refine sm_bipush (pc := 93) (9 : Int32) ok dm_layGreatest_93 zb_9 ?_
  refine sm_bipush (pc := 95) (8 : Int32) ok dm_layGreatest_95 zb_8 ?_
  refine sm_callV_v (pc := 97) (ci := 10) [.int (9 : Int32), .int (8 : Int32)] ok dm_layGreatest_97 wd_1126 mwm_copy rfl rfl (Nat.le_of_ble_eq_true rfl) (Nat.le_of_ble_eq_true rfl) rfl rfl (Nat.le_of_ble_eq_true rfl) (cm_copy (sm_okj ok) N S (9 : Int32) (8 : Int32)) (fun S_12 => ?_)
  exact tm_layGreatest_b100 ok hr N h5 _ _ _ _
set_option maxHeartbeats 4000000 in
set_option maxRecDepth 20000 in
theorem tm_layGreatest_b62 {x : sm_Cx} (ok : sm_Ok x zm_sy prog_12_method_41_code "LentShadesModel" 6 3 71) (hr : (xh x).sig.returnType = none) (N : Nat) {r5 : Int32 → Int32 → Int32 → Int32 → sm_St → Option (sm_St)} (h5 : ∀ (v1 : Int32) (v2 : Int32) (v3 : Int32) (v4 : Int32) (S : sm_St), sm_Sm x zm_sy prog_12_method_41_code (sm_Q x zm_sy (sm_Pv zm_sy (xw x))) (r5 v1 v2 v3 v4 S) S 5 [(0, .ref ((xw x).2.2 0)), (1, .int v1), (2, .int v2), (3, .int v3), (4, .int v4)] []) (v1 : Int32) (v2 : Int32) (v3 : Int32) (v4 : Int32) (s0 : Int32) (S : sm_St) : sm_Sm x zm_sy prog_12_method_41_code (sm_Q x zm_sy (sm_Pv zm_sy (xw x))) (pm_layGreatest_b62 N r5 v1 v2 v3 v4 s0 S) S 62 [(0, .ref ((xw x).2.2 0)), (1, .int v1), (2, .int v2), (3, .int v3), (4, .int v4)] [.int s0] := by
  unfold pm_layGreatest_b62
  refine sm_istore (pc := 62) (i := 5) ok dm_layGreatest_62 (by decide) (fun v => [(5, .int v), (0, .ref ((xw x).2.2 0)), (1, .int v1), (2, .int v2), (3, .int v3), (4, .int v4)]) (fun _ => rfl) (fun v5_7 => ?_)
  refine sm_iload (pc := 64) 0 ok dm_layGreatest_64 rfl ?_
  refine sm_if_eq (pc := 66) 102 ok dm_layGreatest_66 (by decide) (fun _ => ?_) (fun _ => ?_)
  · refine sm_lv [1, 2, 3, 4, 5] rfl ?_
    exact tm_layGreatest_b102 ok hr N h5 _ _ _ _ _
  · refine sm_aload_n (pc := 69) 1 ok dm_layGreatest_69 rfl ?_
    refine sm_bipush (pc := 70) (8 : Int32) ok dm_layGreatest_70 zb_8 ?_
    refine sm_iload (pc := 72) 5 ok dm_layGreatest_72 rfl ?_
    refine sm_callV_v (pc := 74) (ci := 10) [.int (8 : Int32), .int v4] ok dm_layGreatest_74 wd_1212 mwm_lay rfl rfl (Nat.le_of_ble_eq_true rfl) (Nat.le_of_ble_eq_true rfl) rfl rfl (Nat.le_of_ble_eq_true rfl) (cm_lay (sm_okj ok) N S (8 : Int32) v4) (fun S_8 => ?_)
    refine sm_iload_n (pc := 77) 4 ok dm_layGreatest_77 rfl ?_
    refine sm_if_eq (pc := 78) 92 ok dm_layGreatest_78 (by decide) (fun _ => ?_) (fun _ => ?_)
    · refine sm_lv [1, 2, 3, 5] rfl ?_
      exact tm_layGreatest_b92 ok hr N h5 _ _ _ _
    · refine sm_aload_n (pc := 81) 1 ok dm_layGreatest_81 rfl ?_
      refine sm_bipush (pc := 82) (8 : Int32) ok dm_layGreatest_82 zb_8 ?_
      refine sm_bipush (pc := 84) (9 : Int32) ok dm_layGreatest_84 zb_9 ?_
      refine sm_callV_i (pc := 86) (ci := 10) [.int (8 : Int32), .int (9 : Int32)] ok dm_layGreatest_86 wd_1224 mwm_compare rfl rfl (Nat.le_of_ble_eq_true rfl) (Nat.le_of_ble_eq_true rfl) rfl rfl (Nat.le_of_ble_eq_true rfl) (cm_compare (sm_okj ok) N S_8 (8 : Int32) (9 : Int32)) (fun r_10 S_9 => ?_)
      refine sm_if_le (pc := 89) 100 ok dm_layGreatest_89 (by decide) (fun _ => ?_) (fun _ => ?_)
      · refine sm_lv [1, 2, 3, 5] rfl ?_
        exact tm_layGreatest_b100 ok hr N h5 _ _ _ _
      · refine sm_lv [1, 2, 3, 5] rfl ?_
        exact tm_layGreatest_b92 ok hr N h5 _ _ _ _
set_option maxHeartbeats 4000000 in
set_option maxRecDepth 20000 in
theorem tm_layGreatest_b61 {x : sm_Cx} (ok : sm_Ok x zm_sy prog_12_method_41_code "LentShadesModel" 6 3 71) (hr : (xh x).sig.returnType = none) (N : Nat) {r5 : Int32 → Int32 → Int32 → Int32 → sm_St → Option (sm_St)} (h5 : ∀ (v1 : Int32) (v2 : Int32) (v3 : Int32) (v4 : Int32) (S : sm_St), sm_Sm x zm_sy prog_12_method_41_code (sm_Q x zm_sy (sm_Pv zm_sy (xw x))) (r5 v1 v2 v3 v4 S) S 5 [(0, .ref ((xw x).2.2 0)), (1, .int v1), (2, .int v2), (3, .int v3), (4, .int v4)] []) (v1 : Int32) (v2 : Int32) (v3 : Int32) (v4 : Int32) (S : sm_St) : sm_Sm x zm_sy prog_12_method_41_code (sm_Q x zm_sy (sm_Pv zm_sy (xw x))) (pm_layGreatest_b61 N r5 v1 v2 v3 v4 S) S 61 [(0, .ref ((xw x).2.2 0)), (1, .int v1), (2, .int v2), (3, .int v3), (4, .int v4)] [] := by
  unfold pm_layGreatest_b61
  refine sm_iconst (pc := 61) (0 : Int32) ok dm_layGreatest_61 zk_0 ?_
  exact tm_layGreatest_b62 ok hr N h5 _ _ _ _ _ _
set_option maxHeartbeats 4000000 in
set_option maxRecDepth 20000 in
theorem tm_layGreatest_b57 {x : sm_Cx} (ok : sm_Ok x zm_sy prog_12_method_41_code "LentShadesModel" 6 3 71) (hr : (xh x).sig.returnType = none) (N : Nat) {r5 : Int32 → Int32 → Int32 → Int32 → sm_St → Option (sm_St)} (h5 : ∀ (v1 : Int32) (v2 : Int32) (v3 : Int32) (v4 : Int32) (S : sm_St), sm_Sm x zm_sy prog_12_method_41_code (sm_Q x zm_sy (sm_Pv zm_sy (xw x))) (r5 v1 v2 v3 v4 S) S 5 [(0, .ref ((xw x).2.2 0)), (1, .int v1), (2, .int v2), (3, .int v3), (4, .int v4)] []) (v1 : Int32) (v2 : Int32) (v3 : Int32) (v4 : Int32) (S : sm_St) : sm_Sm x zm_sy prog_12_method_41_code (sm_Q x zm_sy (sm_Pv zm_sy (xw x))) (pm_layGreatest_b57 N r5 v1 v2 v3 v4 S) S 57 [(0, .ref ((xw x).2.2 0)), (1, .int v1), (2, .int v2), (3, .int v3), (4, .int v4)] [] := by
  unfold pm_layGreatest_b57
  refine sm_iconst (pc := 57) (1 : Int32) ok dm_layGreatest_57 zk_1 ?_
  refine sm_goto (pc := 58) 62 ok dm_layGreatest_58 (by decide) ?_
  exact tm_layGreatest_b62 ok hr N h5 _ _ _ _ _ _
set_option maxHeartbeats 4000000 in
set_option maxRecDepth 20000 in
theorem tm_layGreatest_b5 {x : sm_Cx} (ok : sm_Ok x zm_sy prog_12_method_41_code "LentShadesModel" 6 3 71) (hr : (xh x).sig.returnType = none) (N : Nat) : ∀ (n : Nat) (v1 : Int32) (v2 : Int32) (v3 : Int32) (v4 : Int32) (S : sm_St), sm_Sm x zm_sy prog_12_method_41_code (sm_Q x zm_sy (sm_Pv zm_sy (xw x))) (pm_layGreatest_b5 N n v1 v2 v3 v4 S) S 5 [(0, .ref ((xw x).2.2 0)), (1, .int v1), (2, .int v2), (3, .int v3), (4, .int v4)] [] := by
  intro n
  induction n with
  | zero =>
    intro v1 v2 v3 v4 S
    exact sm_none
  | succ n ih =>
    intro v1 v2 v3 v4 S
    show sm_Sm x zm_sy prog_12_method_41_code (sm_Q x zm_sy (sm_Pv zm_sy (xw x))) (if (8 : Int32) ≤ v4 then (if v3 = 0 then (pm_layGreatest_b126 N v1 v2 ((10 : Int32) + v1) ((14 : Int32) + v1) S) else (pm_layGreatest_b126 N v1 v2 ((10 : Int32) + v1) (9 : Int32) S)) else (if v4 = v1 then (pm_layGreatest_b61 N (pm_layGreatest_b5 N n) v1 v2 v3 v4 S) else (sm_b2 (pm_isNumber N S v4) (fun (r_4 : Int32) (S_3 : sm_St) => if r_4 = 0 then (pm_layGreatest_b61 N (pm_layGreatest_b5 N n) v1 v2 v3 v4 S_3) else (if sm_in (((8 : Int32) * v1) + v4) 32 = true then (if (S_3.1 7 (((8 : Int32) * v1) + v4).toNatClampNeg) ≤ 0 then (pm_layGreatest_b61 N (pm_layGreatest_b5 N n) v1 v2 v3 v4 S_3) else (if (3 : Int32) < v4 then (pm_layGreatest_b57 N (pm_layGreatest_b5 N n) v1 v2 v3 v4 S_3) else (sm_b2 (pm_gives N S_3 v4) (fun (r_6 : Int32) (S_5 : sm_St) => if r_6 = 0 then (pm_layGreatest_b61 N (pm_layGreatest_b5 N n) v1 v2 v3 v4 S_5) else (pm_layGreatest_b57 N (pm_layGreatest_b5 N n) v1 v2 v3 v4 S_5))))) else none))))) S 5 [(0, .ref ((xw x).2.2 0)), (1, .int v1), (2, .int v2), (3, .int v3), (4, .int v4)] []
    refine sm_iload (pc := 5) 4 ok dm_layGreatest_5 rfl ?_
    refine sm_bipush (pc := 7) (8 : Int32) ok dm_layGreatest_7 zb_8 ?_
    refine sm_icmp_ge (pc := 9) 108 ok dm_layGreatest_9 (by decide) (fun _ => ?_) (fun _ => ?_)
    · refine sm_aload_n (pc := 108) 0 ok dm_layGreatest_108 rfl ?_
      refine sm_bipush (pc := 109) (10 : Int32) ok dm_layGreatest_109 zb_10 ?_
      refine sm_iload_n (pc := 111) 1 ok dm_layGreatest_111 rfl ?_
      refine sm_iadd (pc := 112) ok dm_layGreatest_112 ?_
      refine sm_iload_n (pc := 113) 3 ok dm_layGreatest_113 rfl ?_
      refine sm_if_eq (pc := 114) 122 ok dm_layGreatest_114 (by decide) (fun _ => ?_) (fun _ => ?_)
      · refine sm_bipush (pc := 122) (14 : Int32) ok dm_layGreatest_122 zb_14 ?_
        refine sm_iload_n (pc := 124) 1 ok dm_layGreatest_124 rfl ?_
        refine sm_iadd (pc := 125) ok dm_layGreatest_125 ?_
        refine sm_lv [0, 1, 2] rfl ?_
        exact tm_layGreatest_b126 ok hr N _ _ _ _ _
      · refine sm_bipush (pc := 117) (9 : Int32) ok dm_layGreatest_117 zb_9 ?_
        refine sm_goto (pc := 119) 126 ok dm_layGreatest_119 (by decide) ?_
        refine sm_lv [0, 1, 2] rfl ?_
        exact tm_layGreatest_b126 ok hr N _ _ _ _ _
    · refine sm_iload (pc := 12) 4 ok dm_layGreatest_12 rfl ?_
      refine sm_iload_n (pc := 14) 1 ok dm_layGreatest_14 rfl ?_
      refine sm_icmp_eq (pc := 15) 61 ok dm_layGreatest_15 (by decide) (fun _ => ?_) (fun _ => ?_)
      · exact tm_layGreatest_b61 ok hr N ih _ _ _ _ _
      · refine sm_aload_n (pc := 18) 0 ok dm_layGreatest_18 rfl ?_
        refine sm_iload (pc := 19) 4 ok dm_layGreatest_19 rfl ?_
        refine sm_callV_i (pc := 21) (ci := 10) [.int v4] ok dm_layGreatest_21 wd_1150 mwm_isNumber rfl rfl (Nat.le_of_ble_eq_true rfl) (Nat.le_of_ble_eq_true rfl) rfl rfl (Nat.le_of_ble_eq_true rfl) (cm_isNumber (sm_okj ok) N S v4) (fun r_4 S_3 => ?_)
        refine sm_if_eq (pc := 24) 61 ok dm_layGreatest_24 (by decide) (fun _ => ?_) (fun _ => ?_)
        · exact tm_layGreatest_b61 ok hr N ih _ _ _ _ _
        · refine sm_aload_n (pc := 27) 0 ok dm_layGreatest_27 rfl ?_
          refine sm_getR (pc := 28) (ci := 10) (k := 7) ok dm_layGreatest_28 rfl rfl zc_i10 (by decide) rfl wd_1010 ?_
          refine sm_bipush (pc := 31) (8 : Int32) ok dm_layGreatest_31 zb_8 ?_
          refine sm_iload_n (pc := 33) 1 ok dm_layGreatest_33 rfl ?_
          refine sm_imul (pc := 34) ok dm_layGreatest_34 ?_
          refine sm_iload (pc := 35) 4 ok dm_layGreatest_35 rfl ?_
          refine sm_iadd (pc := 37) ok dm_layGreatest_37 ?_
          refine sm_iald (pc := 38) ok dm_layGreatest_38 rfl ?_
          refine sm_if_le (pc := 39) 61 ok dm_layGreatest_39 (by decide) (fun _ => ?_) (fun _ => ?_)
          · exact tm_layGreatest_b61 ok hr N ih _ _ _ _ _
          · refine sm_iload (pc := 42) 4 ok dm_layGreatest_42 rfl ?_
            refine sm_iconst (pc := 44) (3 : Int32) ok dm_layGreatest_44 zk_3 ?_
            refine sm_icmp_gt (pc := 45) 57 ok dm_layGreatest_45 (by decide) (fun _ => ?_) (fun _ => ?_)
            · exact tm_layGreatest_b57 ok hr N ih _ _ _ _ _
            · refine sm_aload_n (pc := 48) 0 ok dm_layGreatest_48 rfl ?_
              refine sm_iload (pc := 49) 4 ok dm_layGreatest_49 rfl ?_
              refine sm_callV_i (pc := 51) (ci := 10) [.int v4] ok dm_layGreatest_51 wd_1201 mwm_gives rfl rfl (Nat.le_of_ble_eq_true rfl) (Nat.le_of_ble_eq_true rfl) rfl rfl (Nat.le_of_ble_eq_true rfl) (cm_gives (sm_okj ok) N S_3 v4) (fun r_6 S_5 => ?_)
              refine sm_if_eq (pc := 54) 61 ok dm_layGreatest_54 (by decide) (fun _ => ?_) (fun _ => ?_)
              · exact tm_layGreatest_b61 ok hr N ih _ _ _ _ _
              · exact tm_layGreatest_b57 ok hr N ih _ _ _ _ _
set_option maxHeartbeats 4000000 in
set_option maxRecDepth 20000 in
theorem tm_layGreatest {x : sm_Cx} (ok : sm_Ok x zm_sy prog_12_method_41_code "LentShadesModel" 6 3 71) (hr : (xh x).sig.returnType = none) (N : Nat) (S : sm_St) (v1 : Int32) (v2 : Int32) : sm_Sm x zm_sy prog_12_method_41_code (sm_Q x zm_sy (sm_Pv zm_sy (xw x))) (pm_layGreatest N S v1 v2) S 0 [(0, .ref ((xw x).2.2 0)), (1, .int v1), (2, .int v2)] [] := by
  unfold pm_layGreatest
  refine sm_iconst (pc := 0) (0 : Int32) ok dm_layGreatest_0 zk_0 ?_
  refine sm_istore_n (pc := 1) (i := 3) ok dm_layGreatest_1 rfl (by decide) (fun v => [(3, .int v), (0, .ref ((xw x).2.2 0)), (1, .int v1), (2, .int v2)]) (fun _ => rfl) (fun v3_1 => ?_)
  refine sm_iconst (pc := 2) (0 : Int32) ok dm_layGreatest_2 zk_0 ?_
  refine sm_istore (pc := 3) (i := 4) ok dm_layGreatest_3 (by decide) (fun v => [(4, .int v), (3, .int v3_1), (0, .ref ((xw x).2.2 0)), (1, .int v1), (2, .int v2)]) (fun _ => rfl) (fun v4_2 => ?_)
  refine sm_lv [2, 3, 4, 1, 0] rfl ?_
  exact tm_layGreatest_b5 ok hr N N _ _ _ _ _
theorem cm_layGreatest {l : Launch} {wc : sm_Wc} (hj : sm_inj zm_sy wc) (N : Nat) (S : sm_St) (v1 : Int32) (v2 : Int32) : sm_Ct l zm_sy wc ym_layGreatest prog_12_method_41_code 6 none 3 71 [.ref (wc.2.2 0), .int v1, .int v2] S (sm_Pv zm_sy wc) (pm_layGreatest N S v1 v2) :=
  sm_entry (Pq := fun wc => sm_Pv zm_sy wc) (fun wc => [.ref (wc.2.2 0), .int v1, .int v2]) (lv := fun wc => [(0, .ref (wc.2.2 0)), (1, .int v1), (2, .int v2)]) (by decide) hj zm_ok zm_stb (fun _ => Nat.le_of_ble_eq_true rfl) (fun _ => rfl) (fun x _ ok hr => tm_layGreatest ok hr N S v1 v2)
set_option maxHeartbeats 4000000 in
set_option maxRecDepth 20000 in
theorem tm_night_b121 {x : sm_Cx} (ok : sm_Ok x zm_sy prog_12_method_42_code "LentShadesModel" 4 5 116) (hr : (xh x).sig.returnType = none) (N : Nat) : ∀ (n : Nat) (v1 : Int32) (v2 : Int32) (S : sm_St), sm_Sm x zm_sy prog_12_method_42_code (sm_Q x zm_sy (sm_Pv zm_sy (xw x))) (pm_night_b121 N n v1 v2 S) S 121 [(0, .ref ((xw x).2.2 0)), (1, .int v1), (2, .int v2)] [] := by
  intro n
  induction n with
  | zero =>
    intro v1 v2 S
    exact sm_none
  | succ n ih =>
    intro v1 v2 S
    show sm_Sm x zm_sy prog_12_method_42_code (sm_Q x zm_sy (sm_Pv zm_sy (xw x))) (sm_b2 (pm_cloths N S) (fun (r_28 : Int32) (S_27 : sm_St) => if r_28 ≤ v2 then (sm_b1 (pm_times N S_27 (18 : Int32) (v1.toInt64)) (fun (S_29 : sm_St) => some S_29)) else (sm_b1 (pm_copy N S_27 ((14 : Int32) + v2) ((10 : Int32) + v2)) (fun (S_30 : sm_St) => sm_lt (v2 + (1 : Int32)) (fun (v2_31 : Int32) => (pm_night_b121 N n) v1 v2_31 S_30))))) S 121 [(0, .ref ((xw x).2.2 0)), (1, .int v1), (2, .int v2)] []
    refine sm_iload_n (pc := 121) 2 ok dm_night_121 rfl ?_
    refine sm_aload_n (pc := 122) 0 ok dm_night_122 rfl ?_
    refine sm_callV_i (pc := 123) (ci := 10) [] ok dm_night_123 wd_1114 mwm_cloths rfl rfl (Nat.le_of_ble_eq_true rfl) (Nat.le_of_ble_eq_true rfl) rfl rfl (Nat.le_of_ble_eq_true rfl) (cm_cloths (sm_okj ok) N S) (fun r_28 S_27 => ?_)
    refine sm_icmp_ge (pc := 126) 147 ok dm_night_126 (by decide) (fun _ => ?_) (fun _ => ?_)
    · refine sm_aload_n (pc := 147) 0 ok dm_night_147 rfl ?_
      refine sm_bipush (pc := 148) (18 : Int32) ok dm_night_148 zb_18 ?_
      refine sm_iload_n (pc := 150) 1 ok dm_night_150 rfl ?_
      refine sm_i2l (pc := 151) ok dm_night_151 ?_
      refine sm_callV_v (pc := 152) (ci := 10) [.int (18 : Int32), .long (v1.toInt64)] ok dm_night_152 wd_1130 mwm_times rfl rfl (Nat.le_of_ble_eq_true rfl) (Nat.le_of_ble_eq_true rfl) rfl rfl (Nat.le_of_ble_eq_true rfl) (cm_times (sm_okj ok) N S_27 (18 : Int32) (v1.toInt64)) (fun S_29 => ?_)
      exact sm_vret (pc := 155) ok dm_night_155 hr
    · refine sm_aload_n (pc := 129) 0 ok dm_night_129 rfl ?_
      refine sm_bipush (pc := 130) (14 : Int32) ok dm_night_130 zb_14 ?_
      refine sm_iload_n (pc := 132) 2 ok dm_night_132 rfl ?_
      refine sm_iadd (pc := 133) ok dm_night_133 ?_
      refine sm_bipush (pc := 134) (10 : Int32) ok dm_night_134 zb_10 ?_
      refine sm_iload_n (pc := 136) 2 ok dm_night_136 rfl ?_
      refine sm_iadd (pc := 137) ok dm_night_137 ?_
      refine sm_callV_v (pc := 138) (ci := 10) [.int ((14 : Int32) + v2), .int ((10 : Int32) + v2)] ok dm_night_138 wd_1126 mwm_copy rfl rfl (Nat.le_of_ble_eq_true rfl) (Nat.le_of_ble_eq_true rfl) rfl rfl (Nat.le_of_ble_eq_true rfl) (cm_copy (sm_okj ok) N S_27 ((14 : Int32) + v2) ((10 : Int32) + v2)) (fun S_30 => ?_)
      refine sm_iinc (pc := 141) (i := 2) 2 (1 : Int32) ok dm_night_141 rfl zk_1 (by decide) (fun v => [(2, .int v), (0, .ref ((xw x).2.2 0)), (1, .int v1)]) (fun _ => rfl) (fun v2_31 => ?_)
      refine sm_goto (pc := 144) 121 ok dm_night_144 (by decide) ?_
      refine sm_lv [1, 2, 0] rfl ?_
      exact ih _ _ _
set_option maxHeartbeats 4000000 in
set_option maxRecDepth 20000 in
theorem tm_night_b113 {x : sm_Cx} (ok : sm_Ok x zm_sy prog_12_method_42_code "LentShadesModel" 4 5 116) (hr : (xh x).sig.returnType = none) (N : Nat) {r48 : Int32 → Int32 → sm_St → Option (sm_St)} (h48 : ∀ (v1 : Int32) (v2 : Int32) (S : sm_St), sm_Sm x zm_sy prog_12_method_42_code (sm_Q x zm_sy (sm_Pv zm_sy (xw x))) (r48 v1 v2 S) S 48 [(0, .ref ((xw x).2.2 0)), (1, .int v1), (2, .int v2)] []) (v1 : Int32) (v2 : Int32) (S : sm_St) : sm_Sm x zm_sy prog_12_method_42_code (sm_Q x zm_sy (sm_Pv zm_sy (xw x))) (pm_night_b113 N r48 v1 v2 S) S 113 [(0, .ref ((xw x).2.2 0)), (1, .int v1), (2, .int v2)] [] := by
  unfold pm_night_b113
  refine sm_iinc (pc := 113) (i := 2) 2 (1 : Int32) ok dm_night_113 rfl zk_1 (by decide) (fun v => [(2, .int v), (0, .ref ((xw x).2.2 0)), (1, .int v1)]) (fun _ => rfl) (fun v2_26 => ?_)
  refine sm_goto (pc := 116) 48 ok dm_night_116 (by decide) ?_
  refine sm_lv [1, 2, 0] rfl ?_
  exact h48 _ _ _
set_option maxHeartbeats 4000000 in
set_option maxRecDepth 20000 in
theorem tm_night_b48 {x : sm_Cx} (ok : sm_Ok x zm_sy prog_12_method_42_code "LentShadesModel" 4 5 116) (hr : (xh x).sig.returnType = none) (N : Nat) : ∀ (n : Nat) (v1 : Int32) (v2 : Int32) (S : sm_St), sm_Sm x zm_sy prog_12_method_42_code (sm_Q x zm_sy (sm_Pv zm_sy (xw x))) (pm_night_b48 N n v1 v2 S) S 48 [(0, .ref ((xw x).2.2 0)), (1, .int v1), (2, .int v2)] [] := by
  intro n
  induction n with
  | zero =>
    intro v1 v2 S
    exact sm_none
  | succ n ih =>
    intro v1 v2 S
    show sm_Sm x zm_sy prog_12_method_42_code (sm_Q x zm_sy (sm_Pv zm_sy (xw x))) (sm_b2 (pm_cloths N S) (fun (r_16 : Int32) (S_15 : sm_St) => if r_16 ≤ v2 then (sm_lt (0 : Int32) (fun (v2_17 : Int32) => pm_night_b121 N N v1 v2_17 S_15)) else (sm_b2 (pm_isMean N S_15 v2) (fun (r_19 : Int32) (S_18 : sm_St) => if r_19 = 0 then (sm_b2 (pm_kindOf N S_18 v2) (fun (r_21 : Int32) (S_20 : sm_St) => if r_21 = (4 : Int32) then (sm_b1 (pm_layGreatest N S_20 v2 v1) (fun (S_24 : sm_St) => pm_night_b113 N (pm_night_b48 N n) v1 v2 S_24)) else (sm_b1 (pm_copy N S_20 ((10 : Int32) + v2) ((14 : Int32) + v2)) (fun (S_22 : sm_St) => sm_b1 (pm_times N S_22 ((10 : Int32) + v2) (v1.toInt64)) (fun (S_23 : sm_St) => pm_night_b113 N (pm_night_b48 N n) v1 v2 S_23))))) else (sm_b1 (pm_layMean N S_18 v2 v1) (fun (S_25 : sm_St) => pm_night_b113 N (pm_night_b48 N n) v1 v2 S_25)))))) S 48 [(0, .ref ((xw x).2.2 0)), (1, .int v1), (2, .int v2)] []
    refine sm_iload_n (pc := 48) 2 ok dm_night_48 rfl ?_
    refine sm_aload_n (pc := 49) 0 ok dm_night_49 rfl ?_
    refine sm_callV_i (pc := 50) (ci := 10) [] ok dm_night_50 wd_1114 mwm_cloths rfl rfl (Nat.le_of_ble_eq_true rfl) (Nat.le_of_ble_eq_true rfl) rfl rfl (Nat.le_of_ble_eq_true rfl) (cm_cloths (sm_okj ok) N S) (fun r_16 S_15 => ?_)
    refine sm_icmp_ge (pc := 53) 119 ok dm_night_53 (by decide) (fun _ => ?_) (fun _ => ?_)
    · refine sm_iconst (pc := 119) (0 : Int32) ok dm_night_119 zk_0 ?_
      refine sm_istore_n (pc := 120) (i := 2) ok dm_night_120 rfl (by decide) (fun v => [(2, .int v), (0, .ref ((xw x).2.2 0)), (1, .int v1)]) (fun _ => rfl) (fun v2_17 => ?_)
      refine sm_lv [1, 2, 0] rfl ?_
      exact tm_night_b121 ok hr N N _ _ _
    · refine sm_aload_n (pc := 56) 0 ok dm_night_56 rfl ?_
      refine sm_iload_n (pc := 57) 2 ok dm_night_57 rfl ?_
      refine sm_callV_i (pc := 58) (ci := 10) [.int v2] ok dm_night_58 wd_1185 mwm_isMean rfl rfl (Nat.le_of_ble_eq_true rfl) (Nat.le_of_ble_eq_true rfl) rfl rfl (Nat.le_of_ble_eq_true rfl) (cm_isMean (sm_okj ok) N S_15 v2) (fun r_19 S_18 => ?_)
      refine sm_if_eq (pc := 61) 73 ok dm_night_61 (by decide) (fun _ => ?_) (fun _ => ?_)
      · refine sm_aload_n (pc := 73) 0 ok dm_night_73 rfl ?_
        refine sm_iload_n (pc := 74) 2 ok dm_night_74 rfl ?_
        refine sm_callV_i (pc := 75) (ci := 10) [.int v2] ok dm_night_75 wd_1189 mwm_kindOf rfl rfl (Nat.le_of_ble_eq_true rfl) (Nat.le_of_ble_eq_true rfl) rfl rfl (Nat.le_of_ble_eq_true rfl) (cm_kindOf (sm_okj ok) N S_18 v2) (fun r_21 S_20 => ?_)
        refine sm_iconst (pc := 78) (4 : Int32) ok dm_night_78 zk_4 ?_
        refine sm_icmp_ne (pc := 79) 91 ok dm_night_79 (by decide) (fun _ => ?_) (fun _ => ?_)
        · refine sm_aload_n (pc := 91) 0 ok dm_night_91 rfl ?_
          refine sm_bipush (pc := 92) (10 : Int32) ok dm_night_92 zb_10 ?_
          refine sm_iload_n (pc := 94) 2 ok dm_night_94 rfl ?_
          refine sm_iadd (pc := 95) ok dm_night_95 ?_
          refine sm_bipush (pc := 96) (14 : Int32) ok dm_night_96 zb_14 ?_
          refine sm_iload_n (pc := 98) 2 ok dm_night_98 rfl ?_
          refine sm_iadd (pc := 99) ok dm_night_99 ?_
          refine sm_callV_v (pc := 100) (ci := 10) [.int ((10 : Int32) + v2), .int ((14 : Int32) + v2)] ok dm_night_100 wd_1126 mwm_copy rfl rfl (Nat.le_of_ble_eq_true rfl) (Nat.le_of_ble_eq_true rfl) rfl rfl (Nat.le_of_ble_eq_true rfl) (cm_copy (sm_okj ok) N S_20 ((10 : Int32) + v2) ((14 : Int32) + v2)) (fun S_22 => ?_)
          refine sm_aload_n (pc := 103) 0 ok dm_night_103 rfl ?_
          refine sm_bipush (pc := 104) (10 : Int32) ok dm_night_104 zb_10 ?_
          refine sm_iload_n (pc := 106) 2 ok dm_night_106 rfl ?_
          refine sm_iadd (pc := 107) ok dm_night_107 ?_
          refine sm_iload_n (pc := 108) 1 ok dm_night_108 rfl ?_
          refine sm_i2l (pc := 109) ok dm_night_109 ?_
          refine sm_callV_v (pc := 110) (ci := 10) [.int ((10 : Int32) + v2), .long (v1.toInt64)] ok dm_night_110 wd_1130 mwm_times rfl rfl (Nat.le_of_ble_eq_true rfl) (Nat.le_of_ble_eq_true rfl) rfl rfl (Nat.le_of_ble_eq_true rfl) (cm_times (sm_okj ok) N S_22 ((10 : Int32) + v2) (v1.toInt64)) (fun S_23 => ?_)
          exact tm_night_b113 ok hr N ih _ _ _
        · refine sm_aload_n (pc := 82) 0 ok dm_night_82 rfl ?_
          refine sm_iload_n (pc := 83) 2 ok dm_night_83 rfl ?_
          refine sm_iload_n (pc := 84) 1 ok dm_night_84 rfl ?_
          refine sm_callV_v (pc := 85) (ci := 10) [.int v2, .int v1] ok dm_night_85 wd_1220 mwm_layGreatest rfl rfl (Nat.le_of_ble_eq_true rfl) (Nat.le_of_ble_eq_true rfl) rfl rfl (Nat.le_of_ble_eq_true rfl) (cm_layGreatest (sm_okj ok) N S_20 v2 v1) (fun S_24 => ?_)
          refine sm_goto (pc := 88) 113 ok dm_night_88 (by decide) ?_
          exact tm_night_b113 ok hr N ih _ _ _
      · refine sm_aload_n (pc := 64) 0 ok dm_night_64 rfl ?_
        refine sm_iload_n (pc := 65) 2 ok dm_night_65 rfl ?_
        refine sm_iload_n (pc := 66) 1 ok dm_night_66 rfl ?_
        refine sm_callV_v (pc := 67) (ci := 10) [.int v2, .int v1] ok dm_night_67 wd_1208 mwm_layMean rfl rfl (Nat.le_of_ble_eq_true rfl) (Nat.le_of_ble_eq_true rfl) rfl rfl (Nat.le_of_ble_eq_true rfl) (cm_layMean (sm_okj ok) N S_18 v2 v1) (fun S_25 => ?_)
        refine sm_goto (pc := 70) 113 ok dm_night_70 (by decide) ?_
        exact tm_night_b113 ok hr N ih _ _ _
set_option maxHeartbeats 4000000 in
set_option maxRecDepth 20000 in
theorem tm_night_b29 {x : sm_Cx} (ok : sm_Ok x zm_sy prog_12_method_42_code "LentShadesModel" 4 5 116) (hr : (xh x).sig.returnType = none) (N : Nat) {r4 : Int32 → Int32 → sm_St → Option (sm_St)} (h4 : ∀ (v1 : Int32) (v2 : Int32) (S : sm_St), sm_Sm x zm_sy prog_12_method_42_code (sm_Q x zm_sy (sm_Pv zm_sy (xw x))) (r4 v1 v2 S) S 4 [(0, .ref ((xw x).2.2 0)), (1, .int v1), (2, .int v2)] []) (v1 : Int32) (v2 : Int32) (s0 : Int32) (S : sm_St) : sm_Sm x zm_sy prog_12_method_42_code (sm_Q x zm_sy (sm_Pv zm_sy (xw x))) (pm_night_b29 N r4 v1 v2 s0 S) S 29 [(0, .ref ((xw x).2.2 0)), (1, .int v1), (2, .int v2)] [.int s0] := by
  unfold pm_night_b29
  refine sm_istore_n (pc := 29) (i := 3) ok dm_night_29 rfl (by decide) (fun v => [(3, .int v), (0, .ref ((xw x).2.2 0)), (1, .int v1), (2, .int v2)]) (fun _ => rfl) (fun v3_10 => ?_)
  refine sm_iload_n (pc := 30) 2 ok dm_night_30 rfl ?_
  refine sm_iload_n (pc := 31) 2 ok dm_night_31 rfl ?_
  refine sm_iload_n (pc := 32) 0 ok dm_night_32 rfl ?_
  refine sm_callS_i (pc := 33) [.int v1, .int v3_10] ok dm_night_33 wd_1205 mwm_divisor (Nat.le_of_ble_eq_true rfl) (Nat.le_of_ble_eq_true rfl) rfl rfl (Nat.le_of_ble_eq_true rfl) (cm_divisor (sm_okj ok) N S v1 v3_10) (fun r_12 S_11 => ?_)
  refine sm_idiv (pc := 36) ok dm_night_36 ?_
  refine sm_iload_n (pc := 37) 0 ok dm_night_37 rfl ?_
  refine sm_imul (pc := 38) ok dm_night_38 ?_
  refine sm_istore_n (pc := 39) (i := 1) ok dm_night_39 rfl (by decide) (fun v => [(1, .int v), (3, .int v3_10), (0, .ref ((xw x).2.2 0)), (2, .int v2)]) (fun _ => rfl) (fun v1_13 => ?_)
  refine sm_iinc (pc := 40) (i := 2) 3 (1 : Int32) ok dm_night_40 rfl zk_1 (by decide) (fun v => [(2, .int v), (1, .int v1_13), (3, .int v3_10), (0, .ref ((xw x).2.2 0))]) (fun _ => rfl) (fun v2_14 => ?_)
  refine sm_goto (pc := 43) 4 ok dm_night_43 (by decide) ?_
  refine sm_lv [3, 1, 0] rfl ?_
  exact h4 _ _ _
set_option maxHeartbeats 4000000 in
set_option maxRecDepth 20000 in
theorem tm_night_b4 {x : sm_Cx} (ok : sm_Ok x zm_sy prog_12_method_42_code "LentShadesModel" 4 5 116) (hr : (xh x).sig.returnType = none) (N : Nat) : ∀ (n : Nat) (v1 : Int32) (v2 : Int32) (S : sm_St), sm_Sm x zm_sy prog_12_method_42_code (sm_Q x zm_sy (sm_Pv zm_sy (xw x))) (pm_night_b4 N n v1 v2 S) S 4 [(0, .ref ((xw x).2.2 0)), (1, .int v1), (2, .int v2)] [] := by
  intro n
  induction n with
  | zero =>
    intro v1 v2 S
    exact sm_none
  | succ n ih =>
    intro v1 v2 S
    show sm_Sm x zm_sy prog_12_method_42_code (sm_Q x zm_sy (sm_Pv zm_sy (xw x))) (sm_b2 (pm_cloths N S) (fun (r_4 : Int32) (S_3 : sm_St) => if r_4 ≤ v2 then (sm_lt (0 : Int32) (fun (v2_5 : Int32) => pm_night_b48 N N v1 v2_5 S_3)) else (sm_b2 (pm_isMean N S_3 v2) (fun (r_7 : Int32) (S_6 : sm_St) => if r_7 = 0 then (pm_night_b29 N (pm_night_b4 N n) v1 v2 (1 : Int32) S_6) else (sm_b2 (pm_takesAll N S_6 v2) (fun (r_9 : Int32) (S_8 : sm_St) => pm_night_b29 N (pm_night_b4 N n) v1 v2 r_9 S_8)))))) S 4 [(0, .ref ((xw x).2.2 0)), (1, .int v1), (2, .int v2)] []
    refine sm_iload_n (pc := 4) 2 ok dm_night_4 rfl ?_
    refine sm_aload_n (pc := 5) 0 ok dm_night_5 rfl ?_
    refine sm_callV_i (pc := 6) (ci := 10) [] ok dm_night_6 wd_1114 mwm_cloths rfl rfl (Nat.le_of_ble_eq_true rfl) (Nat.le_of_ble_eq_true rfl) rfl rfl (Nat.le_of_ble_eq_true rfl) (cm_cloths (sm_okj ok) N S) (fun r_4 S_3 => ?_)
    refine sm_icmp_ge (pc := 9) 46 ok dm_night_9 (by decide) (fun _ => ?_) (fun _ => ?_)
    · refine sm_iconst (pc := 46) (0 : Int32) ok dm_night_46 zk_0 ?_
      refine sm_istore_n (pc := 47) (i := 2) ok dm_night_47 rfl (by decide) (fun v => [(2, .int v), (0, .ref ((xw x).2.2 0)), (1, .int v1)]) (fun _ => rfl) (fun v2_5 => ?_)
      refine sm_lv [1, 2, 0] rfl ?_
      exact tm_night_b48 ok hr N N _ _ _
    · refine sm_aload_n (pc := 12) 0 ok dm_night_12 rfl ?_
      refine sm_iload_n (pc := 13) 2 ok dm_night_13 rfl ?_
      refine sm_callV_i (pc := 14) (ci := 10) [.int v2] ok dm_night_14 wd_1185 mwm_isMean rfl rfl (Nat.le_of_ble_eq_true rfl) (Nat.le_of_ble_eq_true rfl) rfl rfl (Nat.le_of_ble_eq_true rfl) (cm_isMean (sm_okj ok) N S_3 v2) (fun r_7 S_6 => ?_)
      refine sm_if_eq (pc := 17) 28 ok dm_night_17 (by decide) (fun _ => ?_) (fun _ => ?_)
      · refine sm_iconst (pc := 28) (1 : Int32) ok dm_night_28 zk_1 ?_
        exact tm_night_b29 ok hr N ih _ _ _ _
      · refine sm_aload_n (pc := 20) 0 ok dm_night_20 rfl ?_
        refine sm_iload_n (pc := 21) 2 ok dm_night_21 rfl ?_
        refine sm_callV_i (pc := 22) (ci := 10) [.int v2] ok dm_night_22 wd_1193 mwm_takesAll rfl rfl (Nat.le_of_ble_eq_true rfl) (Nat.le_of_ble_eq_true rfl) rfl rfl (Nat.le_of_ble_eq_true rfl) (cm_takesAll (sm_okj ok) N S_6 v2) (fun r_9 S_8 => ?_)
        refine sm_goto (pc := 25) 29 ok dm_night_25 (by decide) ?_
        exact tm_night_b29 ok hr N ih _ _ _ _
set_option maxHeartbeats 4000000 in
set_option maxRecDepth 20000 in
theorem tm_night {x : sm_Cx} (ok : sm_Ok x zm_sy prog_12_method_42_code "LentShadesModel" 4 5 116) (hr : (xh x).sig.returnType = none) (N : Nat) (S : sm_St) : sm_Sm x zm_sy prog_12_method_42_code (sm_Q x zm_sy (sm_Pv zm_sy (xw x))) (pm_night N S) S 0 [(0, .ref ((xw x).2.2 0))] [] := by
  unfold pm_night
  refine sm_iconst (pc := 0) (1 : Int32) ok dm_night_0 zk_1 ?_
  refine sm_istore_n (pc := 1) (i := 1) ok dm_night_1 rfl (by decide) (fun v => [(1, .int v), (0, .ref ((xw x).2.2 0))]) (fun _ => rfl) (fun v1_1 => ?_)
  refine sm_iconst (pc := 2) (0 : Int32) ok dm_night_2 zk_0 ?_
  refine sm_istore_n (pc := 3) (i := 2) ok dm_night_3 rfl (by decide) (fun v => [(2, .int v), (1, .int v1_1), (0, .ref ((xw x).2.2 0))]) (fun _ => rfl) (fun v2_2 => ?_)
  refine sm_lv [2, 1, 0] rfl ?_
  exact tm_night_b4 ok hr N N _ _ _
theorem cm_night {l : Launch} {wc : sm_Wc} (hj : sm_inj zm_sy wc) (N : Nat) (S : sm_St) : sm_Ct l zm_sy wc ym_night prog_12_method_42_code 4 none 5 116 [.ref (wc.2.2 0)] S (sm_Pv zm_sy wc) (pm_night N S) :=
  sm_entry (Pq := fun wc => sm_Pv zm_sy wc) (fun wc => [.ref (wc.2.2 0)]) (lv := fun wc => [(0, .ref (wc.2.2 0))]) (by decide) hj zm_ok zm_stb (fun _ => Nat.le_of_ble_eq_true rfl) (fun _ => rfl) (fun x _ ok hr => tm_night ok hr N S)
set_option maxHeartbeats 4000000 in
set_option maxRecDepth 20000 in
theorem tm_nights_b2 {x : sm_Cx} (ok : sm_Ok x zm_sy prog_12_method_43_code "LentShadesModel" 3 6 139) (hr : (xh x).sig.returnType = none) (N : Nat) : ∀ (n : Nat) (v1 : Int32) (v2 : Int32) (S : sm_St), sm_Sm x zm_sy prog_12_method_43_code (sm_Q x zm_sy (sm_Pv zm_sy (xw x))) (pm_nights_b2 N n v1 v2 S) S 2 [(0, .ref ((xw x).2.2 0)), (1, .int v1), (2, .int v2)] [] := by
  intro n
  induction n with
  | zero =>
    intro v1 v2 S
    exact sm_none
  | succ n ih =>
    intro v1 v2 S
    show sm_Sm x zm_sy prog_12_method_43_code (sm_Q x zm_sy (sm_Pv zm_sy (xw x))) (if v1 ≤ v2 then (some S) else (sm_b1 (pm_night N S) (fun (S_2 : sm_St) => sm_lt (v2 + (1 : Int32)) (fun (v2_3 : Int32) => (pm_nights_b2 N n) v1 v2_3 S_2)))) S 2 [(0, .ref ((xw x).2.2 0)), (1, .int v1), (2, .int v2)] []
    refine sm_iload_n (pc := 2) 2 ok dm_nights_2 rfl ?_
    refine sm_iload_n (pc := 3) 1 ok dm_nights_3 rfl ?_
    refine sm_icmp_ge (pc := 4) 17 ok dm_nights_4 (by decide) (fun _ => ?_) (fun _ => ?_)
    · exact sm_vret (pc := 17) ok dm_nights_17 hr
    · refine sm_aload_n (pc := 7) 0 ok dm_nights_7 rfl ?_
      refine sm_callV_v (pc := 8) (ci := 10) [] ok dm_nights_8 wd_1181 mwm_night rfl rfl (Nat.le_of_ble_eq_true rfl) (Nat.le_of_ble_eq_true rfl) rfl rfl (Nat.le_of_ble_eq_true rfl) (cm_night (sm_okj ok) N S) (fun S_2 => ?_)
      refine sm_iinc (pc := 11) (i := 2) 2 (1 : Int32) ok dm_nights_11 rfl zk_1 (by decide) (fun v => [(2, .int v), (0, .ref ((xw x).2.2 0)), (1, .int v1)]) (fun _ => rfl) (fun v2_3 => ?_)
      refine sm_goto (pc := 14) 2 ok dm_nights_14 (by decide) ?_
      refine sm_lv [1, 2, 0] rfl ?_
      exact ih _ _ _
set_option maxHeartbeats 4000000 in
set_option maxRecDepth 20000 in
theorem tm_nights {x : sm_Cx} (ok : sm_Ok x zm_sy prog_12_method_43_code "LentShadesModel" 3 6 139) (hr : (xh x).sig.returnType = none) (N : Nat) (S : sm_St) (v1 : Int32) : sm_Sm x zm_sy prog_12_method_43_code (sm_Q x zm_sy (sm_Pv zm_sy (xw x))) (pm_nights N S v1) S 0 [(0, .ref ((xw x).2.2 0)), (1, .int v1)] [] := by
  unfold pm_nights
  refine sm_iconst (pc := 0) (0 : Int32) ok dm_nights_0 zk_0 ?_
  refine sm_istore_n (pc := 1) (i := 2) ok dm_nights_1 rfl (by decide) (fun v => [(2, .int v), (0, .ref ((xw x).2.2 0)), (1, .int v1)]) (fun _ => rfl) (fun v2_1 => ?_)
  refine sm_lv [1, 2, 0] rfl ?_
  exact tm_nights_b2 ok hr N N _ _ _
theorem cm_nights {l : Launch} {wc : sm_Wc} (hj : sm_inj zm_sy wc) (N : Nat) (S : sm_St) (v1 : Int32) : sm_Ct l zm_sy wc ym_nights prog_12_method_43_code 3 none 6 139 [.ref (wc.2.2 0), .int v1] S (sm_Pv zm_sy wc) (pm_nights N S v1) :=
  sm_entry (Pq := fun wc => sm_Pv zm_sy wc) (fun wc => [.ref (wc.2.2 0), .int v1]) (lv := fun wc => [(0, .ref (wc.2.2 0)), (1, .int v1)]) (by decide) hj zm_ok zm_stb (fun _ => Nat.le_of_ble_eq_true rfl) (fun _ => rfl) (fun x _ ok hr => tm_nights ok hr N S v1)
set_option maxHeartbeats 4000000 in
set_option maxRecDepth 20000 in
theorem tm_hasLeast {x : sm_Cx} (ok : sm_Ok x zm_sy prog_12_method_44_code "LentShadesModel" 3 2 49) (hr : (xh x).sig.returnType = (some .boolean)) (N : Nat) (S : sm_St) (v1 : Int32) (v2 : Int32) : sm_Sm x zm_sy prog_12_method_44_code (sm_Q x zm_sy (sm_Pi zm_sy (xw x))) (pm_hasLeast N S v1 v2) S 0 [(0, .ref ((xw x).2.2 0)), (1, .int v1), (2, .int v2)] [] := by
  unfold pm_hasLeast
  refine sm_aload_n (pc := 0) 0 ok dm_hasLeast_0 rfl ?_
  refine sm_bipush (pc := 1) (8 : Int32) ok dm_hasLeast_1 zb_8 ?_
  refine sm_bipush (pc := 3) (18 : Int32) ok dm_hasLeast_3 zb_18 ?_
  refine sm_callV_v (pc := 5) (ci := 10) [.int (8 : Int32), .int (18 : Int32)] ok dm_hasLeast_5 wd_1126 mwm_copy rfl rfl (Nat.le_of_ble_eq_true rfl) (Nat.le_of_ble_eq_true rfl) rfl rfl (Nat.le_of_ble_eq_true rfl) (cm_copy (sm_okj ok) N S (8 : Int32) (18 : Int32)) (fun S_1 => ?_)
  refine sm_aload_n (pc := 8) 0 ok dm_hasLeast_8 rfl ?_
  refine sm_bipush (pc := 9) (8 : Int32) ok dm_hasLeast_9 zb_8 ?_
  refine sm_iload_n (pc := 11) 2 ok dm_hasLeast_11 rfl ?_
  refine sm_i2l (pc := 12) ok dm_hasLeast_12 ?_
  refine sm_callV_v (pc := 13) (ci := 10) [.int (8 : Int32), .long (v2.toInt64)] ok dm_hasLeast_13 wd_1130 mwm_times rfl rfl (Nat.le_of_ble_eq_true rfl) (Nat.le_of_ble_eq_true rfl) rfl rfl (Nat.le_of_ble_eq_true rfl) (cm_times (sm_okj ok) N S_1 (8 : Int32) (v2.toInt64)) (fun S_2 => ?_)
  refine sm_aload_n (pc := 16) 0 ok dm_hasLeast_16 rfl ?_
  refine sm_bipush (pc := 17) (14 : Int32) ok dm_hasLeast_17 zb_14 ?_
  refine sm_iload_n (pc := 19) 1 ok dm_hasLeast_19 rfl ?_
  refine sm_iadd (pc := 20) ok dm_hasLeast_20 ?_
  refine sm_bipush (pc := 21) (8 : Int32) ok dm_hasLeast_21 zb_8 ?_
  refine sm_callV_i (pc := 23) (ci := 10) [.int ((14 : Int32) + v1), .int (8 : Int32)] ok dm_hasLeast_23 wd_1224 mwm_compare rfl rfl (Nat.le_of_ble_eq_true rfl) (Nat.le_of_ble_eq_true rfl) rfl rfl (Nat.le_of_ble_eq_true rfl) (cm_compare (sm_okj ok) N S_2 ((14 : Int32) + v1) (8 : Int32)) (fun r_4 S_3 => ?_)
  refine sm_if_lt (pc := 26) 33 ok dm_hasLeast_26 (by decide) (fun _ => ?_) (fun _ => ?_)
  · refine sm_iconst (pc := 33) (0 : Int32) ok dm_hasLeast_33 zk_0 ?_
    exact sm_zret (pc := 34) ok dm_hasLeast_34 hr rfl
  · refine sm_iconst (pc := 29) (1 : Int32) ok dm_hasLeast_29 zk_1 ?_
    refine sm_goto (pc := 30) 34 ok dm_hasLeast_30 (by decide) ?_
    exact sm_zret (pc := 34) ok dm_hasLeast_34 hr rfl
theorem cm_hasLeast {l : Launch} {wc : sm_Wc} (hj : sm_inj zm_sy wc) (N : Nat) (S : sm_St) (v1 : Int32) (v2 : Int32) : sm_Ct l zm_sy wc ym_hasLeast prog_12_method_44_code 3 (some .boolean) 2 49 [.ref (wc.2.2 0), .int v1, .int v2] S (sm_Pi zm_sy wc) (pm_hasLeast N S v1 v2) :=
  sm_entry (Pq := fun wc => sm_Pi zm_sy wc) (fun wc => [.ref (wc.2.2 0), .int v1, .int v2]) (lv := fun wc => [(0, .ref (wc.2.2 0)), (1, .int v1), (2, .int v2)]) (by decide) hj zm_ok zm_stb (fun _ => Nat.le_of_ble_eq_true rfl) (fun _ => rfl) (fun x _ ok hr => tm_hasLeast ok hr N S v1 v2)
set_option maxHeartbeats 4000000 in
set_option maxRecDepth 20000 in
theorem tm_hasMost {x : sm_Cx} (ok : sm_Ok x zm_sy prog_12_method_45_code "LentShadesModel" 3 2 49) (hr : (xh x).sig.returnType = (some .boolean)) (N : Nat) (S : sm_St) (v1 : Int32) (v2 : Int32) : sm_Sm x zm_sy prog_12_method_45_code (sm_Q x zm_sy (sm_Pi zm_sy (xw x))) (pm_hasMost N S v1 v2) S 0 [(0, .ref ((xw x).2.2 0)), (1, .int v1), (2, .int v2)] [] := by
  unfold pm_hasMost
  refine sm_aload_n (pc := 0) 0 ok dm_hasMost_0 rfl ?_
  refine sm_bipush (pc := 1) (8 : Int32) ok dm_hasMost_1 zb_8 ?_
  refine sm_bipush (pc := 3) (18 : Int32) ok dm_hasMost_3 zb_18 ?_
  refine sm_callV_v (pc := 5) (ci := 10) [.int (8 : Int32), .int (18 : Int32)] ok dm_hasMost_5 wd_1126 mwm_copy rfl rfl (Nat.le_of_ble_eq_true rfl) (Nat.le_of_ble_eq_true rfl) rfl rfl (Nat.le_of_ble_eq_true rfl) (cm_copy (sm_okj ok) N S (8 : Int32) (18 : Int32)) (fun S_1 => ?_)
  refine sm_aload_n (pc := 8) 0 ok dm_hasMost_8 rfl ?_
  refine sm_bipush (pc := 9) (8 : Int32) ok dm_hasMost_9 zb_8 ?_
  refine sm_iload_n (pc := 11) 2 ok dm_hasMost_11 rfl ?_
  refine sm_i2l (pc := 12) ok dm_hasMost_12 ?_
  refine sm_callV_v (pc := 13) (ci := 10) [.int (8 : Int32), .long (v2.toInt64)] ok dm_hasMost_13 wd_1130 mwm_times rfl rfl (Nat.le_of_ble_eq_true rfl) (Nat.le_of_ble_eq_true rfl) rfl rfl (Nat.le_of_ble_eq_true rfl) (cm_times (sm_okj ok) N S_1 (8 : Int32) (v2.toInt64)) (fun S_2 => ?_)
  refine sm_aload_n (pc := 16) 0 ok dm_hasMost_16 rfl ?_
  refine sm_bipush (pc := 17) (14 : Int32) ok dm_hasMost_17 zb_14 ?_
  refine sm_iload_n (pc := 19) 1 ok dm_hasMost_19 rfl ?_
  refine sm_iadd (pc := 20) ok dm_hasMost_20 ?_
  refine sm_bipush (pc := 21) (8 : Int32) ok dm_hasMost_21 zb_8 ?_
  refine sm_callV_i (pc := 23) (ci := 10) [.int ((14 : Int32) + v1), .int (8 : Int32)] ok dm_hasMost_23 wd_1224 mwm_compare rfl rfl (Nat.le_of_ble_eq_true rfl) (Nat.le_of_ble_eq_true rfl) rfl rfl (Nat.le_of_ble_eq_true rfl) (cm_compare (sm_okj ok) N S_2 ((14 : Int32) + v1) (8 : Int32)) (fun r_4 S_3 => ?_)
  refine sm_if_gt (pc := 26) 33 ok dm_hasMost_26 (by decide) (fun _ => ?_) (fun _ => ?_)
  · refine sm_iconst (pc := 33) (0 : Int32) ok dm_hasMost_33 zk_0 ?_
    exact sm_zret (pc := 34) ok dm_hasMost_34 hr rfl
  · refine sm_iconst (pc := 29) (1 : Int32) ok dm_hasMost_29 zk_1 ?_
    refine sm_goto (pc := 30) 34 ok dm_hasMost_30 (by decide) ?_
    exact sm_zret (pc := 34) ok dm_hasMost_34 hr rfl
theorem cm_hasMost {l : Launch} {wc : sm_Wc} (hj : sm_inj zm_sy wc) (N : Nat) (S : sm_St) (v1 : Int32) (v2 : Int32) : sm_Ct l zm_sy wc ym_hasMost prog_12_method_45_code 3 (some .boolean) 2 49 [.ref (wc.2.2 0), .int v1, .int v2] S (sm_Pi zm_sy wc) (pm_hasMost N S v1 v2) :=
  sm_entry (Pq := fun wc => sm_Pi zm_sy wc) (fun wc => [.ref (wc.2.2 0), .int v1, .int v2]) (lv := fun wc => [(0, .ref (wc.2.2 0)), (1, .int v1), (2, .int v2)]) (by decide) hj zm_ok zm_stb (fun _ => Nat.le_of_ble_eq_true rfl) (fun _ => rfl) (fun x _ ok hr => tm_hasMost ok hr N S v1 v2)
set_option maxHeartbeats 4000000 in
set_option maxRecDepth 20000 in
theorem tm_tellOver {x : sm_Cx} (ok : sm_Ok x zm_sy prog_12_method_46_code "LentShadesModel" 4 4 98) (hr : (xh x).sig.returnType = (some .int)) (N : Nat) (S : sm_St) (v1 : Int32) (v2 : Int64) : sm_Sm x zm_sy prog_12_method_46_code (sm_Q x zm_sy (sm_Pi zm_sy (xw x))) (pm_tellOver N S v1 v2) S 0 [(0, .ref ((xw x).2.2 0)), (1, .int v1), (2, .long v2)] [] := by
  unfold pm_tellOver
  refine sm_aload_n (pc := 0) 0 ok dm_tellOver_0 rfl ?_
  refine sm_iconst (pc := 1) (2 : Int32) ok dm_tellOver_1 zk_2 ?_
  refine sm_iload_n (pc := 2) 1 ok dm_tellOver_2 rfl ?_
  refine sm_callV_v (pc := 3) (ci := 10) [.int (2 : Int32), .int v1] ok dm_tellOver_3 wd_1126 mwm_copy rfl rfl (Nat.le_of_ble_eq_true rfl) (Nat.le_of_ble_eq_true rfl) rfl rfl (Nat.le_of_ble_eq_true rfl) (cm_copy (sm_okj ok) N S (2 : Int32) v1) (fun S_1 => ?_)
  refine sm_aload_n (pc := 6) 0 ok dm_tellOver_6 rfl ?_
  refine sm_iconst (pc := 7) (3 : Int32) ok dm_tellOver_7 zk_3 ?_
  refine sm_bipush (pc := 8) (18 : Int32) ok dm_tellOver_8 zb_18 ?_
  refine sm_callV_v (pc := 10) (ci := 10) [.int (3 : Int32), .int (18 : Int32)] ok dm_tellOver_10 wd_1126 mwm_copy rfl rfl (Nat.le_of_ble_eq_true rfl) (Nat.le_of_ble_eq_true rfl) rfl rfl (Nat.le_of_ble_eq_true rfl) (cm_copy (sm_okj ok) N S_1 (3 : Int32) (18 : Int32)) (fun S_2 => ?_)
  refine sm_aload_n (pc := 13) 0 ok dm_tellOver_13 rfl ?_
  refine sm_iconst (pc := 14) (3 : Int32) ok dm_tellOver_14 zk_3 ?_
  refine sm_lload_n (pc := 15) 2 ok dm_tellOver_15 rfl ?_
  refine sm_callV_v (pc := 16) (ci := 10) [.int (3 : Int32), .long v2] ok dm_tellOver_16 wd_1130 mwm_times rfl rfl (Nat.le_of_ble_eq_true rfl) (Nat.le_of_ble_eq_true rfl) rfl rfl (Nat.le_of_ble_eq_true rfl) (cm_times (sm_okj ok) N S_2 (3 : Int32) v2) (fun S_3 => ?_)
  refine sm_aload_n (pc := 19) 0 ok dm_tellOver_19 rfl ?_
  refine sm_iconst (pc := 20) (2 : Int32) ok dm_tellOver_20 zk_2 ?_
  refine sm_iconst (pc := 21) (3 : Int32) ok dm_tellOver_21 zk_3 ?_
  refine sm_iconst (pc := 22) (0 : Int32) ok dm_tellOver_22 zk_0 ?_
  refine sm_callV_v (pc := 23) (ci := 10) [.int (2 : Int32), .int (3 : Int32), .int (0 : Int32)] ok dm_tellOver_23 wd_1232 mwm_tell rfl rfl (Nat.le_of_ble_eq_true rfl) (Nat.le_of_ble_eq_true rfl) rfl rfl (Nat.le_of_ble_eq_true rfl) (cm_tell (sm_okj ok) N S_3 (2 : Int32) (3 : Int32) (0 : Int32)) (fun S_4 => ?_)
  refine sm_iconst (pc := 26) (1 : Int32) ok dm_tellOver_26 zk_1 ?_
  exact sm_iret (pc := 27) ok dm_tellOver_27 hr
theorem cm_tellOver {l : Launch} {wc : sm_Wc} (hj : sm_inj zm_sy wc) (N : Nat) (S : sm_St) (v1 : Int32) (v2 : Int64) : sm_Ct l zm_sy wc ym_tellOver prog_12_method_46_code 4 (some .int) 4 98 [.ref (wc.2.2 0), .int v1, .long v2] S (sm_Pi zm_sy wc) (pm_tellOver N S v1 v2) :=
  sm_entry (Pq := fun wc => sm_Pi zm_sy wc) (fun wc => [.ref (wc.2.2 0), .int v1, .long v2]) (lv := fun wc => [(0, .ref (wc.2.2 0)), (1, .int v1), (2, .long v2)]) (by decide) hj zm_ok zm_stb (fun _ => Nat.le_of_ble_eq_true rfl) (fun _ => rfl) (fun x _ ok hr => tm_tellOver ok hr N S v1 v2)
set_option maxHeartbeats 4000000 in
set_option maxRecDepth 20000 in
theorem tm_shade_b20 {x : sm_Cx} (ok : sm_Ok x zm_sy prog_12_method_47_code "LentShadesModel" 3 7 161) (hr : (xh x).sig.returnType = (some .int)) (N : Nat) (S : sm_St) : sm_Sm x zm_sy prog_12_method_47_code (sm_Q x zm_sy (sm_Pi zm_sy (xw x))) (pm_shade_b20 N S) S 20 [(0, .ref ((xw x).2.2 0))] [] := by
  unfold pm_shade_b20
  refine sm_aload_n (pc := 20) 0 ok dm_shade_20 rfl ?_
  refine sm_bipush (pc := 21) (-2 : Int32) ok dm_shade_21 zb_m2 ?_
  refine sm_callV_i (pc := 23) (ci := 10) [.int (-2 : Int32)] ok dm_shade_23 wd_1110 mwm_bad rfl rfl (Nat.le_of_ble_eq_true rfl) (Nat.le_of_ble_eq_true rfl) rfl rfl (Nat.le_of_ble_eq_true rfl) (cm_bad (sm_okj ok) N S (-2 : Int32)) (fun r_10 S_9 => ?_)
  exact sm_iret (pc := 26) ok dm_shade_26 hr
set_option maxHeartbeats 4000000 in
set_option maxRecDepth 20000 in
theorem tm_shade {x : sm_Cx} (ok : sm_Ok x zm_sy prog_12_method_47_code "LentShadesModel" 3 7 161) (hr : (xh x).sig.returnType = (some .int)) (N : Nat) (S : sm_St) (v1 : Int32) (v2 : Int32) : sm_Sm x zm_sy prog_12_method_47_code (sm_Q x zm_sy (sm_Pi zm_sy (xw x))) (pm_shade N S v1 v2) S 0 [(0, .ref ((xw x).2.2 0)), (1, .int v1), (2, .int v2)] [] := by
  unfold pm_shade
  refine sm_aload_n (pc := 0) 0 ok dm_shade_0 rfl ?_
  refine sm_iload_n (pc := 1) 1 ok dm_shade_1 rfl ?_
  refine sm_callV_i (pc := 2) (ci := 10) [.int v1] ok dm_shade_2 wd_1154 mwm_isCloth rfl rfl (Nat.le_of_ble_eq_true rfl) (Nat.le_of_ble_eq_true rfl) rfl rfl (Nat.le_of_ble_eq_true rfl) (cm_isCloth (sm_okj ok) N S v1) (fun r_2 S_1 => ?_)
  refine sm_if_eq (pc := 5) 20 ok dm_shade_5 (by decide) (fun _ => ?_) (fun _ => ?_)
  · refine sm_lv [0] rfl ?_
    exact tm_shade_b20 ok hr N _
  · refine sm_iload_n (pc := 8) 2 ok dm_shade_8 rfl ?_
    refine sm_i2l (pc := 9) ok dm_shade_9 ?_
    refine sm_lconst (pc := 10) (0 : Int64) ok dm_shade_10 zl_0 ?_
    refine sm_ldc2 (pc := 11) ok dm_shade_11 wd_1109 ?_
    refine sm_callS_i (pc := 14) [.long (v2.toInt64), .long (0 : Int64), .long (12 : Int64)] ok dm_shade_14 wd_1105 mwm_in (Nat.le_of_ble_eq_true rfl) (Nat.le_of_ble_eq_true rfl) rfl rfl (Nat.le_of_ble_eq_true rfl) (cm_in (sm_okj ok) N S_1 (v2.toInt64) (0 : Int64) (12 : Int64)) (fun r_4 S_3 => ?_)
    refine sm_if_ne (pc := 17) 27 ok dm_shade_17 (by decide) (fun _ => ?_) (fun _ => ?_)
    · refine sm_aload_n (pc := 27) 0 ok dm_shade_27 rfl ?_
      refine sm_callV_v (pc := 28) (ci := 10) [] ok dm_shade_28 wd_1173 mwm_takeNow rfl rfl (Nat.le_of_ble_eq_true rfl) (Nat.le_of_ble_eq_true rfl) rfl rfl (Nat.le_of_ble_eq_true rfl) (cm_takeNow (sm_okj ok) N S_3) (fun S_5 => ?_)
      refine sm_aload_n (pc := 31) 0 ok dm_shade_31 rfl ?_
      refine sm_iload_n (pc := 32) 2 ok dm_shade_32 rfl ?_
      refine sm_callV_v (pc := 33) (ci := 10) [.int v2] ok dm_shade_33 wd_1177 mwm_nights rfl rfl (Nat.le_of_ble_eq_true rfl) (Nat.le_of_ble_eq_true rfl) rfl rfl (Nat.le_of_ble_eq_true rfl) (cm_nights (sm_okj ok) N S_5 v2) (fun S_6 => ?_)
      refine sm_aload_n (pc := 36) 0 ok dm_shade_36 rfl ?_
      refine sm_bipush (pc := 37) (14 : Int32) ok dm_shade_37 zb_14 ?_
      refine sm_iload_n (pc := 39) 1 ok dm_shade_39 rfl ?_
      refine sm_iadd (pc := 40) ok dm_shade_40 ?_
      refine sm_ldc2 (pc := 41) ok dm_shade_41 wd_1109 ?_
      refine sm_callV_i (pc := 44) (ci := 10) [.int ((14 : Int32) + v1), .long (12 : Int64)] ok dm_shade_44 wd_1228 mwm_tellOver rfl rfl (Nat.le_of_ble_eq_true rfl) (Nat.le_of_ble_eq_true rfl) rfl rfl (Nat.le_of_ble_eq_true rfl) (cm_tellOver (sm_okj ok) N S_6 ((14 : Int32) + v1) (12 : Int64)) (fun r_8 S_7 => ?_)
      exact sm_iret (pc := 47) ok dm_shade_47 hr
    · refine sm_lv [0] rfl ?_
      exact tm_shade_b20 ok hr N _
theorem cm_shade {l : Launch} {wc : sm_Wc} (hj : sm_inj zm_sy wc) (N : Nat) (S : sm_St) (v1 : Int32) (v2 : Int32) : sm_Ct l zm_sy wc ym_shade prog_12_method_47_code 3 (some .int) 7 161 [.ref (wc.2.2 0), .int v1, .int v2] S (sm_Pi zm_sy wc) (pm_shade N S v1 v2) :=
  sm_entry (Pq := fun wc => sm_Pi zm_sy wc) (fun wc => [.ref (wc.2.2 0), .int v1, .int v2]) (lv := fun wc => [(0, .ref (wc.2.2 0)), (1, .int v1), (2, .int v2)]) (by decide) hj zm_ok zm_stb (fun _ => Nat.le_of_ble_eq_true rfl) (fun _ => rfl) (fun x _ ok hr => tm_shade ok hr N S v1 v2)
set_option maxHeartbeats 4000000 in
set_option maxRecDepth 20000 in
theorem tm_copyState_b2 {x : sm_Cx} (ok : sm_Ok x zm_sy prog_12_method_48_code "LentShadesModel" 4 1 23) (hr : (xh x).sig.returnType = none) (N : Nat) : ∀ (n : Nat) (v1 : Int32) (v2 : Int32) (v3 : Int32) (S : sm_St), sm_Sm x zm_sy prog_12_method_48_code (sm_Q x zm_sy (sm_Pv zm_sy (xw x))) (pm_copyState_b2 N n v1 v2 v3 S) S 2 [(0, .ref ((xw x).2.2 0)), (1, .int v1), (2, .int v2), (3, .int v3)] [] := by
  intro n
  induction n with
  | zero =>
    intro v1 v2 v3 S
    exact sm_none
  | succ n ih =>
    intro v1 v2 v3 S
    show sm_Sm x zm_sy prog_12_method_48_code (sm_Q x zm_sy (sm_Pv zm_sy (xw x))) (if (5 : Int32) ≤ v3 then (some S) else (sm_b1 (pm_copy N S (v1 + v3) (v2 + v3)) (fun (S_2 : sm_St) => sm_lt (v3 + (1 : Int32)) (fun (v3_3 : Int32) => (pm_copyState_b2 N n) v1 v2 v3_3 S_2)))) S 2 [(0, .ref ((xw x).2.2 0)), (1, .int v1), (2, .int v2), (3, .int v3)] []
    refine sm_iload_n (pc := 2) 3 ok dm_copyState_2 rfl ?_
    refine sm_iconst (pc := 3) (5 : Int32) ok dm_copyState_3 zk_5 ?_
    refine sm_icmp_ge (pc := 4) 23 ok dm_copyState_4 (by decide) (fun _ => ?_) (fun _ => ?_)
    · exact sm_vret (pc := 23) ok dm_copyState_23 hr
    · refine sm_aload_n (pc := 7) 0 ok dm_copyState_7 rfl ?_
      refine sm_iload_n (pc := 8) 1 ok dm_copyState_8 rfl ?_
      refine sm_iload_n (pc := 9) 3 ok dm_copyState_9 rfl ?_
      refine sm_iadd (pc := 10) ok dm_copyState_10 ?_
      refine sm_iload_n (pc := 11) 2 ok dm_copyState_11 rfl ?_
      refine sm_iload_n (pc := 12) 3 ok dm_copyState_12 rfl ?_
      refine sm_iadd (pc := 13) ok dm_copyState_13 ?_
      refine sm_callV_v (pc := 14) (ci := 10) [.int (v1 + v3), .int (v2 + v3)] ok dm_copyState_14 wd_1126 mwm_copy rfl rfl (Nat.le_of_ble_eq_true rfl) (Nat.le_of_ble_eq_true rfl) rfl rfl (Nat.le_of_ble_eq_true rfl) (cm_copy (sm_okj ok) N S (v1 + v3) (v2 + v3)) (fun S_2 => ?_)
      refine sm_iinc (pc := 17) (i := 3) 3 (1 : Int32) ok dm_copyState_17 rfl zk_1 (by decide) (fun v => [(3, .int v), (0, .ref ((xw x).2.2 0)), (1, .int v1), (2, .int v2)]) (fun _ => rfl) (fun v3_3 => ?_)
      refine sm_goto (pc := 20) 2 ok dm_copyState_20 (by decide) ?_
      refine sm_lv [1, 2, 3, 0] rfl ?_
      exact ih _ _ _ _
set_option maxHeartbeats 4000000 in
set_option maxRecDepth 20000 in
theorem tm_copyState {x : sm_Cx} (ok : sm_Ok x zm_sy prog_12_method_48_code "LentShadesModel" 4 1 23) (hr : (xh x).sig.returnType = none) (N : Nat) (S : sm_St) (v1 : Int32) (v2 : Int32) : sm_Sm x zm_sy prog_12_method_48_code (sm_Q x zm_sy (sm_Pv zm_sy (xw x))) (pm_copyState N S v1 v2) S 0 [(0, .ref ((xw x).2.2 0)), (1, .int v1), (2, .int v2)] [] := by
  unfold pm_copyState
  refine sm_iconst (pc := 0) (0 : Int32) ok dm_copyState_0 zk_0 ?_
  refine sm_istore_n (pc := 1) (i := 3) ok dm_copyState_1 rfl (by decide) (fun v => [(3, .int v), (0, .ref ((xw x).2.2 0)), (1, .int v1), (2, .int v2)]) (fun _ => rfl) (fun v3_1 => ?_)
  refine sm_lv [1, 2, 3, 0] rfl ?_
  exact tm_copyState_b2 ok hr N N _ _ _ _
theorem cm_copyState {l : Launch} {wc : sm_Wc} (hj : sm_inj zm_sy wc) (N : Nat) (S : sm_St) (v1 : Int32) (v2 : Int32) : sm_Ct l zm_sy wc ym_copyState prog_12_method_48_code 4 none 1 23 [.ref (wc.2.2 0), .int v1, .int v2] S (sm_Pv zm_sy wc) (pm_copyState N S v1 v2) :=
  sm_entry (Pq := fun wc => sm_Pv zm_sy wc) (fun wc => [.ref (wc.2.2 0), .int v1, .int v2]) (lv := fun wc => [(0, .ref (wc.2.2 0)), (1, .int v1), (2, .int v2)]) (by decide) hj zm_ok zm_stb (fun _ => Nat.le_of_ble_eq_true rfl) (fun _ => rfl) (fun x _ ok hr => tm_copyState ok hr N S v1 v2)
set_option maxHeartbeats 4000000 in
set_option maxRecDepth 20000 in
theorem tm_sleep_b68 {x : sm_Cx} (ok : sm_Ok x zm_sy prog_12_method_49_code "LentShadesModel" 2 6 139) (hr : (xh x).sig.returnType = (some .int)) (N : Nat) (S : sm_St) : sm_Sm x zm_sy prog_12_method_49_code (sm_Q x zm_sy (sm_Pi zm_sy (xw x))) (pm_sleep_b68 N S) S 68 [(0, .ref ((xw x).2.2 0))] [] := by
  unfold pm_sleep_b68
  refine sm_aload_n (pc := 68) 0 ok dm_sleep_68 rfl ?_
  refine sm_bipush (pc := 69) (24 : Int32) ok dm_sleep_69 zb_24 ?_
  refine sm_iconst (pc := 71) (5 : Int32) ok dm_sleep_71 zk_5 ?_
  refine sm_aload_n (pc := 72) 0 ok dm_sleep_72 rfl ?_
  refine sm_getR (pc := 73) (ci := 10) (k := 0) ok dm_sleep_73 rfl rfl zc_i10 (by decide) rfl wd_1003 ?_
  refine sm_bipush (pc := 76) (79 : Int32) ok dm_sleep_76 zb_79 ?_
  refine sm_iald (pc := 78) ok dm_sleep_78 rfl ?_
  refine sm_imul (pc := 79) ok dm_sleep_79 ?_
  refine sm_iadd (pc := 80) ok dm_sleep_80 ?_
  refine sm_bipush (pc := 81) (19 : Int32) ok dm_sleep_81 zb_19 ?_
  refine sm_callV_v (pc := 83) (ci := 10) [.int ((24 : Int32) + ((5 : Int32) * (S.1 1 (79 : Int32).toNatClampNeg))), .int (19 : Int32)] ok dm_sleep_83 wd_1269 mwm_copyState rfl rfl (Nat.le_of_ble_eq_true rfl) (Nat.le_of_ble_eq_true rfl) rfl rfl (Nat.le_of_ble_eq_true rfl) (cm_copyState (sm_okj ok) N S ((24 : Int32) + ((5 : Int32) * (S.1 1 (79 : Int32).toNatClampNeg))) (19 : Int32)) (fun S_7 => ?_)
  refine sm_aload_n (pc := 86) 0 ok dm_sleep_86 rfl ?_
  refine sm_getR (pc := 87) (ci := 10) (k := 0) ok dm_sleep_87 rfl rfl zc_i10 (by decide) rfl wd_1003 ?_
  refine sm_bipush (pc := 90) (79 : Int32) ok dm_sleep_90 zb_79 ?_
  refine sm_dup2 (pc := 92) ok dm_sleep_92 rfl rfl ?_
  refine sm_iald (pc := 93) ok dm_sleep_93 rfl ?_
  refine sm_iconst (pc := 94) (1 : Int32) ok dm_sleep_94 zk_1 ?_
  refine sm_iadd (pc := 95) ok dm_sleep_95 ?_
  refine sm_iast (pc := 96) ok dm_sleep_96 rfl (fun S_8 => ?_)
  refine sm_aload_n (pc := 97) 0 ok dm_sleep_97 rfl ?_
  refine sm_callV_v (pc := 98) (ci := 10) [] ok dm_sleep_98 wd_1173 mwm_takeNow rfl rfl (Nat.le_of_ble_eq_true rfl) (Nat.le_of_ble_eq_true rfl) rfl rfl (Nat.le_of_ble_eq_true rfl) (cm_takeNow (sm_okj ok) N S_8) (fun S_9 => ?_)
  refine sm_aload_n (pc := 101) 0 ok dm_sleep_101 rfl ?_
  refine sm_callV_v (pc := 102) (ci := 10) [] ok dm_sleep_102 wd_1181 mwm_night rfl rfl (Nat.le_of_ble_eq_true rfl) (Nat.le_of_ble_eq_true rfl) rfl rfl (Nat.le_of_ble_eq_true rfl) (cm_night (sm_okj ok) N S_9) (fun S_10 => ?_)
  refine sm_aload_n (pc := 105) 0 ok dm_sleep_105 rfl ?_
  refine sm_bipush (pc := 106) (19 : Int32) ok dm_sleep_106 zb_19 ?_
  refine sm_bipush (pc := 108) (14 : Int32) ok dm_sleep_108 zb_14 ?_
  refine sm_callV_v (pc := 110) (ci := 10) [.int (19 : Int32), .int (14 : Int32)] ok dm_sleep_110 wd_1269 mwm_copyState rfl rfl (Nat.le_of_ble_eq_true rfl) (Nat.le_of_ble_eq_true rfl) rfl rfl (Nat.le_of_ble_eq_true rfl) (cm_copyState (sm_okj ok) N S_10 (19 : Int32) (14 : Int32)) (fun S_11 => ?_)
  refine sm_aload_n (pc := 113) 0 ok dm_sleep_113 rfl ?_
  refine sm_getR (pc := 114) (ci := 10) (k := 0) ok dm_sleep_114 rfl rfl zc_i10 (by decide) rfl wd_1003 ?_
  refine sm_bipush (pc := 117) (78 : Int32) ok dm_sleep_117 zb_78 ?_
  refine sm_dup2 (pc := 119) ok dm_sleep_119 rfl rfl ?_
  refine sm_iald (pc := 120) ok dm_sleep_120 rfl ?_
  refine sm_iconst (pc := 121) (1 : Int32) ok dm_sleep_121 zk_1 ?_
  refine sm_iadd (pc := 122) ok dm_sleep_122 ?_
  refine sm_iast (pc := 123) ok dm_sleep_123 rfl (fun S_12 => ?_)
  refine sm_aload_n (pc := 124) 0 ok dm_sleep_124 rfl ?_
  refine sm_getR (pc := 125) (ci := 10) (k := 0) ok dm_sleep_125 rfl rfl zc_i10 (by decide) rfl wd_1003 ?_
  refine sm_bipush (pc := 128) (78 : Int32) ok dm_sleep_128 zb_78 ?_
  refine sm_iald (pc := 130) ok dm_sleep_130 rfl ?_
  exact sm_iret (pc := 131) ok dm_sleep_131 hr
set_option maxHeartbeats 4000000 in
set_option maxRecDepth 20000 in
theorem tm_sleep_b31 {x : sm_Cx} (ok : sm_Ok x zm_sy prog_12_method_49_code "LentShadesModel" 2 6 139) (hr : (xh x).sig.returnType = (some .int)) (N : Nat) : ∀ (n : Nat) (v1 : Int32) (S : sm_St), sm_Sm x zm_sy prog_12_method_49_code (sm_Q x zm_sy (sm_Pi zm_sy (xw x))) (pm_sleep_b31 N n v1 S) S 31 [(0, .ref ((xw x).2.2 0)), (1, .int v1)] [] := by
  intro n
  induction n with
  | zero =>
    intro v1 S
    exact sm_none
  | succ n ih =>
    intro v1 S
    show sm_Sm x zm_sy prog_12_method_49_code (sm_Q x zm_sy (sm_Pi zm_sy (xw x))) (if (5 : Int32) ≤ v1 then (if sm_in (79 : Int32) 81 = true then sm_lt (sm_sI S 1 (79 : Int32).toNatClampNeg (5 : Int32)) (fun (S_4 : sm_St) => pm_sleep_b68 N S_4) else none) else (sm_b1 (pm_copyState N S ((24 : Int32) + ((5 : Int32) * v1)) (((24 : Int32) + ((5 : Int32) * v1)) + (5 : Int32))) (fun (S_5 : sm_St) => sm_lt (v1 + (1 : Int32)) (fun (v1_6 : Int32) => (pm_sleep_b31 N n) v1_6 S_5)))) S 31 [(0, .ref ((xw x).2.2 0)), (1, .int v1)] []
    refine sm_iload_n (pc := 31) 1 ok dm_sleep_31 rfl ?_
    refine sm_iconst (pc := 32) (5 : Int32) ok dm_sleep_32 zk_5 ?_
    refine sm_icmp_ge (pc := 33) 60 ok dm_sleep_33 (by decide) (fun _ => ?_) (fun _ => ?_)
    · refine sm_aload_n (pc := 60) 0 ok dm_sleep_60 rfl ?_
      refine sm_getR (pc := 61) (ci := 10) (k := 0) ok dm_sleep_61 rfl rfl zc_i10 (by decide) rfl wd_1003 ?_
      refine sm_bipush (pc := 64) (79 : Int32) ok dm_sleep_64 zb_79 ?_
      refine sm_iconst (pc := 66) (5 : Int32) ok dm_sleep_66 zk_5 ?_
      refine sm_iast (pc := 67) ok dm_sleep_67 rfl (fun S_4 => ?_)
      refine sm_lv [0] rfl ?_
      exact tm_sleep_b68 ok hr N _
    · refine sm_aload_n (pc := 36) 0 ok dm_sleep_36 rfl ?_
      refine sm_bipush (pc := 37) (24 : Int32) ok dm_sleep_37 zb_24 ?_
      refine sm_iconst (pc := 39) (5 : Int32) ok dm_sleep_39 zk_5 ?_
      refine sm_iload_n (pc := 40) 1 ok dm_sleep_40 rfl ?_
      refine sm_imul (pc := 41) ok dm_sleep_41 ?_
      refine sm_iadd (pc := 42) ok dm_sleep_42 ?_
      refine sm_bipush (pc := 43) (24 : Int32) ok dm_sleep_43 zb_24 ?_
      refine sm_iconst (pc := 45) (5 : Int32) ok dm_sleep_45 zk_5 ?_
      refine sm_iload_n (pc := 46) 1 ok dm_sleep_46 rfl ?_
      refine sm_imul (pc := 47) ok dm_sleep_47 ?_
      refine sm_iadd (pc := 48) ok dm_sleep_48 ?_
      refine sm_iconst (pc := 49) (5 : Int32) ok dm_sleep_49 zk_5 ?_
      refine sm_iadd (pc := 50) ok dm_sleep_50 ?_
      refine sm_callV_v (pc := 51) (ci := 10) [.int ((24 : Int32) + ((5 : Int32) * v1)), .int (((24 : Int32) + ((5 : Int32) * v1)) + (5 : Int32))] ok dm_sleep_51 wd_1269 mwm_copyState rfl rfl (Nat.le_of_ble_eq_true rfl) (Nat.le_of_ble_eq_true rfl) rfl rfl (Nat.le_of_ble_eq_true rfl) (cm_copyState (sm_okj ok) N S ((24 : Int32) + ((5 : Int32) * v1)) (((24 : Int32) + ((5 : Int32) * v1)) + (5 : Int32))) (fun S_5 => ?_)
      refine sm_iinc (pc := 54) (i := 1) 1 (1 : Int32) ok dm_sleep_54 rfl zk_1 (by decide) (fun v => [(1, .int v), (0, .ref ((xw x).2.2 0))]) (fun _ => rfl) (fun v1_6 => ?_)
      refine sm_goto (pc := 57) 31 ok dm_sleep_57 (by decide) ?_
      refine sm_lv [1, 0] rfl ?_
      exact ih _ _
set_option maxHeartbeats 4000000 in
set_option maxRecDepth 20000 in
theorem tm_sleep {x : sm_Cx} (ok : sm_Ok x zm_sy prog_12_method_49_code "LentShadesModel" 2 6 139) (hr : (xh x).sig.returnType = (some .int)) (N : Nat) (S : sm_St) : sm_Sm x zm_sy prog_12_method_49_code (sm_Q x zm_sy (sm_Pi zm_sy (xw x))) (pm_sleep N S) S 0 [(0, .ref ((xw x).2.2 0))] [] := by
  unfold pm_sleep
  refine sm_aload_n (pc := 0) 0 ok dm_sleep_0 rfl ?_
  refine sm_getR (pc := 1) (ci := 10) (k := 0) ok dm_sleep_1 rfl rfl zc_i10 (by decide) rfl wd_1003 ?_
  refine sm_bipush (pc := 4) (78 : Int32) ok dm_sleep_4 zb_78 ?_
  refine sm_iald (pc := 6) ok dm_sleep_6 rfl ?_
  refine sm_bipush (pc := 7) (12 : Int32) ok dm_sleep_7 zb_12 ?_
  refine sm_icmp_ne (pc := 9) 17 ok dm_sleep_9 (by decide) (fun _ => ?_) (fun _ => ?_)
  · refine sm_aload_n (pc := 17) 0 ok dm_sleep_17 rfl ?_
    refine sm_getR (pc := 18) (ci := 10) (k := 0) ok dm_sleep_18 rfl rfl zc_i10 (by decide) rfl wd_1003 ?_
    refine sm_bipush (pc := 21) (79 : Int32) ok dm_sleep_21 zb_79 ?_
    refine sm_iald (pc := 23) ok dm_sleep_23 rfl ?_
    refine sm_bipush (pc := 24) (6 : Int32) ok dm_sleep_24 zb_6 ?_
    refine sm_icmp_ne (pc := 26) 68 ok dm_sleep_26 (by decide) (fun _ => ?_) (fun _ => ?_)
    · exact tm_sleep_b68 ok hr N _
    · refine sm_iconst (pc := 29) (0 : Int32) ok dm_sleep_29 zk_0 ?_
      refine sm_istore_n (pc := 30) (i := 1) ok dm_sleep_30 rfl (by decide) (fun v => [(1, .int v), (0, .ref ((xw x).2.2 0))]) (fun _ => rfl) (fun v1_1 => ?_)
      refine sm_lv [1, 0] rfl ?_
      exact tm_sleep_b31 ok hr N N _ _
  · refine sm_aload_n (pc := 12) 0 ok dm_sleep_12 rfl ?_
    refine sm_callV_i (pc := 13) (ci := 10) [] ok dm_sleep_13 wd_1265 mwm_no rfl rfl (Nat.le_of_ble_eq_true rfl) (Nat.le_of_ble_eq_true rfl) rfl rfl (Nat.le_of_ble_eq_true rfl) (cm_no (sm_okj ok) N S) (fun r_3 S_2 => ?_)
    exact sm_iret (pc := 16) ok dm_sleep_16 hr
theorem cm_sleep {l : Launch} {wc : sm_Wc} (hj : sm_inj zm_sy wc) (N : Nat) (S : sm_St) : sm_Ct l zm_sy wc ym_sleep prog_12_method_49_code 2 (some .int) 6 139 [.ref (wc.2.2 0)] S (sm_Pi zm_sy wc) (pm_sleep N S) :=
  sm_entry (Pq := fun wc => sm_Pi zm_sy wc) (fun wc => [.ref (wc.2.2 0)]) (lv := fun wc => [(0, .ref (wc.2.2 0))]) (by decide) hj zm_ok zm_stb (fun _ => Nat.le_of_ble_eq_true rfl) (fun _ => rfl) (fun x _ ok hr => tm_sleep ok hr N S)
set_option maxHeartbeats 4000000 in
set_option maxRecDepth 20000 in
theorem tm_undo {x : sm_Cx} (ok : sm_Ok x zm_sy prog_12_method_50_code "LentShadesModel" 1 2 46) (hr : (xh x).sig.returnType = (some .int)) (N : Nat) (S : sm_St) : sm_Sm x zm_sy prog_12_method_50_code (sm_Q x zm_sy (sm_Pi zm_sy (xw x))) (pm_undo N S) S 0 [(0, .ref ((xw x).2.2 0))] [] := by
  unfold pm_undo
  refine sm_aload_n (pc := 0) 0 ok dm_undo_0 rfl ?_
  refine sm_getR (pc := 1) (ci := 10) (k := 0) ok dm_undo_1 rfl rfl zc_i10 (by decide) rfl wd_1003 ?_
  refine sm_bipush (pc := 4) (79 : Int32) ok dm_undo_4 zb_79 ?_
  refine sm_iald (pc := 6) ok dm_undo_6 rfl ?_
  refine sm_if_ne (pc := 7) 15 ok dm_undo_7 (by decide) (fun _ => ?_) (fun _ => ?_)
  · refine sm_aload_n (pc := 15) 0 ok dm_undo_15 rfl ?_
    refine sm_getR (pc := 16) (ci := 10) (k := 0) ok dm_undo_16 rfl rfl zc_i10 (by decide) rfl wd_1003 ?_
    refine sm_bipush (pc := 19) (79 : Int32) ok dm_undo_19 zb_79 ?_
    refine sm_dup2 (pc := 21) ok dm_undo_21 rfl rfl ?_
    refine sm_iald (pc := 22) ok dm_undo_22 rfl ?_
    refine sm_iconst (pc := 23) (1 : Int32) ok dm_undo_23 zk_1 ?_
    refine sm_isub (pc := 24) ok dm_undo_24 ?_
    refine sm_iast (pc := 25) ok dm_undo_25 rfl (fun S_1 => ?_)
    refine sm_aload_n (pc := 26) 0 ok dm_undo_26 rfl ?_
    refine sm_getR (pc := 27) (ci := 10) (k := 0) ok dm_undo_27 rfl rfl zc_i10 (by decide) rfl wd_1003 ?_
    refine sm_bipush (pc := 30) (78 : Int32) ok dm_undo_30 zb_78 ?_
    refine sm_dup2 (pc := 32) ok dm_undo_32 rfl rfl ?_
    refine sm_iald (pc := 33) ok dm_undo_33 rfl ?_
    refine sm_iconst (pc := 34) (1 : Int32) ok dm_undo_34 zk_1 ?_
    refine sm_isub (pc := 35) ok dm_undo_35 ?_
    refine sm_iast (pc := 36) ok dm_undo_36 rfl (fun S_2 => ?_)
    refine sm_aload_n (pc := 37) 0 ok dm_undo_37 rfl ?_
    refine sm_bipush (pc := 38) (19 : Int32) ok dm_undo_38 zb_19 ?_
    refine sm_bipush (pc := 40) (24 : Int32) ok dm_undo_40 zb_24 ?_
    refine sm_iconst (pc := 42) (5 : Int32) ok dm_undo_42 zk_5 ?_
    refine sm_aload_n (pc := 43) 0 ok dm_undo_43 rfl ?_
    refine sm_getR (pc := 44) (ci := 10) (k := 0) ok dm_undo_44 rfl rfl zc_i10 (by decide) rfl wd_1003 ?_
    refine sm_bipush (pc := 47) (79 : Int32) ok dm_undo_47 zb_79 ?_
    refine sm_iald (pc := 49) ok dm_undo_49 rfl ?_
    refine sm_imul (pc := 50) ok dm_undo_50 ?_
    refine sm_iadd (pc := 51) ok dm_undo_51 ?_
    refine sm_callV_v (pc := 52) (ci := 10) [.int (19 : Int32), .int ((24 : Int32) + ((5 : Int32) * (S_2.1 1 (79 : Int32).toNatClampNeg)))] ok dm_undo_52 wd_1269 mwm_copyState rfl rfl (Nat.le_of_ble_eq_true rfl) (Nat.le_of_ble_eq_true rfl) rfl rfl (Nat.le_of_ble_eq_true rfl) (cm_copyState (sm_okj ok) N S_2 (19 : Int32) ((24 : Int32) + ((5 : Int32) * (S_2.1 1 (79 : Int32).toNatClampNeg)))) (fun S_3 => ?_)
    refine sm_iconst (pc := 55) (1 : Int32) ok dm_undo_55 zk_1 ?_
    exact sm_iret (pc := 56) ok dm_undo_56 hr
  · refine sm_aload_n (pc := 10) 0 ok dm_undo_10 rfl ?_
    refine sm_callV_i (pc := 11) (ci := 10) [] ok dm_undo_11 wd_1265 mwm_no rfl rfl (Nat.le_of_ble_eq_true rfl) (Nat.le_of_ble_eq_true rfl) rfl rfl (Nat.le_of_ble_eq_true rfl) (cm_no (sm_okj ok) N S) (fun r_5 S_4 => ?_)
    exact sm_iret (pc := 14) ok dm_undo_14 hr
theorem cm_undo {l : Launch} {wc : sm_Wc} (hj : sm_inj zm_sy wc) (N : Nat) (S : sm_St) : sm_Ct l zm_sy wc ym_undo prog_12_method_50_code 1 (some .int) 2 46 [.ref (wc.2.2 0)] S (sm_Pi zm_sy wc) (pm_undo N S) :=
  sm_entry (Pq := fun wc => sm_Pi zm_sy wc) (fun wc => [.ref (wc.2.2 0)]) (lv := fun wc => [(0, .ref (wc.2.2 0))]) (by decide) hj zm_ok zm_stb (fun _ => Nat.le_of_ble_eq_true rfl) (fun _ => rfl) (fun x _ ok hr => tm_undo ok hr N S)
set_option maxHeartbeats 4000000 in
set_option maxRecDepth 20000 in
theorem tm_soRed_b20 {x : sm_Cx} (ok : sm_Ok x zm_sy prog_12_method_51_code "LentShadesModel" 4 6 139) (hr : (xh x).sig.returnType = (some .int)) (N : Nat) (S : sm_St) : sm_Sm x zm_sy prog_12_method_51_code (sm_Q x zm_sy (sm_Pi zm_sy (xw x))) (pm_soRed_b20 N S) S 20 [(0, .ref ((xw x).2.2 0))] [] := by
  unfold pm_soRed_b20
  refine sm_aload_n (pc := 20) 0 ok dm_soRed_20 rfl ?_
  refine sm_bipush (pc := 21) (-2 : Int32) ok dm_soRed_21 zb_m2 ?_
  refine sm_callV_i (pc := 23) (ci := 10) [.int (-2 : Int32)] ok dm_soRed_23 wd_1110 mwm_bad rfl rfl (Nat.le_of_ble_eq_true rfl) (Nat.le_of_ble_eq_true rfl) rfl rfl (Nat.le_of_ble_eq_true rfl) (cm_bad (sm_okj ok) N S (-2 : Int32)) (fun r_12 S_11 => ?_)
  exact sm_iret (pc := 26) ok dm_soRed_26 hr
set_option maxHeartbeats 4000000 in
set_option maxRecDepth 20000 in
theorem tm_soRed_b33 {x : sm_Cx} (ok : sm_Ok x zm_sy prog_12_method_51_code "LentShadesModel" 4 6 139) (hr : (xh x).sig.returnType = (some .int)) (N : Nat) : ∀ (n : Nat) (v1 : Int32) (v2 : Int32) (v3 : Int32) (S : sm_St), sm_Sm x zm_sy prog_12_method_51_code (sm_Q x zm_sy (sm_Pi zm_sy (xw x))) (pm_soRed_b33 N n v1 v2 v3 S) S 33 [(0, .ref ((xw x).2.2 0)), (1, .int v1), (2, .int v2), (3, .int v3)] [] := by
  intro n
  induction n with
  | zero =>
    intro v1 v2 v3 S
    exact sm_none
  | succ n ih =>
    intro v1 v2 v3 S
    show sm_Sm x zm_sy prog_12_method_51_code (sm_Q x zm_sy (sm_Pi zm_sy (xw x))) (if (12 : Int32) < v3 then (some ((-1 : Int32), S)) else (sm_b2 (pm_hasLeast N S v1 v2) (fun (r_8 : Int32) (S_7 : sm_St) => if r_8 = 0 then (sm_b1 (pm_night N S_7) (fun (S_9 : sm_St) => sm_lt (v3 + (1 : Int32)) (fun (v3_10 : Int32) => (pm_soRed_b33 N n) v1 v2 v3_10 S_9))) else (some (v3, S_7))))) S 33 [(0, .ref ((xw x).2.2 0)), (1, .int v1), (2, .int v2), (3, .int v3)] []
    refine sm_iload_n (pc := 33) 3 ok dm_soRed_33 rfl ?_
    refine sm_bipush (pc := 34) (12 : Int32) ok dm_soRed_34 zb_12 ?_
    refine sm_icmp_gt (pc := 36) 60 ok dm_soRed_36 (by decide) (fun _ => ?_) (fun _ => ?_)
    · refine sm_iconst (pc := 60) (-1 : Int32) ok dm_soRed_60 zk_m1 ?_
      exact sm_iret (pc := 61) ok dm_soRed_61 hr
    · refine sm_aload_n (pc := 39) 0 ok dm_soRed_39 rfl ?_
      refine sm_iload_n (pc := 40) 1 ok dm_soRed_40 rfl ?_
      refine sm_iload_n (pc := 41) 2 ok dm_soRed_41 rfl ?_
      refine sm_callV_i (pc := 42) (ci := 10) [.int v1, .int v2] ok dm_soRed_42 wd_1281 mwm_hasLeast rfl rfl (Nat.le_of_ble_eq_true rfl) (Nat.le_of_ble_eq_true rfl) rfl rfl (Nat.le_of_ble_eq_true rfl) (cm_hasLeast (sm_okj ok) N S v1 v2) (fun r_8 S_7 => ?_)
      refine sm_if_eq (pc := 45) 50 ok dm_soRed_45 (by decide) (fun _ => ?_) (fun _ => ?_)
      · refine sm_aload_n (pc := 50) 0 ok dm_soRed_50 rfl ?_
        refine sm_callV_v (pc := 51) (ci := 10) [] ok dm_soRed_51 wd_1181 mwm_night rfl rfl (Nat.le_of_ble_eq_true rfl) (Nat.le_of_ble_eq_true rfl) rfl rfl (Nat.le_of_ble_eq_true rfl) (cm_night (sm_okj ok) N S_7) (fun S_9 => ?_)
        refine sm_iinc (pc := 54) (i := 3) 3 (1 : Int32) ok dm_soRed_54 rfl zk_1 (by decide) (fun v => [(3, .int v), (0, .ref ((xw x).2.2 0)), (1, .int v1), (2, .int v2)]) (fun _ => rfl) (fun v3_10 => ?_)
        refine sm_goto (pc := 57) 33 ok dm_soRed_57 (by decide) ?_
        refine sm_lv [1, 2, 3, 0] rfl ?_
        exact ih _ _ _ _
      · refine sm_iload_n (pc := 48) 3 ok dm_soRed_48 rfl ?_
        exact sm_iret (pc := 49) ok dm_soRed_49 hr
set_option maxHeartbeats 4000000 in
set_option maxRecDepth 20000 in
theorem tm_soRed {x : sm_Cx} (ok : sm_Ok x zm_sy prog_12_method_51_code "LentShadesModel" 4 6 139) (hr : (xh x).sig.returnType = (some .int)) (N : Nat) (S : sm_St) (v1 : Int32) (v2 : Int32) : sm_Sm x zm_sy prog_12_method_51_code (sm_Q x zm_sy (sm_Pi zm_sy (xw x))) (pm_soRed N S v1 v2) S 0 [(0, .ref ((xw x).2.2 0)), (1, .int v1), (2, .int v2)] [] := by
  unfold pm_soRed
  refine sm_aload_n (pc := 0) 0 ok dm_soRed_0 rfl ?_
  refine sm_iload_n (pc := 1) 1 ok dm_soRed_1 rfl ?_
  refine sm_callV_i (pc := 2) (ci := 10) [.int v1] ok dm_soRed_2 wd_1154 mwm_isCloth rfl rfl (Nat.le_of_ble_eq_true rfl) (Nat.le_of_ble_eq_true rfl) rfl rfl (Nat.le_of_ble_eq_true rfl) (cm_isCloth (sm_okj ok) N S v1) (fun r_2 S_1 => ?_)
  refine sm_if_eq (pc := 5) 20 ok dm_soRed_5 (by decide) (fun _ => ?_) (fun _ => ?_)
  · refine sm_lv [0] rfl ?_
    exact tm_soRed_b20 ok hr N _
  · refine sm_iload_n (pc := 8) 2 ok dm_soRed_8 rfl ?_
    refine sm_i2l (pc := 9) ok dm_soRed_9 ?_
    refine sm_lconst (pc := 10) (0 : Int64) ok dm_soRed_10 zl_0 ?_
    refine sm_ldc2 (pc := 11) ok dm_soRed_11 wd_1109 ?_
    refine sm_callS_i (pc := 14) [.long (v2.toInt64), .long (0 : Int64), .long (12 : Int64)] ok dm_soRed_14 wd_1105 mwm_in (Nat.le_of_ble_eq_true rfl) (Nat.le_of_ble_eq_true rfl) rfl rfl (Nat.le_of_ble_eq_true rfl) (cm_in (sm_okj ok) N S_1 (v2.toInt64) (0 : Int64) (12 : Int64)) (fun r_4 S_3 => ?_)
    refine sm_if_ne (pc := 17) 27 ok dm_soRed_17 (by decide) (fun _ => ?_) (fun _ => ?_)
    · refine sm_aload_n (pc := 27) 0 ok dm_soRed_27 rfl ?_
      refine sm_callV_v (pc := 28) (ci := 10) [] ok dm_soRed_28 wd_1173 mwm_takeNow rfl rfl (Nat.le_of_ble_eq_true rfl) (Nat.le_of_ble_eq_true rfl) rfl rfl (Nat.le_of_ble_eq_true rfl) (cm_takeNow (sm_okj ok) N S_3) (fun S_5 => ?_)
      refine sm_iconst (pc := 31) (0 : Int32) ok dm_soRed_31 zk_0 ?_
      refine sm_istore_n (pc := 32) (i := 3) ok dm_soRed_32 rfl (by decide) (fun v => [(3, .int v), (0, .ref ((xw x).2.2 0)), (1, .int v1), (2, .int v2)]) (fun _ => rfl) (fun v3_6 => ?_)
      refine sm_lv [1, 2, 3, 0] rfl ?_
      exact tm_soRed_b33 ok hr N N _ _ _ _
    · refine sm_lv [0] rfl ?_
      exact tm_soRed_b20 ok hr N _
theorem cm_soRed {l : Launch} {wc : sm_Wc} (hj : sm_inj zm_sy wc) (N : Nat) (S : sm_St) (v1 : Int32) (v2 : Int32) : sm_Ct l zm_sy wc ym_soRed prog_12_method_51_code 4 (some .int) 6 139 [.ref (wc.2.2 0), .int v1, .int v2] S (sm_Pi zm_sy wc) (pm_soRed N S v1 v2) :=
  sm_entry (Pq := fun wc => sm_Pi zm_sy wc) (fun wc => [.ref (wc.2.2 0), .int v1, .int v2]) (lv := fun wc => [(0, .ref (wc.2.2 0)), (1, .int v1), (2, .int v2)]) (by decide) hj zm_ok zm_stb (fun _ => Nat.le_of_ble_eq_true rfl) (fun _ => rfl) (fun x _ ok hr => tm_soRed ok hr N S v1 v2)
set_option maxHeartbeats 4000000 in
set_option maxRecDepth 20000 in
theorem tm_layRows_b125 {x : sm_Cx} (ok : sm_Ok x zm_sy prog_12_method_52_code "LentShadesModel" 4 4 93) (hr : (xh x).sig.returnType = none) (N : Nat) {r23 : Int32 → sm_St → Option (sm_St)} (h23 : ∀ (v1 : Int32) (S : sm_St), sm_Sm x zm_sy prog_12_method_52_code (sm_Q x zm_sy (sm_Pv zm_sy (xw x))) (r23 v1 S) S 23 [(0, .ref ((xw x).2.2 0)), (1, .int v1)] []) (v1 : Int32) (S : sm_St) : sm_Sm x zm_sy prog_12_method_52_code (sm_Q x zm_sy (sm_Pv zm_sy (xw x))) (pm_layRows_b125 N r23 v1 S) S 125 [(0, .ref ((xw x).2.2 0)), (1, .int v1)] [] := by
  unfold pm_layRows_b125
  refine sm_iinc (pc := 125) (i := 1) 1 (1 : Int32) ok dm_layRows_125 rfl zk_1 (by decide) (fun v => [(1, .int v), (0, .ref ((xw x).2.2 0))]) (fun _ => rfl) (fun v1_20 => ?_)
  refine sm_goto (pc := 128) 23 ok dm_layRows_128 (by decide) ?_
  refine sm_lv [1, 0] rfl ?_
  exact h23 _ _
set_option maxHeartbeats 4000000 in
set_option maxRecDepth 20000 in
theorem tm_layRows_b117 {x : sm_Cx} (ok : sm_Ok x zm_sy prog_12_method_52_code "LentShadesModel" 4 4 93) (hr : (xh x).sig.returnType = none) (N : Nat) {r23 : Int32 → sm_St → Option (sm_St)} {r81 : Int32 → Int32 → Int32 → sm_St → Option (sm_St)} (h23 : ∀ (v1 : Int32) (S : sm_St), sm_Sm x zm_sy prog_12_method_52_code (sm_Q x zm_sy (sm_Pv zm_sy (xw x))) (r23 v1 S) S 23 [(0, .ref ((xw x).2.2 0)), (1, .int v1)] []) (h81 : ∀ (v1 : Int32) (v2 : Int32) (v3 : Int32) (S : sm_St), sm_Sm x zm_sy prog_12_method_52_code (sm_Q x zm_sy (sm_Pv zm_sy (xw x))) (r81 v1 v2 v3 S) S 81 [(0, .ref ((xw x).2.2 0)), (1, .int v1), (2, .int v2), (3, .int v3)] []) (v1 : Int32) (v2 : Int32) (v3 : Int32) (s1 : Int32) (s2 : Int64) (s3 : Int64) (S : sm_St) : sm_Sm x zm_sy prog_12_method_52_code (sm_Q x zm_sy (sm_Pv zm_sy (xw x))) (pm_layRows_b117 N r23 r81 v1 v2 v3 s1 s2 s3 S) S 117 [(0, .ref ((xw x).2.2 0)), (1, .int v1), (2, .int v2), (3, .int v3)] [.long s3, .long s2, .int s1, .ref ((xw x).2.2 9)] := by
  unfold pm_layRows_b117
  refine sm_lsub (pc := 117) ok dm_layRows_117 ?_
  refine sm_last (pc := 118) ok dm_layRows_118 rfl (fun S_18 => ?_)
  refine sm_iinc (pc := 119) (i := 3) 3 (1 : Int32) ok dm_layRows_119 rfl zk_1 (by decide) (fun v => [(3, .int v), (0, .ref ((xw x).2.2 0)), (1, .int v1), (2, .int v2)]) (fun _ => rfl) (fun v3_19 => ?_)
  refine sm_goto (pc := 122) 81 ok dm_layRows_122 (by decide) ?_
  refine sm_lv [1, 2, 3, 0] rfl ?_
  exact h81 _ _ _ _
set_option maxHeartbeats 4000000 in
set_option maxRecDepth 20000 in
theorem tm_layRows_b81 {x : sm_Cx} (ok : sm_Ok x zm_sy prog_12_method_52_code "LentShadesModel" 4 4 93) (hr : (xh x).sig.returnType = none) (N : Nat) {r23 : Int32 → sm_St → Option (sm_St)} (h23 : ∀ (v1 : Int32) (S : sm_St), sm_Sm x zm_sy prog_12_method_52_code (sm_Q x zm_sy (sm_Pv zm_sy (xw x))) (r23 v1 S) S 23 [(0, .ref ((xw x).2.2 0)), (1, .int v1)] []) : ∀ (n : Nat) (v1 : Int32) (v2 : Int32) (v3 : Int32) (S : sm_St), sm_Sm x zm_sy prog_12_method_52_code (sm_Q x zm_sy (sm_Pv zm_sy (xw x))) (pm_layRows_b81 N r23 n v1 v2 v3 S) S 81 [(0, .ref ((xw x).2.2 0)), (1, .int v1), (2, .int v2), (3, .int v3)] [] := by
  intro n
  induction n with
  | zero =>
    intro v1 v2 v3 S
    exact sm_none
  | succ n ih =>
    intro v1 v2 v3 S
    show sm_Sm x zm_sy prog_12_method_52_code (sm_Q x zm_sy (sm_Pv zm_sy (xw x))) (if (4 : Int32) ≤ v3 then (pm_layRows_b125 N r23 v1 S) else (if v2 = 0 then (pm_layRows_b125 N r23 v1 S) else (if sm_in (((4 : Int32) * v1) + v3) 16 = true then (if v3 = v1 then (pm_layRows_b117 N r23 (pm_layRows_b81 N r23 n) v1 v2 v3 (((4 : Int32) * v1) + v3) (S.2.1 9 (((4 : Int32) * v1) + v3).toNatClampNeg) (0 : Int64) S) else (sm_b2 (pm_takes N S v1 v3) (fun (r_17 : Int32) (S_16 : sm_St) => pm_layRows_b117 N r23 (pm_layRows_b81 N r23 n) v1 v2 v3 (((4 : Int32) * v1) + v3) (S.2.1 9 (((4 : Int32) * v1) + v3).toNatClampNeg) (r_17.toInt64) S_16))) else none))) S 81 [(0, .ref ((xw x).2.2 0)), (1, .int v1), (2, .int v2), (3, .int v3)] []
    refine sm_iload_n (pc := 81) 3 ok dm_layRows_81 rfl ?_
    refine sm_iconst (pc := 82) (4 : Int32) ok dm_layRows_82 zk_4 ?_
    refine sm_icmp_ge (pc := 83) 125 ok dm_layRows_83 (by decide) (fun _ => ?_) (fun _ => ?_)
    · refine sm_lv [0, 1] rfl ?_
      exact tm_layRows_b125 ok hr N h23 _ _
    · refine sm_iload_n (pc := 86) 2 ok dm_layRows_86 rfl ?_
      refine sm_if_eq (pc := 87) 125 ok dm_layRows_87 (by decide) (fun _ => ?_) (fun _ => ?_)
      · refine sm_lv [0, 1] rfl ?_
        exact tm_layRows_b125 ok hr N h23 _ _
      · refine sm_aload_n (pc := 90) 0 ok dm_layRows_90 rfl ?_
        refine sm_getR (pc := 91) (ci := 10) (k := 9) ok dm_layRows_91 rfl rfl zc_i10 (by decide) rfl wd_1012 ?_
        refine sm_iconst (pc := 94) (4 : Int32) ok dm_layRows_94 zk_4 ?_
        refine sm_iload_n (pc := 95) 1 ok dm_layRows_95 rfl ?_
        refine sm_imul (pc := 96) ok dm_layRows_96 ?_
        refine sm_iload_n (pc := 97) 3 ok dm_layRows_97 rfl ?_
        refine sm_iadd (pc := 98) ok dm_layRows_98 ?_
        refine sm_dup2 (pc := 99) ok dm_layRows_99 rfl rfl ?_
        refine sm_lald (pc := 100) ok dm_layRows_100 rfl ?_
        refine sm_iload_n (pc := 101) 3 ok dm_layRows_101 rfl ?_
        refine sm_iload_n (pc := 102) 1 ok dm_layRows_102 rfl ?_
        refine sm_icmp_ne (pc := 103) 110 ok dm_layRows_103 (by decide) (fun _ => ?_) (fun _ => ?_)
        · refine sm_aload_n (pc := 110) 0 ok dm_layRows_110 rfl ?_
          refine sm_iload_n (pc := 111) 1 ok dm_layRows_111 rfl ?_
          refine sm_iload_n (pc := 112) 3 ok dm_layRows_112 rfl ?_
          refine sm_callV_i (pc := 113) (ci := 10) [.int v1, .int v3] ok dm_layRows_113 wd_1197 mwm_takes rfl rfl (Nat.le_of_ble_eq_true rfl) (Nat.le_of_ble_eq_true rfl) rfl rfl (Nat.le_of_ble_eq_true rfl) (cm_takes (sm_okj ok) N S v1 v3) (fun r_17 S_16 => ?_)
          refine sm_i2l (pc := 116) ok dm_layRows_116 ?_
          exact tm_layRows_b117 ok hr N h23 ih _ _ _ _ _ _ _
        · refine sm_lconst (pc := 106) (0 : Int64) ok dm_layRows_106 zl_0 ?_
          refine sm_goto (pc := 107) 117 ok dm_layRows_107 (by decide) ?_
          exact tm_layRows_b117 ok hr N h23 ih _ _ _ _ _ _ _
set_option maxHeartbeats 4000000 in
set_option maxRecDepth 20000 in
theorem tm_layRows_b78 {x : sm_Cx} (ok : sm_Ok x zm_sy prog_12_method_52_code "LentShadesModel" 4 4 93) (hr : (xh x).sig.returnType = none) (N : Nat) {r23 : Int32 → sm_St → Option (sm_St)} (h23 : ∀ (v1 : Int32) (S : sm_St), sm_Sm x zm_sy prog_12_method_52_code (sm_Q x zm_sy (sm_Pv zm_sy (xw x))) (r23 v1 S) S 23 [(0, .ref ((xw x).2.2 0)), (1, .int v1)] []) (v1 : Int32) (v2 : Int32) (s1 : Int32) (s2 : Int64) (S : sm_St) : sm_Sm x zm_sy prog_12_method_52_code (sm_Q x zm_sy (sm_Pv zm_sy (xw x))) (pm_layRows_b78 N r23 v1 v2 s1 s2 S) S 78 [(0, .ref ((xw x).2.2 0)), (1, .int v1), (2, .int v2)] [.long s2, .int s1, .ref ((xw x).2.2 9)] := by
  unfold pm_layRows_b78
  refine sm_last (pc := 78) ok dm_layRows_78 rfl (fun S_14 => ?_)
  refine sm_iconst (pc := 79) (0 : Int32) ok dm_layRows_79 zk_0 ?_
  refine sm_istore_n (pc := 80) (i := 3) ok dm_layRows_80 rfl (by decide) (fun v => [(3, .int v), (0, .ref ((xw x).2.2 0)), (1, .int v1), (2, .int v2)]) (fun _ => rfl) (fun v3_15 => ?_)
  refine sm_lv [1, 2, 3, 0] rfl ?_
  exact tm_layRows_b81 ok hr N h23 N _ _ _ _
set_option maxHeartbeats 4000000 in
set_option maxRecDepth 20000 in
theorem tm_layRows_b49 {x : sm_Cx} (ok : sm_Ok x zm_sy prog_12_method_52_code "LentShadesModel" 4 4 93) (hr : (xh x).sig.returnType = none) (N : Nat) {r23 : Int32 → sm_St → Option (sm_St)} (h23 : ∀ (v1 : Int32) (S : sm_St), sm_Sm x zm_sy prog_12_method_52_code (sm_Q x zm_sy (sm_Pv zm_sy (xw x))) (r23 v1 S) S 23 [(0, .ref ((xw x).2.2 0)), (1, .int v1)] []) (v1 : Int32) (s0 : Int32) (S : sm_St) : sm_Sm x zm_sy prog_12_method_52_code (sm_Q x zm_sy (sm_Pv zm_sy (xw x))) (pm_layRows_b49 N r23 v1 s0 S) S 49 [(0, .ref ((xw x).2.2 0)), (1, .int v1)] [.int s0] := by
  unfold pm_layRows_b49
  refine sm_istore_n (pc := 49) (i := 2) ok dm_layRows_49 rfl (by decide) (fun v => [(2, .int v), (0, .ref ((xw x).2.2 0)), (1, .int v1)]) (fun _ => rfl) (fun v2_9 => ?_)
  refine sm_aload_n (pc := 50) 1 ok dm_layRows_50 rfl ?_
  refine sm_getR (pc := 51) (ci := 10) (k := 9) ok dm_layRows_51 rfl rfl zc_i10 (by decide) rfl wd_1012 ?_
  refine sm_iconst (pc := 54) (5 : Int32) ok dm_layRows_54 zk_5 ?_
  refine sm_iload_n (pc := 55) 2 ok dm_layRows_55 rfl ?_
  refine sm_imul (pc := 56) ok dm_layRows_56 ?_
  refine sm_iload_n (pc := 57) 0 ok dm_layRows_57 rfl ?_
  refine sm_if_eq (pc := 58) 77 ok dm_layRows_58 (by decide) (fun _ => ?_) (fun _ => ?_)
  · refine sm_lconst (pc := 77) (1 : Int64) ok dm_layRows_77 zl_1 ?_
    refine sm_lv [1, 2, 0] rfl ?_
    exact tm_layRows_b78 ok hr N h23 _ _ _ _ _
  · refine sm_aload_n (pc := 61) 1 ok dm_layRows_61 rfl ?_
    refine sm_iload_n (pc := 62) 2 ok dm_layRows_62 rfl ?_
    refine sm_callV_i (pc := 63) (ci := 10) [.int v1] ok dm_layRows_63 wd_1193 mwm_takesAll rfl rfl (Nat.le_of_ble_eq_true rfl) (Nat.le_of_ble_eq_true rfl) rfl rfl (Nat.le_of_ble_eq_true rfl) (cm_takesAll (sm_okj ok) N S v1) (fun r_11 S_10 => ?_)
    refine sm_aload_n (pc := 66) 1 ok dm_layRows_66 rfl ?_
    refine sm_iload_n (pc := 67) 2 ok dm_layRows_67 rfl ?_
    refine sm_iload_n (pc := 68) 2 ok dm_layRows_68 rfl ?_
    refine sm_callV_i (pc := 69) (ci := 10) [.int v1, .int v1] ok dm_layRows_69 wd_1197 mwm_takes rfl rfl (Nat.le_of_ble_eq_true rfl) (Nat.le_of_ble_eq_true rfl) rfl rfl (Nat.le_of_ble_eq_true rfl) (cm_takes (sm_okj ok) N S_10 v1 v1) (fun r_13 S_12 => ?_)
    refine sm_isub (pc := 72) ok dm_layRows_72 ?_
    refine sm_i2l (pc := 73) ok dm_layRows_73 ?_
    refine sm_goto (pc := 74) 78 ok dm_layRows_74 (by decide) ?_
    refine sm_lv [1, 2, 0] rfl ?_
    exact tm_layRows_b78 ok hr N h23 _ _ _ _ _
set_option maxHeartbeats 4000000 in
set_option maxRecDepth 20000 in
theorem tm_layRows_b48 {x : sm_Cx} (ok : sm_Ok x zm_sy prog_12_method_52_code "LentShadesModel" 4 4 93) (hr : (xh x).sig.returnType = none) (N : Nat) {r23 : Int32 → sm_St → Option (sm_St)} (h23 : ∀ (v1 : Int32) (S : sm_St), sm_Sm x zm_sy prog_12_method_52_code (sm_Q x zm_sy (sm_Pv zm_sy (xw x))) (r23 v1 S) S 23 [(0, .ref ((xw x).2.2 0)), (1, .int v1)] []) (v1 : Int32) (S : sm_St) : sm_Sm x zm_sy prog_12_method_52_code (sm_Q x zm_sy (sm_Pv zm_sy (xw x))) (pm_layRows_b48 N r23 v1 S) S 48 [(0, .ref ((xw x).2.2 0)), (1, .int v1)] [] := by
  unfold pm_layRows_b48
  refine sm_iconst (pc := 48) (0 : Int32) ok dm_layRows_48 zk_0 ?_
  exact tm_layRows_b49 ok hr N h23 _ _ _
set_option maxHeartbeats 4000000 in
set_option maxRecDepth 20000 in
theorem tm_layRows_b23 {x : sm_Cx} (ok : sm_Ok x zm_sy prog_12_method_52_code "LentShadesModel" 4 4 93) (hr : (xh x).sig.returnType = none) (N : Nat) : ∀ (n : Nat) (v1 : Int32) (S : sm_St), sm_Sm x zm_sy prog_12_method_52_code (sm_Q x zm_sy (sm_Pv zm_sy (xw x))) (pm_layRows_b23 N n v1 S) S 23 [(0, .ref ((xw x).2.2 0)), (1, .int v1)] [] := by
  intro n
  induction n with
  | zero =>
    intro v1 S
    exact sm_none
  | succ n ih =>
    intro v1 S
    show sm_Sm x zm_sy prog_12_method_52_code (sm_Q x zm_sy (sm_Pv zm_sy (xw x))) (if (4 : Int32) ≤ v1 then (some S) else (sm_b2 (pm_cloths N S) (fun (r_6 : Int32) (S_5 : sm_St) => if r_6 ≤ v1 then (pm_layRows_b48 N (pm_layRows_b23 N n) v1 S_5) else (sm_b2 (pm_takesAll N S_5 v1) (fun (r_8 : Int32) (S_7 : sm_St) => if r_8 ≤ 0 then (pm_layRows_b48 N (pm_layRows_b23 N n) v1 S_7) else (pm_layRows_b49 N (pm_layRows_b23 N n) v1 (1 : Int32) S_7)))))) S 23 [(0, .ref ((xw x).2.2 0)), (1, .int v1)] []
    refine sm_iload_n (pc := 23) 1 ok dm_layRows_23 rfl ?_
    refine sm_iconst (pc := 24) (4 : Int32) ok dm_layRows_24 zk_4 ?_
    refine sm_icmp_ge (pc := 25) 131 ok dm_layRows_25 (by decide) (fun _ => ?_) (fun _ => ?_)
    · exact sm_vret (pc := 131) ok dm_layRows_131 hr
    · refine sm_iload_n (pc := 28) 1 ok dm_layRows_28 rfl ?_
      refine sm_aload_n (pc := 29) 0 ok dm_layRows_29 rfl ?_
      refine sm_callV_i (pc := 30) (ci := 10) [] ok dm_layRows_30 wd_1114 mwm_cloths rfl rfl (Nat.le_of_ble_eq_true rfl) (Nat.le_of_ble_eq_true rfl) rfl rfl (Nat.le_of_ble_eq_true rfl) (cm_cloths (sm_okj ok) N S) (fun r_6 S_5 => ?_)
      refine sm_icmp_ge (pc := 33) 48 ok dm_layRows_33 (by decide) (fun _ => ?_) (fun _ => ?_)
      · exact tm_layRows_b48 ok hr N ih _ _
      · refine sm_aload_n (pc := 36) 0 ok dm_layRows_36 rfl ?_
        refine sm_iload_n (pc := 37) 1 ok dm_layRows_37 rfl ?_
        refine sm_callV_i (pc := 38) (ci := 10) [.int v1] ok dm_layRows_38 wd_1193 mwm_takesAll rfl rfl (Nat.le_of_ble_eq_true rfl) (Nat.le_of_ble_eq_true rfl) rfl rfl (Nat.le_of_ble_eq_true rfl) (cm_takesAll (sm_okj ok) N S_5 v1) (fun r_8 S_7 => ?_)
        refine sm_if_le (pc := 41) 48 ok dm_layRows_41 (by decide) (fun _ => ?_) (fun _ => ?_)
        · exact tm_layRows_b48 ok hr N ih _ _
        · refine sm_iconst (pc := 44) (1 : Int32) ok dm_layRows_44 zk_1 ?_
          refine sm_goto (pc := 45) 49 ok dm_layRows_45 (by decide) ?_
          exact tm_layRows_b49 ok hr N ih _ _ _
set_option maxHeartbeats 4000000 in
set_option maxRecDepth 20000 in
theorem tm_layRows_b2 {x : sm_Cx} (ok : sm_Ok x zm_sy prog_12_method_52_code "LentShadesModel" 4 4 93) (hr : (xh x).sig.returnType = none) (N : Nat) : ∀ (n : Nat) (v1 : Int32) (S : sm_St), sm_Sm x zm_sy prog_12_method_52_code (sm_Q x zm_sy (sm_Pv zm_sy (xw x))) (pm_layRows_b2 N n v1 S) S 2 [(0, .ref ((xw x).2.2 0)), (1, .int v1)] [] := by
  intro n
  induction n with
  | zero =>
    intro v1 S
    exact sm_none
  | succ n ih =>
    intro v1 S
    show sm_Sm x zm_sy prog_12_method_52_code (sm_Q x zm_sy (sm_Pv zm_sy (xw x))) (if (16 : Int32) ≤ v1 then (sm_lt (0 : Int32) (fun (v1_2 : Int32) => pm_layRows_b23 N N v1_2 S)) else (if sm_in v1 16 = true then sm_lt (sm_sL S 9 v1.toNatClampNeg (0 : Int64)) (fun (S_3 : sm_St) => sm_lt (v1 + (1 : Int32)) (fun (v1_4 : Int32) => (pm_layRows_b2 N n) v1_4 S_3)) else none)) S 2 [(0, .ref ((xw x).2.2 0)), (1, .int v1)] []
    refine sm_iload_n (pc := 2) 1 ok dm_layRows_2 rfl ?_
    refine sm_bipush (pc := 3) (16 : Int32) ok dm_layRows_3 zb_16 ?_
    refine sm_icmp_ge (pc := 5) 21 ok dm_layRows_5 (by decide) (fun _ => ?_) (fun _ => ?_)
    · refine sm_iconst (pc := 21) (0 : Int32) ok dm_layRows_21 zk_0 ?_
      refine sm_istore_n (pc := 22) (i := 1) ok dm_layRows_22 rfl (by decide) (fun v => [(1, .int v), (0, .ref ((xw x).2.2 0))]) (fun _ => rfl) (fun v1_2 => ?_)
      refine sm_lv [1, 0] rfl ?_
      exact tm_layRows_b23 ok hr N N _ _
    · refine sm_aload_n (pc := 8) 0 ok dm_layRows_8 rfl ?_
      refine sm_getR (pc := 9) (ci := 10) (k := 9) ok dm_layRows_9 rfl rfl zc_i10 (by decide) rfl wd_1012 ?_
      refine sm_iload_n (pc := 12) 1 ok dm_layRows_12 rfl ?_
      refine sm_lconst (pc := 13) (0 : Int64) ok dm_layRows_13 zl_0 ?_
      refine sm_last (pc := 14) ok dm_layRows_14 rfl (fun S_3 => ?_)
      refine sm_iinc (pc := 15) (i := 1) 1 (1 : Int32) ok dm_layRows_15 rfl zk_1 (by decide) (fun v => [(1, .int v), (0, .ref ((xw x).2.2 0))]) (fun _ => rfl) (fun v1_4 => ?_)
      refine sm_goto (pc := 18) 2 ok dm_layRows_18 (by decide) ?_
      refine sm_lv [1, 0] rfl ?_
      exact ih _ _
set_option maxHeartbeats 4000000 in
set_option maxRecDepth 20000 in
theorem tm_layRows {x : sm_Cx} (ok : sm_Ok x zm_sy prog_12_method_52_code "LentShadesModel" 4 4 93) (hr : (xh x).sig.returnType = none) (N : Nat) (S : sm_St) : sm_Sm x zm_sy prog_12_method_52_code (sm_Q x zm_sy (sm_Pv zm_sy (xw x))) (pm_layRows N S) S 0 [(0, .ref ((xw x).2.2 0))] [] := by
  unfold pm_layRows
  refine sm_iconst (pc := 0) (0 : Int32) ok dm_layRows_0 zk_0 ?_
  refine sm_istore_n (pc := 1) (i := 1) ok dm_layRows_1 rfl (by decide) (fun v => [(1, .int v), (0, .ref ((xw x).2.2 0))]) (fun _ => rfl) (fun v1_1 => ?_)
  refine sm_lv [1, 0] rfl ?_
  exact tm_layRows_b2 ok hr N N _ _
theorem cm_layRows {l : Launch} {wc : sm_Wc} (hj : sm_inj zm_sy wc) (N : Nat) (S : sm_St) : sm_Ct l zm_sy wc ym_layRows prog_12_method_52_code 4 none 4 93 [.ref (wc.2.2 0)] S (sm_Pv zm_sy wc) (pm_layRows N S) :=
  sm_entry (Pq := fun wc => sm_Pv zm_sy wc) (fun wc => [.ref (wc.2.2 0)]) (lv := fun wc => [(0, .ref (wc.2.2 0))]) (by decide) hj zm_ok zm_stb (fun _ => Nat.le_of_ble_eq_true rfl) (fun _ => rfl) (fun x _ ok hr => tm_layRows ok hr N S)
