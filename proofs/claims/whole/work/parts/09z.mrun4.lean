set_option maxHeartbeats 4000000 in
set_option maxRecDepth 20000 in
theorem tm_readsThing {x : sm_Cx} (ok : sm_Ok x zm_sy prog_12_method_90_code "LentShadesModel" 1 5 111) (hr : (xh x).sig.returnType = (some .boolean)) (N : Nat) (S : sm_St) : sm_Sm x zm_sy prog_12_method_90_code (sm_Q x zm_sy (sm_Pi zm_sy (xw x))) (pm_readsThing N S) S 0 [(0, .ref ((xw x).2.2 0))] [] := by
  unfold pm_readsThing
  refine sm_aload_n (pc := 0) 0 ok dm_readsThing_0 rfl ?_
  refine sm_getI (pc := 1) (ci := 10) (k := 30) ok dm_readsThing_1 rfl rfl zc_i10 (by decide) rfl wd_1033 ?_
  refine sm_iconst (pc := 4) (4 : Int32) ok dm_readsThing_4 zk_4 ?_
  refine sm_icmp_ne (pc := 5) 10 ok dm_readsThing_5 (by decide) (fun _ => ?_) (fun _ => ?_)
  · refine sm_aload_n (pc := 10) 0 ok dm_readsThing_10 rfl ?_
    refine sm_callV_v (pc := 11) (ci := 10) [] ok dm_readsThing_11 wd_1441 mwm_goOn rfl rfl (Nat.le_of_ble_eq_true rfl) (Nat.le_of_ble_eq_true rfl) rfl rfl (Nat.le_of_ble_eq_true rfl) (cm_goOn (sm_okj ok) N S) (fun S_1 => ?_)
    refine sm_aload_n (pc := 14) 0 ok dm_readsThing_14 rfl ?_
    refine sm_iconst (pc := 15) (0 : Int32) ok dm_readsThing_15 zk_0 ?_
    refine sm_bipush (pc := 16) (12 : Int32) ok dm_readsThing_16 zb_12 ?_
    refine sm_callV_i (pc := 18) (ci := 10) [.int (0 : Int32), .int (12 : Int32)] ok dm_readsThing_18 wd_1445 mwm_takesOne rfl rfl (Nat.le_of_ble_eq_true rfl) (Nat.le_of_ble_eq_true rfl) rfl rfl (Nat.le_of_ble_eq_true rfl) (cm_takesOne (sm_okj ok) N S_1 (0 : Int32) (12 : Int32)) (fun r_3 S_2 => ?_)
    refine sm_if_ne (pc := 21) 26 ok dm_readsThing_21 (by decide) (fun _ => ?_) (fun _ => ?_)
    · refine sm_aload_n (pc := 26) 0 ok dm_readsThing_26 rfl ?_
      refine sm_getR (pc := 27) (ci := 10) (k := 28) ok dm_readsThing_27 rfl rfl zc_i10 (by decide) rfl wd_1031 ?_
      refine sm_aload_n (pc := 30) 0 ok dm_readsThing_30 rfl ?_
      refine sm_getI (pc := 31) (ci := 10) (k := 30) ok dm_readsThing_31 rfl rfl zc_i10 (by decide) rfl wd_1033 ?_
      refine sm_aload_n (pc := 34) 0 ok dm_readsThing_34 rfl ?_
      refine sm_getI (pc := 35) (ci := 10) (k := 31) ok dm_readsThing_35 rfl rfl zc_i10 (by decide) rfl wd_1034 ?_
      refine sm_iast (pc := 38) ok dm_readsThing_38 rfl (fun S_4 => ?_)
      refine sm_aload_n (pc := 39) 0 ok dm_readsThing_39 rfl ?_
      refine sm_dup (pc := 40) ok dm_readsThing_40 rfl ?_
      refine sm_getI (pc := 41) (ci := 10) (k := 30) ok dm_readsThing_41 rfl rfl zc_i10 (by decide) rfl wd_1033 ?_
      refine sm_iconst (pc := 44) (1 : Int32) ok dm_readsThing_44 zk_1 ?_
      refine sm_iadd (pc := 45) ok dm_readsThing_45 ?_
      refine sm_putI (pc := 46) (ci := 10) (k := 30) ok dm_readsThing_46 rfl rfl zc_i10 zc_y10 zc_t10 zc_n10 (by decide) rfl rfl rfl wd_1033 (fun S_5 => ?_)
      refine sm_iconst (pc := 49) (1 : Int32) ok dm_readsThing_49 zk_1 ?_
      exact sm_zret (pc := 50) ok dm_readsThing_50 hr rfl
    · refine sm_iconst (pc := 24) (0 : Int32) ok dm_readsThing_24 zk_0 ?_
      exact sm_zret (pc := 25) ok dm_readsThing_25 hr rfl
  · refine sm_iconst (pc := 8) (0 : Int32) ok dm_readsThing_8 zk_0 ?_
    exact sm_zret (pc := 9) ok dm_readsThing_9 hr rfl
theorem cm_readsThing {l : Launch} {wc : sm_Wc} (hj : sm_inj zm_sy wc) (N : Nat) (S : sm_St) : sm_Ct l zm_sy wc ym_readsThing prog_12_method_90_code 1 (some .boolean) 5 111 [.ref (wc.2.2 0)] S (sm_Pi zm_sy wc) (pm_readsThing N S) :=
  sm_entry (Pq := fun wc => sm_Pi zm_sy wc) (fun wc => [.ref (wc.2.2 0)]) (lv := fun wc => [(0, .ref (wc.2.2 0))]) (by decide) hj zm_ok zm_stb (fun _ => Nat.le_of_ble_eq_true rfl) (fun _ => rfl) (fun x _ ok hr => tm_readsThing ok hr N S)
set_option maxHeartbeats 4000000 in
set_option maxRecDepth 20000 in
theorem tm_readsTouch_b76 {x : sm_Cx} (ok : sm_Ok x zm_sy prog_12_method_91_code "LentShadesModel" 3 5 111) (hr : (xh x).sig.returnType = (some .boolean)) (N : Nat) (v1 : Int32) (S : sm_St) : sm_Sm x zm_sy prog_12_method_91_code (sm_Q x zm_sy (sm_Pi zm_sy (xw x))) (pm_readsTouch_b76 N v1 S) S 76 [(0, .ref ((xw x).2.2 0)), (1, .int v1)] [] := by
  unfold pm_readsTouch_b76
  refine sm_aload_n (pc := 76) 0 ok dm_readsTouch_76 rfl ?_
  refine sm_getI (pc := 77) (ci := 10) (k := 25) ok dm_readsTouch_77 rfl rfl zc_i10 (by decide) rfl wd_1028 ?_
  refine sm_istore_n (pc := 80) (i := 2) ok dm_readsTouch_80 rfl (by decide) (fun v => [(2, .int v), (0, .ref ((xw x).2.2 0)), (1, .int v1)]) (fun _ => rfl) (fun v2_8 => ?_)
  refine sm_aload_n (pc := 81) 1 ok dm_readsTouch_81 rfl ?_
  refine sm_callV_v (pc := 82) (ci := 10) [] ok dm_readsTouch_82 wd_1441 mwm_goOn rfl rfl (Nat.le_of_ble_eq_true rfl) (Nat.le_of_ble_eq_true rfl) rfl rfl (Nat.le_of_ble_eq_true rfl) (cm_goOn (sm_okj ok) N S) (fun S_9 => ?_)
  refine sm_aload_n (pc := 85) 1 ok dm_readsTouch_85 rfl ?_
  refine sm_iconst (pc := 86) (0 : Int32) ok dm_readsTouch_86 zk_0 ?_
  refine sm_iconst (pc := 87) (3 : Int32) ok dm_readsTouch_87 zk_3 ?_
  refine sm_callV_i (pc := 88) (ci := 10) [.int (0 : Int32), .int (3 : Int32)] ok dm_readsTouch_88 wd_1445 mwm_takesOne rfl rfl (Nat.le_of_ble_eq_true rfl) (Nat.le_of_ble_eq_true rfl) rfl rfl (Nat.le_of_ble_eq_true rfl) (cm_takesOne (sm_okj ok) N S_9 (0 : Int32) (3 : Int32)) (fun r_11 S_10 => ?_)
  refine sm_if_ne (pc := 91) 96 ok dm_readsTouch_91 (by decide) (fun _ => ?_) (fun _ => ?_)
  · refine sm_aload_n (pc := 96) 1 ok dm_readsTouch_96 rfl ?_
    refine sm_getR (pc := 97) (ci := 10) (k := 27) ok dm_readsTouch_97 rfl rfl zc_i10 (by decide) rfl wd_1030 ?_
    refine sm_iconst (pc := 100) (0 : Int32) ok dm_readsTouch_100 zk_0 ?_
    refine sm_iload_n (pc := 101) 2 ok dm_readsTouch_101 rfl ?_
    refine sm_iload_n (pc := 102) 0 ok dm_readsTouch_102 rfl ?_
    refine sm_aload_n (pc := 103) 1 ok dm_readsTouch_103 rfl ?_
    refine sm_getI (pc := 104) (ci := 10) (k := 31) ok dm_readsTouch_104 rfl rfl zc_i10 (by decide) rfl wd_1034 ?_
    refine sm_callS_v (pc := 107) [.ref ((xw x).2.2 19), .int (0 : Int32), .int v1, .int v2_8, .int (S_10.1 0 31)] ok dm_readsTouch_107 wd_1158 mwm_putHours (Nat.le_of_ble_eq_true rfl) (Nat.le_of_ble_eq_true rfl) rfl rfl (Nat.le_of_ble_eq_true rfl) (cm_putHours (sm_okj ok) N S_10 19 (0 : Int32) v1 v2_8 (S_10.1 0 31) (sm_tag rfl)) (fun S_12 => ?_)
    refine sm_iconst (pc := 110) (1 : Int32) ok dm_readsTouch_110 zk_1 ?_
    exact sm_zret (pc := 111) ok dm_readsTouch_111 hr rfl
  · refine sm_iconst (pc := 94) (0 : Int32) ok dm_readsTouch_94 zk_0 ?_
    exact sm_zret (pc := 95) ok dm_readsTouch_95 hr rfl
set_option maxHeartbeats 4000000 in
set_option maxRecDepth 20000 in
theorem tm_readsTouch {x : sm_Cx} (ok : sm_Ok x zm_sy prog_12_method_91_code "LentShadesModel" 3 5 111) (hr : (xh x).sig.returnType = (some .boolean)) (N : Nat) (S : sm_St) : sm_Sm x zm_sy prog_12_method_91_code (sm_Q x zm_sy (sm_Pi zm_sy (xw x))) (pm_readsTouch N S) S 0 [(0, .ref ((xw x).2.2 0))] [] := by
  unfold pm_readsTouch
  refine sm_aload_n (pc := 0) 0 ok dm_readsTouch_0 rfl ?_
  refine sm_callV_v (pc := 1) (ci := 10) [] ok dm_readsTouch_1 wd_1441 mwm_goOn rfl rfl (Nat.le_of_ble_eq_true rfl) (Nat.le_of_ble_eq_true rfl) rfl rfl (Nat.le_of_ble_eq_true rfl) (cm_goOn (sm_okj ok) N S) (fun S_1 => ?_)
  refine sm_aload_n (pc := 4) 0 ok dm_readsTouch_4 rfl ?_
  refine sm_getI (pc := 5) (ci := 10) (k := 24) ok dm_readsTouch_5 rfl rfl zc_i10 (by decide) rfl wd_1027 ?_
  refine sm_iconst (pc := 8) (2 : Int32) ok dm_readsTouch_8 zk_2 ?_
  refine sm_icmp_ne (pc := 9) 23 ok dm_readsTouch_9 (by decide) (fun _ => ?_) (fun _ => ?_)
  · refine sm_iconst (pc := 23) (0 : Int32) ok dm_readsTouch_23 zk_0 ?_
    exact sm_zret (pc := 24) ok dm_readsTouch_24 hr rfl
  · refine sm_aload_n (pc := 12) 0 ok dm_readsTouch_12 rfl ?_
    refine sm_aload_n (pc := 13) 0 ok dm_readsTouch_13 rfl ?_
    refine sm_getI (pc := 14) (ci := 10) (k := 25) ok dm_readsTouch_14 rfl rfl zc_i10 (by decide) rfl wd_1028 ?_
    refine sm_callV_i (pc := 17) (ci := 10) [.int (S_1.1 0 25)] ok dm_readsTouch_17 wd_1457 mwm_isReadNumber rfl rfl (Nat.le_of_ble_eq_true rfl) (Nat.le_of_ble_eq_true rfl) rfl rfl (Nat.le_of_ble_eq_true rfl) (cm_isReadNumber (sm_okj ok) N S_1 (S_1.1 0 25)) (fun r_3 S_2 => ?_)
    refine sm_if_ne (pc := 20) 25 ok dm_readsTouch_20 (by decide) (fun _ => ?_) (fun _ => ?_)
    · refine sm_aload_n (pc := 25) 0 ok dm_readsTouch_25 rfl ?_
      refine sm_getI (pc := 26) (ci := 10) (k := 25) ok dm_readsTouch_26 rfl rfl zc_i10 (by decide) rfl wd_1028 ?_
      refine sm_istore_n (pc := 29) (i := 1) ok dm_readsTouch_29 rfl (by decide) (fun v => [(1, .int v), (0, .ref ((xw x).2.2 0))]) (fun _ => rfl) (fun v1_4 => ?_)
      refine sm_aload_n (pc := 30) 1 ok dm_readsTouch_30 rfl ?_
      refine sm_callV_v (pc := 31) (ci := 10) [] ok dm_readsTouch_31 wd_1441 mwm_goOn rfl rfl (Nat.le_of_ble_eq_true rfl) (Nat.le_of_ble_eq_true rfl) rfl rfl (Nat.le_of_ble_eq_true rfl) (cm_goOn (sm_okj ok) N S_2) (fun S_5 => ?_)
      refine sm_aload_n (pc := 34) 1 ok dm_readsTouch_34 rfl ?_
      refine sm_getI (pc := 35) (ci := 10) (k := 24) ok dm_readsTouch_35 rfl rfl zc_i10 (by decide) rfl wd_1027 ?_
      refine sm_iconst (pc := 38) (2 : Int32) ok dm_readsTouch_38 zk_2 ?_
      refine sm_icmp_ne (pc := 39) 74 ok dm_readsTouch_39 (by decide) (fun _ => ?_) (fun _ => ?_)
      · refine sm_iconst (pc := 74) (0 : Int32) ok dm_readsTouch_74 zk_0 ?_
        exact sm_zret (pc := 75) ok dm_readsTouch_75 hr rfl
      · refine sm_aload_n (pc := 42) 1 ok dm_readsTouch_42 rfl ?_
        refine sm_aload_n (pc := 43) 1 ok dm_readsTouch_43 rfl ?_
        refine sm_getI (pc := 44) (ci := 10) (k := 25) ok dm_readsTouch_44 rfl rfl zc_i10 (by decide) rfl wd_1028 ?_
        refine sm_callV_i (pc := 47) (ci := 10) [.int (S_5.1 0 25)] ok dm_readsTouch_47 wd_1457 mwm_isReadNumber rfl rfl (Nat.le_of_ble_eq_true rfl) (Nat.le_of_ble_eq_true rfl) rfl rfl (Nat.le_of_ble_eq_true rfl) (cm_isReadNumber (sm_okj ok) N S_5 (S_5.1 0 25)) (fun r_7 S_6 => ?_)
        refine sm_if_eq (pc := 50) 74 ok dm_readsTouch_50 (by decide) (fun _ => ?_) (fun _ => ?_)
        · refine sm_iconst (pc := 74) (0 : Int32) ok dm_readsTouch_74 zk_0 ?_
          exact sm_zret (pc := 75) ok dm_readsTouch_75 hr rfl
        · refine sm_aload_n (pc := 53) 1 ok dm_readsTouch_53 rfl ?_
          refine sm_getI (pc := 54) (ci := 10) (k := 25) ok dm_readsTouch_54 rfl rfl zc_i10 (by decide) rfl wd_1028 ?_
          refine sm_iload_n (pc := 57) 0 ok dm_readsTouch_57 rfl ?_
          refine sm_icmp_eq (pc := 58) 74 ok dm_readsTouch_58 (by decide) (fun _ => ?_) (fun _ => ?_)
          · refine sm_iconst (pc := 74) (0 : Int32) ok dm_readsTouch_74 zk_0 ?_
            exact sm_zret (pc := 75) ok dm_readsTouch_75 hr rfl
          · refine sm_iload_n (pc := 61) 0 ok dm_readsTouch_61 rfl ?_
            refine sm_iconst (pc := 62) (3 : Int32) ok dm_readsTouch_62 zk_3 ?_
            refine sm_icmp_le (pc := 63) 76 ok dm_readsTouch_63 (by decide) (fun _ => ?_) (fun _ => ?_)
            · refine sm_lv [1, 0] rfl ?_
              exact tm_readsTouch_b76 ok hr N _ _
            · refine sm_aload_n (pc := 66) 1 ok dm_readsTouch_66 rfl ?_
              refine sm_getI (pc := 67) (ci := 10) (k := 25) ok dm_readsTouch_67 rfl rfl zc_i10 (by decide) rfl wd_1028 ?_
              refine sm_iconst (pc := 70) (3 : Int32) ok dm_readsTouch_70 zk_3 ?_
              refine sm_icmp_le (pc := 71) 76 ok dm_readsTouch_71 (by decide) (fun _ => ?_) (fun _ => ?_)
              · refine sm_lv [1, 0] rfl ?_
                exact tm_readsTouch_b76 ok hr N _ _
              · refine sm_iconst (pc := 74) (0 : Int32) ok dm_readsTouch_74 zk_0 ?_
                exact sm_zret (pc := 75) ok dm_readsTouch_75 hr rfl
    · refine sm_iconst (pc := 23) (0 : Int32) ok dm_readsTouch_23 zk_0 ?_
      exact sm_zret (pc := 24) ok dm_readsTouch_24 hr rfl
theorem cm_readsTouch {l : Launch} {wc : sm_Wc} (hj : sm_inj zm_sy wc) (N : Nat) (S : sm_St) : sm_Ct l zm_sy wc ym_readsTouch prog_12_method_91_code 3 (some .boolean) 5 111 [.ref (wc.2.2 0)] S (sm_Pi zm_sy wc) (pm_readsTouch N S) :=
  sm_entry (Pq := fun wc => sm_Pi zm_sy wc) (fun wc => [.ref (wc.2.2 0)]) (lv := fun wc => [(0, .ref (wc.2.2 0))]) (by decide) hj zm_ok zm_stb (fun _ => Nat.le_of_ble_eq_true rfl) (fun _ => rfl) (fun x _ ok hr => tm_readsTouch ok hr N S)
set_option maxHeartbeats 4000000 in
set_option maxRecDepth 20000 in
theorem tm_readsItem {x : sm_Cx} (ok : sm_Ok x zm_sy prog_12_method_92_code "LentShadesModel" 1 6 133) (hr : (xh x).sig.returnType = (some .boolean)) (N : Nat) (S : sm_St) : sm_Sm x zm_sy prog_12_method_92_code (sm_Q x zm_sy (sm_Pi zm_sy (xw x))) (pm_readsItem N S) S 0 [(0, .ref ((xw x).2.2 0))] [] := by
  unfold pm_readsItem
  refine sm_aload_n (pc := 0) 0 ok dm_readsItem_0 rfl ?_
  refine sm_bipush (pc := 1) (99 : Int32) ok dm_readsItem_1 zb_99 ?_
  refine sm_bipush (pc := 3) (108 : Int32) ok dm_readsItem_3 zb_108 ?_
  refine sm_bipush (pc := 5) (111 : Int32) ok dm_readsItem_5 zb_111 ?_
  refine sm_bipush (pc := 7) (116 : Int32) ok dm_readsItem_7 zb_116 ?_
  refine sm_bipush (pc := 9) (104 : Int32) ok dm_readsItem_9 zb_104 ?_
  refine sm_callV_i (pc := 11) (ci := 10) [.int (99 : Int32), .int (108 : Int32), .int (111 : Int32), .int (116 : Int32), .int (104 : Int32)] ok dm_readsItem_11 wd_1433 mwm_isWord rfl rfl (Nat.le_of_ble_eq_true rfl) (Nat.le_of_ble_eq_true rfl) rfl rfl (Nat.le_of_ble_eq_true rfl) (cm_isWord (sm_okj ok) N S (99 : Int32) (108 : Int32) (111 : Int32) (116 : Int32) (104 : Int32)) (fun r_2 S_1 => ?_)
  refine sm_if_eq (pc := 14) 22 ok dm_readsItem_14 (by decide) (fun _ => ?_) (fun _ => ?_)
  · refine sm_aload_n (pc := 22) 0 ok dm_readsItem_22 rfl ?_
    refine sm_bipush (pc := 23) (116 : Int32) ok dm_readsItem_23 zb_116 ?_
    refine sm_bipush (pc := 25) (104 : Int32) ok dm_readsItem_25 zb_104 ?_
    refine sm_bipush (pc := 27) (105 : Int32) ok dm_readsItem_27 zb_105 ?_
    refine sm_bipush (pc := 29) (110 : Int32) ok dm_readsItem_29 zb_110 ?_
    refine sm_bipush (pc := 31) (103 : Int32) ok dm_readsItem_31 zb_103 ?_
    refine sm_callV_i (pc := 33) (ci := 10) [.int (116 : Int32), .int (104 : Int32), .int (105 : Int32), .int (110 : Int32), .int (103 : Int32)] ok dm_readsItem_33 wd_1433 mwm_isWord rfl rfl (Nat.le_of_ble_eq_true rfl) (Nat.le_of_ble_eq_true rfl) rfl rfl (Nat.le_of_ble_eq_true rfl) (cm_isWord (sm_okj ok) N S_1 (116 : Int32) (104 : Int32) (105 : Int32) (110 : Int32) (103 : Int32)) (fun r_4 S_3 => ?_)
    refine sm_if_eq (pc := 36) 44 ok dm_readsItem_36 (by decide) (fun _ => ?_) (fun _ => ?_)
    · refine sm_aload_n (pc := 44) 0 ok dm_readsItem_44 rfl ?_
      refine sm_bipush (pc := 45) (116 : Int32) ok dm_readsItem_45 zb_116 ?_
      refine sm_bipush (pc := 47) (111 : Int32) ok dm_readsItem_47 zb_111 ?_
      refine sm_bipush (pc := 49) (117 : Int32) ok dm_readsItem_49 zb_117 ?_
      refine sm_bipush (pc := 51) (99 : Int32) ok dm_readsItem_51 zb_99 ?_
      refine sm_bipush (pc := 53) (104 : Int32) ok dm_readsItem_53 zb_104 ?_
      refine sm_callV_i (pc := 55) (ci := 10) [.int (116 : Int32), .int (111 : Int32), .int (117 : Int32), .int (99 : Int32), .int (104 : Int32)] ok dm_readsItem_55 wd_1433 mwm_isWord rfl rfl (Nat.le_of_ble_eq_true rfl) (Nat.le_of_ble_eq_true rfl) rfl rfl (Nat.le_of_ble_eq_true rfl) (cm_isWord (sm_okj ok) N S_3 (116 : Int32) (111 : Int32) (117 : Int32) (99 : Int32) (104 : Int32)) (fun r_6 S_5 => ?_)
      refine sm_if_eq (pc := 58) 72 ok dm_readsItem_58 (by decide) (fun _ => ?_) (fun _ => ?_)
      · refine sm_iconst (pc := 72) (0 : Int32) ok dm_readsItem_72 zk_0 ?_
        exact sm_zret (pc := 73) ok dm_readsItem_73 hr rfl
      · refine sm_aload_n (pc := 61) 0 ok dm_readsItem_61 rfl ?_
        refine sm_callV_i (pc := 62) (ci := 10) [] ok dm_readsItem_62 wd_1453 mwm_readsTouch rfl rfl (Nat.le_of_ble_eq_true rfl) (Nat.le_of_ble_eq_true rfl) rfl rfl (Nat.le_of_ble_eq_true rfl) (cm_readsTouch (sm_okj ok) N S_5) (fun r_8 S_7 => ?_)
        refine sm_if_eq (pc := 65) 72 ok dm_readsItem_65 (by decide) (fun _ => ?_) (fun _ => ?_)
        · refine sm_iconst (pc := 72) (0 : Int32) ok dm_readsItem_72 zk_0 ?_
          exact sm_zret (pc := 73) ok dm_readsItem_73 hr rfl
        · refine sm_iconst (pc := 68) (1 : Int32) ok dm_readsItem_68 zk_1 ?_
          refine sm_goto (pc := 69) 73 ok dm_readsItem_69 (by decide) ?_
          exact sm_zret (pc := 73) ok dm_readsItem_73 hr rfl
    · refine sm_aload_n (pc := 39) 0 ok dm_readsItem_39 rfl ?_
      refine sm_callV_i (pc := 40) (ci := 10) [] ok dm_readsItem_40 wd_1449 mwm_readsThing rfl rfl (Nat.le_of_ble_eq_true rfl) (Nat.le_of_ble_eq_true rfl) rfl rfl (Nat.le_of_ble_eq_true rfl) (cm_readsThing (sm_okj ok) N S_3) (fun r_10 S_9 => ?_)
      exact sm_zretc (pc := 43) ok dm_readsItem_43 hr
  · refine sm_aload_n (pc := 17) 0 ok dm_readsItem_17 rfl ?_
    refine sm_callV_i (pc := 18) (ci := 10) [] ok dm_readsItem_18 wd_1437 mwm_readsCloth rfl rfl (Nat.le_of_ble_eq_true rfl) (Nat.le_of_ble_eq_true rfl) rfl rfl (Nat.le_of_ble_eq_true rfl) (cm_readsCloth (sm_okj ok) N S_1) (fun r_12 S_11 => ?_)
    exact sm_zretc (pc := 21) ok dm_readsItem_21 hr
theorem cm_readsItem {l : Launch} {wc : sm_Wc} (hj : sm_inj zm_sy wc) (N : Nat) (S : sm_St) : sm_Ct l zm_sy wc ym_readsItem prog_12_method_92_code 1 (some .boolean) 6 133 [.ref (wc.2.2 0)] S (sm_Pi zm_sy wc) (pm_readsItem N S) :=
  sm_entry (Pq := fun wc => sm_Pi zm_sy wc) (fun wc => [.ref (wc.2.2 0)]) (lv := fun wc => [(0, .ref (wc.2.2 0))]) (by decide) hj zm_ok zm_stb (fun _ => Nat.le_of_ble_eq_true rfl) (fun _ => rfl) (fun x _ ok hr => tm_readsItem ok hr N S)
set_option maxHeartbeats 4000000 in
set_option maxRecDepth 20000 in
theorem tm_putRead_b106 {x : sm_Cx} (ok : sm_Ok x zm_sy prog_12_method_94_code "LentShadesModel" 3 1 25) (hr : (xh x).sig.returnType = none) (N : Nat) : ∀ (n : Nat) (v1 : Int32) (S : sm_St), sm_Sm x zm_sy prog_12_method_94_code (sm_Q x zm_sy (sm_Pv zm_sy (xw x))) (pm_putRead_b106 N n v1 S) S 106 [(0, .ref ((xw x).2.2 0)), (1, .int v1)] [] := by
  intro n
  induction n with
  | zero =>
    intro v1 S
    exact sm_none
  | succ n ih =>
    intro v1 S
    show sm_Sm x zm_sy prog_12_method_94_code (sm_Q x zm_sy (sm_Pv zm_sy (xw x))) (if (S.1 0 30) ≤ v1 then (if sm_in (76 : Int32) 81 = true then sm_lt (sm_sI S 1 (76 : Int32).toNatClampNeg (S.1 0 29)) (fun (S_10 : sm_St) => if sm_in (77 : Int32) 81 = true then sm_lt (sm_sI S_10 1 (77 : Int32).toNatClampNeg (S_10.1 0 30)) (fun (S_11 : sm_St) => if sm_in (78 : Int32) 81 = true then sm_lt (sm_sI S_11 1 (78 : Int32).toNatClampNeg (0 : Int32)) (fun (S_12 : sm_St) => if sm_in (79 : Int32) 81 = true then sm_lt (sm_sI S_12 1 (79 : Int32).toNatClampNeg (0 : Int32)) (fun (S_13 : sm_St) => some S_13) else none) else none) else none) else none) else (if sm_in v1 4 = true then (if sm_in ((48 : Int32) + v1) 81 = true then sm_lt (sm_sI S 1 ((48 : Int32) + v1).toNatClampNeg (S.1 20 v1.toNatClampNeg)) (fun (S_14 : sm_St) => sm_lt (v1 + (1 : Int32)) (fun (v1_15 : Int32) => (pm_putRead_b106 N n) v1_15 S_14)) else none) else none)) S 106 [(0, .ref ((xw x).2.2 0)), (1, .int v1)] []
    refine sm_iload_n (pc := 106) 1 ok dm_putRead_106 rfl ?_
    refine sm_aload_n (pc := 107) 0 ok dm_putRead_107 rfl ?_
    refine sm_getI (pc := 108) (ci := 10) (k := 30) ok dm_putRead_108 rfl rfl zc_i10 (by decide) rfl wd_1033 ?_
    refine sm_icmp_ge (pc := 111) 135 ok dm_putRead_111 (by decide) (fun _ => ?_) (fun _ => ?_)
    · refine sm_aload_n (pc := 135) 0 ok dm_putRead_135 rfl ?_
      refine sm_getR (pc := 136) (ci := 10) (k := 0) ok dm_putRead_136 rfl rfl zc_i10 (by decide) rfl wd_1003 ?_
      refine sm_bipush (pc := 139) (76 : Int32) ok dm_putRead_139 zb_76 ?_
      refine sm_aload_n (pc := 141) 0 ok dm_putRead_141 rfl ?_
      refine sm_getI (pc := 142) (ci := 10) (k := 29) ok dm_putRead_142 rfl rfl zc_i10 (by decide) rfl wd_1032 ?_
      refine sm_iast (pc := 145) ok dm_putRead_145 rfl (fun S_10 => ?_)
      refine sm_aload_n (pc := 146) 0 ok dm_putRead_146 rfl ?_
      refine sm_getR (pc := 147) (ci := 10) (k := 0) ok dm_putRead_147 rfl rfl zc_i10 (by decide) rfl wd_1003 ?_
      refine sm_bipush (pc := 150) (77 : Int32) ok dm_putRead_150 zb_77 ?_
      refine sm_aload_n (pc := 152) 0 ok dm_putRead_152 rfl ?_
      refine sm_getI (pc := 153) (ci := 10) (k := 30) ok dm_putRead_153 rfl rfl zc_i10 (by decide) rfl wd_1033 ?_
      refine sm_iast (pc := 156) ok dm_putRead_156 rfl (fun S_11 => ?_)
      refine sm_aload_n (pc := 157) 0 ok dm_putRead_157 rfl ?_
      refine sm_getR (pc := 158) (ci := 10) (k := 0) ok dm_putRead_158 rfl rfl zc_i10 (by decide) rfl wd_1003 ?_
      refine sm_bipush (pc := 161) (78 : Int32) ok dm_putRead_161 zb_78 ?_
      refine sm_iconst (pc := 163) (0 : Int32) ok dm_putRead_163 zk_0 ?_
      refine sm_iast (pc := 164) ok dm_putRead_164 rfl (fun S_12 => ?_)
      refine sm_aload_n (pc := 165) 0 ok dm_putRead_165 rfl ?_
      refine sm_getR (pc := 166) (ci := 10) (k := 0) ok dm_putRead_166 rfl rfl zc_i10 (by decide) rfl wd_1003 ?_
      refine sm_bipush (pc := 169) (79 : Int32) ok dm_putRead_169 zb_79 ?_
      refine sm_iconst (pc := 171) (0 : Int32) ok dm_putRead_171 zk_0 ?_
      refine sm_iast (pc := 172) ok dm_putRead_172 rfl (fun S_13 => ?_)
      exact sm_vret (pc := 173) ok dm_putRead_173 hr
    · refine sm_aload_n (pc := 114) 0 ok dm_putRead_114 rfl ?_
      refine sm_getR (pc := 115) (ci := 10) (k := 0) ok dm_putRead_115 rfl rfl zc_i10 (by decide) rfl wd_1003 ?_
      refine sm_bipush (pc := 118) (48 : Int32) ok dm_putRead_118 zb_48 ?_
      refine sm_iload_n (pc := 120) 1 ok dm_putRead_120 rfl ?_
      refine sm_iadd (pc := 121) ok dm_putRead_121 ?_
      refine sm_aload_n (pc := 122) 0 ok dm_putRead_122 rfl ?_
      refine sm_getR (pc := 123) (ci := 10) (k := 28) ok dm_putRead_123 rfl rfl zc_i10 (by decide) rfl wd_1031 ?_
      refine sm_iload_n (pc := 126) 1 ok dm_putRead_126 rfl ?_
      refine sm_iald (pc := 127) ok dm_putRead_127 rfl ?_
      refine sm_iast (pc := 128) ok dm_putRead_128 rfl (fun S_14 => ?_)
      refine sm_iinc (pc := 129) (i := 1) 1 (1 : Int32) ok dm_putRead_129 rfl zk_1 (by decide) (fun v => [(1, .int v), (0, .ref ((xw x).2.2 0))]) (fun _ => rfl) (fun v1_15 => ?_)
      refine sm_goto (pc := 132) 106 ok dm_putRead_132 (by decide) ?_
      refine sm_lv [1, 0] rfl ?_
      exact ih _ _
set_option maxHeartbeats 4000000 in
set_option maxRecDepth 20000 in
theorem tm_putRead_b61 {x : sm_Cx} (ok : sm_Ok x zm_sy prog_12_method_94_code "LentShadesModel" 3 1 25) (hr : (xh x).sig.returnType = none) (N : Nat) {r9 : Int32 → sm_St → Option (sm_St)} (h9 : ∀ (v1 : Int32) (S : sm_St), sm_Sm x zm_sy prog_12_method_94_code (sm_Q x zm_sy (sm_Pv zm_sy (xw x))) (r9 v1 S) S 9 [(0, .ref ((xw x).2.2 0)), (1, .int v1)] []) : ∀ (n : Nat) (v1 : Int32) (v2 : Int32) (S : sm_St), sm_Sm x zm_sy prog_12_method_94_code (sm_Q x zm_sy (sm_Pv zm_sy (xw x))) (pm_putRead_b61 N r9 n v1 v2 S) S 61 [(0, .ref ((xw x).2.2 0)), (1, .int v1), (2, .int v2)] [] := by
  intro n
  induction n with
  | zero =>
    intro v1 v2 S
    exact sm_none
  | succ n ih =>
    intro v1 v2 S
    show sm_Sm x zm_sy prog_12_method_94_code (sm_Q x zm_sy (sm_Pv zm_sy (xw x))) (if (8 : Int32) ≤ v2 then (sm_lt (v1 + (1 : Int32)) (fun (v1_7 : Int32) => r9 v1_7 S)) else (if sm_in (((8 : Int32) * v1) + v2) 32 = true then (if sm_in (((16 : Int32) + ((8 : Int32) * v1)) + v2) 81 = true then sm_lt (sm_sI S 1 (((16 : Int32) + ((8 : Int32) * v1)) + v2).toNatClampNeg (S.1 19 (((8 : Int32) * v1) + v2).toNatClampNeg)) (fun (S_8 : sm_St) => sm_lt (v2 + (1 : Int32)) (fun (v2_9 : Int32) => (pm_putRead_b61 N r9 n) v1 v2_9 S_8)) else none) else none)) S 61 [(0, .ref ((xw x).2.2 0)), (1, .int v1), (2, .int v2)] []
    refine sm_iload_n (pc := 61) 2 ok dm_putRead_61 rfl ?_
    refine sm_bipush (pc := 62) (8 : Int32) ok dm_putRead_62 zb_8 ?_
    refine sm_icmp_ge (pc := 64) 98 ok dm_putRead_64 (by decide) (fun _ => ?_) (fun _ => ?_)
    · refine sm_iinc (pc := 98) (i := 1) 1 (1 : Int32) ok dm_putRead_98 rfl zk_1 (by decide) (fun v => [(1, .int v), (0, .ref ((xw x).2.2 0)), (2, .int v2)]) (fun _ => rfl) (fun v1_7 => ?_)
      refine sm_goto (pc := 101) 9 ok dm_putRead_101 (by decide) ?_
      refine sm_lv [1, 0] rfl ?_
      exact h9 _ _
    · refine sm_aload_n (pc := 67) 0 ok dm_putRead_67 rfl ?_
      refine sm_getR (pc := 68) (ci := 10) (k := 0) ok dm_putRead_68 rfl rfl zc_i10 (by decide) rfl wd_1003 ?_
      refine sm_bipush (pc := 71) (16 : Int32) ok dm_putRead_71 zb_16 ?_
      refine sm_bipush (pc := 73) (8 : Int32) ok dm_putRead_73 zb_8 ?_
      refine sm_iload_n (pc := 75) 1 ok dm_putRead_75 rfl ?_
      refine sm_imul (pc := 76) ok dm_putRead_76 ?_
      refine sm_iadd (pc := 77) ok dm_putRead_77 ?_
      refine sm_iload_n (pc := 78) 2 ok dm_putRead_78 rfl ?_
      refine sm_iadd (pc := 79) ok dm_putRead_79 ?_
      refine sm_aload_n (pc := 80) 0 ok dm_putRead_80 rfl ?_
      refine sm_getR (pc := 81) (ci := 10) (k := 27) ok dm_putRead_81 rfl rfl zc_i10 (by decide) rfl wd_1030 ?_
      refine sm_bipush (pc := 84) (8 : Int32) ok dm_putRead_84 zb_8 ?_
      refine sm_iload_n (pc := 86) 1 ok dm_putRead_86 rfl ?_
      refine sm_imul (pc := 87) ok dm_putRead_87 ?_
      refine sm_iload_n (pc := 88) 2 ok dm_putRead_88 rfl ?_
      refine sm_iadd (pc := 89) ok dm_putRead_89 ?_
      refine sm_iald (pc := 90) ok dm_putRead_90 rfl ?_
      refine sm_iast (pc := 91) ok dm_putRead_91 rfl (fun S_8 => ?_)
      refine sm_iinc (pc := 92) (i := 2) 2 (1 : Int32) ok dm_putRead_92 rfl zk_1 (by decide) (fun v => [(2, .int v), (0, .ref ((xw x).2.2 0)), (1, .int v1)]) (fun _ => rfl) (fun v2_9 => ?_)
      refine sm_goto (pc := 95) 61 ok dm_putRead_95 (by decide) ?_
      refine sm_lv [1, 2, 0] rfl ?_
      exact ih _ _ _
set_option maxHeartbeats 4000000 in
set_option maxRecDepth 20000 in
theorem tm_putRead_b9 {x : sm_Cx} (ok : sm_Ok x zm_sy prog_12_method_94_code "LentShadesModel" 3 1 25) (hr : (xh x).sig.returnType = none) (N : Nat) : ∀ (n : Nat) (v1 : Int32) (S : sm_St), sm_Sm x zm_sy prog_12_method_94_code (sm_Q x zm_sy (sm_Pv zm_sy (xw x))) (pm_putRead_b9 N n v1 S) S 9 [(0, .ref ((xw x).2.2 0)), (1, .int v1)] [] := by
  intro n
  induction n with
  | zero =>
    intro v1 S
    exact sm_none
  | succ n ih =>
    intro v1 S
    show sm_Sm x zm_sy prog_12_method_94_code (sm_Q x zm_sy (sm_Pv zm_sy (xw x))) (if (S.1 0 29) ≤ v1 then (sm_lt (0 : Int32) (fun (v1_3 : Int32) => pm_putRead_b106 N N v1_3 S)) else (if sm_in ((3 : Int32) * v1) 12 = true then (if sm_in (((3 : Int32) * v1) + (1 : Int32)) 12 = true then (sm_b1 (pm_layCloth N S v1 (S.1 18 ((3 : Int32) * v1).toNatClampNeg) (S.1 18 (((3 : Int32) * v1) + (1 : Int32)).toNatClampNeg)) (fun (S_4 : sm_St) => if sm_in (((3 : Int32) * v1) + (2 : Int32)) 12 = true then (sm_b1 (pm_set N S_4 ((19 : Int32) + v1) ((S_4.1 18 (((3 : Int32) * v1) + (2 : Int32)).toNatClampNeg).toInt64)) (fun (S_5 : sm_St) => sm_lt (0 : Int32) (fun (v2_6 : Int32) => pm_putRead_b61 N (pm_putRead_b9 N n) N v1 v2_6 S_5))) else none)) else none) else none)) S 9 [(0, .ref ((xw x).2.2 0)), (1, .int v1)] []
    refine sm_iload_n (pc := 9) 1 ok dm_putRead_9 rfl ?_
    refine sm_aload_n (pc := 10) 0 ok dm_putRead_10 rfl ?_
    refine sm_getI (pc := 11) (ci := 10) (k := 29) ok dm_putRead_11 rfl rfl zc_i10 (by decide) rfl wd_1032 ?_
    refine sm_icmp_ge (pc := 14) 104 ok dm_putRead_14 (by decide) (fun _ => ?_) (fun _ => ?_)
    · refine sm_iconst (pc := 104) (0 : Int32) ok dm_putRead_104 zk_0 ?_
      refine sm_istore_n (pc := 105) (i := 1) ok dm_putRead_105 rfl (by decide) (fun v => [(1, .int v), (0, .ref ((xw x).2.2 0))]) (fun _ => rfl) (fun v1_3 => ?_)
      refine sm_lv [1, 0] rfl ?_
      exact tm_putRead_b106 ok hr N N _ _
    · refine sm_aload_n (pc := 17) 0 ok dm_putRead_17 rfl ?_
      refine sm_iload_n (pc := 18) 1 ok dm_putRead_18 rfl ?_
      refine sm_aload_n (pc := 19) 0 ok dm_putRead_19 rfl ?_
      refine sm_getR (pc := 20) (ci := 10) (k := 26) ok dm_putRead_20 rfl rfl zc_i10 (by decide) rfl wd_1029 ?_
      refine sm_iconst (pc := 23) (3 : Int32) ok dm_putRead_23 zk_3 ?_
      refine sm_iload_n (pc := 24) 1 ok dm_putRead_24 rfl ?_
      refine sm_imul (pc := 25) ok dm_putRead_25 ?_
      refine sm_iald (pc := 26) ok dm_putRead_26 rfl ?_
      refine sm_aload_n (pc := 27) 0 ok dm_putRead_27 rfl ?_
      refine sm_getR (pc := 28) (ci := 10) (k := 26) ok dm_putRead_28 rfl rfl zc_i10 (by decide) rfl wd_1029 ?_
      refine sm_iconst (pc := 31) (3 : Int32) ok dm_putRead_31 zk_3 ?_
      refine sm_iload_n (pc := 32) 1 ok dm_putRead_32 rfl ?_
      refine sm_imul (pc := 33) ok dm_putRead_33 ?_
      refine sm_iconst (pc := 34) (1 : Int32) ok dm_putRead_34 zk_1 ?_
      refine sm_iadd (pc := 35) ok dm_putRead_35 ?_
      refine sm_iald (pc := 36) ok dm_putRead_36 rfl ?_
      refine sm_callV_v (pc := 37) (ci := 10) [.int v1, .int (S.1 18 ((3 : Int32) * v1).toNatClampNeg), .int (S.1 18 (((3 : Int32) * v1) + (1 : Int32)).toNatClampNeg)] ok dm_putRead_37 wd_1122 mwm_layCloth rfl rfl (Nat.le_of_ble_eq_true rfl) (Nat.le_of_ble_eq_true rfl) rfl rfl (Nat.le_of_ble_eq_true rfl) (cm_layCloth (sm_okj ok) N S v1 (S.1 18 ((3 : Int32) * v1).toNatClampNeg) (S.1 18 (((3 : Int32) * v1) + (1 : Int32)).toNatClampNeg)) (fun S_4 => ?_)
      refine sm_aload_n (pc := 40) 0 ok dm_putRead_40 rfl ?_
      refine sm_bipush (pc := 41) (19 : Int32) ok dm_putRead_41 zb_19 ?_
      refine sm_iload_n (pc := 43) 1 ok dm_putRead_43 rfl ?_
      refine sm_iadd (pc := 44) ok dm_putRead_44 ?_
      refine sm_aload_n (pc := 45) 0 ok dm_putRead_45 rfl ?_
      refine sm_getR (pc := 46) (ci := 10) (k := 26) ok dm_putRead_46 rfl rfl zc_i10 (by decide) rfl wd_1029 ?_
      refine sm_iconst (pc := 49) (3 : Int32) ok dm_putRead_49 zk_3 ?_
      refine sm_iload_n (pc := 50) 1 ok dm_putRead_50 rfl ?_
      refine sm_imul (pc := 51) ok dm_putRead_51 ?_
      refine sm_iconst (pc := 52) (2 : Int32) ok dm_putRead_52 zk_2 ?_
      refine sm_iadd (pc := 53) ok dm_putRead_53 ?_
      refine sm_iald (pc := 54) ok dm_putRead_54 rfl ?_
      refine sm_i2l (pc := 55) ok dm_putRead_55 ?_
      refine sm_callV_v (pc := 56) (ci := 10) [.int ((19 : Int32) + v1), .long ((S_4.1 18 (((3 : Int32) * v1) + (2 : Int32)).toNatClampNeg).toInt64)] ok dm_putRead_56 wd_998 mwm_set rfl rfl (Nat.le_of_ble_eq_true rfl) (Nat.le_of_ble_eq_true rfl) rfl rfl (Nat.le_of_ble_eq_true rfl) (cm_set (sm_okj ok) N S_4 ((19 : Int32) + v1) ((S_4.1 18 (((3 : Int32) * v1) + (2 : Int32)).toNatClampNeg).toInt64)) (fun S_5 => ?_)
      refine sm_iconst (pc := 59) (0 : Int32) ok dm_putRead_59 zk_0 ?_
      refine sm_istore_n (pc := 60) (i := 2) ok dm_putRead_60 rfl (by decide) (fun v => [(2, .int v), (0, .ref ((xw x).2.2 0)), (1, .int v1)]) (fun _ => rfl) (fun v2_6 => ?_)
      refine sm_lv [1, 2, 0] rfl ?_
      exact tm_putRead_b61 ok hr N ih N _ _ _
set_option maxHeartbeats 4000000 in
set_option maxRecDepth 20000 in
theorem tm_putRead {x : sm_Cx} (ok : sm_Ok x zm_sy prog_12_method_94_code "LentShadesModel" 3 1 25) (hr : (xh x).sig.returnType = none) (N : Nat) (S : sm_St) : sm_Sm x zm_sy prog_12_method_94_code (sm_Q x zm_sy (sm_Pv zm_sy (xw x))) (pm_putRead N S) S 0 [(0, .ref ((xw x).2.2 0))] [] := by
  unfold pm_putRead
  refine sm_aload_n (pc := 0) 0 ok dm_putRead_0 rfl ?_
  refine sm_bipush (pc := 1) (23 : Int32) ok dm_putRead_1 zb_23 ?_
  refine sm_lconst (pc := 3) (1 : Int64) ok dm_putRead_3 zl_1 ?_
  refine sm_callV_v (pc := 4) (ci := 10) [.int (23 : Int32), .long (1 : Int64)] ok dm_putRead_4 wd_998 mwm_set rfl rfl (Nat.le_of_ble_eq_true rfl) (Nat.le_of_ble_eq_true rfl) rfl rfl (Nat.le_of_ble_eq_true rfl) (cm_set (sm_okj ok) N S (23 : Int32) (1 : Int64)) (fun S_1 => ?_)
  refine sm_iconst (pc := 7) (0 : Int32) ok dm_putRead_7 zk_0 ?_
  refine sm_istore_n (pc := 8) (i := 1) ok dm_putRead_8 rfl (by decide) (fun v => [(1, .int v), (0, .ref ((xw x).2.2 0))]) (fun _ => rfl) (fun v1_2 => ?_)
  refine sm_lv [1, 0] rfl ?_
  exact tm_putRead_b9 ok hr N N _ _
theorem cm_putRead {l : Launch} {wc : sm_Wc} (hj : sm_inj zm_sy wc) (N : Nat) (S : sm_St) : sm_Ct l zm_sy wc ym_putRead prog_12_method_94_code 3 none 1 25 [.ref (wc.2.2 0)] S (sm_Pv zm_sy wc) (pm_putRead N S) :=
  sm_entry (Pq := fun wc => sm_Pv zm_sy wc) (fun wc => [.ref (wc.2.2 0)]) (lv := fun wc => [(0, .ref (wc.2.2 0))]) (by decide) hj zm_ok zm_stb (fun _ => Nat.le_of_ble_eq_true rfl) (fun _ => rfl) (fun x _ ok hr => tm_putRead ok hr N S)
set_option maxHeartbeats 4000000 in
set_option maxRecDepth 20000 in
theorem tm_read_b60 {x : sm_Cx} (ok : sm_Ok x zm_sy prog_12_method_93_code "LentShadesModel" 2 7 153) (hr : (xh x).sig.returnType = (some .int)) (N : Nat) (S : sm_St) : sm_Sm x zm_sy prog_12_method_93_code (sm_Q x zm_sy (sm_Pi zm_sy (xw x))) (pm_read_b60 N S) S 60 [(0, .ref ((xw x).2.2 0))] [] := by
  unfold pm_read_b60
  refine sm_bipush (pc := 60) (-10 : Int32) ok dm_read_60 zb_m10 ?_
  refine sm_aload_n (pc := 62) 0 ok dm_read_62 rfl ?_
  refine sm_getI (pc := 63) (ci := 10) (k := 22) ok dm_read_63 rfl rfl zc_i10 (by decide) rfl wd_1025 ?_
  refine sm_isub (pc := 66) ok dm_read_66 ?_
  exact sm_iret (pc := 67) ok dm_read_67 hr
set_option maxHeartbeats 4000000 in
set_option maxRecDepth 20000 in
theorem tm_read_b38 {x : sm_Cx} (ok : sm_Ok x zm_sy prog_12_method_93_code "LentShadesModel" 2 7 153) (hr : (xh x).sig.returnType = (some .int)) (N : Nat) : ∀ (n : Nat) (v1 : Int32) (S : sm_St), sm_Sm x zm_sy prog_12_method_93_code (sm_Q x zm_sy (sm_Pi zm_sy (xw x))) (pm_read_b38 N n v1 S) S 38 [(0, .ref ((xw x).2.2 0)), (1, .int v1)] [] := by
  intro n
  induction n with
  | zero =>
    intro v1 S
    exact sm_none
  | succ n ih =>
    intro v1 S
    show sm_Sm x zm_sy prog_12_method_93_code (sm_Q x zm_sy (sm_Pi zm_sy (xw x))) (if (S.1 0 24) = 0 then (sm_b1 (pm_putRead N S) (fun (S_8 : sm_St) => some (v1, S_8))) else (sm_b2 (pm_readsItem N S) (fun (r_10 : Int32) (S_9 : sm_St) => if r_10 = 0 then (pm_read_b60 N S_9) else (if (S_9.1 0 24) = (3 : Int32) then (sm_b1 (pm_goOn N S_9) (fun (S_11 : sm_St) => sm_lt (v1 + (1 : Int32)) (fun (v1_12 : Int32) => (pm_read_b38 N n) v1_12 S_11))) else (pm_read_b60 N S_9))))) S 38 [(0, .ref ((xw x).2.2 0)), (1, .int v1)] []
    refine sm_aload_n (pc := 38) 0 ok dm_read_38 rfl ?_
    refine sm_getI (pc := 39) (ci := 10) (k := 24) ok dm_read_39 rfl rfl zc_i10 (by decide) rfl wd_1027 ?_
    refine sm_if_eq (pc := 42) 78 ok dm_read_42 (by decide) (fun _ => ?_) (fun _ => ?_)
    · refine sm_aload_n (pc := 78) 0 ok dm_read_78 rfl ?_
      refine sm_callV_v (pc := 79) (ci := 10) [] ok dm_read_79 wd_1461 mwm_putRead rfl rfl (Nat.le_of_ble_eq_true rfl) (Nat.le_of_ble_eq_true rfl) rfl rfl (Nat.le_of_ble_eq_true rfl) (cm_putRead (sm_okj ok) N S) (fun S_8 => ?_)
      refine sm_iload_n (pc := 82) 1 ok dm_read_82 rfl ?_
      exact sm_iret (pc := 83) ok dm_read_83 hr
    · refine sm_aload_n (pc := 45) 0 ok dm_read_45 rfl ?_
      refine sm_callV_i (pc := 46) (ci := 10) [] ok dm_read_46 wd_1429 mwm_readsItem rfl rfl (Nat.le_of_ble_eq_true rfl) (Nat.le_of_ble_eq_true rfl) rfl rfl (Nat.le_of_ble_eq_true rfl) (cm_readsItem (sm_okj ok) N S) (fun r_10 S_9 => ?_)
      refine sm_if_eq (pc := 49) 60 ok dm_read_49 (by decide) (fun _ => ?_) (fun _ => ?_)
      · refine sm_lv [0] rfl ?_
        exact tm_read_b60 ok hr N _
      · refine sm_aload_n (pc := 52) 0 ok dm_read_52 rfl ?_
        refine sm_getI (pc := 53) (ci := 10) (k := 24) ok dm_read_53 rfl rfl zc_i10 (by decide) rfl wd_1027 ?_
        refine sm_iconst (pc := 56) (3 : Int32) ok dm_read_56 zk_3 ?_
        refine sm_icmp_eq (pc := 57) 68 ok dm_read_57 (by decide) (fun _ => ?_) (fun _ => ?_)
        · refine sm_aload_n (pc := 68) 0 ok dm_read_68 rfl ?_
          refine sm_callV_v (pc := 69) (ci := 10) [] ok dm_read_69 wd_1441 mwm_goOn rfl rfl (Nat.le_of_ble_eq_true rfl) (Nat.le_of_ble_eq_true rfl) rfl rfl (Nat.le_of_ble_eq_true rfl) (cm_goOn (sm_okj ok) N S_9) (fun S_11 => ?_)
          refine sm_iinc (pc := 72) (i := 1) 1 (1 : Int32) ok dm_read_72 rfl zk_1 (by decide) (fun v => [(1, .int v), (0, .ref ((xw x).2.2 0))]) (fun _ => rfl) (fun v1_12 => ?_)
          refine sm_goto (pc := 75) 38 ok dm_read_75 (by decide) ?_
          refine sm_lv [1, 0] rfl ?_
          exact ih _ _
        · refine sm_lv [0] rfl ?_
          exact tm_read_b60 ok hr N _
set_option maxHeartbeats 4000000 in
set_option maxRecDepth 20000 in
theorem tm_read_b12 {x : sm_Cx} (ok : sm_Ok x zm_sy prog_12_method_93_code "LentShadesModel" 2 7 153) (hr : (xh x).sig.returnType = (some .int)) (N : Nat) : ∀ (n : Nat) (v1 : Int32) (S : sm_St), sm_Sm x zm_sy prog_12_method_93_code (sm_Q x zm_sy (sm_Pi zm_sy (xw x))) (pm_read_b12 N n v1 S) S 12 [(0, .ref ((xw x).2.2 0)), (1, .int v1)] [] := by
  intro n
  induction n with
  | zero =>
    intro v1 S
    exact sm_none
  | succ n ih =>
    intro v1 S
    show sm_Sm x zm_sy prog_12_method_93_code (sm_Q x zm_sy (sm_Pi zm_sy (xw x))) (if (32 : Int32) ≤ v1 then (sm_lt (0 : Int32) (fun (v1_4 : Int32) => sm_b1 (pm_look N S (0 : Int32)) (fun (S_5 : sm_St) => pm_read_b38 N N v1_4 S_5))) else (if sm_in v1 32 = true then sm_lt (sm_sI S 19 v1.toNatClampNeg (0 : Int32)) (fun (S_6 : sm_St) => sm_lt (v1 + (1 : Int32)) (fun (v1_7 : Int32) => (pm_read_b12 N n) v1_7 S_6)) else none)) S 12 [(0, .ref ((xw x).2.2 0)), (1, .int v1)] []
    refine sm_iload_n (pc := 12) 1 ok dm_read_12 rfl ?_
    refine sm_bipush (pc := 13) (32 : Int32) ok dm_read_13 zb_32 ?_
    refine sm_icmp_ge (pc := 15) 31 ok dm_read_15 (by decide) (fun _ => ?_) (fun _ => ?_)
    · refine sm_iconst (pc := 31) (0 : Int32) ok dm_read_31 zk_0 ?_
      refine sm_istore_n (pc := 32) (i := 1) ok dm_read_32 rfl (by decide) (fun v => [(1, .int v), (0, .ref ((xw x).2.2 0))]) (fun _ => rfl) (fun v1_4 => ?_)
      refine sm_aload_n (pc := 33) 1 ok dm_read_33 rfl ?_
      refine sm_iconst (pc := 34) (0 : Int32) ok dm_read_34 zk_0 ?_
      refine sm_callV_v (pc := 35) (ci := 10) [.int (0 : Int32)] ok dm_read_35 wd_1415 mwm_look rfl rfl (Nat.le_of_ble_eq_true rfl) (Nat.le_of_ble_eq_true rfl) rfl rfl (Nat.le_of_ble_eq_true rfl) (cm_look (sm_okj ok) N S (0 : Int32)) (fun S_5 => ?_)
      refine sm_lv [1, 0] rfl ?_
      exact tm_read_b38 ok hr N N _ _
    · refine sm_aload_n (pc := 18) 0 ok dm_read_18 rfl ?_
      refine sm_getR (pc := 19) (ci := 10) (k := 27) ok dm_read_19 rfl rfl zc_i10 (by decide) rfl wd_1030 ?_
      refine sm_iload_n (pc := 22) 1 ok dm_read_22 rfl ?_
      refine sm_iconst (pc := 23) (0 : Int32) ok dm_read_23 zk_0 ?_
      refine sm_iast (pc := 24) ok dm_read_24 rfl (fun S_6 => ?_)
      refine sm_iinc (pc := 25) (i := 1) 1 (1 : Int32) ok dm_read_25 rfl zk_1 (by decide) (fun v => [(1, .int v), (0, .ref ((xw x).2.2 0))]) (fun _ => rfl) (fun v1_7 => ?_)
      refine sm_goto (pc := 28) 12 ok dm_read_28 (by decide) ?_
      refine sm_lv [1, 0] rfl ?_
      exact ih _ _
set_option maxHeartbeats 4000000 in
set_option maxRecDepth 20000 in
theorem tm_read {x : sm_Cx} (ok : sm_Ok x zm_sy prog_12_method_93_code "LentShadesModel" 2 7 153) (hr : (xh x).sig.returnType = (some .int)) (N : Nat) (S : sm_St) : sm_Sm x zm_sy prog_12_method_93_code (sm_Q x zm_sy (sm_Pi zm_sy (xw x))) (pm_read N S) S 0 [(0, .ref ((xw x).2.2 0))] [] := by
  unfold pm_read
  refine sm_aload_n (pc := 0) 0 ok dm_read_0 rfl ?_
  refine sm_iconst (pc := 1) (0 : Int32) ok dm_read_1 zk_0 ?_
  refine sm_putI (pc := 2) (ci := 10) (k := 29) ok dm_read_2 rfl rfl zc_i10 zc_y10 zc_t10 zc_n10 (by decide) rfl rfl rfl wd_1032 (fun S_1 => ?_)
  refine sm_aload_n (pc := 5) 0 ok dm_read_5 rfl ?_
  refine sm_iconst (pc := 6) (0 : Int32) ok dm_read_6 zk_0 ?_
  refine sm_putI (pc := 7) (ci := 10) (k := 30) ok dm_read_7 rfl rfl zc_i10 zc_y10 zc_t10 zc_n10 (by decide) rfl rfl rfl wd_1033 (fun S_2 => ?_)
  refine sm_iconst (pc := 10) (0 : Int32) ok dm_read_10 zk_0 ?_
  refine sm_istore_n (pc := 11) (i := 1) ok dm_read_11 rfl (by decide) (fun v => [(1, .int v), (0, .ref ((xw x).2.2 0))]) (fun _ => rfl) (fun v1_3 => ?_)
  refine sm_lv [1, 0] rfl ?_
  exact tm_read_b12 ok hr N N _ _
theorem cm_read {l : Launch} {wc : sm_Wc} (hj : sm_inj zm_sy wc) (N : Nat) (S : sm_St) : sm_Ct l zm_sy wc ym_read prog_12_method_93_code 2 (some .int) 7 153 [.ref (wc.2.2 0)] S (sm_Pi zm_sy wc) (pm_read N S) :=
  sm_entry (Pq := fun wc => sm_Pi zm_sy wc) (fun wc => [.ref (wc.2.2 0)]) (lv := fun wc => [(0, .ref (wc.2.2 0))]) (by decide) hj zm_ok zm_stb (fun _ => Nat.le_of_ble_eq_true rfl) (fun _ => rfl) (fun x _ ok hr => tm_read ok hr N S)
set_option maxHeartbeats 4000000 in
set_option maxRecDepth 20000 in
theorem tm_sign {x : sm_Cx} (ok : sm_Ok x zm_sy prog_12_method_95_code "LentShadesModel" 2 1 21) (hr : (xh x).sig.returnType = (some .int)) (N : Nat) (S : sm_St) (v1 : Int32) : sm_Sm x zm_sy prog_12_method_95_code (sm_Q x zm_sy (sm_Pi zm_sy (xw x))) (pm_sign N S v1) S 0 [(0, .ref ((xw x).2.2 0)), (1, .int v1)] [] := by
  unfold pm_sign
  refine sm_iload_n (pc := 0) 1 ok dm_sign_0 rfl ?_
  refine sm_if_ne (pc := 1) 11 ok dm_sign_1 (by decide) (fun _ => ?_) (fun _ => ?_)
  · refine sm_iload_n (pc := 11) 1 ok dm_sign_11 rfl ?_
    refine sm_iconst (pc := 12) (1 : Int32) ok dm_sign_12 zk_1 ?_
    refine sm_icmp_ne (pc := 13) 25 ok dm_sign_13 (by decide) (fun _ => ?_) (fun _ => ?_)
    · refine sm_iload_n (pc := 25) 1 ok dm_sign_25 rfl ?_
      refine sm_iconst (pc := 26) (2 : Int32) ok dm_sign_26 zk_2 ?_
      refine sm_icmp_ne (pc := 27) 39 ok dm_sign_27 (by decide) (fun _ => ?_) (fun _ => ?_)
      · refine sm_aload_n (pc := 39) 0 ok dm_sign_39 rfl ?_
        refine sm_bipush (pc := 40) (-2 : Int32) ok dm_sign_40 zb_m2 ?_
        refine sm_callV_i (pc := 42) (ci := 10) [.int (-2 : Int32)] ok dm_sign_42 wd_1110 mwm_bad rfl rfl (Nat.le_of_ble_eq_true rfl) (Nat.le_of_ble_eq_true rfl) rfl rfl (Nat.le_of_ble_eq_true rfl) (cm_bad (sm_okj ok) N S (-2 : Int32)) (fun r_2 S_1 => ?_)
        exact sm_iret (pc := 45) ok dm_sign_45 hr
      · refine sm_aload_n (pc := 30) 0 ok dm_sign_30 rfl ?_
        refine sm_getR (pc := 31) (ci := 10) (k := 5) ok dm_sign_31 rfl rfl zc_i10 (by decide) rfl wd_1008 ?_
        refine sm_iconst (pc := 34) (1 : Int32) ok dm_sign_34 zk_1 ?_
        refine sm_iald (pc := 35) ok dm_sign_35 rfl ?_
        refine sm_goto (pc := 36) 45 ok dm_sign_36 (by decide) ?_
        exact sm_iret (pc := 45) ok dm_sign_45 hr
    · refine sm_aload_n (pc := 16) 0 ok dm_sign_16 rfl ?_
      refine sm_getR (pc := 17) (ci := 10) (k := 5) ok dm_sign_17 rfl rfl zc_i10 (by decide) rfl wd_1008 ?_
      refine sm_iconst (pc := 20) (0 : Int32) ok dm_sign_20 zk_0 ?_
      refine sm_iald (pc := 21) ok dm_sign_21 rfl ?_
      refine sm_goto (pc := 22) 45 ok dm_sign_22 (by decide) ?_
      exact sm_iret (pc := 45) ok dm_sign_45 hr
  · refine sm_aload_n (pc := 4) 0 ok dm_sign_4 rfl ?_
    refine sm_getI (pc := 5) (ci := 10) (k := 6) ok dm_sign_5 rfl rfl zc_i10 (by decide) rfl wd_1009 ?_
    refine sm_goto (pc := 8) 45 ok dm_sign_8 (by decide) ?_
    exact sm_iret (pc := 45) ok dm_sign_45 hr
theorem cm_sign {l : Launch} {wc : sm_Wc} (hj : sm_inj zm_sy wc) (N : Nat) (S : sm_St) (v1 : Int32) : sm_Ct l zm_sy wc ym_sign prog_12_method_95_code 2 (some .int) 1 21 [.ref (wc.2.2 0), .int v1] S (sm_Pi zm_sy wc) (pm_sign N S v1) :=
  sm_entry (Pq := fun wc => sm_Pi zm_sy wc) (fun wc => [.ref (wc.2.2 0), .int v1]) (lv := fun wc => [(0, .ref (wc.2.2 0)), (1, .int v1)]) (by decide) hj zm_ok zm_stb (fun _ => Nat.le_of_ble_eq_true rfl) (fun _ => rfl) (fun x _ ok hr => tm_sign ok hr N S v1)
set_option maxHeartbeats 4000000 in
set_option maxRecDepth 20000 in
theorem tm_limb_b14 {x : sm_Cx} (ok : sm_Ok x zm_sy prog_12_method_96_code "LentShadesModel" 3 1 25) (hr : (xh x).sig.returnType = (some .int)) (N : Nat) (S : sm_St) : sm_Sm x zm_sy prog_12_method_96_code (sm_Q x zm_sy (sm_Pi zm_sy (xw x))) (pm_limb_b14 N S) S 14 [(0, .ref ((xw x).2.2 0))] [] := by
  unfold pm_limb_b14
  refine sm_aload_n (pc := 14) 0 ok dm_limb_14 rfl ?_
  refine sm_bipush (pc := 15) (-2 : Int32) ok dm_limb_15 zb_m2 ?_
  refine sm_callV_i (pc := 17) (ci := 10) [.int (-2 : Int32)] ok dm_limb_17 wd_1110 mwm_bad rfl rfl (Nat.le_of_ble_eq_true rfl) (Nat.le_of_ble_eq_true rfl) rfl rfl (Nat.le_of_ble_eq_true rfl) (cm_bad (sm_okj ok) N S (-2 : Int32)) (fun r_4 S_3 => ?_)
  exact sm_iret (pc := 20) ok dm_limb_20 hr
set_option maxHeartbeats 4000000 in
set_option maxRecDepth 20000 in
theorem tm_limb {x : sm_Cx} (ok : sm_Ok x zm_sy prog_12_method_96_code "LentShadesModel" 3 1 25) (hr : (xh x).sig.returnType = (some .int)) (N : Nat) (S : sm_St) (v1 : Int32) (v2 : Int32) : sm_Sm x zm_sy prog_12_method_96_code (sm_Q x zm_sy (sm_Pi zm_sy (xw x))) (pm_limb N S v1 v2) S 0 [(0, .ref ((xw x).2.2 0)), (1, .int v1), (2, .int v2)] [] := by
  unfold pm_limb
  refine sm_iload_n (pc := 0) 1 ok dm_limb_0 rfl ?_
  refine sm_i2l (pc := 1) ok dm_limb_1 ?_
  refine sm_lconst (pc := 2) (0 : Int64) ok dm_limb_2 zl_0 ?_
  refine sm_lconst (pc := 3) (1 : Int64) ok dm_limb_3 zl_1 ?_
  refine sm_callS_i (pc := 4) [.long (v1.toInt64), .long (0 : Int64), .long (1 : Int64)] ok dm_limb_4 wd_1105 mwm_in (Nat.le_of_ble_eq_true rfl) (Nat.le_of_ble_eq_true rfl) rfl rfl (Nat.le_of_ble_eq_true rfl) (cm_in (sm_okj ok) N S (v1.toInt64) (0 : Int64) (1 : Int64)) (fun r_2 S_1 => ?_)
  refine sm_if_eq (pc := 7) 14 ok dm_limb_7 (by decide) (fun _ => ?_) (fun _ => ?_)
  · refine sm_lv [0] rfl ?_
    exact tm_limb_b14 ok hr N _
  · refine sm_iload_n (pc := 10) 2 ok dm_limb_10 rfl ?_
    refine sm_if_ge (pc := 11) 21 ok dm_limb_11 (by decide) (fun _ => ?_) (fun _ => ?_)
    · refine sm_iload_n (pc := 21) 2 ok dm_limb_21 rfl ?_
      refine sm_aload_n (pc := 22) 0 ok dm_limb_22 rfl ?_
      refine sm_getR (pc := 23) (ci := 10) (k := 5) ok dm_limb_23 rfl rfl zc_i10 (by decide) rfl wd_1008 ?_
      refine sm_iload_n (pc := 26) 1 ok dm_limb_26 rfl ?_
      refine sm_iald (pc := 27) ok dm_limb_27 rfl ?_
      refine sm_icmp_ge (pc := 28) 46 ok dm_limb_28 (by decide) (fun _ => ?_) (fun _ => ?_)
      · refine sm_iconst (pc := 46) (-1 : Int32) ok dm_limb_46 zk_m1 ?_
        exact sm_iret (pc := 47) ok dm_limb_47 hr
      · refine sm_aload_n (pc := 31) 0 ok dm_limb_31 rfl ?_
        refine sm_getR (pc := 32) (ci := 10) (k := 4) ok dm_limb_32 rfl rfl zc_i10 (by decide) rfl wd_1007 ?_
        refine sm_bipush (pc := 35) (64 : Int32) ok dm_limb_35 zb_64 ?_
        refine sm_iload_n (pc := 37) 1 ok dm_limb_37 rfl ?_
        refine sm_imul (pc := 38) ok dm_limb_38 ?_
        refine sm_iload_n (pc := 39) 2 ok dm_limb_39 rfl ?_
        refine sm_iadd (pc := 40) ok dm_limb_40 ?_
        refine sm_lald (pc := 41) ok dm_limb_41 rfl ?_
        refine sm_l2i (pc := 42) ok dm_limb_42 ?_
        refine sm_goto (pc := 43) 47 ok dm_limb_43 (by decide) ?_
        exact sm_iret (pc := 47) ok dm_limb_47 hr
    · refine sm_lv [0] rfl ?_
      exact tm_limb_b14 ok hr N _
theorem cm_limb {l : Launch} {wc : sm_Wc} (hj : sm_inj zm_sy wc) (N : Nat) (S : sm_St) (v1 : Int32) (v2 : Int32) : sm_Ct l zm_sy wc ym_limb prog_12_method_96_code 3 (some .int) 1 25 [.ref (wc.2.2 0), .int v1, .int v2] S (sm_Pi zm_sy wc) (pm_limb N S v1 v2) :=
  sm_entry (Pq := fun wc => sm_Pi zm_sy wc) (fun wc => [.ref (wc.2.2 0), .int v1, .int v2]) (lv := fun wc => [(0, .ref (wc.2.2 0)), (1, .int v1), (2, .int v2)]) (by decide) hj zm_ok zm_stb (fun _ => Nat.le_of_ble_eq_true rfl) (fun _ => rfl) (fun x _ ok hr => tm_limb ok hr N S v1 v2)
set_option maxHeartbeats 4000000 in
set_option maxRecDepth 20000 in
theorem tm_copyAll_b9 {x : sm_Cx} (ok : sm_Ok x zm_sy prog_12_method_97_code "LentShadesModel" 6 2 46) (hr : (xh x).sig.returnType = none) (N : Nat) : ∀ (n : Nat) (v3 : Int32) (v4 : Int32) (v5 : Int32) (S : sm_St), sm_Sm x zm_sy prog_12_method_97_code (sm_Q x zm_sy (sm_Pv zm_sy (xw x))) (pm_copyAll_b9 N n v3 v4 v5 S) S 9 [(0, .ref ((xw x).2.2 0)), (3, .int v3), (4, .int v4), (5, .int v5)] [] := by
  intro n
  induction n with
  | zero =>
    intro v3 v4 v5 S
    exact sm_none
  | succ n ih =>
    intro v3 v4 v5 S
    show sm_Sm x zm_sy prog_12_method_97_code (sm_Q x zm_sy (sm_Pv zm_sy (xw x))) (if (6 : Int32) ≤ v5 then (some S) else (sm_b1 (pm_copyState N S (v3 + ((5 : Int32) * v5)) (v4 + ((5 : Int32) * v5))) (fun (S_3 : sm_St) => sm_lt (v5 + (1 : Int32)) (fun (v5_4 : Int32) => (pm_copyAll_b9 N n) v3 v4 v5_4 S_3)))) S 9 [(0, .ref ((xw x).2.2 0)), (3, .int v3), (4, .int v4), (5, .int v5)] []
    refine sm_iload (pc := 9) 3 ok dm_copyAll_9 rfl ?_
    refine sm_bipush (pc := 11) (6 : Int32) ok dm_copyAll_11 zb_6 ?_
    refine sm_icmp_ge (pc := 13) 39 ok dm_copyAll_13 (by decide) (fun _ => ?_) (fun _ => ?_)
    · exact sm_vret (pc := 39) ok dm_copyAll_39 hr
    · refine sm_aload_n (pc := 16) 0 ok dm_copyAll_16 rfl ?_
      refine sm_iload_n (pc := 17) 1 ok dm_copyAll_17 rfl ?_
      refine sm_iconst (pc := 18) (5 : Int32) ok dm_copyAll_18 zk_5 ?_
      refine sm_iload (pc := 19) 3 ok dm_copyAll_19 rfl ?_
      refine sm_imul (pc := 21) ok dm_copyAll_21 ?_
      refine sm_iadd (pc := 22) ok dm_copyAll_22 ?_
      refine sm_iload (pc := 23) 2 ok dm_copyAll_23 rfl ?_
      refine sm_iconst (pc := 25) (5 : Int32) ok dm_copyAll_25 zk_5 ?_
      refine sm_iload (pc := 26) 3 ok dm_copyAll_26 rfl ?_
      refine sm_imul (pc := 28) ok dm_copyAll_28 ?_
      refine sm_iadd (pc := 29) ok dm_copyAll_29 ?_
      refine sm_callV_v (pc := 30) (ci := 10) [.int (v3 + ((5 : Int32) * v5)), .int (v4 + ((5 : Int32) * v5))] ok dm_copyAll_30 wd_1269 mwm_copyState rfl rfl (Nat.le_of_ble_eq_true rfl) (Nat.le_of_ble_eq_true rfl) rfl rfl (Nat.le_of_ble_eq_true rfl) (cm_copyState (sm_okj ok) N S (v3 + ((5 : Int32) * v5)) (v4 + ((5 : Int32) * v5))) (fun S_3 => ?_)
      refine sm_iinc (pc := 33) (i := 5) 3 (1 : Int32) ok dm_copyAll_33 rfl zk_1 (by decide) (fun v => [(5, .int v), (0, .ref ((xw x).2.2 0)), (3, .int v3), (4, .int v4)]) (fun _ => rfl) (fun v5_4 => ?_)
      refine sm_goto (pc := 36) 9 ok dm_copyAll_36 (by decide) ?_
      refine sm_lv [1, 2, 3, 0] rfl ?_
      exact ih _ _ _ _
set_option maxHeartbeats 4000000 in
set_option maxRecDepth 20000 in
theorem tm_copyAll {x : sm_Cx} (ok : sm_Ok x zm_sy prog_12_method_97_code "LentShadesModel" 6 2 46) (hr : (xh x).sig.returnType = none) (N : Nat) (S : sm_St) (v1 : Int32) (v2 : Int32) (v3 : Int32) (v4 : Int32) : sm_Sm x zm_sy prog_12_method_97_code (sm_Q x zm_sy (sm_Pv zm_sy (xw x))) (pm_copyAll N S v1 v2 v3 v4) S 0 [(0, .ref ((xw x).2.2 0)), (1, .int v1), (2, .int v2), (3, .int v3), (4, .int v4)] [] := by
  unfold pm_copyAll
  refine sm_aload_n (pc := 0) 0 ok dm_copyAll_0 rfl ?_
  refine sm_iload_n (pc := 1) 1 ok dm_copyAll_1 rfl ?_
  refine sm_iload_n (pc := 2) 2 ok dm_copyAll_2 rfl ?_
  refine sm_callV_v (pc := 3) (ci := 10) [.int v1, .int v2] ok dm_copyAll_3 wd_1269 mwm_copyState rfl rfl (Nat.le_of_ble_eq_true rfl) (Nat.le_of_ble_eq_true rfl) rfl rfl (Nat.le_of_ble_eq_true rfl) (cm_copyState (sm_okj ok) N S v1 v2) (fun S_1 => ?_)
  refine sm_iconst (pc := 6) (0 : Int32) ok dm_copyAll_6 zk_0 ?_
  refine sm_istore (pc := 7) (i := 5) ok dm_copyAll_7 (by decide) (fun v => [(5, .int v), (0, .ref ((xw x).2.2 0)), (1, .int v1), (2, .int v2), (3, .int v3), (4, .int v4)]) (fun _ => rfl) (fun v5_2 => ?_)
  refine sm_lv [1, 4, 5, 0] rfl ?_
  exact tm_copyAll_b9 ok hr N N _ _ _ _
theorem cm_copyAll {l : Launch} {wc : sm_Wc} (hj : sm_inj zm_sy wc) (N : Nat) (S : sm_St) (v1 : Int32) (v2 : Int32) (v3 : Int32) (v4 : Int32) : sm_Ct l zm_sy wc ym_copyAll prog_12_method_97_code 6 none 2 46 [.ref (wc.2.2 0), .int v1, .int v2, .int v3, .int v4] S (sm_Pv zm_sy wc) (pm_copyAll N S v1 v2 v3 v4) :=
  sm_entry (Pq := fun wc => sm_Pv zm_sy wc) (fun wc => [.ref (wc.2.2 0), .int v1, .int v2, .int v3, .int v4]) (lv := fun wc => [(0, .ref (wc.2.2 0)), (1, .int v1), (2, .int v2), (3, .int v3), (4, .int v4)]) (by decide) hj zm_ok zm_stb (fun _ => Nat.le_of_ble_eq_true rfl) (fun _ => rfl) (fun x _ ok hr => tm_copyAll ok hr N S v1 v2 v3 v4)
set_option maxHeartbeats 4000000 in
set_option maxRecDepth 20000 in
theorem tm_image_b19 {x : sm_Cx} (ok : sm_Ok x zm_sy prog_12_method_98_code "LentShadesModel" 3 3 71) (hr : (xh x).sig.returnType = (some .int)) (N : Nat) : ∀ (n : Nat) (v1 : Int32) (v2 : Int32) (S : sm_St), sm_Sm x zm_sy prog_12_method_98_code (sm_Q x zm_sy (sm_Pi zm_sy (xw x))) (pm_image_b19 N n v1 v2 S) S 19 [(0, .ref ((xw x).2.2 0)), (1, .int v1), (2, .int v2)] [] := by
  intro n
  induction n with
  | zero =>
    intro v1 v2 S
    exact sm_none
  | succ n ih =>
    intro v1 v2 S
    show sm_Sm x zm_sy prog_12_method_98_code (sm_Q x zm_sy (sm_Pi zm_sy (xw x))) (if (81 : Int32) ≤ v2 then (sm_b1 (pm_copyAll N S ((54 : Int32) + ((35 : Int32) * v1)) (19 : Int32) (((54 : Int32) + ((35 : Int32) * v1)) + (5 : Int32)) (24 : Int32)) (fun (S_6 : sm_St) => if sm_in v1 2 = true then sm_lt (sm_sI S_6 3 v1.toNatClampNeg (vp_nar .boolean (1 : Int32))) (fun (S_7 : sm_St) => some ((1 : Int32), S_7)) else none)) else (if sm_in v2 81 = true then (if sm_in (((81 : Int32) * v1) + v2) 162 = true then sm_lt (sm_sI S 2 (((81 : Int32) * v1) + v2).toNatClampNeg (S.1 1 v2.toNatClampNeg)) (fun (S_8 : sm_St) => sm_lt (v2 + (1 : Int32)) (fun (v2_9 : Int32) => (pm_image_b19 N n) v1 v2_9 S_8)) else none) else none)) S 19 [(0, .ref ((xw x).2.2 0)), (1, .int v1), (2, .int v2)] []
    refine sm_iload_n (pc := 19) 2 ok dm_image_19 rfl ?_
    refine sm_bipush (pc := 20) (81 : Int32) ok dm_image_20 zb_81 ?_
    refine sm_icmp_ge (pc := 22) 48 ok dm_image_22 (by decide) (fun _ => ?_) (fun _ => ?_)
    · refine sm_aload_n (pc := 48) 0 ok dm_image_48 rfl ?_
      refine sm_bipush (pc := 49) (54 : Int32) ok dm_image_49 zb_54 ?_
      refine sm_bipush (pc := 51) (35 : Int32) ok dm_image_51 zb_35 ?_
      refine sm_iload_n (pc := 53) 1 ok dm_image_53 rfl ?_
      refine sm_imul (pc := 54) ok dm_image_54 ?_
      refine sm_iadd (pc := 55) ok dm_image_55 ?_
      refine sm_bipush (pc := 56) (19 : Int32) ok dm_image_56 zb_19 ?_
      refine sm_bipush (pc := 58) (54 : Int32) ok dm_image_58 zb_54 ?_
      refine sm_bipush (pc := 60) (35 : Int32) ok dm_image_60 zb_35 ?_
      refine sm_iload_n (pc := 62) 1 ok dm_image_62 rfl ?_
      refine sm_imul (pc := 63) ok dm_image_63 ?_
      refine sm_iadd (pc := 64) ok dm_image_64 ?_
      refine sm_iconst (pc := 65) (5 : Int32) ok dm_image_65 zk_5 ?_
      refine sm_iadd (pc := 66) ok dm_image_66 ?_
      refine sm_bipush (pc := 67) (24 : Int32) ok dm_image_67 zb_24 ?_
      refine sm_callV_v (pc := 69) (ci := 10) [.int ((54 : Int32) + ((35 : Int32) * v1)), .int (19 : Int32), .int (((54 : Int32) + ((35 : Int32) * v1)) + (5 : Int32)), .int (24 : Int32)] ok dm_image_69 wd_1477 mwm_copyAll rfl rfl (Nat.le_of_ble_eq_true rfl) (Nat.le_of_ble_eq_true rfl) rfl rfl (Nat.le_of_ble_eq_true rfl) (cm_copyAll (sm_okj ok) N S ((54 : Int32) + ((35 : Int32) * v1)) (19 : Int32) (((54 : Int32) + ((35 : Int32) * v1)) + (5 : Int32)) (24 : Int32)) (fun S_6 => ?_)
      refine sm_aload_n (pc := 72) 0 ok dm_image_72 rfl ?_
      refine sm_getR (pc := 73) (ci := 10) (k := 2) ok dm_image_73 rfl rfl zc_i10 (by decide) rfl wd_1005 ?_
      refine sm_iload_n (pc := 76) 1 ok dm_image_76 rfl ?_
      refine sm_iconst (pc := 77) (1 : Int32) ok dm_image_77 zk_1 ?_
      refine sm_zast (pc := 78) ok dm_image_78 rfl (fun S_7 => ?_)
      refine sm_iconst (pc := 79) (1 : Int32) ok dm_image_79 zk_1 ?_
      exact sm_iret (pc := 80) ok dm_image_80 hr
    · refine sm_aload_n (pc := 25) 0 ok dm_image_25 rfl ?_
      refine sm_getR (pc := 26) (ci := 10) (k := 1) ok dm_image_26 rfl rfl zc_i10 (by decide) rfl wd_1004 ?_
      refine sm_bipush (pc := 29) (81 : Int32) ok dm_image_29 zb_81 ?_
      refine sm_iload_n (pc := 31) 1 ok dm_image_31 rfl ?_
      refine sm_imul (pc := 32) ok dm_image_32 ?_
      refine sm_iload_n (pc := 33) 2 ok dm_image_33 rfl ?_
      refine sm_iadd (pc := 34) ok dm_image_34 ?_
      refine sm_aload_n (pc := 35) 0 ok dm_image_35 rfl ?_
      refine sm_getR (pc := 36) (ci := 10) (k := 0) ok dm_image_36 rfl rfl zc_i10 (by decide) rfl wd_1003 ?_
      refine sm_iload_n (pc := 39) 2 ok dm_image_39 rfl ?_
      refine sm_iald (pc := 40) ok dm_image_40 rfl ?_
      refine sm_iast (pc := 41) ok dm_image_41 rfl (fun S_8 => ?_)
      refine sm_iinc (pc := 42) (i := 2) 2 (1 : Int32) ok dm_image_42 rfl zk_1 (by decide) (fun v => [(2, .int v), (0, .ref ((xw x).2.2 0)), (1, .int v1)]) (fun _ => rfl) (fun v2_9 => ?_)
      refine sm_goto (pc := 45) 19 ok dm_image_45 (by decide) ?_
      refine sm_lv [1, 2, 0] rfl ?_
      exact ih _ _ _
set_option maxHeartbeats 4000000 in
set_option maxRecDepth 20000 in
theorem tm_image {x : sm_Cx} (ok : sm_Ok x zm_sy prog_12_method_98_code "LentShadesModel" 3 3 71) (hr : (xh x).sig.returnType = (some .int)) (N : Nat) (S : sm_St) (v1 : Int32) : sm_Sm x zm_sy prog_12_method_98_code (sm_Q x zm_sy (sm_Pi zm_sy (xw x))) (pm_image N S v1) S 0 [(0, .ref ((xw x).2.2 0)), (1, .int v1)] [] := by
  unfold pm_image
  refine sm_iload_n (pc := 0) 1 ok dm_image_0 rfl ?_
  refine sm_i2l (pc := 1) ok dm_image_1 ?_
  refine sm_lconst (pc := 2) (0 : Int64) ok dm_image_2 zl_0 ?_
  refine sm_lconst (pc := 3) (1 : Int64) ok dm_image_3 zl_1 ?_
  refine sm_callS_i (pc := 4) [.long (v1.toInt64), .long (0 : Int64), .long (1 : Int64)] ok dm_image_4 wd_1105 mwm_in (Nat.le_of_ble_eq_true rfl) (Nat.le_of_ble_eq_true rfl) rfl rfl (Nat.le_of_ble_eq_true rfl) (cm_in (sm_okj ok) N S (v1.toInt64) (0 : Int64) (1 : Int64)) (fun r_2 S_1 => ?_)
  refine sm_if_ne (pc := 7) 17 ok dm_image_7 (by decide) (fun _ => ?_) (fun _ => ?_)
  · refine sm_iconst (pc := 17) (0 : Int32) ok dm_image_17 zk_0 ?_
    refine sm_istore_n (pc := 18) (i := 2) ok dm_image_18 rfl (by decide) (fun v => [(2, .int v), (0, .ref ((xw x).2.2 0)), (1, .int v1)]) (fun _ => rfl) (fun v2_3 => ?_)
    refine sm_lv [1, 2, 0] rfl ?_
    exact tm_image_b19 ok hr N N _ _ _
  · refine sm_aload_n (pc := 10) 0 ok dm_image_10 rfl ?_
    refine sm_bipush (pc := 11) (-2 : Int32) ok dm_image_11 zb_m2 ?_
    refine sm_callV_i (pc := 13) (ci := 10) [.int (-2 : Int32)] ok dm_image_13 wd_1110 mwm_bad rfl rfl (Nat.le_of_ble_eq_true rfl) (Nat.le_of_ble_eq_true rfl) rfl rfl (Nat.le_of_ble_eq_true rfl) (cm_bad (sm_okj ok) N S_1 (-2 : Int32)) (fun r_5 S_4 => ?_)
    exact sm_iret (pc := 16) ok dm_image_16 hr
theorem cm_image {l : Launch} {wc : sm_Wc} (hj : sm_inj zm_sy wc) (N : Nat) (S : sm_St) (v1 : Int32) : sm_Ct l zm_sy wc ym_image prog_12_method_98_code 3 (some .int) 3 71 [.ref (wc.2.2 0), .int v1] S (sm_Pi zm_sy wc) (pm_image N S v1) :=
  sm_entry (Pq := fun wc => sm_Pi zm_sy wc) (fun wc => [.ref (wc.2.2 0), .int v1]) (lv := fun wc => [(0, .ref (wc.2.2 0)), (1, .int v1)]) (by decide) hj zm_ok zm_stb (fun _ => Nat.le_of_ble_eq_true rfl) (fun _ => rfl) (fun x _ ok hr => tm_image ok hr N S v1)
set_option maxHeartbeats 4000000 in
set_option maxRecDepth 20000 in
theorem tm_from_b33 {x : sm_Cx} (ok : sm_Ok x zm_sy prog_12_method_99_code "LentShadesModel" 3 3 71) (hr : (xh x).sig.returnType = (some .int)) (N : Nat) : ∀ (n : Nat) (v1 : Int32) (v2 : Int32) (S : sm_St), sm_Sm x zm_sy prog_12_method_99_code (sm_Q x zm_sy (sm_Pi zm_sy (xw x))) (pm_from_b33 N n v1 v2 S) S 33 [(0, .ref ((xw x).2.2 0)), (1, .int v1), (2, .int v2)] [] := by
  intro n
  induction n with
  | zero =>
    intro v1 v2 S
    exact sm_none
  | succ n ih =>
    intro v1 v2 S
    show sm_Sm x zm_sy prog_12_method_99_code (sm_Q x zm_sy (sm_Pi zm_sy (xw x))) (if (81 : Int32) ≤ v2 then (sm_b1 (pm_copyAll N S (19 : Int32) ((54 : Int32) + ((35 : Int32) * v1)) (24 : Int32) (((54 : Int32) + ((35 : Int32) * v1)) + (5 : Int32))) (fun (S_8 : sm_St) => some ((1 : Int32), S_8))) else (if sm_in (((81 : Int32) * v1) + v2) 162 = true then (if sm_in v2 81 = true then sm_lt (sm_sI S 1 v2.toNatClampNeg (S.1 2 (((81 : Int32) * v1) + v2).toNatClampNeg)) (fun (S_9 : sm_St) => sm_lt (v2 + (1 : Int32)) (fun (v2_10 : Int32) => (pm_from_b33 N n) v1 v2_10 S_9)) else none) else none)) S 33 [(0, .ref ((xw x).2.2 0)), (1, .int v1), (2, .int v2)] []
    refine sm_iload_n (pc := 33) 2 ok dm_from_33 rfl ?_
    refine sm_bipush (pc := 34) (81 : Int32) ok dm_from_34 zb_81 ?_
    refine sm_icmp_ge (pc := 36) 62 ok dm_from_36 (by decide) (fun _ => ?_) (fun _ => ?_)
    · refine sm_aload_n (pc := 62) 0 ok dm_from_62 rfl ?_
      refine sm_bipush (pc := 63) (19 : Int32) ok dm_from_63 zb_19 ?_
      refine sm_bipush (pc := 65) (54 : Int32) ok dm_from_65 zb_54 ?_
      refine sm_bipush (pc := 67) (35 : Int32) ok dm_from_67 zb_35 ?_
      refine sm_iload_n (pc := 69) 1 ok dm_from_69 rfl ?_
      refine sm_imul (pc := 70) ok dm_from_70 ?_
      refine sm_iadd (pc := 71) ok dm_from_71 ?_
      refine sm_bipush (pc := 72) (24 : Int32) ok dm_from_72 zb_24 ?_
      refine sm_bipush (pc := 74) (54 : Int32) ok dm_from_74 zb_54 ?_
      refine sm_bipush (pc := 76) (35 : Int32) ok dm_from_76 zb_35 ?_
      refine sm_iload_n (pc := 78) 1 ok dm_from_78 rfl ?_
      refine sm_imul (pc := 79) ok dm_from_79 ?_
      refine sm_iadd (pc := 80) ok dm_from_80 ?_
      refine sm_iconst (pc := 81) (5 : Int32) ok dm_from_81 zk_5 ?_
      refine sm_iadd (pc := 82) ok dm_from_82 ?_
      refine sm_callV_v (pc := 83) (ci := 10) [.int (19 : Int32), .int ((54 : Int32) + ((35 : Int32) * v1)), .int (24 : Int32), .int (((54 : Int32) + ((35 : Int32) * v1)) + (5 : Int32))] ok dm_from_83 wd_1477 mwm_copyAll rfl rfl (Nat.le_of_ble_eq_true rfl) (Nat.le_of_ble_eq_true rfl) rfl rfl (Nat.le_of_ble_eq_true rfl) (cm_copyAll (sm_okj ok) N S (19 : Int32) ((54 : Int32) + ((35 : Int32) * v1)) (24 : Int32) (((54 : Int32) + ((35 : Int32) * v1)) + (5 : Int32))) (fun S_8 => ?_)
      refine sm_iconst (pc := 86) (1 : Int32) ok dm_from_86 zk_1 ?_
      exact sm_iret (pc := 87) ok dm_from_87 hr
    · refine sm_aload_n (pc := 39) 0 ok dm_from_39 rfl ?_
      refine sm_getR (pc := 40) (ci := 10) (k := 0) ok dm_from_40 rfl rfl zc_i10 (by decide) rfl wd_1003 ?_
      refine sm_iload_n (pc := 43) 2 ok dm_from_43 rfl ?_
      refine sm_aload_n (pc := 44) 0 ok dm_from_44 rfl ?_
      refine sm_getR (pc := 45) (ci := 10) (k := 1) ok dm_from_45 rfl rfl zc_i10 (by decide) rfl wd_1004 ?_
      refine sm_bipush (pc := 48) (81 : Int32) ok dm_from_48 zb_81 ?_
      refine sm_iload_n (pc := 50) 1 ok dm_from_50 rfl ?_
      refine sm_imul (pc := 51) ok dm_from_51 ?_
      refine sm_iload_n (pc := 52) 2 ok dm_from_52 rfl ?_
      refine sm_iadd (pc := 53) ok dm_from_53 ?_
      refine sm_iald (pc := 54) ok dm_from_54 rfl ?_
      refine sm_iast (pc := 55) ok dm_from_55 rfl (fun S_9 => ?_)
      refine sm_iinc (pc := 56) (i := 2) 2 (1 : Int32) ok dm_from_56 rfl zk_1 (by decide) (fun v => [(2, .int v), (0, .ref ((xw x).2.2 0)), (1, .int v1)]) (fun _ => rfl) (fun v2_10 => ?_)
      refine sm_goto (pc := 59) 33 ok dm_from_59 (by decide) ?_
      refine sm_lv [1, 2, 0] rfl ?_
      exact ih _ _ _
set_option maxHeartbeats 4000000 in
set_option maxRecDepth 20000 in
theorem tm_from {x : sm_Cx} (ok : sm_Ok x zm_sy prog_12_method_99_code "LentShadesModel" 3 3 71) (hr : (xh x).sig.returnType = (some .int)) (N : Nat) (S : sm_St) (v1 : Int32) : sm_Sm x zm_sy prog_12_method_99_code (sm_Q x zm_sy (sm_Pi zm_sy (xw x))) (pm_from N S v1) S 0 [(0, .ref ((xw x).2.2 0)), (1, .int v1)] [] := by
  unfold pm_from
  refine sm_iload_n (pc := 0) 1 ok dm_from_0 rfl ?_
  refine sm_i2l (pc := 1) ok dm_from_1 ?_
  refine sm_lconst (pc := 2) (0 : Int64) ok dm_from_2 zl_0 ?_
  refine sm_lconst (pc := 3) (1 : Int64) ok dm_from_3 zl_1 ?_
  refine sm_callS_i (pc := 4) [.long (v1.toInt64), .long (0 : Int64), .long (1 : Int64)] ok dm_from_4 wd_1105 mwm_in (Nat.le_of_ble_eq_true rfl) (Nat.le_of_ble_eq_true rfl) rfl rfl (Nat.le_of_ble_eq_true rfl) (cm_in (sm_okj ok) N S (v1.toInt64) (0 : Int64) (1 : Int64)) (fun r_2 S_1 => ?_)
  refine sm_if_ne (pc := 7) 17 ok dm_from_7 (by decide) (fun _ => ?_) (fun _ => ?_)
  · refine sm_aload_n (pc := 17) 0 ok dm_from_17 rfl ?_
    refine sm_getR (pc := 18) (ci := 10) (k := 2) ok dm_from_18 rfl rfl zc_i10 (by decide) rfl wd_1005 ?_
    refine sm_iload_n (pc := 21) 1 ok dm_from_21 rfl ?_
    refine sm_zald (pc := 22) ok dm_from_22 rfl ?_
    refine sm_if_ne (pc := 23) 31 ok dm_from_23 (by decide) (fun _ => ?_) (fun _ => ?_)
    · refine sm_iconst (pc := 31) (0 : Int32) ok dm_from_31 zk_0 ?_
      refine sm_istore_n (pc := 32) (i := 2) ok dm_from_32 rfl (by decide) (fun v => [(2, .int v), (0, .ref ((xw x).2.2 0)), (1, .int v1)]) (fun _ => rfl) (fun v2_3 => ?_)
      refine sm_lv [1, 2, 0] rfl ?_
      exact tm_from_b33 ok hr N N _ _ _
    · refine sm_aload_n (pc := 26) 0 ok dm_from_26 rfl ?_
      refine sm_callV_i (pc := 27) (ci := 10) [] ok dm_from_27 wd_1265 mwm_no rfl rfl (Nat.le_of_ble_eq_true rfl) (Nat.le_of_ble_eq_true rfl) rfl rfl (Nat.le_of_ble_eq_true rfl) (cm_no (sm_okj ok) N S_1) (fun r_5 S_4 => ?_)
      exact sm_iret (pc := 30) ok dm_from_30 hr
  · refine sm_aload_n (pc := 10) 0 ok dm_from_10 rfl ?_
    refine sm_bipush (pc := 11) (-2 : Int32) ok dm_from_11 zb_m2 ?_
    refine sm_callV_i (pc := 13) (ci := 10) [.int (-2 : Int32)] ok dm_from_13 wd_1110 mwm_bad rfl rfl (Nat.le_of_ble_eq_true rfl) (Nat.le_of_ble_eq_true rfl) rfl rfl (Nat.le_of_ble_eq_true rfl) (cm_bad (sm_okj ok) N S_1 (-2 : Int32)) (fun r_7 S_6 => ?_)
    exact sm_iret (pc := 16) ok dm_from_16 hr
theorem cm_from {l : Launch} {wc : sm_Wc} (hj : sm_inj zm_sy wc) (N : Nat) (S : sm_St) (v1 : Int32) : sm_Ct l zm_sy wc ym_from prog_12_method_99_code 3 (some .int) 3 71 [.ref (wc.2.2 0), .int v1] S (sm_Pi zm_sy wc) (pm_from N S v1) :=
  sm_entry (Pq := fun wc => sm_Pi zm_sy wc) (fun wc => [.ref (wc.2.2 0), .int v1]) (lv := fun wc => [(0, .ref (wc.2.2 0)), (1, .int v1)]) (by decide) hj zm_ok zm_stb (fun _ => Nat.le_of_ble_eq_true rfl) (fun _ => rfl) (fun x _ ok hr => tm_from ok hr N S v1)
set_option maxHeartbeats 4000000 in
set_option maxRecDepth 20000 in
theorem tm_status {x : sm_Cx} (ok : sm_Ok x zm_sy prog_12_method_100_code "LentShadesModel" 2 1 25) (hr : (xh x).sig.returnType = (some .int)) (N : Nat) (S : sm_St) (v1 : Int32) : sm_Sm x zm_sy prog_12_method_100_code (sm_Q x zm_sy (sm_Pi zm_sy (xw x))) (pm_status N S v1) S 0 [(0, .ref ((xw x).2.2 0)), (1, .int v1)] [] := by
  unfold pm_status
  refine sm_iload_n (pc := 0) 1 ok dm_status_0 rfl ?_
  refine sm_i2l (pc := 1) ok dm_status_1 ?_
  refine sm_lconst (pc := 2) (0 : Int64) ok dm_status_2 zl_0 ?_
  refine sm_ldc2 (pc := 3) ok dm_status_3 wd_1244 ?_
  refine sm_callS_i (pc := 6) [.long (v1.toInt64), .long (0 : Int64), .long (2 : Int64)] ok dm_status_6 wd_1105 mwm_in (Nat.le_of_ble_eq_true rfl) (Nat.le_of_ble_eq_true rfl) rfl rfl (Nat.le_of_ble_eq_true rfl) (cm_in (sm_okj ok) N S (v1.toInt64) (0 : Int64) (2 : Int64)) (fun r_2 S_1 => ?_)
  refine sm_if_eq (pc := 9) 21 ok dm_status_9 (by decide) (fun _ => ?_) (fun _ => ?_)
  · refine sm_aload_n (pc := 21) 0 ok dm_status_21 rfl ?_
    refine sm_iconst (pc := 22) (-1 : Int32) ok dm_status_22 zk_m1 ?_
    refine sm_callV_i (pc := 23) (ci := 10) [.int (-1 : Int32)] ok dm_status_23 wd_1110 mwm_bad rfl rfl (Nat.le_of_ble_eq_true rfl) (Nat.le_of_ble_eq_true rfl) rfl rfl (Nat.le_of_ble_eq_true rfl) (cm_bad (sm_okj ok) N S_1 (-1 : Int32)) (fun r_4 S_3 => ?_)
    exact sm_iret (pc := 26) ok dm_status_26 hr
  · refine sm_aload_n (pc := 12) 0 ok dm_status_12 rfl ?_
    refine sm_getR (pc := 13) (ci := 10) (k := 3) ok dm_status_13 rfl rfl zc_i10 (by decide) rfl wd_1006 ?_
    refine sm_iload_n (pc := 16) 1 ok dm_status_16 rfl ?_
    refine sm_iald (pc := 17) ok dm_status_17 rfl ?_
    refine sm_goto (pc := 18) 26 ok dm_status_18 (by decide) ?_
    exact sm_iret (pc := 26) ok dm_status_26 hr
theorem cm_status {l : Launch} {wc : sm_Wc} (hj : sm_inj zm_sy wc) (N : Nat) (S : sm_St) (v1 : Int32) : sm_Ct l zm_sy wc ym_status prog_12_method_100_code 2 (some .int) 1 25 [.ref (wc.2.2 0), .int v1] S (sm_Pi zm_sy wc) (pm_status N S v1) :=
  sm_entry (Pq := fun wc => sm_Pi zm_sy wc) (fun wc => [.ref (wc.2.2 0), .int v1]) (lv := fun wc => [(0, .ref (wc.2.2 0)), (1, .int v1)]) (by decide) hj zm_ok zm_stb (fun _ => Nat.le_of_ble_eq_true rfl) (fun _ => rfl) (fun x _ ok hr => tm_status ok hr N S v1)
set_option maxHeartbeats 4000000 in
set_option maxRecDepth 20000 in
theorem tm_counted {x : sm_Cx} (ok : sm_Ok x zm_sy prog_12_method_101_code "LentShadesModel" 2 1 20) (hr : (xh x).sig.returnType = (some .int)) (N : Nat) (S : sm_St) (v1 : Int32) : sm_Sm x zm_sy prog_12_method_101_code (sm_Q x zm_sy (sm_Pi zm_sy (xw x))) (pm_counted N S v1) S 0 [(0, .ref ((xw x).2.2 0)), (1, .int v1)] [] := by
  unfold pm_counted
  refine sm_iload_n (pc := 0) 1 ok dm_counted_0 rfl ?_
  refine sm_if_ne (pc := 1) 11 ok dm_counted_1 (by decide) (fun _ => ?_) (fun _ => ?_)
  · refine sm_iload_n (pc := 11) 1 ok dm_counted_11 rfl ?_
    refine sm_iconst (pc := 12) (1 : Int32) ok dm_counted_12 zk_1 ?_
    refine sm_icmp_ne (pc := 13) 23 ok dm_counted_13 (by decide) (fun _ => ?_) (fun _ => ?_)
    · refine sm_iload_n (pc := 23) 1 ok dm_counted_23 rfl ?_
      refine sm_iconst (pc := 24) (2 : Int32) ok dm_counted_24 zk_2 ?_
      refine sm_icmp_ne (pc := 25) 38 ok dm_counted_25 (by decide) (fun _ => ?_) (fun _ => ?_)
      · refine sm_iload_n (pc := 38) 1 ok dm_counted_38 rfl ?_
        refine sm_iconst (pc := 39) (3 : Int32) ok dm_counted_39 zk_3 ?_
        refine sm_icmp_ne (pc := 40) 53 ok dm_counted_40 (by decide) (fun _ => ?_) (fun _ => ?_)
        · refine sm_iload_n (pc := 53) 1 ok dm_counted_53 rfl ?_
          refine sm_iconst (pc := 54) (4 : Int32) ok dm_counted_54 zk_4 ?_
          refine sm_icmp_ne (pc := 55) 65 ok dm_counted_55 (by decide) (fun _ => ?_) (fun _ => ?_)
          · refine sm_aload_n (pc := 65) 0 ok dm_counted_65 rfl ?_
            refine sm_getR (pc := 66) (ci := 10) (k := 0) ok dm_counted_66 rfl rfl zc_i10 (by decide) rfl wd_1003 ?_
            refine sm_bipush (pc := 69) (80 : Int32) ok dm_counted_69 zb_80 ?_
            refine sm_iald (pc := 71) ok dm_counted_71 rfl ?_
            exact sm_iret (pc := 72) ok dm_counted_72 hr
          · refine sm_aload_n (pc := 58) 0 ok dm_counted_58 rfl ?_
            refine sm_getI (pc := 59) (ci := 10) (k := 21) ok dm_counted_59 rfl rfl zc_i10 (by decide) rfl wd_1024 ?_
            refine sm_goto (pc := 62) 72 ok dm_counted_62 (by decide) ?_
            exact sm_iret (pc := 72) ok dm_counted_72 hr
        · refine sm_aload_n (pc := 43) 0 ok dm_counted_43 rfl ?_
          refine sm_getR (pc := 44) (ci := 10) (k := 0) ok dm_counted_44 rfl rfl zc_i10 (by decide) rfl wd_1003 ?_
          refine sm_bipush (pc := 47) (79 : Int32) ok dm_counted_47 zb_79 ?_
          refine sm_iald (pc := 49) ok dm_counted_49 rfl ?_
          refine sm_goto (pc := 50) 72 ok dm_counted_50 (by decide) ?_
          exact sm_iret (pc := 72) ok dm_counted_72 hr
      · refine sm_aload_n (pc := 28) 0 ok dm_counted_28 rfl ?_
        refine sm_getR (pc := 29) (ci := 10) (k := 0) ok dm_counted_29 rfl rfl zc_i10 (by decide) rfl wd_1003 ?_
        refine sm_bipush (pc := 32) (78 : Int32) ok dm_counted_32 zb_78 ?_
        refine sm_iald (pc := 34) ok dm_counted_34 rfl ?_
        refine sm_goto (pc := 35) 72 ok dm_counted_35 (by decide) ?_
        exact sm_iret (pc := 72) ok dm_counted_72 hr
    · refine sm_aload_n (pc := 16) 0 ok dm_counted_16 rfl ?_
      refine sm_callV_i (pc := 17) (ci := 10) [] ok dm_counted_17 wd_1142 mwm_things rfl rfl (Nat.le_of_ble_eq_true rfl) (Nat.le_of_ble_eq_true rfl) rfl rfl (Nat.le_of_ble_eq_true rfl) (cm_things (sm_okj ok) N S) (fun r_2 S_1 => ?_)
      refine sm_goto (pc := 20) 72 ok dm_counted_20 (by decide) ?_
      exact sm_iret (pc := 72) ok dm_counted_72 hr
  · refine sm_aload_n (pc := 4) 0 ok dm_counted_4 rfl ?_
    refine sm_callV_i (pc := 5) (ci := 10) [] ok dm_counted_5 wd_1114 mwm_cloths rfl rfl (Nat.le_of_ble_eq_true rfl) (Nat.le_of_ble_eq_true rfl) rfl rfl (Nat.le_of_ble_eq_true rfl) (cm_cloths (sm_okj ok) N S) (fun r_4 S_3 => ?_)
    refine sm_goto (pc := 8) 72 ok dm_counted_8 (by decide) ?_
    exact sm_iret (pc := 72) ok dm_counted_72 hr
theorem cm_counted {l : Launch} {wc : sm_Wc} (hj : sm_inj zm_sy wc) (N : Nat) (S : sm_St) (v1 : Int32) : sm_Ct l zm_sy wc ym_counted prog_12_method_101_code 2 (some .int) 1 20 [.ref (wc.2.2 0), .int v1] S (sm_Pi zm_sy wc) (pm_counted N S v1) :=
  sm_entry (Pq := fun wc => sm_Pi zm_sy wc) (fun wc => [.ref (wc.2.2 0), .int v1]) (lv := fun wc => [(0, .ref (wc.2.2 0)), (1, .int v1)]) (by decide) hj zm_ok zm_stb (fun _ => Nat.le_of_ble_eq_true rfl) (fun _ => rfl) (fun x _ ok hr => tm_counted ok hr N S v1)
set_option maxHeartbeats 4000000 in
set_option maxRecDepth 20000 in
theorem tm_count {x : sm_Cx} (ok : sm_Ok x zm_sy prog_12_method_102_code "LentShadesModel" 2 2 41) (hr : (xh x).sig.returnType = (some .int)) (N : Nat) (S : sm_St) (v1 : Int32) : sm_Sm x zm_sy prog_12_method_102_code (sm_Q x zm_sy (sm_Pi zm_sy (xw x))) (pm_count N S v1) S 0 [(0, .ref ((xw x).2.2 0)), (1, .int v1)] [] := by
  unfold pm_count
  refine sm_iload_n (pc := 0) 1 ok dm_count_0 rfl ?_
  refine sm_i2l (pc := 1) ok dm_count_1 ?_
  refine sm_lconst (pc := 2) (0 : Int64) ok dm_count_2 zl_0 ?_
  refine sm_ldc2 (pc := 3) ok dm_count_3 wd_1493 ?_
  refine sm_callS_i (pc := 6) [.long (v1.toInt64), .long (0 : Int64), .long (5 : Int64)] ok dm_count_6 wd_1105 mwm_in (Nat.le_of_ble_eq_true rfl) (Nat.le_of_ble_eq_true rfl) rfl rfl (Nat.le_of_ble_eq_true rfl) (cm_in (sm_okj ok) N S (v1.toInt64) (0 : Int64) (5 : Int64)) (fun r_2 S_1 => ?_)
  refine sm_if_eq (pc := 9) 20 ok dm_count_9 (by decide) (fun _ => ?_) (fun _ => ?_)
  · refine sm_aload_n (pc := 20) 0 ok dm_count_20 rfl ?_
    refine sm_bipush (pc := 21) (-2 : Int32) ok dm_count_21 zb_m2 ?_
    refine sm_callV_i (pc := 23) (ci := 10) [.int (-2 : Int32)] ok dm_count_23 wd_1110 mwm_bad rfl rfl (Nat.le_of_ble_eq_true rfl) (Nat.le_of_ble_eq_true rfl) rfl rfl (Nat.le_of_ble_eq_true rfl) (cm_bad (sm_okj ok) N S_1 (-2 : Int32)) (fun r_4 S_3 => ?_)
    exact sm_iret (pc := 26) ok dm_count_26 hr
  · refine sm_aload_n (pc := 12) 0 ok dm_count_12 rfl ?_
    refine sm_iload_n (pc := 13) 1 ok dm_count_13 rfl ?_
    refine sm_callV_i (pc := 14) (ci := 10) [.int v1] ok dm_count_14 wd_1494 mwm_counted rfl rfl (Nat.le_of_ble_eq_true rfl) (Nat.le_of_ble_eq_true rfl) rfl rfl (Nat.le_of_ble_eq_true rfl) (cm_counted (sm_okj ok) N S_1 v1) (fun r_6 S_5 => ?_)
    refine sm_goto (pc := 17) 26 ok dm_count_17 (by decide) ?_
    exact sm_iret (pc := 26) ok dm_count_26 hr
theorem cm_count {l : Launch} {wc : sm_Wc} (hj : sm_inj zm_sy wc) (N : Nat) (S : sm_St) (v1 : Int32) : sm_Ct l zm_sy wc ym_count prog_12_method_102_code 2 (some .int) 2 41 [.ref (wc.2.2 0), .int v1] S (sm_Pi zm_sy wc) (pm_count N S v1) :=
  sm_entry (Pq := fun wc => sm_Pi zm_sy wc) (fun wc => [.ref (wc.2.2 0), .int v1]) (lv := fun wc => [(0, .ref (wc.2.2 0)), (1, .int v1)]) (by decide) hj zm_ok zm_stb (fun _ => Nat.le_of_ble_eq_true rfl) (fun _ => rfl) (fun x _ ok hr => tm_count ok hr N S v1)
set_option maxHeartbeats 4000000 in
set_option maxRecDepth 20000 in
theorem tm_sums_b6 {x : sm_Cx} (ok : sm_Ok x zm_sy prog_12_method_103_code "LentShadesModel" 8 0 0) (hr : (xh x).sig.returnType = (some .long)) (N : Nat) : ∀ (n : Nat) (v3 : Int32) (v4 : Int32) (v5 : Int64) (v7 : Int32) (S : sm_St), sm_Sm x zm_sy prog_12_method_103_code (sm_Q x zm_sy (sm_Pl zm_sy (xw x))) (pm_sums_b6 N n v3 v4 v5 v7 S) S 6 [(0, .ref ((xw x).2.2 0)), (3, .int v3), (4, .int v4), (5, .long v5), (7, .int v7)] [] := by
  intro n
  induction n with
  | zero =>
    intro v3 v4 v5 v7 S
    exact sm_none
  | succ n ih =>
    intro v3 v4 v5 v7 S
    show sm_Sm x zm_sy prog_12_method_103_code (sm_Q x zm_sy (sm_Pl zm_sy (xw x))) (if v4 ≤ v7 then (some (v5, S)) else (if sm_in (v3 + v7) 81 = true then (sm_lt (((31 : Int64) * v5) + (S.1 1 (v3 + v7).toNatClampNeg).toInt64) (fun (v5_3 : Int64) => sm_lt (v7 + (1 : Int32)) (fun (v7_4 : Int32) => (pm_sums_b6 N n) v3 v4 v5_3 v7_4 S))) else none)) S 6 [(0, .ref ((xw x).2.2 0)), (3, .int v3), (4, .int v4), (5, .long v5), (7, .int v7)] []
    refine sm_iload (pc := 6) 4 ok dm_sums_6 rfl ?_
    refine sm_iload (pc := 8) 2 ok dm_sums_8 rfl ?_
    refine sm_icmp_ge (pc := 10) 38 ok dm_sums_10 (by decide) (fun _ => ?_) (fun _ => ?_)
    · refine sm_lload (pc := 38) 3 ok dm_sums_38 rfl ?_
      exact sm_lret (pc := 40) ok dm_sums_40 hr
    · refine sm_ldc2 (pc := 13) ok dm_sums_13 wd_1503 ?_
      refine sm_lload (pc := 16) 3 ok dm_sums_16 rfl ?_
      refine sm_lmul (pc := 18) ok dm_sums_18 ?_
      refine sm_aload_n (pc := 19) 0 ok dm_sums_19 rfl ?_
      refine sm_getR (pc := 20) (ci := 10) (k := 0) ok dm_sums_20 rfl rfl zc_i10 (by decide) rfl wd_1003 ?_
      refine sm_iload_n (pc := 23) 1 ok dm_sums_23 rfl ?_
      refine sm_iload (pc := 24) 4 ok dm_sums_24 rfl ?_
      refine sm_iadd (pc := 26) ok dm_sums_26 ?_
      refine sm_iald (pc := 27) ok dm_sums_27 rfl ?_
      refine sm_i2l (pc := 28) ok dm_sums_28 ?_
      refine sm_ladd (pc := 29) ok dm_sums_29 ?_
      refine sm_lstore (pc := 30) (i := 5) ok dm_sums_30 (by decide) (fun v => [(5, .long v), (0, .ref ((xw x).2.2 0)), (3, .int v3), (4, .int v4), (7, .int v7)]) (fun _ => rfl) (fun v5_3 => ?_)
      refine sm_iinc (pc := 32) (i := 7) 4 (1 : Int32) ok dm_sums_32 rfl zk_1 (by decide) (fun v => [(7, .int v), (5, .long v5_3), (0, .ref ((xw x).2.2 0)), (3, .int v3), (4, .int v4)]) (fun _ => rfl) (fun v7_4 => ?_)
      refine sm_goto (pc := 35) 6 ok dm_sums_35 (by decide) ?_
      refine sm_lv [2, 3, 4, 1, 0] rfl ?_
      exact ih _ _ _ _ _
set_option maxHeartbeats 4000000 in
set_option maxRecDepth 20000 in
theorem tm_sums {x : sm_Cx} (ok : sm_Ok x zm_sy prog_12_method_103_code "LentShadesModel" 8 0 0) (hr : (xh x).sig.returnType = (some .long)) (N : Nat) (S : sm_St) (v1 : Int64) (v3 : Int32) (v4 : Int32) : sm_Sm x zm_sy prog_12_method_103_code (sm_Q x zm_sy (sm_Pl zm_sy (xw x))) (pm_sums N S v1 v3 v4) S 0 [(0, .ref ((xw x).2.2 0)), (1, .long v1), (3, .int v3), (4, .int v4)] [] := by
  unfold pm_sums
  refine sm_lload_n (pc := 0) 1 ok dm_sums_0 rfl ?_
  refine sm_lstore (pc := 1) (i := 5) ok dm_sums_1 (by decide) (fun v => [(5, .long v), (0, .ref ((xw x).2.2 0)), (1, .long v1), (3, .int v3), (4, .int v4)]) (fun _ => rfl) (fun v5_1 => ?_)
  refine sm_iconst (pc := 3) (0 : Int32) ok dm_sums_3 zk_0 ?_
  refine sm_istore (pc := 4) (i := 7) ok dm_sums_4 (by decide) (fun v => [(7, .int v), (5, .long v5_1), (0, .ref ((xw x).2.2 0)), (1, .long v1), (3, .int v3), (4, .int v4)]) (fun _ => rfl) (fun v7_2 => ?_)
  refine sm_lv [2, 4, 5, 1, 0] rfl ?_
  exact tm_sums_b6 ok hr N N _ _ _ _ _
theorem cm_sums {l : Launch} {wc : sm_Wc} (hj : sm_inj zm_sy wc) (N : Nat) (S : sm_St) (v1 : Int64) (v3 : Int32) (v4 : Int32) : sm_Ct l zm_sy wc ym_sums prog_12_method_103_code 8 (some .long) 0 0 [.ref (wc.2.2 0), .long v1, .int v3, .int v4] S (sm_Pl zm_sy wc) (pm_sums N S v1 v3 v4) :=
  sm_entry (Pq := fun wc => sm_Pl zm_sy wc) (fun wc => [.ref (wc.2.2 0), .long v1, .int v3, .int v4]) (lv := fun wc => [(0, .ref (wc.2.2 0)), (1, .long v1), (3, .int v3), (4, .int v4)]) (by decide) hj zm_ok zm_stb (fun _ => Nat.le_of_ble_eq_true rfl) (fun _ => rfl) (fun x _ ok hr => tm_sums ok hr N S v1 v3 v4)
set_option maxHeartbeats 4000000 in
set_option maxRecDepth 20000 in
theorem tm_digest_b149 {x : sm_Cx} (ok : sm_Ok x zm_sy prog_12_method_104_code "LentShadesModel" 5 2 41) (hr : (xh x).sig.returnType = (some .long)) (N : Nat) {r141 : Int64 → Int32 → sm_St → Option (Int64 × sm_St)} (h141 : ∀ (v1 : Int64) (v3 : Int32) (S : sm_St), sm_Sm x zm_sy prog_12_method_104_code (sm_Q x zm_sy (sm_Pl zm_sy (xw x))) (r141 v1 v3 S) S 141 [(0, .ref ((xw x).2.2 0)), (1, .long v1), (3, .int v3)] []) : ∀ (n : Nat) (v1 : Int64) (v3 : Int32) (v4 : Int32) (S : sm_St), sm_Sm x zm_sy prog_12_method_104_code (sm_Q x zm_sy (sm_Pl zm_sy (xw x))) (pm_digest_b149 N r141 n v1 v3 v4 S) S 149 [(0, .ref ((xw x).2.2 0)), (1, .long v1), (3, .int v3), (4, .int v4)] [] := by
  intro n
  induction n with
  | zero =>
    intro v1 v3 v4 S
    exact sm_none
  | succ n ih =>
    intro v1 v3 v4 S
    show sm_Sm x zm_sy prog_12_method_104_code (sm_Q x zm_sy (sm_Pl zm_sy (xw x))) (if sm_in v3 124 = true then (if (S.1 6 v3.toNatClampNeg) ≤ v4 then (sm_lt (v3 + (1 : Int32)) (fun (v3_28 : Int32) => r141 v1 v3_28 S)) else (if sm_in (((64 : Int32) * v3) + v4) 7936 = true then (sm_lt (((31 : Int64) * v1) + (S.2.1 5 (((64 : Int32) * v3) + v4).toNatClampNeg)) (fun (v1_29 : Int64) => sm_lt (v4 + (1 : Int32)) (fun (v4_30 : Int32) => (pm_digest_b149 N r141 n) v1_29 v3 v4_30 S))) else none)) else none) S 149 [(0, .ref ((xw x).2.2 0)), (1, .long v1), (3, .int v3), (4, .int v4)] []
    refine sm_iload (pc := 149) 3 ok dm_digest_149 rfl ?_
    refine sm_aload_n (pc := 151) 0 ok dm_digest_151 rfl ?_
    refine sm_getR (pc := 152) (ci := 10) (k := 5) ok dm_digest_152 rfl rfl zc_i10 (by decide) rfl wd_1008 ?_
    refine sm_iload_n (pc := 155) 2 ok dm_digest_155 rfl ?_
    refine sm_iald (pc := 156) ok dm_digest_156 rfl ?_
    refine sm_icmp_ge (pc := 157) 185 ok dm_digest_157 (by decide) (fun _ => ?_) (fun _ => ?_)
    · refine sm_iinc (pc := 185) (i := 3) 2 (1 : Int32) ok dm_digest_185 rfl zk_1 (by decide) (fun v => [(3, .int v), (0, .ref ((xw x).2.2 0)), (1, .long v1), (4, .int v4)]) (fun _ => rfl) (fun v3_28 => ?_)
      refine sm_goto (pc := 188) 141 ok dm_digest_188 (by decide) ?_
      refine sm_lv [1, 2, 0] rfl ?_
      exact h141 _ _ _
    · refine sm_ldc2 (pc := 160) ok dm_digest_160 wd_1503 ?_
      refine sm_lload_n (pc := 163) 1 ok dm_digest_163 rfl ?_
      refine sm_lmul (pc := 164) ok dm_digest_164 ?_
      refine sm_aload_n (pc := 165) 0 ok dm_digest_165 rfl ?_
      refine sm_getR (pc := 166) (ci := 10) (k := 4) ok dm_digest_166 rfl rfl zc_i10 (by decide) rfl wd_1007 ?_
      refine sm_bipush (pc := 169) (64 : Int32) ok dm_digest_169 zb_64 ?_
      refine sm_iload_n (pc := 171) 2 ok dm_digest_171 rfl ?_
      refine sm_imul (pc := 172) ok dm_digest_172 ?_
      refine sm_iload (pc := 173) 3 ok dm_digest_173 rfl ?_
      refine sm_iadd (pc := 175) ok dm_digest_175 ?_
      refine sm_lald (pc := 176) ok dm_digest_176 rfl ?_
      refine sm_ladd (pc := 177) ok dm_digest_177 ?_
      refine sm_lstore_n (pc := 178) (i := 1) ok dm_digest_178 rfl (by decide) (fun v => [(1, .long v), (0, .ref ((xw x).2.2 0)), (3, .int v3), (4, .int v4)]) (fun _ => rfl) (fun v1_29 => ?_)
      refine sm_iinc (pc := 179) (i := 4) 3 (1 : Int32) ok dm_digest_179 rfl zk_1 (by decide) (fun v => [(4, .int v), (1, .long v1_29), (0, .ref ((xw x).2.2 0)), (3, .int v3)]) (fun _ => rfl) (fun v4_30 => ?_)
      refine sm_goto (pc := 182) 149 ok dm_digest_182 (by decide) ?_
      refine sm_lv [2, 1, 3, 0] rfl ?_
      exact ih _ _ _ _
set_option maxHeartbeats 4000000 in
set_option maxRecDepth 20000 in
theorem tm_digest_b141 {x : sm_Cx} (ok : sm_Ok x zm_sy prog_12_method_104_code "LentShadesModel" 5 2 41) (hr : (xh x).sig.returnType = (some .long)) (N : Nat) : ∀ (n : Nat) (v1 : Int64) (v3 : Int32) (S : sm_St), sm_Sm x zm_sy prog_12_method_104_code (sm_Q x zm_sy (sm_Pl zm_sy (xw x))) (pm_digest_b141 N n v1 v3 S) S 141 [(0, .ref ((xw x).2.2 0)), (1, .long v1), (3, .int v3)] [] := by
  intro n
  induction n with
  | zero =>
    intro v1 v3 S
    exact sm_none
  | succ n ih =>
    intro v1 v3 S
    show sm_Sm x zm_sy prog_12_method_104_code (sm_Q x zm_sy (sm_Pl zm_sy (xw x))) (if (1 : Int32) < v3 then (some (v1, S)) else (sm_lt (0 : Int32) (fun (v4_27 : Int32) => pm_digest_b149 N (pm_digest_b141 N n) N v1 v3 v4_27 S))) S 141 [(0, .ref ((xw x).2.2 0)), (1, .long v1), (3, .int v3)] []
    refine sm_iload_n (pc := 141) 2 ok dm_digest_141 rfl ?_
    refine sm_iconst (pc := 142) (1 : Int32) ok dm_digest_142 zk_1 ?_
    refine sm_icmp_gt (pc := 143) 191 ok dm_digest_143 (by decide) (fun _ => ?_) (fun _ => ?_)
    · refine sm_lload_n (pc := 191) 1 ok dm_digest_191 rfl ?_
      exact sm_lret (pc := 192) ok dm_digest_192 hr
    · refine sm_iconst (pc := 146) (0 : Int32) ok dm_digest_146 zk_0 ?_
      refine sm_istore (pc := 147) (i := 4) ok dm_digest_147 (by decide) (fun v => [(4, .int v), (0, .ref ((xw x).2.2 0)), (1, .long v1), (3, .int v3)]) (fun _ => rfl) (fun v4_27 => ?_)
      refine sm_lv [1, 2, 3, 0] rfl ?_
      exact tm_digest_b149 ok hr N ih N _ _ _ _
set_option maxHeartbeats 4000000 in
set_option maxRecDepth 20000 in
theorem tm_digest_b33 {x : sm_Cx} (ok : sm_Ok x zm_sy prog_12_method_104_code "LentShadesModel" 5 2 41) (hr : (xh x).sig.returnType = (some .long)) (N : Nat) : ∀ (n : Nat) (v1 : Int64) (v3 : Int32) (S : sm_St), sm_Sm x zm_sy prog_12_method_104_code (sm_Q x zm_sy (sm_Pl zm_sy (xw x))) (pm_digest_b33 N n v1 v3 S) S 33 [(0, .ref ((xw x).2.2 0)), (1, .long v1), (3, .int v3)] [] := by
  intro n
  induction n with
  | zero =>
    intro v1 v3 S
    exact sm_none
  | succ n ih =>
    intro v1 v3 S
    show sm_Sm x zm_sy prog_12_method_104_code (sm_Q x zm_sy (sm_Pl zm_sy (xw x))) (sm_b2 (pm_cloths N S) (fun (r_9 : Int32) (S_8 : sm_St) => if r_9 ≤ v3 then (sm_b2 (pm_things N S_8) (fun (r_11 : Int32) (S_10 : sm_St) => sm_b2 (pm_sums N S_10 v1 (48 : Int32) r_11) (fun (r_13 : Int64) (S_12 : sm_St) => sm_lt r_13 (fun (v1_14 : Int64) => if sm_in (80 : Int32) 81 = true then (sm_b2 (pm_sums N S_12 v1_14 (52 : Int32) ((4 : Int32) * (S_12.1 1 (80 : Int32).toNatClampNeg))) (fun (r_16 : Int64) (S_15 : sm_St) => sm_lt r_16 (fun (v1_17 : Int64) => if sm_in (0 : Int32) 124 = true then (if sm_in (1 : Int32) 124 = true then (sm_lt (((31 : Int64) * (((31 : Int64) * (((31 : Int64) * v1_17) + (S_15.1 0 6).toInt64)) + (S_15.1 6 (0 : Int32).toNatClampNeg).toInt64)) + (S_15.1 6 (1 : Int32).toNatClampNeg).toInt64) (fun (v1_18 : Int64) => sm_lt (0 : Int32) (fun (v3_19 : Int32) => pm_digest_b141 N N v1_18 v3_19 S_15))) else none) else none))) else none)))) else (sm_b2 (pm_sums N S_8 v1 ((0 : Int32) + ((4 : Int32) * v3)) (4 : Int32)) (fun (r_21 : Int64) (S_20 : sm_St) => sm_lt r_21 (fun (v1_22 : Int64) => sm_b2 (pm_sums N S_20 v1_22 ((16 : Int32) + ((8 : Int32) * v3)) (8 : Int32)) (fun (r_24 : Int64) (S_23 : sm_St) => sm_lt r_24 (fun (v1_25 : Int64) => sm_lt (v3 + (1 : Int32)) (fun (v3_26 : Int32) => (pm_digest_b33 N n) v1_25 v3_26 S_23)))))))) S 33 [(0, .ref ((xw x).2.2 0)), (1, .long v1), (3, .int v3)] []
    refine sm_iload_n (pc := 33) 2 ok dm_digest_33 rfl ?_
    refine sm_aload_n (pc := 34) 0 ok dm_digest_34 rfl ?_
    refine sm_callV_i (pc := 35) (ci := 10) [] ok dm_digest_35 wd_1114 mwm_cloths rfl rfl (Nat.le_of_ble_eq_true rfl) (Nat.le_of_ble_eq_true rfl) rfl rfl (Nat.le_of_ble_eq_true rfl) (cm_cloths (sm_okj ok) N S) (fun r_9 S_8 => ?_)
    refine sm_icmp_ge (pc := 38) 74 ok dm_digest_38 (by decide) (fun _ => ?_) (fun _ => ?_)
    · refine sm_aload_n (pc := 74) 0 ok dm_digest_74 rfl ?_
      refine sm_lload_n (pc := 75) 1 ok dm_digest_75 rfl ?_
      refine sm_bipush (pc := 76) (48 : Int32) ok dm_digest_76 zb_48 ?_
      refine sm_aload_n (pc := 78) 0 ok dm_digest_78 rfl ?_
      refine sm_callV_i (pc := 79) (ci := 10) [] ok dm_digest_79 wd_1142 mwm_things rfl rfl (Nat.le_of_ble_eq_true rfl) (Nat.le_of_ble_eq_true rfl) rfl rfl (Nat.le_of_ble_eq_true rfl) (cm_things (sm_okj ok) N S_8) (fun r_11 S_10 => ?_)
      refine sm_callV_l (pc := 82) (ci := 10) [.long v1, .int (48 : Int32), .int r_11] ok dm_digest_82 wd_1504 mwm_sums rfl rfl (Nat.le_of_ble_eq_true rfl) (Nat.le_of_ble_eq_true rfl) rfl rfl (Nat.le_of_ble_eq_true rfl) (cm_sums (sm_okj ok) N S_10 v1 (48 : Int32) r_11) (fun r_13 S_12 => ?_)
      refine sm_lstore_n (pc := 85) (i := 1) ok dm_digest_85 rfl (by decide) (fun v => [(1, .long v), (0, .ref ((xw x).2.2 0)), (3, .int v3)]) (fun _ => rfl) (fun v1_14 => ?_)
      refine sm_aload_n (pc := 86) 1 ok dm_digest_86 rfl ?_
      refine sm_lload_n (pc := 87) 0 ok dm_digest_87 rfl ?_
      refine sm_bipush (pc := 88) (52 : Int32) ok dm_digest_88 zb_52 ?_
      refine sm_iconst (pc := 90) (4 : Int32) ok dm_digest_90 zk_4 ?_
      refine sm_aload_n (pc := 91) 1 ok dm_digest_91 rfl ?_
      refine sm_getR (pc := 92) (ci := 10) (k := 0) ok dm_digest_92 rfl rfl zc_i10 (by decide) rfl wd_1003 ?_
      refine sm_bipush (pc := 95) (80 : Int32) ok dm_digest_95 zb_80 ?_
      refine sm_iald (pc := 97) ok dm_digest_97 rfl ?_
      refine sm_imul (pc := 98) ok dm_digest_98 ?_
      refine sm_callV_l (pc := 99) (ci := 10) [.long v1_14, .int (52 : Int32), .int ((4 : Int32) * (S_12.1 1 (80 : Int32).toNatClampNeg))] ok dm_digest_99 wd_1504 mwm_sums rfl rfl (Nat.le_of_ble_eq_true rfl) (Nat.le_of_ble_eq_true rfl) rfl rfl (Nat.le_of_ble_eq_true rfl) (cm_sums (sm_okj ok) N S_12 v1_14 (52 : Int32) ((4 : Int32) * (S_12.1 1 (80 : Int32).toNatClampNeg))) (fun r_16 S_15 => ?_)
      refine sm_lstore_n (pc := 102) (i := 1) ok dm_digest_102 rfl (by decide) (fun v => [(1, .long v), (0, .ref ((xw x).2.2 0)), (3, .int v3)]) (fun _ => rfl) (fun v1_17 => ?_)
      refine sm_ldc2 (pc := 103) ok dm_digest_103 wd_1503 ?_
      refine sm_ldc2 (pc := 106) ok dm_digest_106 wd_1503 ?_
      refine sm_ldc2 (pc := 109) ok dm_digest_109 wd_1503 ?_
      refine sm_lload_n (pc := 112) 0 ok dm_digest_112 rfl ?_
      refine sm_lmul (pc := 113) ok dm_digest_113 ?_
      refine sm_aload_n (pc := 114) 1 ok dm_digest_114 rfl ?_
      refine sm_getI (pc := 115) (ci := 10) (k := 6) ok dm_digest_115 rfl rfl zc_i10 (by decide) rfl wd_1009 ?_
      refine sm_i2l (pc := 118) ok dm_digest_118 ?_
      refine sm_ladd (pc := 119) ok dm_digest_119 ?_
      refine sm_lmul (pc := 120) ok dm_digest_120 ?_
      refine sm_aload_n (pc := 121) 1 ok dm_digest_121 rfl ?_
      refine sm_getR (pc := 122) (ci := 10) (k := 5) ok dm_digest_122 rfl rfl zc_i10 (by decide) rfl wd_1008 ?_
      refine sm_iconst (pc := 125) (0 : Int32) ok dm_digest_125 zk_0 ?_
      refine sm_iald (pc := 126) ok dm_digest_126 rfl ?_
      refine sm_i2l (pc := 127) ok dm_digest_127 ?_
      refine sm_ladd (pc := 128) ok dm_digest_128 ?_
      refine sm_lmul (pc := 129) ok dm_digest_129 ?_
      refine sm_aload_n (pc := 130) 1 ok dm_digest_130 rfl ?_
      refine sm_getR (pc := 131) (ci := 10) (k := 5) ok dm_digest_131 rfl rfl zc_i10 (by decide) rfl wd_1008 ?_
      refine sm_iconst (pc := 134) (1 : Int32) ok dm_digest_134 zk_1 ?_
      refine sm_iald (pc := 135) ok dm_digest_135 rfl ?_
      refine sm_i2l (pc := 136) ok dm_digest_136 ?_
      refine sm_ladd (pc := 137) ok dm_digest_137 ?_
      refine sm_lstore_n (pc := 138) (i := 1) ok dm_digest_138 rfl (by decide) (fun v => [(1, .long v), (0, .ref ((xw x).2.2 0)), (3, .int v3)]) (fun _ => rfl) (fun v1_18 => ?_)
      refine sm_iconst (pc := 139) (0 : Int32) ok dm_digest_139 zk_0 ?_
      refine sm_istore_n (pc := 140) (i := 3) ok dm_digest_140 rfl (by decide) (fun v => [(3, .int v), (1, .long v1_18), (0, .ref ((xw x).2.2 0))]) (fun _ => rfl) (fun v3_19 => ?_)
      refine sm_lv [2, 1, 0] rfl ?_
      exact tm_digest_b141 ok hr N N _ _ _
    · refine sm_aload_n (pc := 41) 0 ok dm_digest_41 rfl ?_
      refine sm_lload_n (pc := 42) 1 ok dm_digest_42 rfl ?_
      refine sm_iconst (pc := 43) (0 : Int32) ok dm_digest_43 zk_0 ?_
      refine sm_iconst (pc := 44) (4 : Int32) ok dm_digest_44 zk_4 ?_
      refine sm_iload_n (pc := 45) 2 ok dm_digest_45 rfl ?_
      refine sm_imul (pc := 46) ok dm_digest_46 ?_
      refine sm_iadd (pc := 47) ok dm_digest_47 ?_
      refine sm_iconst (pc := 48) (4 : Int32) ok dm_digest_48 zk_4 ?_
      refine sm_callV_l (pc := 49) (ci := 10) [.long v1, .int ((0 : Int32) + ((4 : Int32) * v3)), .int (4 : Int32)] ok dm_digest_49 wd_1504 mwm_sums rfl rfl (Nat.le_of_ble_eq_true rfl) (Nat.le_of_ble_eq_true rfl) rfl rfl (Nat.le_of_ble_eq_true rfl) (cm_sums (sm_okj ok) N S_8 v1 ((0 : Int32) + ((4 : Int32) * v3)) (4 : Int32)) (fun r_21 S_20 => ?_)
      refine sm_lstore_n (pc := 52) (i := 1) ok dm_digest_52 rfl (by decide) (fun v => [(1, .long v), (0, .ref ((xw x).2.2 0)), (3, .int v3)]) (fun _ => rfl) (fun v1_22 => ?_)
      refine sm_aload_n (pc := 53) 1 ok dm_digest_53 rfl ?_
      refine sm_lload_n (pc := 54) 0 ok dm_digest_54 rfl ?_
      refine sm_bipush (pc := 55) (16 : Int32) ok dm_digest_55 zb_16 ?_
      refine sm_bipush (pc := 57) (8 : Int32) ok dm_digest_57 zb_8 ?_
      refine sm_iload_n (pc := 59) 2 ok dm_digest_59 rfl ?_
      refine sm_imul (pc := 60) ok dm_digest_60 ?_
      refine sm_iadd (pc := 61) ok dm_digest_61 ?_
      refine sm_bipush (pc := 62) (8 : Int32) ok dm_digest_62 zb_8 ?_
      refine sm_callV_l (pc := 64) (ci := 10) [.long v1_22, .int ((16 : Int32) + ((8 : Int32) * v3)), .int (8 : Int32)] ok dm_digest_64 wd_1504 mwm_sums rfl rfl (Nat.le_of_ble_eq_true rfl) (Nat.le_of_ble_eq_true rfl) rfl rfl (Nat.le_of_ble_eq_true rfl) (cm_sums (sm_okj ok) N S_20 v1_22 ((16 : Int32) + ((8 : Int32) * v3)) (8 : Int32)) (fun r_24 S_23 => ?_)
      refine sm_lstore_n (pc := 67) (i := 1) ok dm_digest_67 rfl (by decide) (fun v => [(1, .long v), (0, .ref ((xw x).2.2 0)), (3, .int v3)]) (fun _ => rfl) (fun v1_25 => ?_)
      refine sm_iinc (pc := 68) (i := 3) 2 (1 : Int32) ok dm_digest_68 rfl zk_1 (by decide) (fun v => [(3, .int v), (1, .long v1_25), (0, .ref ((xw x).2.2 0))]) (fun _ => rfl) (fun v3_26 => ?_)
      refine sm_goto (pc := 71) 33 ok dm_digest_71 (by decide) ?_
      refine sm_lv [2, 1, 0] rfl ?_
      exact ih _ _ _
set_option maxHeartbeats 4000000 in
set_option maxRecDepth 20000 in
theorem tm_digest_b6 {x : sm_Cx} (ok : sm_Ok x zm_sy prog_12_method_104_code "LentShadesModel" 5 2 41) (hr : (xh x).sig.returnType = (some .long)) (N : Nat) : ∀ (n : Nat) (v1 : Int64) (v3 : Int32) (S : sm_St), sm_Sm x zm_sy prog_12_method_104_code (sm_Q x zm_sy (sm_Pl zm_sy (xw x))) (pm_digest_b6 N n v1 v3 S) S 6 [(0, .ref ((xw x).2.2 0)), (1, .long v1), (3, .int v3)] [] := by
  intro n
  induction n with
  | zero =>
    intro v1 v3 S
    exact sm_none
  | succ n ih =>
    intro v1 v3 S
    show sm_Sm x zm_sy prog_12_method_104_code (sm_Q x zm_sy (sm_Pl zm_sy (xw x))) (if (6 : Int32) ≤ v3 then (sm_lt (0 : Int32) (fun (v3_3 : Int32) => pm_digest_b33 N N v1 v3_3 S)) else (sm_b2 (pm_counted N S v3) (fun (r_5 : Int32) (S_4 : sm_St) => sm_lt (((31 : Int64) * v1) + r_5.toInt64) (fun (v1_6 : Int64) => sm_lt (v3 + (1 : Int32)) (fun (v3_7 : Int32) => (pm_digest_b6 N n) v1_6 v3_7 S_4))))) S 6 [(0, .ref ((xw x).2.2 0)), (1, .long v1), (3, .int v3)] []
    refine sm_iload_n (pc := 6) 2 ok dm_digest_6 rfl ?_
    refine sm_bipush (pc := 7) (6 : Int32) ok dm_digest_7 zb_6 ?_
    refine sm_icmp_ge (pc := 9) 31 ok dm_digest_9 (by decide) (fun _ => ?_) (fun _ => ?_)
    · refine sm_iconst (pc := 31) (0 : Int32) ok dm_digest_31 zk_0 ?_
      refine sm_istore_n (pc := 32) (i := 3) ok dm_digest_32 rfl (by decide) (fun v => [(3, .int v), (0, .ref ((xw x).2.2 0)), (1, .long v1)]) (fun _ => rfl) (fun v3_3 => ?_)
      refine sm_lv [1, 2, 0] rfl ?_
      exact tm_digest_b33 ok hr N N _ _ _
    · refine sm_ldc2 (pc := 12) ok dm_digest_12 wd_1503 ?_
      refine sm_lload_n (pc := 15) 1 ok dm_digest_15 rfl ?_
      refine sm_lmul (pc := 16) ok dm_digest_16 ?_
      refine sm_aload_n (pc := 17) 0 ok dm_digest_17 rfl ?_
      refine sm_iload_n (pc := 18) 2 ok dm_digest_18 rfl ?_
      refine sm_callV_i (pc := 19) (ci := 10) [.int v3] ok dm_digest_19 wd_1494 mwm_counted rfl rfl (Nat.le_of_ble_eq_true rfl) (Nat.le_of_ble_eq_true rfl) rfl rfl (Nat.le_of_ble_eq_true rfl) (cm_counted (sm_okj ok) N S v3) (fun r_5 S_4 => ?_)
      refine sm_i2l (pc := 22) ok dm_digest_22 ?_
      refine sm_ladd (pc := 23) ok dm_digest_23 ?_
      refine sm_lstore_n (pc := 24) (i := 1) ok dm_digest_24 rfl (by decide) (fun v => [(1, .long v), (0, .ref ((xw x).2.2 0)), (3, .int v3)]) (fun _ => rfl) (fun v1_6 => ?_)
      refine sm_iinc (pc := 25) (i := 3) 2 (1 : Int32) ok dm_digest_25 rfl zk_1 (by decide) (fun v => [(3, .int v), (1, .long v1_6), (0, .ref ((xw x).2.2 0))]) (fun _ => rfl) (fun v3_7 => ?_)
      refine sm_goto (pc := 28) 6 ok dm_digest_28 (by decide) ?_
      refine sm_lv [2, 1, 0] rfl ?_
      exact ih _ _ _
set_option maxHeartbeats 4000000 in
set_option maxRecDepth 20000 in
theorem tm_digest {x : sm_Cx} (ok : sm_Ok x zm_sy prog_12_method_104_code "LentShadesModel" 5 2 41) (hr : (xh x).sig.returnType = (some .long)) (N : Nat) (S : sm_St) : sm_Sm x zm_sy prog_12_method_104_code (sm_Q x zm_sy (sm_Pl zm_sy (xw x))) (pm_digest N S) S 0 [(0, .ref ((xw x).2.2 0))] [] := by
  unfold pm_digest
  refine sm_ldc2 (pc := 0) ok dm_digest_0 wd_1502 ?_
  refine sm_lstore_n (pc := 3) (i := 1) ok dm_digest_3 rfl (by decide) (fun v => [(1, .long v), (0, .ref ((xw x).2.2 0))]) (fun _ => rfl) (fun v1_1 => ?_)
  refine sm_iconst (pc := 4) (0 : Int32) ok dm_digest_4 zk_0 ?_
  refine sm_istore_n (pc := 5) (i := 3) ok dm_digest_5 rfl (by decide) (fun v => [(3, .int v), (1, .long v1_1), (0, .ref ((xw x).2.2 0))]) (fun _ => rfl) (fun v3_2 => ?_)
  refine sm_lv [2, 1, 0] rfl ?_
  exact tm_digest_b6 ok hr N N _ _ _
theorem cm_digest {l : Launch} {wc : sm_Wc} (hj : sm_inj zm_sy wc) (N : Nat) (S : sm_St) : sm_Ct l zm_sy wc ym_digest prog_12_method_104_code 5 (some .long) 2 41 [.ref (wc.2.2 0)] S (sm_Pl zm_sy wc) (pm_digest N S) :=
  sm_entry (Pq := fun wc => sm_Pl zm_sy wc) (fun wc => [.ref (wc.2.2 0)]) (lv := fun wc => [(0, .ref (wc.2.2 0))]) (by decide) hj zm_ok zm_stb (fun _ => Nat.le_of_ble_eq_true rfl) (fun _ => rfl) (fun x _ ok hr => tm_digest ok hr N S)
