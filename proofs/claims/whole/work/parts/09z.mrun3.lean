set_option maxHeartbeats 4000000 in
set_option maxRecDepth 20000 in
theorem tm_morning_b28 {x : sm_Cx} (ok : sm_Ok x zm_sy prog_12_method_69_code "LentShadesModel" 6 4 96) (hr : (xh x).sig.returnType = (some .int)) (N : Nat) (S : sm_St) : sm_Sm x zm_sy prog_12_method_69_code (sm_Q x zm_sy (sm_Pi zm_sy (xw x))) (pm_morning_b28 N S) S 28 [(0, .ref ((xw x).2.2 0))] [] := by
  unfold pm_morning_b28
  refine sm_aload_n (pc := 28) 0 ok dm_morning_28 rfl ?_
  refine sm_bipush (pc := 29) (-10 : Int32) ok dm_morning_29 zb_m10 ?_
  refine sm_callV_i (pc := 31) (ci := 10) [.int (-10 : Int32)] ok dm_morning_31 wd_1110 mwm_bad rfl rfl (Nat.le_of_ble_eq_true rfl) (Nat.le_of_ble_eq_true rfl) rfl rfl (Nat.le_of_ble_eq_true rfl) (cm_bad (sm_okj ok) N S (-10 : Int32)) (fun r_15 S_14 => ?_)
  exact sm_iret (pc := 34) ok dm_morning_34 hr
set_option maxHeartbeats 4000000 in
set_option maxRecDepth 20000 in
theorem tm_morning_b85 {x : sm_Cx} (ok : sm_Ok x zm_sy prog_12_method_69_code "LentShadesModel" 6 4 96) (hr : (xh x).sig.returnType = (some .int)) (N : Nat) {r45 : Int32 → Int32 → Int32 → Int32 → Int32 → sm_St → Option (Int32 × sm_St)} (h45 : ∀ (v1 : Int32) (v2 : Int32) (v3 : Int32) (v4 : Int32) (v5 : Int32) (S : sm_St), sm_Sm x zm_sy prog_12_method_69_code (sm_Q x zm_sy (sm_Pi zm_sy (xw x))) (r45 v1 v2 v3 v4 v5 S) S 45 [(0, .ref ((xw x).2.2 0)), (1, .int v1), (2, .int v2), (3, .int v3), (4, .int v4), (5, .int v5)] []) (v1 : Int32) (v2 : Int32) (v3 : Int32) (v4 : Int32) (v5 : Int32) (S : sm_St) : sm_Sm x zm_sy prog_12_method_69_code (sm_Q x zm_sy (sm_Pi zm_sy (xw x))) (pm_morning_b85 N r45 v1 v2 v3 v4 v5 S) S 85 [(0, .ref ((xw x).2.2 0)), (1, .int v1), (2, .int v2), (3, .int v3), (4, .int v4), (5, .int v5)] [] := by
  unfold pm_morning_b85
  refine sm_iinc (pc := 85) (i := 5) 5 (1 : Int32) ok dm_morning_85 rfl zk_1 (by decide) (fun v => [(5, .int v), (0, .ref ((xw x).2.2 0)), (1, .int v1), (2, .int v2), (3, .int v3), (4, .int v4)]) (fun _ => rfl) (fun v5_13 => ?_)
  refine sm_goto (pc := 88) 45 ok dm_morning_88 (by decide) ?_
  refine sm_lv [1, 2, 3, 4, 5, 0] rfl ?_
  exact h45 _ _ _ _ _ _
set_option maxHeartbeats 4000000 in
set_option maxRecDepth 20000 in
theorem tm_morning_b45 {x : sm_Cx} (ok : sm_Ok x zm_sy prog_12_method_69_code "LentShadesModel" 6 4 96) (hr : (xh x).sig.returnType = (some .int)) (N : Nat) : ∀ (n : Nat) (v1 : Int32) (v2 : Int32) (v3 : Int32) (v4 : Int32) (v5 : Int32) (S : sm_St), sm_Sm x zm_sy prog_12_method_69_code (sm_Q x zm_sy (sm_Pi zm_sy (xw x))) (pm_morning_b45 N n v1 v2 v3 v4 v5 S) S 45 [(0, .ref ((xw x).2.2 0)), (1, .int v1), (2, .int v2), (3, .int v3), (4, .int v4), (5, .int v5)] [] := by
  intro n
  induction n with
  | zero =>
    intro v1 v2 v3 v4 v5 S
    exact sm_none
  | succ n ih =>
    intro v1 v2 v3 v4 v5 S
    show sm_Sm x zm_sy prog_12_method_69_code (sm_Q x zm_sy (sm_Pi zm_sy (xw x))) (if (256 : Int32) ≤ v5 then (if v3 = (-1 : Int32) then (some (v4, S)) else (some ((-5 : Int32), S))) else (sm_b2 (pm_mayTouch N S v5) (fun (r_9 : Int32) (S_8 : sm_St) => if r_9 = 0 then (pm_morning_b85 N (pm_morning_b45 N n) v1 v2 v3 v4 v5 S_8) else (sm_b2 (pm_isMeanOf N S_8 v5 v1 v2) (fun (r_11 : Int32) (S_10 : sm_St) => if r_11 = 0 then (pm_morning_b85 N (pm_morning_b45 N n) v1 v2 v3 v4 v5 S_10) else (if v4 = v3 then (some (v5, S_10)) else (sm_lt (v4 + (1 : Int32)) (fun (v4_12 : Int32) => pm_morning_b85 N (pm_morning_b45 N n) v1 v2 v3 v4_12 v5 S_10)))))))) S 45 [(0, .ref ((xw x).2.2 0)), (1, .int v1), (2, .int v2), (3, .int v3), (4, .int v4), (5, .int v5)] []
    refine sm_iload (pc := 45) 5 ok dm_morning_45 rfl ?_
    refine sm_sipush (pc := 47) (256 : Int32) ok dm_morning_47 zs_256 ?_
    refine sm_icmp_ge (pc := 50) 91 ok dm_morning_50 (by decide) (fun _ => ?_) (fun _ => ?_)
    · refine sm_iload_n (pc := 91) 3 ok dm_morning_91 rfl ?_
      refine sm_iconst (pc := 92) (-1 : Int32) ok dm_morning_92 zk_m1 ?_
      refine sm_icmp_ne (pc := 93) 101 ok dm_morning_93 (by decide) (fun _ => ?_) (fun _ => ?_)
      · refine sm_bipush (pc := 101) (-5 : Int32) ok dm_morning_101 zb_m5 ?_
        exact sm_iret (pc := 103) ok dm_morning_103 hr
      · refine sm_iload (pc := 96) 4 ok dm_morning_96 rfl ?_
        refine sm_goto (pc := 98) 103 ok dm_morning_98 (by decide) ?_
        exact sm_iret (pc := 103) ok dm_morning_103 hr
    · refine sm_aload_n (pc := 53) 0 ok dm_morning_53 rfl ?_
      refine sm_iload (pc := 54) 5 ok dm_morning_54 rfl ?_
      refine sm_callV_i (pc := 56) (ci := 10) [.int v5] ok dm_morning_56 wd_1354 mwm_mayTouch rfl rfl (Nat.le_of_ble_eq_true rfl) (Nat.le_of_ble_eq_true rfl) rfl rfl (Nat.le_of_ble_eq_true rfl) (cm_mayTouch (sm_okj ok) N S v5) (fun r_9 S_8 => ?_)
      refine sm_if_eq (pc := 59) 85 ok dm_morning_59 (by decide) (fun _ => ?_) (fun _ => ?_)
      · exact tm_morning_b85 ok hr N ih _ _ _ _ _ _
      · refine sm_aload_n (pc := 62) 0 ok dm_morning_62 rfl ?_
        refine sm_iload (pc := 63) 5 ok dm_morning_63 rfl ?_
        refine sm_iload_n (pc := 65) 1 ok dm_morning_65 rfl ?_
        refine sm_iload_n (pc := 66) 2 ok dm_morning_66 rfl ?_
        refine sm_callV_i (pc := 67) (ci := 10) [.int v5, .int v1, .int v2] ok dm_morning_67 wd_1358 mwm_isMeanOf rfl rfl (Nat.le_of_ble_eq_true rfl) (Nat.le_of_ble_eq_true rfl) rfl rfl (Nat.le_of_ble_eq_true rfl) (cm_isMeanOf (sm_okj ok) N S_8 v5 v1 v2) (fun r_11 S_10 => ?_)
        refine sm_if_eq (pc := 70) 85 ok dm_morning_70 (by decide) (fun _ => ?_) (fun _ => ?_)
        · exact tm_morning_b85 ok hr N ih _ _ _ _ _ _
        · refine sm_iload (pc := 73) 4 ok dm_morning_73 rfl ?_
          refine sm_iload_n (pc := 75) 3 ok dm_morning_75 rfl ?_
          refine sm_icmp_ne (pc := 76) 82 ok dm_morning_76 (by decide) (fun _ => ?_) (fun _ => ?_)
          · refine sm_iinc (pc := 82) (i := 4) 4 (1 : Int32) ok dm_morning_82 rfl zk_1 (by decide) (fun v => [(4, .int v), (0, .ref ((xw x).2.2 0)), (1, .int v1), (2, .int v2), (3, .int v3), (5, .int v5)]) (fun _ => rfl) (fun v4_12 => ?_)
            refine sm_lv [1, 2, 3, 4, 0, 5] rfl ?_
            exact tm_morning_b85 ok hr N ih _ _ _ _ _ _
          · refine sm_iload (pc := 79) 5 ok dm_morning_79 rfl ?_
            exact sm_iret (pc := 81) ok dm_morning_81 hr
set_option maxHeartbeats 4000000 in
set_option maxRecDepth 20000 in
theorem tm_morning {x : sm_Cx} (ok : sm_Ok x zm_sy prog_12_method_69_code "LentShadesModel" 6 4 96) (hr : (xh x).sig.returnType = (some .int)) (N : Nat) (S : sm_St) (v1 : Int32) (v2 : Int32) (v3 : Int32) : sm_Sm x zm_sy prog_12_method_69_code (sm_Q x zm_sy (sm_Pi zm_sy (xw x))) (pm_morning N S v1 v2 v3) S 0 [(0, .ref ((xw x).2.2 0)), (1, .int v1), (2, .int v2), (3, .int v3)] [] := by
  unfold pm_morning
  refine sm_iload_n (pc := 0) 2 ok dm_morning_0 rfl ?_
  refine sm_i2l (pc := 1) ok dm_morning_1 ?_
  refine sm_lconst (pc := 2) (1 : Int64) ok dm_morning_2 zl_1 ?_
  refine sm_ldc2 (pc := 3) ok dm_morning_3 wd_1353 ?_
  refine sm_callS_i (pc := 6) [.long (v2.toInt64), .long (1 : Int64), .long (99 : Int64)] ok dm_morning_6 wd_1105 mwm_in (Nat.le_of_ble_eq_true rfl) (Nat.le_of_ble_eq_true rfl) rfl rfl (Nat.le_of_ble_eq_true rfl) (cm_in (sm_okj ok) N S (v2.toInt64) (1 : Int64) (99 : Int64)) (fun r_2 S_1 => ?_)
  refine sm_if_eq (pc := 9) 28 ok dm_morning_9 (by decide) (fun _ => ?_) (fun _ => ?_)
  · refine sm_lv [0] rfl ?_
    exact tm_morning_b28 ok hr N _
  · refine sm_iload_n (pc := 12) 1 ok dm_morning_12 rfl ?_
    refine sm_i2l (pc := 13) ok dm_morning_13 ?_
    refine sm_lconst (pc := 14) (0 : Int64) ok dm_morning_14 zl_0 ?_
    refine sm_iload_n (pc := 15) 2 ok dm_morning_15 rfl ?_
    refine sm_i2l (pc := 16) ok dm_morning_16 ?_
    refine sm_callS_i (pc := 17) [.long (v1.toInt64), .long (0 : Int64), .long (v2.toInt64)] ok dm_morning_17 wd_1105 mwm_in (Nat.le_of_ble_eq_true rfl) (Nat.le_of_ble_eq_true rfl) rfl rfl (Nat.le_of_ble_eq_true rfl) (cm_in (sm_okj ok) N S_1 (v1.toInt64) (0 : Int64) (v2.toInt64)) (fun r_4 S_3 => ?_)
    refine sm_if_eq (pc := 20) 28 ok dm_morning_20 (by decide) (fun _ => ?_) (fun _ => ?_)
    · refine sm_lv [0] rfl ?_
      exact tm_morning_b28 ok hr N _
    · refine sm_iload_n (pc := 23) 3 ok dm_morning_23 rfl ?_
      refine sm_iconst (pc := 24) (-1 : Int32) ok dm_morning_24 zk_m1 ?_
      refine sm_icmp_ge (pc := 25) 35 ok dm_morning_25 (by decide) (fun _ => ?_) (fun _ => ?_)
      · refine sm_aload_n (pc := 35) 0 ok dm_morning_35 rfl ?_
        refine sm_callV_v (pc := 36) (ci := 10) [] ok dm_morning_36 wd_1173 mwm_takeNow rfl rfl (Nat.le_of_ble_eq_true rfl) (Nat.le_of_ble_eq_true rfl) rfl rfl (Nat.le_of_ble_eq_true rfl) (cm_takeNow (sm_okj ok) N S_3) (fun S_5 => ?_)
        refine sm_iconst (pc := 39) (0 : Int32) ok dm_morning_39 zk_0 ?_
        refine sm_istore (pc := 40) (i := 4) ok dm_morning_40 (by decide) (fun v => [(4, .int v), (0, .ref ((xw x).2.2 0)), (1, .int v1), (2, .int v2), (3, .int v3)]) (fun _ => rfl) (fun v4_6 => ?_)
        refine sm_iconst (pc := 42) (1 : Int32) ok dm_morning_42 zk_1 ?_
        refine sm_istore (pc := 43) (i := 5) ok dm_morning_43 (by decide) (fun v => [(5, .int v), (4, .int v4_6), (0, .ref ((xw x).2.2 0)), (1, .int v1), (2, .int v2), (3, .int v3)]) (fun _ => rfl) (fun v5_7 => ?_)
        refine sm_lv [2, 3, 4, 5, 1, 0] rfl ?_
        exact tm_morning_b45 ok hr N N _ _ _ _ _ _
      · refine sm_lv [0] rfl ?_
        exact tm_morning_b28 ok hr N _
theorem cm_morning {l : Launch} {wc : sm_Wc} (hj : sm_inj zm_sy wc) (N : Nat) (S : sm_St) (v1 : Int32) (v2 : Int32) (v3 : Int32) : sm_Ct l zm_sy wc ym_morning prog_12_method_69_code 6 (some .int) 4 96 [.ref (wc.2.2 0), .int v1, .int v2, .int v3] S (sm_Pi zm_sy wc) (pm_morning N S v1 v2 v3) :=
  sm_entry (Pq := fun wc => sm_Pi zm_sy wc) (fun wc => [.ref (wc.2.2 0), .int v1, .int v2, .int v3]) (lv := fun wc => [(0, .ref (wc.2.2 0)), (1, .int v1), (2, .int v2), (3, .int v3)]) (by decide) hj zm_ok zm_stb (fun _ => Nat.le_of_ble_eq_true rfl) (fun _ => rfl) (fun x _ ok hr => tm_morning ok hr N S v1 v2 v3)
set_option maxHeartbeats 4000000 in
set_option maxRecDepth 20000 in
theorem tm_surely_b23 {x : sm_Cx} (ok : sm_Ok x zm_sy prog_12_method_70_code "LentShadesModel" 5 4 96) (hr : (xh x).sig.returnType = (some .int)) (N : Nat) (S : sm_St) : sm_Sm x zm_sy prog_12_method_70_code (sm_Q x zm_sy (sm_Pi zm_sy (xw x))) (pm_surely_b23 N S) S 23 [(0, .ref ((xw x).2.2 0))] [] := by
  unfold pm_surely_b23
  refine sm_aload_n (pc := 23) 0 ok dm_surely_23 rfl ?_
  refine sm_bipush (pc := 24) (-2 : Int32) ok dm_surely_24 zb_m2 ?_
  refine sm_callV_i (pc := 26) (ci := 10) [.int (-2 : Int32)] ok dm_surely_26 wd_1110 mwm_bad rfl rfl (Nat.le_of_ble_eq_true rfl) (Nat.le_of_ble_eq_true rfl) rfl rfl (Nat.le_of_ble_eq_true rfl) (cm_bad (sm_okj ok) N S (-2 : Int32)) (fun r_15 S_14 => ?_)
  exact sm_iret (pc := 29) ok dm_surely_29 hr
set_option maxHeartbeats 4000000 in
set_option maxRecDepth 20000 in
theorem tm_surely_b75 {x : sm_Cx} (ok : sm_Ok x zm_sy prog_12_method_70_code "LentShadesModel" 5 4 96) (hr : (xh x).sig.returnType = (some .int)) (N : Nat) {r39 : Int32 → Int32 → Int32 → Int32 → sm_St → Option (Int32 × sm_St)} (h39 : ∀ (v1 : Int32) (v2 : Int32) (v3 : Int32) (v4 : Int32) (S : sm_St), sm_Sm x zm_sy prog_12_method_70_code (sm_Q x zm_sy (sm_Pi zm_sy (xw x))) (r39 v1 v2 v3 v4 S) S 39 [(0, .ref ((xw x).2.2 0)), (1, .int v1), (2, .int v2), (3, .int v3), (4, .int v4)] []) (v1 : Int32) (v2 : Int32) (v4 : Int32) (s0 : Int32) (S : sm_St) : sm_Sm x zm_sy prog_12_method_70_code (sm_Q x zm_sy (sm_Pi zm_sy (xw x))) (pm_surely_b75 N r39 v1 v2 v4 s0 S) S 75 [(0, .ref ((xw x).2.2 0)), (1, .int v1), (2, .int v2), (4, .int v4)] [.int s0] := by
  unfold pm_surely_b75
  refine sm_istore_n (pc := 75) (i := 3) ok dm_surely_75 rfl (by decide) (fun v => [(3, .int v), (0, .ref ((xw x).2.2 0)), (1, .int v1), (2, .int v2), (4, .int v4)]) (fun _ => rfl) (fun v3_12 => ?_)
  refine sm_iinc (pc := 76) (i := 4) 4 (1 : Int32) ok dm_surely_76 rfl zk_1 (by decide) (fun v => [(4, .int v), (3, .int v3_12), (0, .ref ((xw x).2.2 0)), (1, .int v1), (2, .int v2)]) (fun _ => rfl) (fun v4_13 => ?_)
  refine sm_goto (pc := 79) 39 ok dm_surely_79 (by decide) ?_
  refine sm_lv [2, 3, 4, 1, 0] rfl ?_
  exact h39 _ _ _ _ _
set_option maxHeartbeats 4000000 in
set_option maxRecDepth 20000 in
theorem tm_surely_b74 {x : sm_Cx} (ok : sm_Ok x zm_sy prog_12_method_70_code "LentShadesModel" 5 4 96) (hr : (xh x).sig.returnType = (some .int)) (N : Nat) {r39 : Int32 → Int32 → Int32 → Int32 → sm_St → Option (Int32 × sm_St)} (h39 : ∀ (v1 : Int32) (v2 : Int32) (v3 : Int32) (v4 : Int32) (S : sm_St), sm_Sm x zm_sy prog_12_method_70_code (sm_Q x zm_sy (sm_Pi zm_sy (xw x))) (r39 v1 v2 v3 v4 S) S 39 [(0, .ref ((xw x).2.2 0)), (1, .int v1), (2, .int v2), (3, .int v3), (4, .int v4)] []) (v1 : Int32) (v2 : Int32) (v3 : Int32) (v4 : Int32) (S : sm_St) : sm_Sm x zm_sy prog_12_method_70_code (sm_Q x zm_sy (sm_Pi zm_sy (xw x))) (pm_surely_b74 N r39 v1 v2 v3 v4 S) S 74 [(0, .ref ((xw x).2.2 0)), (1, .int v1), (2, .int v2), (3, .int v3), (4, .int v4)] [] := by
  unfold pm_surely_b74
  refine sm_iload_n (pc := 74) 3 ok dm_surely_74 rfl ?_
  refine sm_lv [0, 1, 2, 4] rfl ?_
  exact tm_surely_b75 ok hr N h39 _ _ _ _ _
set_option maxHeartbeats 4000000 in
set_option maxRecDepth 20000 in
theorem tm_surely_b39 {x : sm_Cx} (ok : sm_Ok x zm_sy prog_12_method_70_code "LentShadesModel" 5 4 96) (hr : (xh x).sig.returnType = (some .int)) (N : Nat) : ∀ (n : Nat) (v1 : Int32) (v2 : Int32) (v3 : Int32) (v4 : Int32) (S : sm_St), sm_Sm x zm_sy prog_12_method_70_code (sm_Q x zm_sy (sm_Pi zm_sy (xw x))) (pm_surely_b39 N n v1 v2 v3 v4 S) S 39 [(0, .ref ((xw x).2.2 0)), (1, .int v1), (2, .int v2), (3, .int v3), (4, .int v4)] [] := by
  intro n
  induction n with
  | zero =>
    intro v1 v2 v3 v4 S
    exact sm_none
  | succ n ih =>
    intro v1 v2 v3 v4 S
    show sm_Sm x zm_sy prog_12_method_70_code (sm_Q x zm_sy (sm_Pi zm_sy (xw x))) (if (256 : Int32) ≤ v4 then (some (v3, S)) else (sm_b2 (pm_mayTouch N S v4) (fun (r_9 : Int32) (S_8 : sm_St) => if r_9 = 0 then (pm_surely_b74 N (pm_surely_b39 N n) v1 v2 v3 v4 S_8) else (sm_b2 (pm_isMeanOf N S_8 v4 v1 v2) (fun (r_11 : Int32) (S_10 : sm_St) => if r_11 = 0 then (pm_surely_b74 N (pm_surely_b39 N n) v1 v2 v3 v4 S_10) else (pm_surely_b75 N (pm_surely_b39 N n) v1 v2 v4 (v3 &&& v4) S_10)))))) S 39 [(0, .ref ((xw x).2.2 0)), (1, .int v1), (2, .int v2), (3, .int v3), (4, .int v4)] []
    refine sm_iload (pc := 39) 4 ok dm_surely_39 rfl ?_
    refine sm_sipush (pc := 41) (256 : Int32) ok dm_surely_41 zs_256 ?_
    refine sm_icmp_ge (pc := 44) 82 ok dm_surely_44 (by decide) (fun _ => ?_) (fun _ => ?_)
    · refine sm_iload_n (pc := 82) 3 ok dm_surely_82 rfl ?_
      exact sm_iret (pc := 83) ok dm_surely_83 hr
    · refine sm_aload_n (pc := 47) 0 ok dm_surely_47 rfl ?_
      refine sm_iload (pc := 48) 4 ok dm_surely_48 rfl ?_
      refine sm_callV_i (pc := 50) (ci := 10) [.int v4] ok dm_surely_50 wd_1354 mwm_mayTouch rfl rfl (Nat.le_of_ble_eq_true rfl) (Nat.le_of_ble_eq_true rfl) rfl rfl (Nat.le_of_ble_eq_true rfl) (cm_mayTouch (sm_okj ok) N S v4) (fun r_9 S_8 => ?_)
      refine sm_if_eq (pc := 53) 74 ok dm_surely_53 (by decide) (fun _ => ?_) (fun _ => ?_)
      · exact tm_surely_b74 ok hr N ih _ _ _ _ _
      · refine sm_aload_n (pc := 56) 0 ok dm_surely_56 rfl ?_
        refine sm_iload (pc := 57) 4 ok dm_surely_57 rfl ?_
        refine sm_iload_n (pc := 59) 1 ok dm_surely_59 rfl ?_
        refine sm_iload_n (pc := 60) 2 ok dm_surely_60 rfl ?_
        refine sm_callV_i (pc := 61) (ci := 10) [.int v4, .int v1, .int v2] ok dm_surely_61 wd_1358 mwm_isMeanOf rfl rfl (Nat.le_of_ble_eq_true rfl) (Nat.le_of_ble_eq_true rfl) rfl rfl (Nat.le_of_ble_eq_true rfl) (cm_isMeanOf (sm_okj ok) N S_8 v4 v1 v2) (fun r_11 S_10 => ?_)
        refine sm_if_eq (pc := 64) 74 ok dm_surely_64 (by decide) (fun _ => ?_) (fun _ => ?_)
        · exact tm_surely_b74 ok hr N ih _ _ _ _ _
        · refine sm_iload_n (pc := 67) 3 ok dm_surely_67 rfl ?_
          refine sm_iload (pc := 68) 4 ok dm_surely_68 rfl ?_
          refine sm_iand (pc := 70) ok dm_surely_70 ?_
          refine sm_goto (pc := 71) 75 ok dm_surely_71 (by decide) ?_
          refine sm_lv [0, 1, 2, 4] rfl ?_
          exact tm_surely_b75 ok hr N ih _ _ _ _ _
set_option maxHeartbeats 4000000 in
set_option maxRecDepth 20000 in
theorem tm_surely {x : sm_Cx} (ok : sm_Ok x zm_sy prog_12_method_70_code "LentShadesModel" 5 4 96) (hr : (xh x).sig.returnType = (some .int)) (N : Nat) (S : sm_St) (v1 : Int32) (v2 : Int32) : sm_Sm x zm_sy prog_12_method_70_code (sm_Q x zm_sy (sm_Pi zm_sy (xw x))) (pm_surely N S v1 v2) S 0 [(0, .ref ((xw x).2.2 0)), (1, .int v1), (2, .int v2)] [] := by
  unfold pm_surely
  refine sm_iload_n (pc := 0) 2 ok dm_surely_0 rfl ?_
  refine sm_i2l (pc := 1) ok dm_surely_1 ?_
  refine sm_lconst (pc := 2) (1 : Int64) ok dm_surely_2 zl_1 ?_
  refine sm_ldc2 (pc := 3) ok dm_surely_3 wd_1353 ?_
  refine sm_callS_i (pc := 6) [.long (v2.toInt64), .long (1 : Int64), .long (99 : Int64)] ok dm_surely_6 wd_1105 mwm_in (Nat.le_of_ble_eq_true rfl) (Nat.le_of_ble_eq_true rfl) rfl rfl (Nat.le_of_ble_eq_true rfl) (cm_in (sm_okj ok) N S (v2.toInt64) (1 : Int64) (99 : Int64)) (fun r_2 S_1 => ?_)
  refine sm_if_eq (pc := 9) 23 ok dm_surely_9 (by decide) (fun _ => ?_) (fun _ => ?_)
  · refine sm_lv [0] rfl ?_
    exact tm_surely_b23 ok hr N _
  · refine sm_iload_n (pc := 12) 1 ok dm_surely_12 rfl ?_
    refine sm_i2l (pc := 13) ok dm_surely_13 ?_
    refine sm_lconst (pc := 14) (0 : Int64) ok dm_surely_14 zl_0 ?_
    refine sm_iload_n (pc := 15) 2 ok dm_surely_15 rfl ?_
    refine sm_i2l (pc := 16) ok dm_surely_16 ?_
    refine sm_callS_i (pc := 17) [.long (v1.toInt64), .long (0 : Int64), .long (v2.toInt64)] ok dm_surely_17 wd_1105 mwm_in (Nat.le_of_ble_eq_true rfl) (Nat.le_of_ble_eq_true rfl) rfl rfl (Nat.le_of_ble_eq_true rfl) (cm_in (sm_okj ok) N S_1 (v1.toInt64) (0 : Int64) (v2.toInt64)) (fun r_4 S_3 => ?_)
    refine sm_if_ne (pc := 20) 30 ok dm_surely_20 (by decide) (fun _ => ?_) (fun _ => ?_)
    · refine sm_aload_n (pc := 30) 0 ok dm_surely_30 rfl ?_
      refine sm_callV_v (pc := 31) (ci := 10) [] ok dm_surely_31 wd_1173 mwm_takeNow rfl rfl (Nat.le_of_ble_eq_true rfl) (Nat.le_of_ble_eq_true rfl) rfl rfl (Nat.le_of_ble_eq_true rfl) (cm_takeNow (sm_okj ok) N S_3) (fun S_5 => ?_)
      refine sm_iconst (pc := 34) (-1 : Int32) ok dm_surely_34 zk_m1 ?_
      refine sm_istore_n (pc := 35) (i := 3) ok dm_surely_35 rfl (by decide) (fun v => [(3, .int v), (0, .ref ((xw x).2.2 0)), (1, .int v1), (2, .int v2)]) (fun _ => rfl) (fun v3_6 => ?_)
      refine sm_iconst (pc := 36) (1 : Int32) ok dm_surely_36 zk_1 ?_
      refine sm_istore (pc := 37) (i := 4) ok dm_surely_37 (by decide) (fun v => [(4, .int v), (3, .int v3_6), (0, .ref ((xw x).2.2 0)), (1, .int v1), (2, .int v2)]) (fun _ => rfl) (fun v4_7 => ?_)
      refine sm_lv [2, 3, 4, 1, 0] rfl ?_
      exact tm_surely_b39 ok hr N N _ _ _ _ _
    · refine sm_lv [0] rfl ?_
      exact tm_surely_b23 ok hr N _
theorem cm_surely {l : Launch} {wc : sm_Wc} (hj : sm_inj zm_sy wc) (N : Nat) (S : sm_St) (v1 : Int32) (v2 : Int32) : sm_Ct l zm_sy wc ym_surely prog_12_method_70_code 5 (some .int) 4 96 [.ref (wc.2.2 0), .int v1, .int v2] S (sm_Pi zm_sy wc) (pm_surely N S v1 v2) :=
  sm_entry (Pq := fun wc => sm_Pi zm_sy wc) (fun wc => [.ref (wc.2.2 0), .int v1, .int v2]) (lv := fun wc => [(0, .ref (wc.2.2 0)), (1, .int v1), (2, .int v2)]) (by decide) hj zm_ok zm_stb (fun _ => Nat.le_of_ble_eq_true rfl) (fun _ => rfl) (fun x _ ok hr => tm_surely ok hr N S v1 v2)
set_option maxHeartbeats 4000000 in
set_option maxRecDepth 20000 in
theorem tm_borrower_b44 {x : sm_Cx} (ok : sm_Ok x zm_sy prog_12_method_71_code "LentShadesModel" 6 2 46) (hr : (xh x).sig.returnType = (some .int)) (N : Nat) (S : sm_St) : sm_Sm x zm_sy prog_12_method_71_code (sm_Q x zm_sy (sm_Pi zm_sy (xw x))) (pm_borrower_b44 N S) S 44 [(0, .ref ((xw x).2.2 0))] [] := by
  unfold pm_borrower_b44
  refine sm_aload_n (pc := 44) 0 ok dm_borrower_44 rfl ?_
  refine sm_bipush (pc := 45) (-2 : Int32) ok dm_borrower_45 zb_m2 ?_
  refine sm_callV_i (pc := 47) (ci := 10) [.int (-2 : Int32)] ok dm_borrower_47 wd_1110 mwm_bad rfl rfl (Nat.le_of_ble_eq_true rfl) (Nat.le_of_ble_eq_true rfl) rfl rfl (Nat.le_of_ble_eq_true rfl) (cm_bad (sm_okj ok) N S (-2 : Int32)) (fun r_18 S_17 => ?_)
  exact sm_iret (pc := 50) ok dm_borrower_50 hr
set_option maxHeartbeats 4000000 in
set_option maxRecDepth 20000 in
theorem tm_borrower {x : sm_Cx} (ok : sm_Ok x zm_sy prog_12_method_71_code "LentShadesModel" 6 2 46) (hr : (xh x).sig.returnType = (some .int)) (N : Nat) (S : sm_St) (v1 : Int32) (v2 : Int32) (v3 : Int32) (v4 : Int32) : sm_Sm x zm_sy prog_12_method_71_code (sm_Q x zm_sy (sm_Pi zm_sy (xw x))) (pm_borrower N S v1 v2 v3 v4) S 0 [(0, .ref ((xw x).2.2 0)), (1, .int v1), (2, .int v2), (3, .int v3), (4, .int v4)] [] := by
  unfold pm_borrower
  refine sm_aload_n (pc := 0) 0 ok dm_borrower_0 rfl ?_
  refine sm_iload_n (pc := 1) 1 ok dm_borrower_1 rfl ?_
  refine sm_callV_i (pc := 2) (ci := 10) [.int v1] ok dm_borrower_2 wd_1154 mwm_isCloth rfl rfl (Nat.le_of_ble_eq_true rfl) (Nat.le_of_ble_eq_true rfl) rfl rfl (Nat.le_of_ble_eq_true rfl) (cm_isCloth (sm_okj ok) N S v1) (fun r_2 S_1 => ?_)
  refine sm_if_eq (pc := 5) 44 ok dm_borrower_5 (by decide) (fun _ => ?_) (fun _ => ?_)
  · refine sm_lv [0] rfl ?_
    exact tm_borrower_b44 ok hr N _
  · refine sm_iload_n (pc := 8) 3 ok dm_borrower_8 rfl ?_
    refine sm_i2l (pc := 9) ok dm_borrower_9 ?_
    refine sm_lconst (pc := 10) (0 : Int64) ok dm_borrower_10 zl_0 ?_
    refine sm_ldc2 (pc := 11) ok dm_borrower_11 wd_1109 ?_
    refine sm_callS_i (pc := 14) [.long (v3.toInt64), .long (0 : Int64), .long (12 : Int64)] ok dm_borrower_14 wd_1105 mwm_in (Nat.le_of_ble_eq_true rfl) (Nat.le_of_ble_eq_true rfl) rfl rfl (Nat.le_of_ble_eq_true rfl) (cm_in (sm_okj ok) N S_1 (v3.toInt64) (0 : Int64) (12 : Int64)) (fun r_4 S_3 => ?_)
    refine sm_if_eq (pc := 17) 44 ok dm_borrower_17 (by decide) (fun _ => ?_) (fun _ => ?_)
    · refine sm_lv [0] rfl ?_
      exact tm_borrower_b44 ok hr N _
    · refine sm_iload_n (pc := 20) 2 ok dm_borrower_20 rfl ?_
      refine sm_i2l (pc := 21) ok dm_borrower_21 ?_
      refine sm_lconst (pc := 22) (0 : Int64) ok dm_borrower_22 zl_0 ?_
      refine sm_iload_n (pc := 23) 3 ok dm_borrower_23 rfl ?_
      refine sm_i2l (pc := 24) ok dm_borrower_24 ?_
      refine sm_callS_i (pc := 25) [.long (v2.toInt64), .long (0 : Int64), .long (v3.toInt64)] ok dm_borrower_25 wd_1105 mwm_in (Nat.le_of_ble_eq_true rfl) (Nat.le_of_ble_eq_true rfl) rfl rfl (Nat.le_of_ble_eq_true rfl) (cm_in (sm_okj ok) N S_3 (v2.toInt64) (0 : Int64) (v3.toInt64)) (fun r_6 S_5 => ?_)
      refine sm_if_eq (pc := 28) 44 ok dm_borrower_28 (by decide) (fun _ => ?_) (fun _ => ?_)
      · refine sm_lv [0] rfl ?_
        exact tm_borrower_b44 ok hr N _
      · refine sm_iload (pc := 31) 4 ok dm_borrower_31 rfl ?_
        refine sm_i2l (pc := 33) ok dm_borrower_33 ?_
        refine sm_lconst (pc := 34) (0 : Int64) ok dm_borrower_34 zl_0 ?_
        refine sm_ldc2 (pc := 35) ok dm_borrower_35 wd_1109 ?_
        refine sm_callS_i (pc := 38) [.long (v4.toInt64), .long (0 : Int64), .long (12 : Int64)] ok dm_borrower_38 wd_1105 mwm_in (Nat.le_of_ble_eq_true rfl) (Nat.le_of_ble_eq_true rfl) rfl rfl (Nat.le_of_ble_eq_true rfl) (cm_in (sm_okj ok) N S_5 (v4.toInt64) (0 : Int64) (12 : Int64)) (fun r_8 S_7 => ?_)
        refine sm_if_ne (pc := 41) 51 ok dm_borrower_41 (by decide) (fun _ => ?_) (fun _ => ?_)
        · refine sm_aload_n (pc := 51) 0 ok dm_borrower_51 rfl ?_
          refine sm_getR (pc := 52) (ci := 10) (k := 0) ok dm_borrower_52 rfl rfl zc_i10 (by decide) rfl wd_1003 ?_
          refine sm_bipush (pc := 55) (80 : Int32) ok dm_borrower_55 zb_80 ?_
          refine sm_iald (pc := 57) ok dm_borrower_57 rfl ?_
          refine sm_istore (pc := 58) (i := 5) ok dm_borrower_58 (by decide) (fun v => [(5, .int v), (0, .ref ((xw x).2.2 0)), (1, .int v1), (2, .int v2), (3, .int v3), (4, .int v4)]) (fun _ => rfl) (fun v5_9 => ?_)
          refine sm_iload (pc := 60) 0 ok dm_borrower_60 rfl ?_
          refine sm_bipush (pc := 62) (6 : Int32) ok dm_borrower_62 zb_6 ?_
          refine sm_icmp_ne (pc := 64) 72 ok dm_borrower_64 (by decide) (fun _ => ?_) (fun _ => ?_)
          · refine sm_aload_n (pc := 72) 1 ok dm_borrower_72 rfl ?_
            refine sm_getR (pc := 73) (ci := 10) (k := 0) ok dm_borrower_73 rfl rfl zc_i10 (by decide) rfl wd_1003 ?_
            refine sm_bipush (pc := 76) (52 : Int32) ok dm_borrower_76 zb_52 ?_
            refine sm_iconst (pc := 78) (4 : Int32) ok dm_borrower_78 zk_4 ?_
            refine sm_iload (pc := 79) 0 ok dm_borrower_79 rfl ?_
            refine sm_imul (pc := 81) ok dm_borrower_81 ?_
            refine sm_iadd (pc := 82) ok dm_borrower_82 ?_
            refine sm_iload_n (pc := 83) 2 ok dm_borrower_83 rfl ?_
            refine sm_iast (pc := 84) ok dm_borrower_84 rfl (fun S_10 => ?_)
            refine sm_aload_n (pc := 85) 1 ok dm_borrower_85 rfl ?_
            refine sm_getR (pc := 86) (ci := 10) (k := 0) ok dm_borrower_86 rfl rfl zc_i10 (by decide) rfl wd_1003 ?_
            refine sm_bipush (pc := 89) (52 : Int32) ok dm_borrower_89 zb_52 ?_
            refine sm_iconst (pc := 91) (4 : Int32) ok dm_borrower_91 zk_4 ?_
            refine sm_iload (pc := 92) 0 ok dm_borrower_92 rfl ?_
            refine sm_imul (pc := 94) ok dm_borrower_94 ?_
            refine sm_iadd (pc := 95) ok dm_borrower_95 ?_
            refine sm_iconst (pc := 96) (1 : Int32) ok dm_borrower_96 zk_1 ?_
            refine sm_iadd (pc := 97) ok dm_borrower_97 ?_
            refine sm_iload_n (pc := 98) 3 ok dm_borrower_98 rfl ?_
            refine sm_iast (pc := 99) ok dm_borrower_99 rfl (fun S_11 => ?_)
            refine sm_aload_n (pc := 100) 1 ok dm_borrower_100 rfl ?_
            refine sm_getR (pc := 101) (ci := 10) (k := 0) ok dm_borrower_101 rfl rfl zc_i10 (by decide) rfl wd_1003 ?_
            refine sm_bipush (pc := 104) (52 : Int32) ok dm_borrower_104 zb_52 ?_
            refine sm_iconst (pc := 106) (4 : Int32) ok dm_borrower_106 zk_4 ?_
            refine sm_iload (pc := 107) 0 ok dm_borrower_107 rfl ?_
            refine sm_imul (pc := 109) ok dm_borrower_109 ?_
            refine sm_iadd (pc := 110) ok dm_borrower_110 ?_
            refine sm_iconst (pc := 111) (2 : Int32) ok dm_borrower_111 zk_2 ?_
            refine sm_iadd (pc := 112) ok dm_borrower_112 ?_
            refine sm_iload_n (pc := 113) 4 ok dm_borrower_113 rfl ?_
            refine sm_iast (pc := 114) ok dm_borrower_114 rfl (fun S_12 => ?_)
            refine sm_aload_n (pc := 115) 1 ok dm_borrower_115 rfl ?_
            refine sm_getR (pc := 116) (ci := 10) (k := 0) ok dm_borrower_116 rfl rfl zc_i10 (by decide) rfl wd_1003 ?_
            refine sm_bipush (pc := 119) (52 : Int32) ok dm_borrower_119 zb_52 ?_
            refine sm_iconst (pc := 121) (4 : Int32) ok dm_borrower_121 zk_4 ?_
            refine sm_iload (pc := 122) 0 ok dm_borrower_122 rfl ?_
            refine sm_imul (pc := 124) ok dm_borrower_124 ?_
            refine sm_iadd (pc := 125) ok dm_borrower_125 ?_
            refine sm_iconst (pc := 126) (3 : Int32) ok dm_borrower_126 zk_3 ?_
            refine sm_iadd (pc := 127) ok dm_borrower_127 ?_
            refine sm_iload (pc := 128) 5 ok dm_borrower_128 rfl ?_
            refine sm_iast (pc := 130) ok dm_borrower_130 rfl (fun S_13 => ?_)
            refine sm_aload_n (pc := 131) 1 ok dm_borrower_131 rfl ?_
            refine sm_getR (pc := 132) (ci := 10) (k := 0) ok dm_borrower_132 rfl rfl zc_i10 (by decide) rfl wd_1003 ?_
            refine sm_bipush (pc := 135) (80 : Int32) ok dm_borrower_135 zb_80 ?_
            refine sm_dup2 (pc := 137) ok dm_borrower_137 rfl rfl ?_
            refine sm_iald (pc := 138) ok dm_borrower_138 rfl ?_
            refine sm_iconst (pc := 139) (1 : Int32) ok dm_borrower_139 zk_1 ?_
            refine sm_iadd (pc := 140) ok dm_borrower_140 ?_
            refine sm_iast (pc := 141) ok dm_borrower_141 rfl (fun S_14 => ?_)
            refine sm_iload (pc := 142) 0 ok dm_borrower_142 rfl ?_
            exact sm_iret (pc := 144) ok dm_borrower_144 hr
          · refine sm_aload_n (pc := 67) 1 ok dm_borrower_67 rfl ?_
            refine sm_callV_i (pc := 68) (ci := 10) [] ok dm_borrower_68 wd_1118 mwm_full rfl rfl (Nat.le_of_ble_eq_true rfl) (Nat.le_of_ble_eq_true rfl) rfl rfl (Nat.le_of_ble_eq_true rfl) (cm_full (sm_okj ok) N S_7) (fun r_16 S_15 => ?_)
            exact sm_iret (pc := 71) ok dm_borrower_71 hr
        · refine sm_lv [0] rfl ?_
          exact tm_borrower_b44 ok hr N _
theorem cm_borrower {l : Launch} {wc : sm_Wc} (hj : sm_inj zm_sy wc) (N : Nat) (S : sm_St) (v1 : Int32) (v2 : Int32) (v3 : Int32) (v4 : Int32) : sm_Ct l zm_sy wc ym_borrower prog_12_method_71_code 6 (some .int) 2 46 [.ref (wc.2.2 0), .int v1, .int v2, .int v3, .int v4] S (sm_Pi zm_sy wc) (pm_borrower N S v1 v2 v3 v4) :=
  sm_entry (Pq := fun wc => sm_Pi zm_sy wc) (fun wc => [.ref (wc.2.2 0), .int v1, .int v2, .int v3, .int v4]) (lv := fun wc => [(0, .ref (wc.2.2 0)), (1, .int v1), (2, .int v2), (3, .int v3), (4, .int v4)]) (by decide) hj zm_ok zm_stb (fun _ => Nat.le_of_ble_eq_true rfl) (fun _ => rfl) (fun x _ ok hr => tm_borrower ok hr N S v1 v2 v3 v4)
set_option maxHeartbeats 4000000 in
set_option maxRecDepth 20000 in
theorem tm_refuse {x : sm_Cx} (ok : sm_Ok x zm_sy prog_12_method_72_code "LentShadesModel" 2 0 0) (hr : (xh x).sig.returnType = (some .int)) (N : Nat) (S : sm_St) : sm_Sm x zm_sy prog_12_method_72_code (sm_Q x zm_sy (sm_Pi zm_sy (xw x))) (pm_refuse N S) S 0 [(0, .ref ((xw x).2.2 0))] [] := by
  unfold pm_refuse
  refine sm_aload_n (pc := 0) 0 ok dm_refuse_0 rfl ?_
  refine sm_getR (pc := 1) (ci := 10) (k := 0) ok dm_refuse_1 rfl rfl zc_i10 (by decide) rfl wd_1003 ?_
  refine sm_bipush (pc := 4) (80 : Int32) ok dm_refuse_4 zb_80 ?_
  refine sm_iald (pc := 6) ok dm_refuse_6 rfl ?_
  refine sm_istore_n (pc := 7) (i := 1) ok dm_refuse_7 rfl (by decide) (fun v => [(1, .int v), (0, .ref ((xw x).2.2 0))]) (fun _ => rfl) (fun v1_1 => ?_)
  refine sm_aload_n (pc := 8) 1 ok dm_refuse_8 rfl ?_
  refine sm_getR (pc := 9) (ci := 10) (k := 0) ok dm_refuse_9 rfl rfl zc_i10 (by decide) rfl wd_1003 ?_
  refine sm_bipush (pc := 12) (80 : Int32) ok dm_refuse_12 zb_80 ?_
  refine sm_iconst (pc := 14) (0 : Int32) ok dm_refuse_14 zk_0 ?_
  refine sm_iast (pc := 15) ok dm_refuse_15 rfl (fun S_2 => ?_)
  refine sm_iload_n (pc := 16) 0 ok dm_refuse_16 rfl ?_
  exact sm_iret (pc := 17) ok dm_refuse_17 hr
theorem cm_refuse {l : Launch} {wc : sm_Wc} (hj : sm_inj zm_sy wc) (N : Nat) (S : sm_St) : sm_Ct l zm_sy wc ym_refuse prog_12_method_72_code 2 (some .int) 0 0 [.ref (wc.2.2 0)] S (sm_Pi zm_sy wc) (pm_refuse N S) :=
  sm_entry (Pq := fun wc => sm_Pi zm_sy wc) (fun wc => [.ref (wc.2.2 0)]) (lv := fun wc => [(0, .ref (wc.2.2 0))]) (by decide) hj zm_ok zm_stb (fun _ => Nat.le_of_ble_eq_true rfl) (fun _ => rfl) (fun x _ ok hr => tm_refuse ok hr N S)
set_option maxHeartbeats 4000000 in
set_option maxRecDepth 20000 in
theorem tm_borrows {x : sm_Cx} (ok : sm_Ok x zm_sy prog_12_method_73_code "LentShadesModel" 3 0 0) (hr : (xh x).sig.returnType = (some .int)) (N : Nat) (S : sm_St) (v1 : Int32) (v2 : Int32) : sm_Sm x zm_sy prog_12_method_73_code (sm_Q x zm_sy (sm_Pi zm_sy (xw x))) (pm_borrows N S v1 v2) S 0 [(0, .ref ((xw x).2.2 0)), (1, .int v1), (2, .int v2)] [] := by
  unfold pm_borrows
  refine sm_aload_n (pc := 0) 0 ok dm_borrows_0 rfl ?_
  refine sm_getR (pc := 1) (ci := 10) (k := 0) ok dm_borrows_1 rfl rfl zc_i10 (by decide) rfl wd_1003 ?_
  refine sm_bipush (pc := 4) (52 : Int32) ok dm_borrows_4 zb_52 ?_
  refine sm_iconst (pc := 6) (4 : Int32) ok dm_borrows_6 zk_4 ?_
  refine sm_iload_n (pc := 7) 1 ok dm_borrows_7 rfl ?_
  refine sm_imul (pc := 8) ok dm_borrows_8 ?_
  refine sm_iadd (pc := 9) ok dm_borrows_9 ?_
  refine sm_iload_n (pc := 10) 2 ok dm_borrows_10 rfl ?_
  refine sm_iadd (pc := 11) ok dm_borrows_11 ?_
  refine sm_iald (pc := 12) ok dm_borrows_12 rfl ?_
  exact sm_iret (pc := 13) ok dm_borrows_13 hr
theorem cm_borrows {l : Launch} {wc : sm_Wc} (hj : sm_inj zm_sy wc) (N : Nat) (S : sm_St) (v1 : Int32) (v2 : Int32) : sm_Ct l zm_sy wc ym_borrows prog_12_method_73_code 3 (some .int) 0 0 [.ref (wc.2.2 0), .int v1, .int v2] S (sm_Pi zm_sy wc) (pm_borrows N S v1 v2) :=
  sm_entry (Pq := fun wc => sm_Pi zm_sy wc) (fun wc => [.ref (wc.2.2 0), .int v1, .int v2]) (lv := fun wc => [(0, .ref (wc.2.2 0)), (1, .int v1), (2, .int v2)]) (by decide) hj zm_ok zm_stb (fun _ => Nat.le_of_ble_eq_true rfl) (fun _ => rfl) (fun x _ ok hr => tm_borrows ok hr N S v1 v2)
set_option maxHeartbeats 4000000 in
set_option maxRecDepth 20000 in
theorem tm_findServed_b139 {x : sm_Cx} (ok : sm_Ok x zm_sy prog_12_method_74_code "LentShadesModel" 5 6 139) (hr : (xh x).sig.returnType = (some .int)) (N : Nat) {r50 : Int32 → Int32 → sm_St → Option (Int32 × sm_St)} {r58 : Int32 → Int32 → Int32 → sm_St → Option (Int32 × sm_St)} (h50 : ∀ (v1 : Int32) (v2 : Int32) (S : sm_St), sm_Sm x zm_sy prog_12_method_74_code (sm_Q x zm_sy (sm_Pi zm_sy (xw x))) (r50 v1 v2 S) S 50 [(0, .ref ((xw x).2.2 0)), (1, .int v1), (2, .int v2)] []) (h58 : ∀ (v1 : Int32) (v2 : Int32) (v3 : Int32) (S : sm_St), sm_Sm x zm_sy prog_12_method_74_code (sm_Q x zm_sy (sm_Pi zm_sy (xw x))) (r58 v1 v2 v3 S) S 58 [(0, .ref ((xw x).2.2 0)), (1, .int v1), (2, .int v2), (3, .int v3)] []) (v1 : Int32) (v2 : Int32) (v3 : Int32) (S : sm_St) : sm_Sm x zm_sy prog_12_method_74_code (sm_Q x zm_sy (sm_Pi zm_sy (xw x))) (pm_findServed_b139 N r50 r58 v1 v2 v3 S) S 139 [(0, .ref ((xw x).2.2 0)), (1, .int v1), (2, .int v2), (3, .int v3)] [] := by
  unfold pm_findServed_b139
  refine sm_iinc (pc := 139) (i := 3) 3 (1 : Int32) ok dm_findServed_139 rfl zk_1 (by decide) (fun v => [(3, .int v), (0, .ref ((xw x).2.2 0)), (1, .int v1), (2, .int v2)]) (fun _ => rfl) (fun v3_28 => ?_)
  refine sm_goto (pc := 142) 58 ok dm_findServed_142 (by decide) ?_
  refine sm_lv [1, 2, 3, 0] rfl ?_
  exact h58 _ _ _ _
set_option maxHeartbeats 4000000 in
set_option maxRecDepth 20000 in
theorem tm_findServed_b105 {x : sm_Cx} (ok : sm_Ok x zm_sy prog_12_method_74_code "LentShadesModel" 5 6 139) (hr : (xh x).sig.returnType = (some .int)) (N : Nat) {r50 : Int32 → Int32 → sm_St → Option (Int32 × sm_St)} {r58 : Int32 → Int32 → Int32 → sm_St → Option (Int32 × sm_St)} (h50 : ∀ (v1 : Int32) (v2 : Int32) (S : sm_St), sm_Sm x zm_sy prog_12_method_74_code (sm_Q x zm_sy (sm_Pi zm_sy (xw x))) (r50 v1 v2 S) S 50 [(0, .ref ((xw x).2.2 0)), (1, .int v1), (2, .int v2)] []) (h58 : ∀ (v1 : Int32) (v2 : Int32) (v3 : Int32) (S : sm_St), sm_Sm x zm_sy prog_12_method_74_code (sm_Q x zm_sy (sm_Pi zm_sy (xw x))) (r58 v1 v2 v3 S) S 58 [(0, .ref ((xw x).2.2 0)), (1, .int v1), (2, .int v2), (3, .int v3)] []) (v1 : Int32) (v2 : Int32) (v3 : Int32) (s0 : Int32) (S : sm_St) : sm_Sm x zm_sy prog_12_method_74_code (sm_Q x zm_sy (sm_Pi zm_sy (xw x))) (pm_findServed_b105 N r50 r58 v1 v2 v3 s0 S) S 105 [(0, .ref ((xw x).2.2 0)), (1, .int v1), (2, .int v2), (3, .int v3)] [.int s0] := by
  unfold pm_findServed_b105
  refine sm_istore (pc := 105) (i := 4) ok dm_findServed_105 (by decide) (fun v => [(4, .int v), (0, .ref ((xw x).2.2 0)), (1, .int v1), (2, .int v2), (3, .int v3)]) (fun _ => rfl) (fun v4_20 => ?_)
  refine sm_iload (pc := 107) 0 ok dm_findServed_107 rfl ?_
  refine sm_if_eq (pc := 109) 139 ok dm_findServed_109 (by decide) (fun _ => ?_) (fun _ => ?_)
  · refine sm_lv [1, 2, 3, 4] rfl ?_
    exact tm_findServed_b139 ok hr N h50 h58 _ _ _ _
  · refine sm_aload_n (pc := 112) 1 ok dm_findServed_112 rfl ?_
    refine sm_aload_n (pc := 113) 1 ok dm_findServed_113 rfl ?_
    refine sm_iload_n (pc := 114) 4 ok dm_findServed_114 rfl ?_
    refine sm_iconst (pc := 115) (0 : Int32) ok dm_findServed_115 zk_0 ?_
    refine sm_callV_i (pc := 116) (ci := 10) [.int v3, .int (0 : Int32)] ok dm_findServed_116 wd_1382 mwm_borrows rfl rfl (Nat.le_of_ble_eq_true rfl) (Nat.le_of_ble_eq_true rfl) rfl rfl (Nat.le_of_ble_eq_true rfl) (cm_borrows (sm_okj ok) N S v3 (0 : Int32)) (fun r_22 S_21 => ?_)
    refine sm_aload_n (pc := 119) 1 ok dm_findServed_119 rfl ?_
    refine sm_iload_n (pc := 120) 4 ok dm_findServed_120 rfl ?_
    refine sm_iconst (pc := 121) (3 : Int32) ok dm_findServed_121 zk_3 ?_
    refine sm_callV_i (pc := 122) (ci := 10) [.int v3, .int (3 : Int32)] ok dm_findServed_122 wd_1382 mwm_borrows rfl rfl (Nat.le_of_ble_eq_true rfl) (Nat.le_of_ble_eq_true rfl) rfl rfl (Nat.le_of_ble_eq_true rfl) (cm_borrows (sm_okj ok) N S_21 v3 (3 : Int32)) (fun r_24 S_23 => ?_)
    refine sm_callV_i (pc := 125) (ci := 10) [.int r_22, .int r_24] ok dm_findServed_125 wd_1281 mwm_hasLeast rfl rfl (Nat.le_of_ble_eq_true rfl) (Nat.le_of_ble_eq_true rfl) rfl rfl (Nat.le_of_ble_eq_true rfl) (cm_hasLeast (sm_okj ok) N S_23 r_22 r_24) (fun r_26 S_25 => ?_)
    refine sm_if_ne (pc := 128) 139 ok dm_findServed_128 (by decide) (fun _ => ?_) (fun _ => ?_)
    · refine sm_lv [1, 2, 3, 4] rfl ?_
      exact tm_findServed_b139 ok hr N h50 h58 _ _ _ _
    · refine sm_iload_n (pc := 131) 2 ok dm_findServed_131 rfl ?_
      refine sm_iconst (pc := 132) (1 : Int32) ok dm_findServed_132 zk_1 ?_
      refine sm_iload_n (pc := 133) 4 ok dm_findServed_133 rfl ?_
      refine sm_ishl (pc := 134) ok dm_findServed_134 ?_
      refine sm_iconst (pc := 135) (-1 : Int32) ok dm_findServed_135 zk_m1 ?_
      refine sm_ixor (pc := 136) ok dm_findServed_136 ?_
      refine sm_iand (pc := 137) ok dm_findServed_137 ?_
      refine sm_istore_n (pc := 138) (i := 1) ok dm_findServed_138 rfl (by decide) (fun v => [(1, .int v), (4, .int v4_20), (0, .ref ((xw x).2.2 0)), (2, .int v2), (3, .int v3)]) (fun _ => rfl) (fun v1_27 => ?_)
      refine sm_lv [2, 0, 3, 4] rfl ?_
      exact tm_findServed_b139 ok hr N h50 h58 _ _ _ _
set_option maxHeartbeats 4000000 in
set_option maxRecDepth 20000 in
theorem tm_findServed_b104 {x : sm_Cx} (ok : sm_Ok x zm_sy prog_12_method_74_code "LentShadesModel" 5 6 139) (hr : (xh x).sig.returnType = (some .int)) (N : Nat) {r50 : Int32 → Int32 → sm_St → Option (Int32 × sm_St)} {r58 : Int32 → Int32 → Int32 → sm_St → Option (Int32 × sm_St)} (h50 : ∀ (v1 : Int32) (v2 : Int32) (S : sm_St), sm_Sm x zm_sy prog_12_method_74_code (sm_Q x zm_sy (sm_Pi zm_sy (xw x))) (r50 v1 v2 S) S 50 [(0, .ref ((xw x).2.2 0)), (1, .int v1), (2, .int v2)] []) (h58 : ∀ (v1 : Int32) (v2 : Int32) (v3 : Int32) (S : sm_St), sm_Sm x zm_sy prog_12_method_74_code (sm_Q x zm_sy (sm_Pi zm_sy (xw x))) (r58 v1 v2 v3 S) S 58 [(0, .ref ((xw x).2.2 0)), (1, .int v1), (2, .int v2), (3, .int v3)] []) (v1 : Int32) (v2 : Int32) (v3 : Int32) (S : sm_St) : sm_Sm x zm_sy prog_12_method_74_code (sm_Q x zm_sy (sm_Pi zm_sy (xw x))) (pm_findServed_b104 N r50 r58 v1 v2 v3 S) S 104 [(0, .ref ((xw x).2.2 0)), (1, .int v1), (2, .int v2), (3, .int v3)] [] := by
  unfold pm_findServed_b104
  refine sm_iconst (pc := 104) (0 : Int32) ok dm_findServed_104 zk_0 ?_
  exact tm_findServed_b105 ok hr N h50 h58 _ _ _ _ _
set_option maxHeartbeats 4000000 in
set_option maxRecDepth 20000 in
theorem tm_findServed_b58 {x : sm_Cx} (ok : sm_Ok x zm_sy prog_12_method_74_code "LentShadesModel" 5 6 139) (hr : (xh x).sig.returnType = (some .int)) (N : Nat) {r50 : Int32 → Int32 → sm_St → Option (Int32 × sm_St)} (h50 : ∀ (v1 : Int32) (v2 : Int32) (S : sm_St), sm_Sm x zm_sy prog_12_method_74_code (sm_Q x zm_sy (sm_Pi zm_sy (xw x))) (r50 v1 v2 S) S 50 [(0, .ref ((xw x).2.2 0)), (1, .int v1), (2, .int v2)] []) : ∀ (n : Nat) (v1 : Int32) (v2 : Int32) (v3 : Int32) (S : sm_St), sm_Sm x zm_sy prog_12_method_74_code (sm_Q x zm_sy (sm_Pi zm_sy (xw x))) (pm_findServed_b58 N r50 n v1 v2 v3 S) S 58 [(0, .ref ((xw x).2.2 0)), (1, .int v1), (2, .int v2), (3, .int v3)] [] := by
  intro n
  induction n with
  | zero =>
    intro v1 v2 v3 S
    exact sm_none
  | succ n ih =>
    intro v1 v2 v3 S
    show sm_Sm x zm_sy prog_12_method_74_code (sm_Q x zm_sy (sm_Pi zm_sy (xw x))) (if sm_in (80 : Int32) 81 = true then (if (S.1 1 (80 : Int32).toNatClampNeg) ≤ v3 then (sm_b1 (pm_night N S) (fun (S_12 : sm_St) => sm_lt (v2 + (1 : Int32)) (fun (v2_13 : Int32) => r50 v1 v2_13 S_12))) else (if ((v1 >>> (v3 &&& 31)) &&& (1 : Int32)) = (1 : Int32) then (sm_b2 (pm_borrows N S v3 (1 : Int32)) (fun (r_15 : Int32) (S_14 : sm_St) => sm_b2 (pm_borrows N S_14 v3 (2 : Int32)) (fun (r_17 : Int32) (S_16 : sm_St) => sm_b2 (pm_in N S_16 (v2.toInt64) (r_15.toInt64) (r_17.toInt64)) (fun (r_19 : Int32) (S_18 : sm_St) => if r_19 = 0 then (pm_findServed_b104 N r50 (pm_findServed_b58 N r50 n) v1 v2 v3 S_18) else (pm_findServed_b105 N r50 (pm_findServed_b58 N r50 n) v1 v2 v3 (1 : Int32) S_18))))) else (pm_findServed_b104 N r50 (pm_findServed_b58 N r50 n) v1 v2 v3 S))) else none) S 58 [(0, .ref ((xw x).2.2 0)), (1, .int v1), (2, .int v2), (3, .int v3)] []
    refine sm_iload_n (pc := 58) 3 ok dm_findServed_58 rfl ?_
    refine sm_aload_n (pc := 59) 0 ok dm_findServed_59 rfl ?_
    refine sm_getR (pc := 60) (ci := 10) (k := 0) ok dm_findServed_60 rfl rfl zc_i10 (by decide) rfl wd_1003 ?_
    refine sm_bipush (pc := 63) (80 : Int32) ok dm_findServed_63 zb_80 ?_
    refine sm_iald (pc := 65) ok dm_findServed_65 rfl ?_
    refine sm_icmp_ge (pc := 66) 145 ok dm_findServed_66 (by decide) (fun _ => ?_) (fun _ => ?_)
    · refine sm_aload_n (pc := 145) 0 ok dm_findServed_145 rfl ?_
      refine sm_callV_v (pc := 146) (ci := 10) [] ok dm_findServed_146 wd_1181 mwm_night rfl rfl (Nat.le_of_ble_eq_true rfl) (Nat.le_of_ble_eq_true rfl) rfl rfl (Nat.le_of_ble_eq_true rfl) (cm_night (sm_okj ok) N S) (fun S_12 => ?_)
      refine sm_iinc (pc := 149) (i := 2) 2 (1 : Int32) ok dm_findServed_149 rfl zk_1 (by decide) (fun v => [(2, .int v), (0, .ref ((xw x).2.2 0)), (1, .int v1), (3, .int v3)]) (fun _ => rfl) (fun v2_13 => ?_)
      refine sm_goto (pc := 152) 50 ok dm_findServed_152 (by decide) ?_
      refine sm_lv [1, 2, 0] rfl ?_
      exact h50 _ _ _
    · refine sm_iload_n (pc := 69) 1 ok dm_findServed_69 rfl ?_
      refine sm_iload_n (pc := 70) 3 ok dm_findServed_70 rfl ?_
      refine sm_ishr (pc := 71) ok dm_findServed_71 ?_
      refine sm_iconst (pc := 72) (1 : Int32) ok dm_findServed_72 zk_1 ?_
      refine sm_iand (pc := 73) ok dm_findServed_73 ?_
      refine sm_iconst (pc := 74) (1 : Int32) ok dm_findServed_74 zk_1 ?_
      refine sm_icmp_ne (pc := 75) 104 ok dm_findServed_75 (by decide) (fun _ => ?_) (fun _ => ?_)
      · exact tm_findServed_b104 ok hr N h50 ih _ _ _ _
      · refine sm_iload_n (pc := 78) 2 ok dm_findServed_78 rfl ?_
        refine sm_i2l (pc := 79) ok dm_findServed_79 ?_
        refine sm_aload_n (pc := 80) 0 ok dm_findServed_80 rfl ?_
        refine sm_iload_n (pc := 81) 3 ok dm_findServed_81 rfl ?_
        refine sm_iconst (pc := 82) (1 : Int32) ok dm_findServed_82 zk_1 ?_
        refine sm_callV_i (pc := 83) (ci := 10) [.int v3, .int (1 : Int32)] ok dm_findServed_83 wd_1382 mwm_borrows rfl rfl (Nat.le_of_ble_eq_true rfl) (Nat.le_of_ble_eq_true rfl) rfl rfl (Nat.le_of_ble_eq_true rfl) (cm_borrows (sm_okj ok) N S v3 (1 : Int32)) (fun r_15 S_14 => ?_)
        refine sm_i2l (pc := 86) ok dm_findServed_86 ?_
        refine sm_aload_n (pc := 87) 0 ok dm_findServed_87 rfl ?_
        refine sm_iload_n (pc := 88) 3 ok dm_findServed_88 rfl ?_
        refine sm_iconst (pc := 89) (2 : Int32) ok dm_findServed_89 zk_2 ?_
        refine sm_callV_i (pc := 90) (ci := 10) [.int v3, .int (2 : Int32)] ok dm_findServed_90 wd_1382 mwm_borrows rfl rfl (Nat.le_of_ble_eq_true rfl) (Nat.le_of_ble_eq_true rfl) rfl rfl (Nat.le_of_ble_eq_true rfl) (cm_borrows (sm_okj ok) N S_14 v3 (2 : Int32)) (fun r_17 S_16 => ?_)
        refine sm_i2l (pc := 93) ok dm_findServed_93 ?_
        refine sm_callS_i (pc := 94) [.long (v2.toInt64), .long (r_15.toInt64), .long (r_17.toInt64)] ok dm_findServed_94 wd_1105 mwm_in (Nat.le_of_ble_eq_true rfl) (Nat.le_of_ble_eq_true rfl) rfl rfl (Nat.le_of_ble_eq_true rfl) (cm_in (sm_okj ok) N S_16 (v2.toInt64) (r_15.toInt64) (r_17.toInt64)) (fun r_19 S_18 => ?_)
        refine sm_if_eq (pc := 97) 104 ok dm_findServed_97 (by decide) (fun _ => ?_) (fun _ => ?_)
        · exact tm_findServed_b104 ok hr N h50 ih _ _ _ _
        · refine sm_iconst (pc := 100) (1 : Int32) ok dm_findServed_100 zk_1 ?_
          refine sm_goto (pc := 101) 105 ok dm_findServed_101 (by decide) ?_
          exact tm_findServed_b105 ok hr N h50 ih _ _ _ _ _
set_option maxHeartbeats 4000000 in
set_option maxRecDepth 20000 in
theorem tm_findServed_b50 {x : sm_Cx} (ok : sm_Ok x zm_sy prog_12_method_74_code "LentShadesModel" 5 6 139) (hr : (xh x).sig.returnType = (some .int)) (N : Nat) : ∀ (n : Nat) (v1 : Int32) (v2 : Int32) (S : sm_St), sm_Sm x zm_sy prog_12_method_74_code (sm_Q x zm_sy (sm_Pi zm_sy (xw x))) (pm_findServed_b50 N n v1 v2 S) S 50 [(0, .ref ((xw x).2.2 0)), (1, .int v1), (2, .int v2)] [] := by
  intro n
  induction n with
  | zero =>
    intro v1 v2 S
    exact sm_none
  | succ n ih =>
    intro v1 v2 S
    show sm_Sm x zm_sy prog_12_method_74_code (sm_Q x zm_sy (sm_Pi zm_sy (xw x))) (if (12 : Int32) < v2 then (some (v1, S)) else (sm_lt (0 : Int32) (fun (v3_11 : Int32) => pm_findServed_b58 N (pm_findServed_b50 N n) N v1 v2 v3_11 S))) S 50 [(0, .ref ((xw x).2.2 0)), (1, .int v1), (2, .int v2)] []
    refine sm_iload_n (pc := 50) 2 ok dm_findServed_50 rfl ?_
    refine sm_bipush (pc := 51) (12 : Int32) ok dm_findServed_51 zb_12 ?_
    refine sm_icmp_gt (pc := 53) 155 ok dm_findServed_53 (by decide) (fun _ => ?_) (fun _ => ?_)
    · refine sm_iload_n (pc := 155) 1 ok dm_findServed_155 rfl ?_
      exact sm_iret (pc := 156) ok dm_findServed_156 hr
    · refine sm_iconst (pc := 56) (0 : Int32) ok dm_findServed_56 zk_0 ?_
      refine sm_istore_n (pc := 57) (i := 3) ok dm_findServed_57 rfl (by decide) (fun v => [(3, .int v), (0, .ref ((xw x).2.2 0)), (1, .int v1), (2, .int v2)]) (fun _ => rfl) (fun v3_11 => ?_)
      refine sm_lv [1, 2, 3, 0] rfl ?_
      exact tm_findServed_b58 ok hr N ih N _ _ _ _
set_option maxHeartbeats 4000000 in
set_option maxRecDepth 20000 in
theorem tm_findServed_b36 {x : sm_Cx} (ok : sm_Ok x zm_sy prog_12_method_74_code "LentShadesModel" 5 6 139) (hr : (xh x).sig.returnType = (some .int)) (N : Nat) {r4 : Int32 → Int32 → sm_St → Option (Int32 × sm_St)} (h4 : ∀ (v1 : Int32) (v2 : Int32) (S : sm_St), sm_Sm x zm_sy prog_12_method_74_code (sm_Q x zm_sy (sm_Pi zm_sy (xw x))) (r4 v1 v2 S) S 4 [(0, .ref ((xw x).2.2 0)), (1, .int v1), (2, .int v2)] []) (v2 : Int32) (s0 : Int32) (s1 : Int32) (S : sm_St) : sm_Sm x zm_sy prog_12_method_74_code (sm_Q x zm_sy (sm_Pi zm_sy (xw x))) (pm_findServed_b36 N r4 v2 s0 s1 S) S 36 [(0, .ref ((xw x).2.2 0)), (2, .int v2)] [.int s1, .int s0] := by
  unfold pm_findServed_b36
  refine sm_ior (pc := 36) ok dm_findServed_36 ?_
  refine sm_istore_n (pc := 37) (i := 1) ok dm_findServed_37 rfl (by decide) (fun v => [(1, .int v), (0, .ref ((xw x).2.2 0)), (2, .int v2)]) (fun _ => rfl) (fun v1_9 => ?_)
  refine sm_iinc (pc := 38) (i := 2) 2 (1 : Int32) ok dm_findServed_38 rfl zk_1 (by decide) (fun v => [(2, .int v), (1, .int v1_9), (0, .ref ((xw x).2.2 0))]) (fun _ => rfl) (fun v2_10 => ?_)
  refine sm_goto (pc := 41) 4 ok dm_findServed_41 (by decide) ?_
  refine sm_lv [2, 1, 0] rfl ?_
  exact h4 _ _ _
set_option maxHeartbeats 4000000 in
set_option maxRecDepth 20000 in
theorem tm_findServed_b4 {x : sm_Cx} (ok : sm_Ok x zm_sy prog_12_method_74_code "LentShadesModel" 5 6 139) (hr : (xh x).sig.returnType = (some .int)) (N : Nat) : ∀ (n : Nat) (v1 : Int32) (v2 : Int32) (S : sm_St), sm_Sm x zm_sy prog_12_method_74_code (sm_Q x zm_sy (sm_Pi zm_sy (xw x))) (pm_findServed_b4 N n v1 v2 S) S 4 [(0, .ref ((xw x).2.2 0)), (1, .int v1), (2, .int v2)] [] := by
  intro n
  induction n with
  | zero =>
    intro v1 v2 S
    exact sm_none
  | succ n ih =>
    intro v1 v2 S
    show sm_Sm x zm_sy prog_12_method_74_code (sm_Q x zm_sy (sm_Pi zm_sy (xw x))) (if sm_in (80 : Int32) 81 = true then (if (S.1 1 (80 : Int32).toNatClampNeg) ≤ v2 then (sm_b1 (pm_takeNow N S) (fun (S_3 : sm_St) => sm_lt (0 : Int32) (fun (v2_4 : Int32) => pm_findServed_b50 N N v1 v2_4 S_3))) else (sm_b2 (pm_borrows N S v2 (0 : Int32)) (fun (r_6 : Int32) (S_5 : sm_St) => sm_b2 (pm_isCloth N S_5 r_6) (fun (r_8 : Int32) (S_7 : sm_St) => if r_8 = 0 then (pm_findServed_b36 N (pm_findServed_b4 N n) v2 v1 (0 : Int32) S_7) else (pm_findServed_b36 N (pm_findServed_b4 N n) v2 v1 ((1 : Int32) <<< (v2 &&& 31)) S_7))))) else none) S 4 [(0, .ref ((xw x).2.2 0)), (1, .int v1), (2, .int v2)] []
    refine sm_iload_n (pc := 4) 2 ok dm_findServed_4 rfl ?_
    refine sm_aload_n (pc := 5) 0 ok dm_findServed_5 rfl ?_
    refine sm_getR (pc := 6) (ci := 10) (k := 0) ok dm_findServed_6 rfl rfl zc_i10 (by decide) rfl wd_1003 ?_
    refine sm_bipush (pc := 9) (80 : Int32) ok dm_findServed_9 zb_80 ?_
    refine sm_iald (pc := 11) ok dm_findServed_11 rfl ?_
    refine sm_icmp_ge (pc := 12) 44 ok dm_findServed_12 (by decide) (fun _ => ?_) (fun _ => ?_)
    · refine sm_aload_n (pc := 44) 0 ok dm_findServed_44 rfl ?_
      refine sm_callV_v (pc := 45) (ci := 10) [] ok dm_findServed_45 wd_1173 mwm_takeNow rfl rfl (Nat.le_of_ble_eq_true rfl) (Nat.le_of_ble_eq_true rfl) rfl rfl (Nat.le_of_ble_eq_true rfl) (cm_takeNow (sm_okj ok) N S) (fun S_3 => ?_)
      refine sm_iconst (pc := 48) (0 : Int32) ok dm_findServed_48 zk_0 ?_
      refine sm_istore_n (pc := 49) (i := 2) ok dm_findServed_49 rfl (by decide) (fun v => [(2, .int v), (0, .ref ((xw x).2.2 0)), (1, .int v1)]) (fun _ => rfl) (fun v2_4 => ?_)
      refine sm_lv [1, 2, 0] rfl ?_
      exact tm_findServed_b50 ok hr N N _ _ _
    · refine sm_iload_n (pc := 15) 1 ok dm_findServed_15 rfl ?_
      refine sm_aload_n (pc := 16) 0 ok dm_findServed_16 rfl ?_
      refine sm_aload_n (pc := 17) 0 ok dm_findServed_17 rfl ?_
      refine sm_iload_n (pc := 18) 2 ok dm_findServed_18 rfl ?_
      refine sm_iconst (pc := 19) (0 : Int32) ok dm_findServed_19 zk_0 ?_
      refine sm_callV_i (pc := 20) (ci := 10) [.int v2, .int (0 : Int32)] ok dm_findServed_20 wd_1382 mwm_borrows rfl rfl (Nat.le_of_ble_eq_true rfl) (Nat.le_of_ble_eq_true rfl) rfl rfl (Nat.le_of_ble_eq_true rfl) (cm_borrows (sm_okj ok) N S v2 (0 : Int32)) (fun r_6 S_5 => ?_)
      refine sm_callV_i (pc := 23) (ci := 10) [.int r_6] ok dm_findServed_23 wd_1154 mwm_isCloth rfl rfl (Nat.le_of_ble_eq_true rfl) (Nat.le_of_ble_eq_true rfl) rfl rfl (Nat.le_of_ble_eq_true rfl) (cm_isCloth (sm_okj ok) N S_5 r_6) (fun r_8 S_7 => ?_)
      refine sm_if_eq (pc := 26) 35 ok dm_findServed_26 (by decide) (fun _ => ?_) (fun _ => ?_)
      · refine sm_iconst (pc := 35) (0 : Int32) ok dm_findServed_35 zk_0 ?_
        refine sm_lv [0, 2] rfl ?_
        exact tm_findServed_b36 ok hr N ih _ _ _ _
      · refine sm_iconst (pc := 29) (1 : Int32) ok dm_findServed_29 zk_1 ?_
        refine sm_iload_n (pc := 30) 2 ok dm_findServed_30 rfl ?_
        refine sm_ishl (pc := 31) ok dm_findServed_31 ?_
        refine sm_goto (pc := 32) 36 ok dm_findServed_32 (by decide) ?_
        refine sm_lv [0, 2] rfl ?_
        exact tm_findServed_b36 ok hr N ih _ _ _ _
set_option maxHeartbeats 4000000 in
set_option maxRecDepth 20000 in
theorem tm_findServed {x : sm_Cx} (ok : sm_Ok x zm_sy prog_12_method_74_code "LentShadesModel" 5 6 139) (hr : (xh x).sig.returnType = (some .int)) (N : Nat) (S : sm_St) : sm_Sm x zm_sy prog_12_method_74_code (sm_Q x zm_sy (sm_Pi zm_sy (xw x))) (pm_findServed N S) S 0 [(0, .ref ((xw x).2.2 0))] [] := by
  unfold pm_findServed
  refine sm_iconst (pc := 0) (0 : Int32) ok dm_findServed_0 zk_0 ?_
  refine sm_istore_n (pc := 1) (i := 1) ok dm_findServed_1 rfl (by decide) (fun v => [(1, .int v), (0, .ref ((xw x).2.2 0))]) (fun _ => rfl) (fun v1_1 => ?_)
  refine sm_iconst (pc := 2) (0 : Int32) ok dm_findServed_2 zk_0 ?_
  refine sm_istore_n (pc := 3) (i := 2) ok dm_findServed_3 rfl (by decide) (fun v => [(2, .int v), (1, .int v1_1), (0, .ref ((xw x).2.2 0))]) (fun _ => rfl) (fun v2_2 => ?_)
  refine sm_lv [2, 1, 0] rfl ?_
  exact tm_findServed_b4 ok hr N N _ _ _
theorem cm_findServed {l : Launch} {wc : sm_Wc} (hj : sm_inj zm_sy wc) (N : Nat) (S : sm_St) : sm_Ct l zm_sy wc ym_findServed prog_12_method_74_code 5 (some .int) 6 139 [.ref (wc.2.2 0)] S (sm_Pi zm_sy wc) (pm_findServed N S) :=
  sm_entry (Pq := fun wc => sm_Pi zm_sy wc) (fun wc => [.ref (wc.2.2 0)]) (lv := fun wc => [(0, .ref (wc.2.2 0))]) (by decide) hj zm_ok zm_stb (fun _ => Nat.le_of_ble_eq_true rfl) (fun _ => rfl) (fun x _ ok hr => tm_findServed ok hr N S)
set_option maxHeartbeats 4000000 in
set_option maxRecDepth 20000 in
theorem tm_meet {x : sm_Cx} (ok : sm_Ok x zm_sy prog_12_method_75_code "LentShadesModel" 3 1 22) (hr : (xh x).sig.returnType = (some .boolean)) (N : Nat) (S : sm_St) (v1 : Int32) (v2 : Int32) : sm_Sm x zm_sy prog_12_method_75_code (sm_Q x zm_sy (sm_Pi zm_sy (xw x))) (pm_meet N S v1 v2) S 0 [(0, .ref ((xw x).2.2 0)), (1, .int v1), (2, .int v2)] [] := by
  unfold pm_meet
  refine sm_aload_n (pc := 0) 0 ok dm_meet_0 rfl ?_
  refine sm_iload_n (pc := 1) 1 ok dm_meet_1 rfl ?_
  refine sm_iconst (pc := 2) (0 : Int32) ok dm_meet_2 zk_0 ?_
  refine sm_callV_i (pc := 3) (ci := 10) [.int v1, .int (0 : Int32)] ok dm_meet_3 wd_1382 mwm_borrows rfl rfl (Nat.le_of_ble_eq_true rfl) (Nat.le_of_ble_eq_true rfl) rfl rfl (Nat.le_of_ble_eq_true rfl) (cm_borrows (sm_okj ok) N S v1 (0 : Int32)) (fun r_2 S_1 => ?_)
  refine sm_aload_n (pc := 6) 0 ok dm_meet_6 rfl ?_
  refine sm_iload_n (pc := 7) 2 ok dm_meet_7 rfl ?_
  refine sm_iconst (pc := 8) (0 : Int32) ok dm_meet_8 zk_0 ?_
  refine sm_callV_i (pc := 9) (ci := 10) [.int v2, .int (0 : Int32)] ok dm_meet_9 wd_1382 mwm_borrows rfl rfl (Nat.le_of_ble_eq_true rfl) (Nat.le_of_ble_eq_true rfl) rfl rfl (Nat.le_of_ble_eq_true rfl) (cm_borrows (sm_okj ok) N S_1 v2 (0 : Int32)) (fun r_4 S_3 => ?_)
  refine sm_icmp_ne (pc := 12) 49 ok dm_meet_12 (by decide) (fun _ => ?_) (fun _ => ?_)
  · refine sm_iconst (pc := 49) (0 : Int32) ok dm_meet_49 zk_0 ?_
    exact sm_zret (pc := 50) ok dm_meet_50 hr rfl
  · refine sm_aload_n (pc := 15) 0 ok dm_meet_15 rfl ?_
    refine sm_iload_n (pc := 16) 1 ok dm_meet_16 rfl ?_
    refine sm_iconst (pc := 17) (1 : Int32) ok dm_meet_17 zk_1 ?_
    refine sm_callV_i (pc := 18) (ci := 10) [.int v1, .int (1 : Int32)] ok dm_meet_18 wd_1382 mwm_borrows rfl rfl (Nat.le_of_ble_eq_true rfl) (Nat.le_of_ble_eq_true rfl) rfl rfl (Nat.le_of_ble_eq_true rfl) (cm_borrows (sm_okj ok) N S_3 v1 (1 : Int32)) (fun r_6 S_5 => ?_)
    refine sm_aload_n (pc := 21) 0 ok dm_meet_21 rfl ?_
    refine sm_iload_n (pc := 22) 2 ok dm_meet_22 rfl ?_
    refine sm_iconst (pc := 23) (2 : Int32) ok dm_meet_23 zk_2 ?_
    refine sm_callV_i (pc := 24) (ci := 10) [.int v2, .int (2 : Int32)] ok dm_meet_24 wd_1382 mwm_borrows rfl rfl (Nat.le_of_ble_eq_true rfl) (Nat.le_of_ble_eq_true rfl) rfl rfl (Nat.le_of_ble_eq_true rfl) (cm_borrows (sm_okj ok) N S_5 v2 (2 : Int32)) (fun r_8 S_7 => ?_)
    refine sm_icmp_gt (pc := 27) 49 ok dm_meet_27 (by decide) (fun _ => ?_) (fun _ => ?_)
    · refine sm_iconst (pc := 49) (0 : Int32) ok dm_meet_49 zk_0 ?_
      exact sm_zret (pc := 50) ok dm_meet_50 hr rfl
    · refine sm_aload_n (pc := 30) 0 ok dm_meet_30 rfl ?_
      refine sm_iload_n (pc := 31) 2 ok dm_meet_31 rfl ?_
      refine sm_iconst (pc := 32) (1 : Int32) ok dm_meet_32 zk_1 ?_
      refine sm_callV_i (pc := 33) (ci := 10) [.int v2, .int (1 : Int32)] ok dm_meet_33 wd_1382 mwm_borrows rfl rfl (Nat.le_of_ble_eq_true rfl) (Nat.le_of_ble_eq_true rfl) rfl rfl (Nat.le_of_ble_eq_true rfl) (cm_borrows (sm_okj ok) N S_7 v2 (1 : Int32)) (fun r_10 S_9 => ?_)
      refine sm_aload_n (pc := 36) 0 ok dm_meet_36 rfl ?_
      refine sm_iload_n (pc := 37) 1 ok dm_meet_37 rfl ?_
      refine sm_iconst (pc := 38) (2 : Int32) ok dm_meet_38 zk_2 ?_
      refine sm_callV_i (pc := 39) (ci := 10) [.int v1, .int (2 : Int32)] ok dm_meet_39 wd_1382 mwm_borrows rfl rfl (Nat.le_of_ble_eq_true rfl) (Nat.le_of_ble_eq_true rfl) rfl rfl (Nat.le_of_ble_eq_true rfl) (cm_borrows (sm_okj ok) N S_9 v1 (2 : Int32)) (fun r_12 S_11 => ?_)
      refine sm_icmp_gt (pc := 42) 49 ok dm_meet_42 (by decide) (fun _ => ?_) (fun _ => ?_)
      · refine sm_iconst (pc := 49) (0 : Int32) ok dm_meet_49 zk_0 ?_
        exact sm_zret (pc := 50) ok dm_meet_50 hr rfl
      · refine sm_iconst (pc := 45) (1 : Int32) ok dm_meet_45 zk_1 ?_
        refine sm_goto (pc := 46) 50 ok dm_meet_46 (by decide) ?_
        exact sm_zret (pc := 50) ok dm_meet_50 hr rfl
theorem cm_meet {l : Launch} {wc : sm_Wc} (hj : sm_inj zm_sy wc) (N : Nat) (S : sm_St) (v1 : Int32) (v2 : Int32) : sm_Ct l zm_sy wc ym_meet prog_12_method_75_code 3 (some .boolean) 1 22 [.ref (wc.2.2 0), .int v1, .int v2] S (sm_Pi zm_sy wc) (pm_meet N S v1 v2) :=
  sm_entry (Pq := fun wc => sm_Pi zm_sy wc) (fun wc => [.ref (wc.2.2 0), .int v1, .int v2]) (lv := fun wc => [(0, .ref (wc.2.2 0)), (1, .int v1), (2, .int v2)]) (by decide) hj zm_ok zm_stb (fun _ => Nat.le_of_ble_eq_true rfl) (fun _ => rfl) (fun x _ ok hr => tm_meet ok hr N S v1 v2)
set_option maxHeartbeats 4000000 in
set_option maxRecDepth 20000 in
theorem tm_manyIn_b4 {x : sm_Cx} (ok : sm_Ok x zm_sy prog_12_method_76_code "LentShadesModel" 3 0 0) (hr : (xh x).sig.returnType = (some .int)) (N : Nat) : ∀ (n : Nat) (v0 : Int32) (v1 : Int32) (v2 : Int32) (S : sm_St), sm_Sm x zm_sy prog_12_method_76_code (sm_Q x zm_sy (sm_Pi zm_sy (xw x))) (pm_manyIn_b4 N n v0 v1 v2 S) S 4 [(0, .int v0), (1, .int v1), (2, .int v2)] [] := by
  intro n
  induction n with
  | zero =>
    intro v0 v1 v2 S
    exact sm_none
  | succ n ih =>
    intro v0 v1 v2 S
    show sm_Sm x zm_sy prog_12_method_76_code (sm_Q x zm_sy (sm_Pi zm_sy (xw x))) (if (6 : Int32) ≤ v2 then (some (v1, S)) else (sm_lt (v1 + ((v0 >>> (v2 &&& 31)) &&& (1 : Int32))) (fun (v1_3 : Int32) => sm_lt (v2 + (1 : Int32)) (fun (v2_4 : Int32) => (pm_manyIn_b4 N n) v0 v1_3 v2_4 S)))) S 4 [(0, .int v0), (1, .int v1), (2, .int v2)] []
    refine sm_iload_n (pc := 4) 2 ok dm_manyIn_4 rfl ?_
    refine sm_bipush (pc := 5) (6 : Int32) ok dm_manyIn_5 zb_6 ?_
    refine sm_icmp_ge (pc := 7) 24 ok dm_manyIn_7 (by decide) (fun _ => ?_) (fun _ => ?_)
    · refine sm_iload_n (pc := 24) 1 ok dm_manyIn_24 rfl ?_
      exact sm_iret (pc := 25) ok dm_manyIn_25 hr
    · refine sm_iload_n (pc := 10) 1 ok dm_manyIn_10 rfl ?_
      refine sm_iload_n (pc := 11) 0 ok dm_manyIn_11 rfl ?_
      refine sm_iload_n (pc := 12) 2 ok dm_manyIn_12 rfl ?_
      refine sm_ishr (pc := 13) ok dm_manyIn_13 ?_
      refine sm_iconst (pc := 14) (1 : Int32) ok dm_manyIn_14 zk_1 ?_
      refine sm_iand (pc := 15) ok dm_manyIn_15 ?_
      refine sm_iadd (pc := 16) ok dm_manyIn_16 ?_
      refine sm_istore_n (pc := 17) (i := 1) ok dm_manyIn_17 rfl (by decide) (fun v => [(1, .int v), (0, .int v0), (2, .int v2)]) (fun _ => rfl) (fun v1_3 => ?_)
      refine sm_iinc (pc := 18) (i := 2) 2 (1 : Int32) ok dm_manyIn_18 rfl zk_1 (by decide) (fun v => [(2, .int v), (1, .int v1_3), (0, .int v0)]) (fun _ => rfl) (fun v2_4 => ?_)
      refine sm_goto (pc := 21) 4 ok dm_manyIn_21 (by decide) ?_
      refine sm_lv [2, 1, 0] rfl ?_
      exact ih _ _ _ _
set_option maxHeartbeats 4000000 in
set_option maxRecDepth 20000 in
theorem tm_manyIn {x : sm_Cx} (ok : sm_Ok x zm_sy prog_12_method_76_code "LentShadesModel" 3 0 0) (hr : (xh x).sig.returnType = (some .int)) (N : Nat) (S : sm_St) (v0 : Int32) : sm_Sm x zm_sy prog_12_method_76_code (sm_Q x zm_sy (sm_Pi zm_sy (xw x))) (pm_manyIn N S v0) S 0 [(0, .int v0)] [] := by
  unfold pm_manyIn
  refine sm_iconst (pc := 0) (0 : Int32) ok dm_manyIn_0 zk_0 ?_
  refine sm_istore_n (pc := 1) (i := 1) ok dm_manyIn_1 rfl (by decide) (fun v => [(1, .int v), (0, .int v0)]) (fun _ => rfl) (fun v1_1 => ?_)
  refine sm_iconst (pc := 2) (0 : Int32) ok dm_manyIn_2 zk_0 ?_
  refine sm_istore_n (pc := 3) (i := 2) ok dm_manyIn_3 rfl (by decide) (fun v => [(2, .int v), (1, .int v1_1), (0, .int v0)]) (fun _ => rfl) (fun v2_2 => ?_)
  refine sm_lv [2, 1, 0] rfl ?_
  exact tm_manyIn_b4 ok hr N N _ _ _ _
theorem cm_manyIn {l : Launch} {wc : sm_Wc} (hj : sm_inj zm_sy wc) (N : Nat) (S : sm_St) (v0 : Int32) : sm_Ct l zm_sy wc ym_manyIn prog_12_method_76_code 3 (some .int) 0 0 [.int v0] S (sm_Pi zm_sy wc) (pm_manyIn N S v0) :=
  sm_entry (Pq := fun wc => sm_Pi zm_sy wc) (fun wc => [.int v0]) (lv := fun wc => [(0, .int v0)]) (by decide) hj zm_ok zm_stb (fun _ => Nat.le_of_ble_eq_true rfl) (fun _ => rfl) (fun x _ ok hr => tm_manyIn ok hr N S v0)
set_option maxHeartbeats 4000000 in
set_option maxRecDepth 20000 in
theorem tm_lent_b167 {x : sm_Cx} (ok : sm_Ok x zm_sy prog_12_method_77_code "LentShadesModel" 9 7 163) (hr : (xh x).sig.returnType = (some .int)) (N : Nat) {r27 : Int32 → Int32 → Int32 → Int32 → sm_St → Option (Int32 × sm_St)} (h27 : ∀ (v1 : Int32) (v2 : Int32) (v3 : Int32) (v4 : Int32) (S : sm_St), sm_Sm x zm_sy prog_12_method_77_code (sm_Q x zm_sy (sm_Pi zm_sy (xw x))) (r27 v1 v2 v3 v4 S) S 27 [(0, .ref ((xw x).2.2 0)), (1, .int v1), (2, .int v2), (3, .int v3), (4, .int v4)] []) (v1 : Int32) (v2 : Int32) (v4 : Int32) (s0 : Int32) (S : sm_St) : sm_Sm x zm_sy prog_12_method_77_code (sm_Q x zm_sy (sm_Pi zm_sy (xw x))) (pm_lent_b167 N r27 v1 v2 v4 s0 S) S 167 [(0, .ref ((xw x).2.2 0)), (1, .int v1), (2, .int v2), (4, .int v4)] [.int s0] := by
  unfold pm_lent_b167
  refine sm_istore_n (pc := 167) (i := 3) ok dm_lent_167 rfl (by decide) (fun v => [(3, .int v), (0, .ref ((xw x).2.2 0)), (1, .int v1), (2, .int v2), (4, .int v4)]) (fun _ => rfl) (fun v3_25 => ?_)
  refine sm_iinc (pc := 168) (i := 4) 4 (1 : Int32) ok dm_lent_168 rfl zk_1 (by decide) (fun v => [(4, .int v), (3, .int v3_25), (0, .ref ((xw x).2.2 0)), (1, .int v1), (2, .int v2)]) (fun _ => rfl) (fun v4_26 => ?_)
  refine sm_goto (pc := 171) 27 ok dm_lent_171 (by decide) ?_
  refine sm_lv [2, 3, 4, 1, 0] rfl ?_
  exact h27 _ _ _ _ _
set_option maxHeartbeats 4000000 in
set_option maxRecDepth 20000 in
theorem tm_lent_b156 {x : sm_Cx} (ok : sm_Ok x zm_sy prog_12_method_77_code "LentShadesModel" 9 7 163) (hr : (xh x).sig.returnType = (some .int)) (N : Nat) {r27 : Int32 → Int32 → Int32 → Int32 → sm_St → Option (Int32 × sm_St)} (h27 : ∀ (v1 : Int32) (v2 : Int32) (v3 : Int32) (v4 : Int32) (S : sm_St), sm_Sm x zm_sy prog_12_method_77_code (sm_Q x zm_sy (sm_Pi zm_sy (xw x))) (r27 v1 v2 v3 v4 S) S 27 [(0, .ref ((xw x).2.2 0)), (1, .int v1), (2, .int v2), (3, .int v3), (4, .int v4)] []) (v1 : Int32) (v2 : Int32) (v3 : Int32) (v4 : Int32) (v5 : Int32) (S : sm_St) : sm_Sm x zm_sy prog_12_method_77_code (sm_Q x zm_sy (sm_Pi zm_sy (xw x))) (pm_lent_b156 N r27 v1 v2 v3 v4 v5 S) S 156 [(0, .ref ((xw x).2.2 0)), (1, .int v1), (2, .int v2), (3, .int v3), (4, .int v4), (5, .int v5)] [] := by
  unfold pm_lent_b156
  refine sm_iload (pc := 156) 5 ok dm_lent_156 rfl ?_
  refine sm_if_eq (pc := 158) 166 ok dm_lent_158 (by decide) (fun _ => ?_) (fun _ => ?_)
  · refine sm_iload_n (pc := 166) 3 ok dm_lent_166 rfl ?_
    refine sm_lv [0, 1, 2, 4] rfl ?_
    exact tm_lent_b167 ok hr N h27 _ _ _ _ _
  · refine sm_iload (pc := 161) 4 ok dm_lent_161 rfl ?_
    refine sm_goto (pc := 163) 167 ok dm_lent_163 (by decide) ?_
    refine sm_lv [0, 1, 2, 4] rfl ?_
    exact tm_lent_b167 ok hr N h27 _ _ _ _ _
set_option maxHeartbeats 4000000 in
set_option maxRecDepth 20000 in
theorem tm_lent_b142 {x : sm_Cx} (ok : sm_Ok x zm_sy prog_12_method_77_code "LentShadesModel" 9 7 163) (hr : (xh x).sig.returnType = (some .int)) (N : Nat) {r27 : Int32 → Int32 → Int32 → Int32 → sm_St → Option (Int32 × sm_St)} {r65 : Int32 → Int32 → Int32 → Int32 → Int32 → Int32 → sm_St → Option (Int32 × sm_St)} {r80 : Int32 → Int32 → Int32 → Int32 → Int32 → Int32 → Int32 → sm_St → Option (Int32 × sm_St)} (h27 : ∀ (v1 : Int32) (v2 : Int32) (v3 : Int32) (v4 : Int32) (S : sm_St), sm_Sm x zm_sy prog_12_method_77_code (sm_Q x zm_sy (sm_Pi zm_sy (xw x))) (r27 v1 v2 v3 v4 S) S 27 [(0, .ref ((xw x).2.2 0)), (1, .int v1), (2, .int v2), (3, .int v3), (4, .int v4)] []) (h65 : ∀ (v1 : Int32) (v2 : Int32) (v3 : Int32) (v4 : Int32) (v5 : Int32) (v6 : Int32) (S : sm_St), sm_Sm x zm_sy prog_12_method_77_code (sm_Q x zm_sy (sm_Pi zm_sy (xw x))) (r65 v1 v2 v3 v4 v5 v6 S) S 65 [(0, .ref ((xw x).2.2 0)), (1, .int v1), (2, .int v2), (3, .int v3), (4, .int v4), (5, .int v5), (6, .int v6)] []) (h80 : ∀ (v1 : Int32) (v2 : Int32) (v3 : Int32) (v4 : Int32) (v5 : Int32) (v6 : Int32) (v7 : Int32) (S : sm_St), sm_Sm x zm_sy prog_12_method_77_code (sm_Q x zm_sy (sm_Pi zm_sy (xw x))) (r80 v1 v2 v3 v4 v5 v6 v7 S) S 80 [(0, .ref ((xw x).2.2 0)), (1, .int v1), (2, .int v2), (3, .int v3), (4, .int v4), (5, .int v5), (6, .int v6), (7, .int v7)] []) (v1 : Int32) (v2 : Int32) (v3 : Int32) (v4 : Int32) (v6 : Int32) (v7 : Int32) (s0 : Int32) (S : sm_St) : sm_Sm x zm_sy prog_12_method_77_code (sm_Q x zm_sy (sm_Pi zm_sy (xw x))) (pm_lent_b142 N r27 r65 r80 v1 v2 v3 v4 v6 v7 s0 S) S 142 [(0, .ref ((xw x).2.2 0)), (1, .int v1), (2, .int v2), (3, .int v3), (4, .int v4), (6, .int v6), (7, .int v7)] [.int s0] := by
  unfold pm_lent_b142
  refine sm_istore (pc := 142) (i := 5) ok dm_lent_142 (by decide) (fun v => [(5, .int v), (0, .ref ((xw x).2.2 0)), (1, .int v1), (2, .int v2), (3, .int v3), (4, .int v4), (6, .int v6), (7, .int v7)]) (fun _ => rfl) (fun v5_23 => ?_)
  refine sm_iinc (pc := 144) (i := 7) 7 (1 : Int32) ok dm_lent_144 rfl zk_1 (by decide) (fun v => [(7, .int v), (5, .int v5_23), (0, .ref ((xw x).2.2 0)), (1, .int v1), (2, .int v2), (3, .int v3), (4, .int v4), (6, .int v6)]) (fun _ => rfl) (fun v7_24 => ?_)
  refine sm_goto (pc := 147) 80 ok dm_lent_147 (by decide) ?_
  refine sm_lv [2, 3, 4, 5, 6, 1, 7, 0] rfl ?_
  exact h80 _ _ _ _ _ _ _ _
set_option maxHeartbeats 4000000 in
set_option maxRecDepth 20000 in
theorem tm_lent_b141 {x : sm_Cx} (ok : sm_Ok x zm_sy prog_12_method_77_code "LentShadesModel" 9 7 163) (hr : (xh x).sig.returnType = (some .int)) (N : Nat) {r27 : Int32 → Int32 → Int32 → Int32 → sm_St → Option (Int32 × sm_St)} {r65 : Int32 → Int32 → Int32 → Int32 → Int32 → Int32 → sm_St → Option (Int32 × sm_St)} {r80 : Int32 → Int32 → Int32 → Int32 → Int32 → Int32 → Int32 → sm_St → Option (Int32 × sm_St)} (h27 : ∀ (v1 : Int32) (v2 : Int32) (v3 : Int32) (v4 : Int32) (S : sm_St), sm_Sm x zm_sy prog_12_method_77_code (sm_Q x zm_sy (sm_Pi zm_sy (xw x))) (r27 v1 v2 v3 v4 S) S 27 [(0, .ref ((xw x).2.2 0)), (1, .int v1), (2, .int v2), (3, .int v3), (4, .int v4)] []) (h65 : ∀ (v1 : Int32) (v2 : Int32) (v3 : Int32) (v4 : Int32) (v5 : Int32) (v6 : Int32) (S : sm_St), sm_Sm x zm_sy prog_12_method_77_code (sm_Q x zm_sy (sm_Pi zm_sy (xw x))) (r65 v1 v2 v3 v4 v5 v6 S) S 65 [(0, .ref ((xw x).2.2 0)), (1, .int v1), (2, .int v2), (3, .int v3), (4, .int v4), (5, .int v5), (6, .int v6)] []) (h80 : ∀ (v1 : Int32) (v2 : Int32) (v3 : Int32) (v4 : Int32) (v5 : Int32) (v6 : Int32) (v7 : Int32) (S : sm_St), sm_Sm x zm_sy prog_12_method_77_code (sm_Q x zm_sy (sm_Pi zm_sy (xw x))) (r80 v1 v2 v3 v4 v5 v6 v7 S) S 80 [(0, .ref ((xw x).2.2 0)), (1, .int v1), (2, .int v2), (3, .int v3), (4, .int v4), (5, .int v5), (6, .int v6), (7, .int v7)] []) (v1 : Int32) (v2 : Int32) (v3 : Int32) (v4 : Int32) (v6 : Int32) (v7 : Int32) (S : sm_St) : sm_Sm x zm_sy prog_12_method_77_code (sm_Q x zm_sy (sm_Pi zm_sy (xw x))) (pm_lent_b141 N r27 r65 r80 v1 v2 v3 v4 v6 v7 S) S 141 [(0, .ref ((xw x).2.2 0)), (1, .int v1), (2, .int v2), (3, .int v3), (4, .int v4), (6, .int v6), (7, .int v7)] [] := by
  unfold pm_lent_b141
  refine sm_iconst (pc := 141) (0 : Int32) ok dm_lent_141 zk_0 ?_
  exact tm_lent_b142 ok hr N h27 h65 h80 _ _ _ _ _ _ _ _
set_option maxHeartbeats 4000000 in
set_option maxRecDepth 20000 in
theorem tm_lent_b137 {x : sm_Cx} (ok : sm_Ok x zm_sy prog_12_method_77_code "LentShadesModel" 9 7 163) (hr : (xh x).sig.returnType = (some .int)) (N : Nat) {r27 : Int32 → Int32 → Int32 → Int32 → sm_St → Option (Int32 × sm_St)} {r65 : Int32 → Int32 → Int32 → Int32 → Int32 → Int32 → sm_St → Option (Int32 × sm_St)} {r80 : Int32 → Int32 → Int32 → Int32 → Int32 → Int32 → Int32 → sm_St → Option (Int32 × sm_St)} (h27 : ∀ (v1 : Int32) (v2 : Int32) (v3 : Int32) (v4 : Int32) (S : sm_St), sm_Sm x zm_sy prog_12_method_77_code (sm_Q x zm_sy (sm_Pi zm_sy (xw x))) (r27 v1 v2 v3 v4 S) S 27 [(0, .ref ((xw x).2.2 0)), (1, .int v1), (2, .int v2), (3, .int v3), (4, .int v4)] []) (h65 : ∀ (v1 : Int32) (v2 : Int32) (v3 : Int32) (v4 : Int32) (v5 : Int32) (v6 : Int32) (S : sm_St), sm_Sm x zm_sy prog_12_method_77_code (sm_Q x zm_sy (sm_Pi zm_sy (xw x))) (r65 v1 v2 v3 v4 v5 v6 S) S 65 [(0, .ref ((xw x).2.2 0)), (1, .int v1), (2, .int v2), (3, .int v3), (4, .int v4), (5, .int v5), (6, .int v6)] []) (h80 : ∀ (v1 : Int32) (v2 : Int32) (v3 : Int32) (v4 : Int32) (v5 : Int32) (v6 : Int32) (v7 : Int32) (S : sm_St), sm_Sm x zm_sy prog_12_method_77_code (sm_Q x zm_sy (sm_Pi zm_sy (xw x))) (r80 v1 v2 v3 v4 v5 v6 v7 S) S 80 [(0, .ref ((xw x).2.2 0)), (1, .int v1), (2, .int v2), (3, .int v3), (4, .int v4), (5, .int v5), (6, .int v6), (7, .int v7)] []) (v1 : Int32) (v2 : Int32) (v3 : Int32) (v4 : Int32) (v6 : Int32) (v7 : Int32) (S : sm_St) : sm_Sm x zm_sy prog_12_method_77_code (sm_Q x zm_sy (sm_Pi zm_sy (xw x))) (pm_lent_b137 N r27 r65 r80 v1 v2 v3 v4 v6 v7 S) S 137 [(0, .ref ((xw x).2.2 0)), (1, .int v1), (2, .int v2), (3, .int v3), (4, .int v4), (6, .int v6), (7, .int v7)] [] := by
  unfold pm_lent_b137
  refine sm_iconst (pc := 137) (1 : Int32) ok dm_lent_137 zk_1 ?_
  refine sm_goto (pc := 138) 142 ok dm_lent_138 (by decide) ?_
  exact tm_lent_b142 ok hr N h27 h65 h80 _ _ _ _ _ _ _ _
set_option maxHeartbeats 4000000 in
set_option maxRecDepth 20000 in
theorem tm_lent_b114 {x : sm_Cx} (ok : sm_Ok x zm_sy prog_12_method_77_code "LentShadesModel" 9 7 163) (hr : (xh x).sig.returnType = (some .int)) (N : Nat) {r27 : Int32 → Int32 → Int32 → Int32 → sm_St → Option (Int32 × sm_St)} {r65 : Int32 → Int32 → Int32 → Int32 → Int32 → Int32 → sm_St → Option (Int32 × sm_St)} {r80 : Int32 → Int32 → Int32 → Int32 → Int32 → Int32 → Int32 → sm_St → Option (Int32 × sm_St)} (h27 : ∀ (v1 : Int32) (v2 : Int32) (v3 : Int32) (v4 : Int32) (S : sm_St), sm_Sm x zm_sy prog_12_method_77_code (sm_Q x zm_sy (sm_Pi zm_sy (xw x))) (r27 v1 v2 v3 v4 S) S 27 [(0, .ref ((xw x).2.2 0)), (1, .int v1), (2, .int v2), (3, .int v3), (4, .int v4)] []) (h65 : ∀ (v1 : Int32) (v2 : Int32) (v3 : Int32) (v4 : Int32) (v5 : Int32) (v6 : Int32) (S : sm_St), sm_Sm x zm_sy prog_12_method_77_code (sm_Q x zm_sy (sm_Pi zm_sy (xw x))) (r65 v1 v2 v3 v4 v5 v6 S) S 65 [(0, .ref ((xw x).2.2 0)), (1, .int v1), (2, .int v2), (3, .int v3), (4, .int v4), (5, .int v5), (6, .int v6)] []) (h80 : ∀ (v1 : Int32) (v2 : Int32) (v3 : Int32) (v4 : Int32) (v5 : Int32) (v6 : Int32) (v7 : Int32) (S : sm_St), sm_Sm x zm_sy prog_12_method_77_code (sm_Q x zm_sy (sm_Pi zm_sy (xw x))) (r80 v1 v2 v3 v4 v5 v6 v7 S) S 80 [(0, .ref ((xw x).2.2 0)), (1, .int v1), (2, .int v2), (3, .int v3), (4, .int v4), (5, .int v5), (6, .int v6), (7, .int v7)] []) (v1 : Int32) (v2 : Int32) (v3 : Int32) (v4 : Int32) (v5 : Int32) (v6 : Int32) (v7 : Int32) (s0 : Int32) (S : sm_St) : sm_Sm x zm_sy prog_12_method_77_code (sm_Q x zm_sy (sm_Pi zm_sy (xw x))) (pm_lent_b114 N r27 r65 r80 v1 v2 v3 v4 v5 v6 v7 s0 S) S 114 [(0, .ref ((xw x).2.2 0)), (1, .int v1), (2, .int v2), (3, .int v3), (4, .int v4), (5, .int v5), (6, .int v6), (7, .int v7)] [.int s0] := by
  unfold pm_lent_b114
  refine sm_istore (pc := 114) (i := 8) ok dm_lent_114 (by decide) (fun v => [(8, .int v), (0, .ref ((xw x).2.2 0)), (1, .int v1), (2, .int v2), (3, .int v3), (4, .int v4), (5, .int v5), (6, .int v6), (7, .int v7)]) (fun _ => rfl) (fun v8_20 => ?_)
  refine sm_iload (pc := 116) 6 ok dm_lent_116 rfl ?_
  refine sm_if_eq (pc := 118) 141 ok dm_lent_118 (by decide) (fun _ => ?_) (fun _ => ?_)
  · refine sm_lv [1, 2, 3, 4, 5, 7, 8] rfl ?_
    exact tm_lent_b141 ok hr N h27 h65 h80 _ _ _ _ _ _ _
  · refine sm_iload (pc := 121) 0 ok dm_lent_121 rfl ?_
    refine sm_if_eq (pc := 123) 137 ok dm_lent_123 (by decide) (fun _ => ?_) (fun _ => ?_)
    · refine sm_lv [1, 2, 3, 4, 5, 7, 8] rfl ?_
      exact tm_lent_b137 ok hr N h27 h65 h80 _ _ _ _ _ _ _
    · refine sm_aload_n (pc := 126) 1 ok dm_lent_126 rfl ?_
      refine sm_iload (pc := 127) 7 ok dm_lent_127 rfl ?_
      refine sm_iload (pc := 129) 8 ok dm_lent_129 rfl ?_
      refine sm_callV_i (pc := 131) (ci := 10) [.int v6, .int v7] ok dm_lent_131 wd_1389 mwm_meet rfl rfl (Nat.le_of_ble_eq_true rfl) (Nat.le_of_ble_eq_true rfl) rfl rfl (Nat.le_of_ble_eq_true rfl) (cm_meet (sm_okj ok) N S v6 v7) (fun r_22 S_21 => ?_)
      refine sm_if_ne (pc := 134) 141 ok dm_lent_134 (by decide) (fun _ => ?_) (fun _ => ?_)
      · refine sm_lv [1, 2, 3, 4, 5, 7, 8] rfl ?_
        exact tm_lent_b141 ok hr N h27 h65 h80 _ _ _ _ _ _ _
      · refine sm_lv [1, 2, 3, 4, 5, 7, 8] rfl ?_
        exact tm_lent_b137 ok hr N h27 h65 h80 _ _ _ _ _ _ _
set_option maxHeartbeats 4000000 in
set_option maxRecDepth 20000 in
theorem tm_lent_b113 {x : sm_Cx} (ok : sm_Ok x zm_sy prog_12_method_77_code "LentShadesModel" 9 7 163) (hr : (xh x).sig.returnType = (some .int)) (N : Nat) {r27 : Int32 → Int32 → Int32 → Int32 → sm_St → Option (Int32 × sm_St)} {r65 : Int32 → Int32 → Int32 → Int32 → Int32 → Int32 → sm_St → Option (Int32 × sm_St)} {r80 : Int32 → Int32 → Int32 → Int32 → Int32 → Int32 → Int32 → sm_St → Option (Int32 × sm_St)} (h27 : ∀ (v1 : Int32) (v2 : Int32) (v3 : Int32) (v4 : Int32) (S : sm_St), sm_Sm x zm_sy prog_12_method_77_code (sm_Q x zm_sy (sm_Pi zm_sy (xw x))) (r27 v1 v2 v3 v4 S) S 27 [(0, .ref ((xw x).2.2 0)), (1, .int v1), (2, .int v2), (3, .int v3), (4, .int v4)] []) (h65 : ∀ (v1 : Int32) (v2 : Int32) (v3 : Int32) (v4 : Int32) (v5 : Int32) (v6 : Int32) (S : sm_St), sm_Sm x zm_sy prog_12_method_77_code (sm_Q x zm_sy (sm_Pi zm_sy (xw x))) (r65 v1 v2 v3 v4 v5 v6 S) S 65 [(0, .ref ((xw x).2.2 0)), (1, .int v1), (2, .int v2), (3, .int v3), (4, .int v4), (5, .int v5), (6, .int v6)] []) (h80 : ∀ (v1 : Int32) (v2 : Int32) (v3 : Int32) (v4 : Int32) (v5 : Int32) (v6 : Int32) (v7 : Int32) (S : sm_St), sm_Sm x zm_sy prog_12_method_77_code (sm_Q x zm_sy (sm_Pi zm_sy (xw x))) (r80 v1 v2 v3 v4 v5 v6 v7 S) S 80 [(0, .ref ((xw x).2.2 0)), (1, .int v1), (2, .int v2), (3, .int v3), (4, .int v4), (5, .int v5), (6, .int v6), (7, .int v7)] []) (v1 : Int32) (v2 : Int32) (v3 : Int32) (v4 : Int32) (v5 : Int32) (v6 : Int32) (v7 : Int32) (S : sm_St) : sm_Sm x zm_sy prog_12_method_77_code (sm_Q x zm_sy (sm_Pi zm_sy (xw x))) (pm_lent_b113 N r27 r65 r80 v1 v2 v3 v4 v5 v6 v7 S) S 113 [(0, .ref ((xw x).2.2 0)), (1, .int v1), (2, .int v2), (3, .int v3), (4, .int v4), (5, .int v5), (6, .int v6), (7, .int v7)] [] := by
  unfold pm_lent_b113
  refine sm_iconst (pc := 113) (0 : Int32) ok dm_lent_113 zk_0 ?_
  exact tm_lent_b114 ok hr N h27 h65 h80 _ _ _ _ _ _ _ _ _
set_option maxHeartbeats 4000000 in
set_option maxRecDepth 20000 in
theorem tm_lent_b80 {x : sm_Cx} (ok : sm_Ok x zm_sy prog_12_method_77_code "LentShadesModel" 9 7 163) (hr : (xh x).sig.returnType = (some .int)) (N : Nat) {r27 : Int32 → Int32 → Int32 → Int32 → sm_St → Option (Int32 × sm_St)} {r65 : Int32 → Int32 → Int32 → Int32 → Int32 → Int32 → sm_St → Option (Int32 × sm_St)} (h27 : ∀ (v1 : Int32) (v2 : Int32) (v3 : Int32) (v4 : Int32) (S : sm_St), sm_Sm x zm_sy prog_12_method_77_code (sm_Q x zm_sy (sm_Pi zm_sy (xw x))) (r27 v1 v2 v3 v4 S) S 27 [(0, .ref ((xw x).2.2 0)), (1, .int v1), (2, .int v2), (3, .int v3), (4, .int v4)] []) (h65 : ∀ (v1 : Int32) (v2 : Int32) (v3 : Int32) (v4 : Int32) (v5 : Int32) (v6 : Int32) (S : sm_St), sm_Sm x zm_sy prog_12_method_77_code (sm_Q x zm_sy (sm_Pi zm_sy (xw x))) (r65 v1 v2 v3 v4 v5 v6 S) S 65 [(0, .ref ((xw x).2.2 0)), (1, .int v1), (2, .int v2), (3, .int v3), (4, .int v4), (5, .int v5), (6, .int v6)] []) : ∀ (n : Nat) (v1 : Int32) (v2 : Int32) (v3 : Int32) (v4 : Int32) (v5 : Int32) (v6 : Int32) (v7 : Int32) (S : sm_St), sm_Sm x zm_sy prog_12_method_77_code (sm_Q x zm_sy (sm_Pi zm_sy (xw x))) (pm_lent_b80 N r27 r65 n v1 v2 v3 v4 v5 v6 v7 S) S 80 [(0, .ref ((xw x).2.2 0)), (1, .int v1), (2, .int v2), (3, .int v3), (4, .int v4), (5, .int v5), (6, .int v6), (7, .int v7)] [] := by
  intro n
  induction n with
  | zero =>
    intro v1 v2 v3 v4 v5 v6 v7 S
    exact sm_none
  | succ n ih =>
    intro v1 v2 v3 v4 v5 v6 v7 S
    show sm_Sm x zm_sy prog_12_method_77_code (sm_Q x zm_sy (sm_Pi zm_sy (xw x))) (if v6 ≤ v7 then (sm_lt (v6 + (1 : Int32)) (fun (v6_19 : Int32) => r65 v1 v2 v3 v4 v5 v6_19 S)) else (if ((v4 >>> (v6 &&& 31)) &&& (1 : Int32)) = (1 : Int32) then (if ((v4 >>> (v7 &&& 31)) &&& (1 : Int32)) = (1 : Int32) then (pm_lent_b114 N r27 r65 (pm_lent_b80 N r27 r65 n) v1 v2 v3 v4 v5 v6 v7 (1 : Int32) S) else (pm_lent_b113 N r27 r65 (pm_lent_b80 N r27 r65 n) v1 v2 v3 v4 v5 v6 v7 S)) else (pm_lent_b113 N r27 r65 (pm_lent_b80 N r27 r65 n) v1 v2 v3 v4 v5 v6 v7 S))) S 80 [(0, .ref ((xw x).2.2 0)), (1, .int v1), (2, .int v2), (3, .int v3), (4, .int v4), (5, .int v5), (6, .int v6), (7, .int v7)] []
    refine sm_iload (pc := 80) 7 ok dm_lent_80 rfl ?_
    refine sm_iload (pc := 82) 6 ok dm_lent_82 rfl ?_
    refine sm_icmp_ge (pc := 84) 150 ok dm_lent_84 (by decide) (fun _ => ?_) (fun _ => ?_)
    · refine sm_iinc (pc := 150) (i := 6) 6 (1 : Int32) ok dm_lent_150 rfl zk_1 (by decide) (fun v => [(6, .int v), (0, .ref ((xw x).2.2 0)), (1, .int v1), (2, .int v2), (3, .int v3), (4, .int v4), (5, .int v5), (7, .int v7)]) (fun _ => rfl) (fun v6_19 => ?_)
      refine sm_goto (pc := 153) 65 ok dm_lent_153 (by decide) ?_
      refine sm_lv [1, 2, 3, 4, 5, 6, 0] rfl ?_
      exact h65 _ _ _ _ _ _ _
    · refine sm_iload (pc := 87) 4 ok dm_lent_87 rfl ?_
      refine sm_iload (pc := 89) 6 ok dm_lent_89 rfl ?_
      refine sm_ishr (pc := 91) ok dm_lent_91 ?_
      refine sm_iconst (pc := 92) (1 : Int32) ok dm_lent_92 zk_1 ?_
      refine sm_iand (pc := 93) ok dm_lent_93 ?_
      refine sm_iconst (pc := 94) (1 : Int32) ok dm_lent_94 zk_1 ?_
      refine sm_icmp_ne (pc := 95) 113 ok dm_lent_95 (by decide) (fun _ => ?_) (fun _ => ?_)
      · exact tm_lent_b113 ok hr N h27 h65 ih _ _ _ _ _ _ _ _
      · refine sm_iload (pc := 98) 4 ok dm_lent_98 rfl ?_
        refine sm_iload (pc := 100) 7 ok dm_lent_100 rfl ?_
        refine sm_ishr (pc := 102) ok dm_lent_102 ?_
        refine sm_iconst (pc := 103) (1 : Int32) ok dm_lent_103 zk_1 ?_
        refine sm_iand (pc := 104) ok dm_lent_104 ?_
        refine sm_iconst (pc := 105) (1 : Int32) ok dm_lent_105 zk_1 ?_
        refine sm_icmp_ne (pc := 106) 113 ok dm_lent_106 (by decide) (fun _ => ?_) (fun _ => ?_)
        · exact tm_lent_b113 ok hr N h27 h65 ih _ _ _ _ _ _ _ _
        · refine sm_iconst (pc := 109) (1 : Int32) ok dm_lent_109 zk_1 ?_
          refine sm_goto (pc := 110) 114 ok dm_lent_110 (by decide) ?_
          exact tm_lent_b114 ok hr N h27 h65 ih _ _ _ _ _ _ _ _ _
set_option maxHeartbeats 4000000 in
set_option maxRecDepth 20000 in
theorem tm_lent_b65 {x : sm_Cx} (ok : sm_Ok x zm_sy prog_12_method_77_code "LentShadesModel" 9 7 163) (hr : (xh x).sig.returnType = (some .int)) (N : Nat) {r27 : Int32 → Int32 → Int32 → Int32 → sm_St → Option (Int32 × sm_St)} (h27 : ∀ (v1 : Int32) (v2 : Int32) (v3 : Int32) (v4 : Int32) (S : sm_St), sm_Sm x zm_sy prog_12_method_77_code (sm_Q x zm_sy (sm_Pi zm_sy (xw x))) (r27 v1 v2 v3 v4 S) S 27 [(0, .ref ((xw x).2.2 0)), (1, .int v1), (2, .int v2), (3, .int v3), (4, .int v4)] []) : ∀ (n : Nat) (v1 : Int32) (v2 : Int32) (v3 : Int32) (v4 : Int32) (v5 : Int32) (v6 : Int32) (S : sm_St), sm_Sm x zm_sy prog_12_method_77_code (sm_Q x zm_sy (sm_Pi zm_sy (xw x))) (pm_lent_b65 N r27 n v1 v2 v3 v4 v5 v6 S) S 65 [(0, .ref ((xw x).2.2 0)), (1, .int v1), (2, .int v2), (3, .int v3), (4, .int v4), (5, .int v5), (6, .int v6)] [] := by
  intro n
  induction n with
  | zero =>
    intro v1 v2 v3 v4 v5 v6 S
    exact sm_none
  | succ n ih =>
    intro v1 v2 v3 v4 v5 v6 S
    show sm_Sm x zm_sy prog_12_method_77_code (sm_Q x zm_sy (sm_Pi zm_sy (xw x))) (if (6 : Int32) ≤ v6 then (pm_lent_b156 N r27 v1 v2 v3 v4 v5 S) else (if v5 = 0 then (pm_lent_b156 N r27 v1 v2 v3 v4 v5 S) else (sm_lt (0 : Int32) (fun (v7_18 : Int32) => pm_lent_b80 N r27 (pm_lent_b65 N r27 n) N v1 v2 v3 v4 v5 v6 v7_18 S)))) S 65 [(0, .ref ((xw x).2.2 0)), (1, .int v1), (2, .int v2), (3, .int v3), (4, .int v4), (5, .int v5), (6, .int v6)] []
    refine sm_iload (pc := 65) 6 ok dm_lent_65 rfl ?_
    refine sm_bipush (pc := 67) (6 : Int32) ok dm_lent_67 zb_6 ?_
    refine sm_icmp_ge (pc := 69) 156 ok dm_lent_69 (by decide) (fun _ => ?_) (fun _ => ?_)
    · refine sm_lv [0, 1, 2, 3, 4, 5] rfl ?_
      exact tm_lent_b156 ok hr N h27 _ _ _ _ _ _
    · refine sm_iload (pc := 72) 5 ok dm_lent_72 rfl ?_
      refine sm_if_eq (pc := 74) 156 ok dm_lent_74 (by decide) (fun _ => ?_) (fun _ => ?_)
      · refine sm_lv [0, 1, 2, 3, 4, 5] rfl ?_
        exact tm_lent_b156 ok hr N h27 _ _ _ _ _ _
      · refine sm_iconst (pc := 77) (0 : Int32) ok dm_lent_77 zk_0 ?_
        refine sm_istore (pc := 78) (i := 7) ok dm_lent_78 (by decide) (fun v => [(7, .int v), (0, .ref ((xw x).2.2 0)), (1, .int v1), (2, .int v2), (3, .int v3), (4, .int v4), (5, .int v5), (6, .int v6)]) (fun _ => rfl) (fun v7_18 => ?_)
        refine sm_lv [1, 2, 3, 4, 5, 6, 7, 0] rfl ?_
        exact tm_lent_b80 ok hr N h27 ih N _ _ _ _ _ _ _ _
set_option maxHeartbeats 4000000 in
set_option maxRecDepth 20000 in
theorem tm_lent_b60 {x : sm_Cx} (ok : sm_Ok x zm_sy prog_12_method_77_code "LentShadesModel" 9 7 163) (hr : (xh x).sig.returnType = (some .int)) (N : Nat) {r27 : Int32 → Int32 → Int32 → Int32 → sm_St → Option (Int32 × sm_St)} (h27 : ∀ (v1 : Int32) (v2 : Int32) (v3 : Int32) (v4 : Int32) (S : sm_St), sm_Sm x zm_sy prog_12_method_77_code (sm_Q x zm_sy (sm_Pi zm_sy (xw x))) (r27 v1 v2 v3 v4 S) S 27 [(0, .ref ((xw x).2.2 0)), (1, .int v1), (2, .int v2), (3, .int v3), (4, .int v4)] []) (v1 : Int32) (v2 : Int32) (v3 : Int32) (v4 : Int32) (s0 : Int32) (S : sm_St) : sm_Sm x zm_sy prog_12_method_77_code (sm_Q x zm_sy (sm_Pi zm_sy (xw x))) (pm_lent_b60 N r27 v1 v2 v3 v4 s0 S) S 60 [(0, .ref ((xw x).2.2 0)), (1, .int v1), (2, .int v2), (3, .int v3), (4, .int v4)] [.int s0] := by
  unfold pm_lent_b60
  refine sm_istore (pc := 60) (i := 5) ok dm_lent_60 (by decide) (fun v => [(5, .int v), (0, .ref ((xw x).2.2 0)), (1, .int v1), (2, .int v2), (3, .int v3), (4, .int v4)]) (fun _ => rfl) (fun v5_16 => ?_)
  refine sm_iconst (pc := 62) (0 : Int32) ok dm_lent_62 zk_0 ?_
  refine sm_istore (pc := 63) (i := 6) ok dm_lent_63 (by decide) (fun v => [(6, .int v), (5, .int v5_16), (0, .ref ((xw x).2.2 0)), (1, .int v1), (2, .int v2), (3, .int v3), (4, .int v4)]) (fun _ => rfl) (fun v6_17 => ?_)
  refine sm_lv [2, 3, 4, 5, 6, 1, 0] rfl ?_
  exact tm_lent_b65 ok hr N h27 N _ _ _ _ _ _ _
set_option maxHeartbeats 4000000 in
set_option maxRecDepth 20000 in
theorem tm_lent_b59 {x : sm_Cx} (ok : sm_Ok x zm_sy prog_12_method_77_code "LentShadesModel" 9 7 163) (hr : (xh x).sig.returnType = (some .int)) (N : Nat) {r27 : Int32 → Int32 → Int32 → Int32 → sm_St → Option (Int32 × sm_St)} (h27 : ∀ (v1 : Int32) (v2 : Int32) (v3 : Int32) (v4 : Int32) (S : sm_St), sm_Sm x zm_sy prog_12_method_77_code (sm_Q x zm_sy (sm_Pi zm_sy (xw x))) (r27 v1 v2 v3 v4 S) S 27 [(0, .ref ((xw x).2.2 0)), (1, .int v1), (2, .int v2), (3, .int v3), (4, .int v4)] []) (v1 : Int32) (v2 : Int32) (v3 : Int32) (v4 : Int32) (S : sm_St) : sm_Sm x zm_sy prog_12_method_77_code (sm_Q x zm_sy (sm_Pi zm_sy (xw x))) (pm_lent_b59 N r27 v1 v2 v3 v4 S) S 59 [(0, .ref ((xw x).2.2 0)), (1, .int v1), (2, .int v2), (3, .int v3), (4, .int v4)] [] := by
  unfold pm_lent_b59
  refine sm_iconst (pc := 59) (0 : Int32) ok dm_lent_59 zk_0 ?_
  exact tm_lent_b60 ok hr N h27 _ _ _ _ _ _
set_option maxHeartbeats 4000000 in
set_option maxRecDepth 20000 in
theorem tm_lent_b27 {x : sm_Cx} (ok : sm_Ok x zm_sy prog_12_method_77_code "LentShadesModel" 9 7 163) (hr : (xh x).sig.returnType = (some .int)) (N : Nat) : ∀ (n : Nat) (v1 : Int32) (v2 : Int32) (v3 : Int32) (v4 : Int32) (S : sm_St), sm_Sm x zm_sy prog_12_method_77_code (sm_Q x zm_sy (sm_Pi zm_sy (xw x))) (pm_lent_b27 N n v1 v2 v3 v4 S) S 27 [(0, .ref ((xw x).2.2 0)), (1, .int v1), (2, .int v2), (3, .int v3), (4, .int v4)] [] := by
  intro n
  induction n with
  | zero =>
    intro v1 v2 v3 v4 S
    exact sm_none
  | succ n ih =>
    intro v1 v2 v3 v4 S
    show sm_Sm x zm_sy prog_12_method_77_code (sm_Q x zm_sy (sm_Pi zm_sy (xw x))) (if (64 : Int32) ≤ v4 then (if v1 = 0 then (sm_b2 (pm_manyIn N S v3) (fun (r_11 : Int32) (S_10 : sm_St) => some (r_11, S_10))) else (some (v3, S))) else (if (v4 &&& (v2 ^^^ (-1 : Int32))) = 0 then (sm_b2 (pm_manyIn N S v4) (fun (r_13 : Int32) (S_12 : sm_St) => sm_b2 (pm_manyIn N S_12 v3) (fun (r_15 : Int32) (S_14 : sm_St) => if r_13 ≤ r_15 then (pm_lent_b59 N (pm_lent_b27 N n) v1 v2 v3 v4 S_14) else (pm_lent_b60 N (pm_lent_b27 N n) v1 v2 v3 v4 (1 : Int32) S_14)))) else (pm_lent_b59 N (pm_lent_b27 N n) v1 v2 v3 v4 S))) S 27 [(0, .ref ((xw x).2.2 0)), (1, .int v1), (2, .int v2), (3, .int v3), (4, .int v4)] []
    refine sm_iload (pc := 27) 4 ok dm_lent_27 rfl ?_
    refine sm_bipush (pc := 29) (64 : Int32) ok dm_lent_29 zb_64 ?_
    refine sm_icmp_ge (pc := 31) 174 ok dm_lent_31 (by decide) (fun _ => ?_) (fun _ => ?_)
    · refine sm_iload_n (pc := 174) 1 ok dm_lent_174 rfl ?_
      refine sm_if_ne (pc := 175) 185 ok dm_lent_175 (by decide) (fun _ => ?_) (fun _ => ?_)
      · refine sm_iload_n (pc := 185) 3 ok dm_lent_185 rfl ?_
        exact sm_iret (pc := 186) ok dm_lent_186 hr
      · refine sm_iload_n (pc := 178) 3 ok dm_lent_178 rfl ?_
        refine sm_callS_i (pc := 179) [.int v3] ok dm_lent_179 wd_1386 mwm_manyIn (Nat.le_of_ble_eq_true rfl) (Nat.le_of_ble_eq_true rfl) rfl rfl (Nat.le_of_ble_eq_true rfl) (cm_manyIn (sm_okj ok) N S v3) (fun r_11 S_10 => ?_)
        refine sm_goto (pc := 182) 186 ok dm_lent_182 (by decide) ?_
        exact sm_iret (pc := 186) ok dm_lent_186 hr
    · refine sm_iload (pc := 34) 4 ok dm_lent_34 rfl ?_
      refine sm_iload_n (pc := 36) 2 ok dm_lent_36 rfl ?_
      refine sm_iconst (pc := 37) (-1 : Int32) ok dm_lent_37 zk_m1 ?_
      refine sm_ixor (pc := 38) ok dm_lent_38 ?_
      refine sm_iand (pc := 39) ok dm_lent_39 ?_
      refine sm_if_ne (pc := 40) 59 ok dm_lent_40 (by decide) (fun _ => ?_) (fun _ => ?_)
      · exact tm_lent_b59 ok hr N ih _ _ _ _ _
      · refine sm_iload (pc := 43) 4 ok dm_lent_43 rfl ?_
        refine sm_callS_i (pc := 45) [.int v4] ok dm_lent_45 wd_1386 mwm_manyIn (Nat.le_of_ble_eq_true rfl) (Nat.le_of_ble_eq_true rfl) rfl rfl (Nat.le_of_ble_eq_true rfl) (cm_manyIn (sm_okj ok) N S v4) (fun r_13 S_12 => ?_)
        refine sm_iload_n (pc := 48) 3 ok dm_lent_48 rfl ?_
        refine sm_callS_i (pc := 49) [.int v3] ok dm_lent_49 wd_1386 mwm_manyIn (Nat.le_of_ble_eq_true rfl) (Nat.le_of_ble_eq_true rfl) rfl rfl (Nat.le_of_ble_eq_true rfl) (cm_manyIn (sm_okj ok) N S_12 v3) (fun r_15 S_14 => ?_)
        refine sm_icmp_le (pc := 52) 59 ok dm_lent_52 (by decide) (fun _ => ?_) (fun _ => ?_)
        · exact tm_lent_b59 ok hr N ih _ _ _ _ _
        · refine sm_iconst (pc := 55) (1 : Int32) ok dm_lent_55 zk_1 ?_
          refine sm_goto (pc := 56) 60 ok dm_lent_56 (by decide) ?_
          exact tm_lent_b60 ok hr N ih _ _ _ _ _ _
set_option maxHeartbeats 4000000 in
set_option maxRecDepth 20000 in
theorem tm_lent {x : sm_Cx} (ok : sm_Ok x zm_sy prog_12_method_77_code "LentShadesModel" 9 7 163) (hr : (xh x).sig.returnType = (some .int)) (N : Nat) (S : sm_St) (v1 : Int32) : sm_Sm x zm_sy prog_12_method_77_code (sm_Q x zm_sy (sm_Pi zm_sy (xw x))) (pm_lent N S v1) S 0 [(0, .ref ((xw x).2.2 0)), (1, .int v1)] [] := by
  unfold pm_lent
  refine sm_iload_n (pc := 0) 1 ok dm_lent_0 rfl ?_
  refine sm_i2l (pc := 1) ok dm_lent_1 ?_
  refine sm_lconst (pc := 2) (0 : Int64) ok dm_lent_2 zl_0 ?_
  refine sm_lconst (pc := 3) (1 : Int64) ok dm_lent_3 zl_1 ?_
  refine sm_callS_i (pc := 4) [.long (v1.toInt64), .long (0 : Int64), .long (1 : Int64)] ok dm_lent_4 wd_1105 mwm_in (Nat.le_of_ble_eq_true rfl) (Nat.le_of_ble_eq_true rfl) rfl rfl (Nat.le_of_ble_eq_true rfl) (cm_in (sm_okj ok) N S (v1.toInt64) (0 : Int64) (1 : Int64)) (fun r_2 S_1 => ?_)
  refine sm_if_ne (pc := 7) 17 ok dm_lent_7 (by decide) (fun _ => ?_) (fun _ => ?_)
  · refine sm_aload_n (pc := 17) 0 ok dm_lent_17 rfl ?_
    refine sm_callV_i (pc := 18) (ci := 10) [] ok dm_lent_18 wd_1378 mwm_findServed rfl rfl (Nat.le_of_ble_eq_true rfl) (Nat.le_of_ble_eq_true rfl) rfl rfl (Nat.le_of_ble_eq_true rfl) (cm_findServed (sm_okj ok) N S_1) (fun r_4 S_3 => ?_)
    refine sm_istore_n (pc := 21) (i := 2) ok dm_lent_21 rfl (by decide) (fun v => [(2, .int v), (0, .ref ((xw x).2.2 0)), (1, .int v1)]) (fun _ => rfl) (fun v2_5 => ?_)
    refine sm_iconst (pc := 22) (0 : Int32) ok dm_lent_22 zk_0 ?_
    refine sm_istore_n (pc := 23) (i := 3) ok dm_lent_23 rfl (by decide) (fun v => [(3, .int v), (2, .int v2_5), (0, .ref ((xw x).2.2 0)), (1, .int v1)]) (fun _ => rfl) (fun v3_6 => ?_)
    refine sm_iconst (pc := 24) (0 : Int32) ok dm_lent_24 zk_0 ?_
    refine sm_istore (pc := 25) (i := 4) ok dm_lent_25 (by decide) (fun v => [(4, .int v), (3, .int v3_6), (2, .int v2_5), (0, .ref ((xw x).2.2 0)), (1, .int v1)]) (fun _ => rfl) (fun v4_7 => ?_)
    refine sm_lv [3, 4, 2, 1, 0] rfl ?_
    exact tm_lent_b27 ok hr N N _ _ _ _ _
  · refine sm_aload_n (pc := 10) 0 ok dm_lent_10 rfl ?_
    refine sm_bipush (pc := 11) (-2 : Int32) ok dm_lent_11 zb_m2 ?_
    refine sm_callV_i (pc := 13) (ci := 10) [.int (-2 : Int32)] ok dm_lent_13 wd_1110 mwm_bad rfl rfl (Nat.le_of_ble_eq_true rfl) (Nat.le_of_ble_eq_true rfl) rfl rfl (Nat.le_of_ble_eq_true rfl) (cm_bad (sm_okj ok) N S_1 (-2 : Int32)) (fun r_9 S_8 => ?_)
    exact sm_iret (pc := 16) ok dm_lent_16 hr
theorem cm_lent {l : Launch} {wc : sm_Wc} (hj : sm_inj zm_sy wc) (N : Nat) (S : sm_St) (v1 : Int32) : sm_Ct l zm_sy wc ym_lent prog_12_method_77_code 9 (some .int) 7 163 [.ref (wc.2.2 0), .int v1] S (sm_Pi zm_sy wc) (pm_lent N S v1) :=
  sm_entry (Pq := fun wc => sm_Pi zm_sy wc) (fun wc => [.ref (wc.2.2 0), .int v1]) (lv := fun wc => [(0, .ref (wc.2.2 0)), (1, .int v1)]) (by decide) hj zm_ok zm_stb (fun _ => Nat.le_of_ble_eq_true rfl) (fun _ => rfl) (fun x _ ok hr => tm_lent ok hr N S v1)
set_option maxHeartbeats 4000000 in
set_option maxRecDepth 20000 in
theorem tm_colours_b90 {x : sm_Cx} (ok : sm_Ok x zm_sy prog_12_method_78_code "LentShadesModel" 5 3 71) (hr : (xh x).sig.returnType = (some .int)) (N : Nat) {r8 : Int32 → Int32 → sm_St → Option (Int32 × sm_St)} (h8 : ∀ (v1 : Int32) (v2 : Int32) (S : sm_St), sm_Sm x zm_sy prog_12_method_78_code (sm_Q x zm_sy (sm_Pi zm_sy (xw x))) (r8 v1 v2 S) S 8 [(0, .ref ((xw x).2.2 0)), (1, .int v1), (2, .int v2)] []) (v2 : Int32) (s0 : Int32) (s1 : Int32) (S : sm_St) : sm_Sm x zm_sy prog_12_method_78_code (sm_Q x zm_sy (sm_Pi zm_sy (xw x))) (pm_colours_b90 N r8 v2 s0 s1 S) S 90 [(0, .ref ((xw x).2.2 0)), (2, .int v2)] [.int s1, .int s0] := by
  unfold pm_colours_b90
  refine sm_iadd (pc := 90) ok dm_colours_90 ?_
  refine sm_istore_n (pc := 91) (i := 1) ok dm_colours_91 rfl (by decide) (fun v => [(1, .int v), (0, .ref ((xw x).2.2 0)), (2, .int v2)]) (fun _ => rfl) (fun v1_16 => ?_)
  refine sm_iinc (pc := 92) (i := 2) 2 (1 : Int32) ok dm_colours_92 rfl zk_1 (by decide) (fun v => [(2, .int v), (1, .int v1_16), (0, .ref ((xw x).2.2 0))]) (fun _ => rfl) (fun v2_17 => ?_)
  refine sm_goto (pc := 95) 8 ok dm_colours_95 (by decide) ?_
  refine sm_lv [2, 1, 0] rfl ?_
  exact h8 _ _ _
set_option maxHeartbeats 4000000 in
set_option maxRecDepth 20000 in
theorem tm_colours_b80 {x : sm_Cx} (ok : sm_Ok x zm_sy prog_12_method_78_code "LentShadesModel" 5 3 71) (hr : (xh x).sig.returnType = (some .int)) (N : Nat) {r8 : Int32 → Int32 → sm_St → Option (Int32 × sm_St)} (h8 : ∀ (v1 : Int32) (v2 : Int32) (S : sm_St), sm_Sm x zm_sy prog_12_method_78_code (sm_Q x zm_sy (sm_Pi zm_sy (xw x))) (r8 v1 v2 S) S 8 [(0, .ref ((xw x).2.2 0)), (1, .int v1), (2, .int v2)] []) (v1 : Int32) (v2 : Int32) (v3 : Int32) (S : sm_St) : sm_Sm x zm_sy prog_12_method_78_code (sm_Q x zm_sy (sm_Pi zm_sy (xw x))) (pm_colours_b80 N r8 v1 v2 v3 S) S 80 [(0, .ref ((xw x).2.2 0)), (1, .int v1), (2, .int v2), (3, .int v3)] [] := by
  unfold pm_colours_b80
  refine sm_iload_n (pc := 80) 1 ok dm_colours_80 rfl ?_
  refine sm_iload_n (pc := 81) 3 ok dm_colours_81 rfl ?_
  refine sm_if_eq (pc := 82) 89 ok dm_colours_82 (by decide) (fun _ => ?_) (fun _ => ?_)
  · refine sm_iconst (pc := 89) (0 : Int32) ok dm_colours_89 zk_0 ?_
    refine sm_lv [0, 2] rfl ?_
    exact tm_colours_b90 ok hr N h8 _ _ _ _
  · refine sm_iconst (pc := 85) (1 : Int32) ok dm_colours_85 zk_1 ?_
    refine sm_goto (pc := 86) 90 ok dm_colours_86 (by decide) ?_
    refine sm_lv [0, 2] rfl ?_
    exact tm_colours_b90 ok hr N h8 _ _ _ _
set_option maxHeartbeats 4000000 in
set_option maxRecDepth 20000 in
theorem tm_colours_b74 {x : sm_Cx} (ok : sm_Ok x zm_sy prog_12_method_78_code "LentShadesModel" 5 3 71) (hr : (xh x).sig.returnType = (some .int)) (N : Nat) {r8 : Int32 → Int32 → sm_St → Option (Int32 × sm_St)} {r23 : Int32 → Int32 → Int32 → Int32 → sm_St → Option (Int32 × sm_St)} (h8 : ∀ (v1 : Int32) (v2 : Int32) (S : sm_St), sm_Sm x zm_sy prog_12_method_78_code (sm_Q x zm_sy (sm_Pi zm_sy (xw x))) (r8 v1 v2 S) S 8 [(0, .ref ((xw x).2.2 0)), (1, .int v1), (2, .int v2)] []) (h23 : ∀ (v1 : Int32) (v2 : Int32) (v3 : Int32) (v4 : Int32) (S : sm_St), sm_Sm x zm_sy prog_12_method_78_code (sm_Q x zm_sy (sm_Pi zm_sy (xw x))) (r23 v1 v2 v3 v4 S) S 23 [(0, .ref ((xw x).2.2 0)), (1, .int v1), (2, .int v2), (3, .int v3), (4, .int v4)] []) (v1 : Int32) (v2 : Int32) (v3 : Int32) (v4 : Int32) (S : sm_St) : sm_Sm x zm_sy prog_12_method_78_code (sm_Q x zm_sy (sm_Pi zm_sy (xw x))) (pm_colours_b74 N r8 r23 v1 v2 v3 v4 S) S 74 [(0, .ref ((xw x).2.2 0)), (1, .int v1), (2, .int v2), (3, .int v3), (4, .int v4)] [] := by
  unfold pm_colours_b74
  refine sm_iinc (pc := 74) (i := 4) 4 (1 : Int32) ok dm_colours_74 rfl zk_1 (by decide) (fun v => [(4, .int v), (0, .ref ((xw x).2.2 0)), (1, .int v1), (2, .int v2), (3, .int v3)]) (fun _ => rfl) (fun v4_15 => ?_)
  refine sm_goto (pc := 77) 23 ok dm_colours_77 (by decide) ?_
  refine sm_lv [1, 2, 3, 4, 0] rfl ?_
  exact h23 _ _ _ _ _
set_option maxHeartbeats 4000000 in
set_option maxRecDepth 20000 in
theorem tm_colours_b73 {x : sm_Cx} (ok : sm_Ok x zm_sy prog_12_method_78_code "LentShadesModel" 5 3 71) (hr : (xh x).sig.returnType = (some .int)) (N : Nat) {r8 : Int32 → Int32 → sm_St → Option (Int32 × sm_St)} {r23 : Int32 → Int32 → Int32 → Int32 → sm_St → Option (Int32 × sm_St)} (h8 : ∀ (v1 : Int32) (v2 : Int32) (S : sm_St), sm_Sm x zm_sy prog_12_method_78_code (sm_Q x zm_sy (sm_Pi zm_sy (xw x))) (r8 v1 v2 S) S 8 [(0, .ref ((xw x).2.2 0)), (1, .int v1), (2, .int v2)] []) (h23 : ∀ (v1 : Int32) (v2 : Int32) (v3 : Int32) (v4 : Int32) (S : sm_St), sm_Sm x zm_sy prog_12_method_78_code (sm_Q x zm_sy (sm_Pi zm_sy (xw x))) (r23 v1 v2 v3 v4 S) S 23 [(0, .ref ((xw x).2.2 0)), (1, .int v1), (2, .int v2), (3, .int v3), (4, .int v4)] []) (v1 : Int32) (v2 : Int32) (v4 : Int32) (s0 : Int32) (S : sm_St) : sm_Sm x zm_sy prog_12_method_78_code (sm_Q x zm_sy (sm_Pi zm_sy (xw x))) (pm_colours_b73 N r8 r23 v1 v2 v4 s0 S) S 73 [(0, .ref ((xw x).2.2 0)), (1, .int v1), (2, .int v2), (4, .int v4)] [.int s0] := by
  unfold pm_colours_b73
  refine sm_istore_n (pc := 73) (i := 3) ok dm_colours_73 rfl (by decide) (fun v => [(3, .int v), (0, .ref ((xw x).2.2 0)), (1, .int v1), (2, .int v2), (4, .int v4)]) (fun _ => rfl) (fun v3_14 => ?_)
  refine sm_lv [1, 2, 3, 0, 4] rfl ?_
  exact tm_colours_b74 ok hr N h8 h23 _ _ _ _ _
set_option maxHeartbeats 4000000 in
set_option maxRecDepth 20000 in
theorem tm_colours_b23 {x : sm_Cx} (ok : sm_Ok x zm_sy prog_12_method_78_code "LentShadesModel" 5 3 71) (hr : (xh x).sig.returnType = (some .int)) (N : Nat) {r8 : Int32 → Int32 → sm_St → Option (Int32 × sm_St)} (h8 : ∀ (v1 : Int32) (v2 : Int32) (S : sm_St), sm_Sm x zm_sy prog_12_method_78_code (sm_Q x zm_sy (sm_Pi zm_sy (xw x))) (r8 v1 v2 S) S 8 [(0, .ref ((xw x).2.2 0)), (1, .int v1), (2, .int v2)] []) : ∀ (n : Nat) (v1 : Int32) (v2 : Int32) (v3 : Int32) (v4 : Int32) (S : sm_St), sm_Sm x zm_sy prog_12_method_78_code (sm_Q x zm_sy (sm_Pi zm_sy (xw x))) (pm_colours_b23 N r8 n v1 v2 v3 v4 S) S 23 [(0, .ref ((xw x).2.2 0)), (1, .int v1), (2, .int v2), (3, .int v3), (4, .int v4)] [] := by
  intro n
  induction n with
  | zero =>
    intro v1 v2 v3 v4 S
    exact sm_none
  | succ n ih =>
    intro v1 v2 v3 v4 S
    show sm_Sm x zm_sy prog_12_method_78_code (sm_Q x zm_sy (sm_Pi zm_sy (xw x))) (if v2 ≤ v4 then (pm_colours_b80 N r8 v1 v2 v3 S) else (if v3 = 0 then (pm_colours_b80 N r8 v1 v2 v3 S) else (sm_b2 (pm_isNumber N S v4) (fun (r_9 : Int32) (S_8 : sm_St) => if r_9 = 0 then (pm_colours_b74 N r8 (pm_colours_b23 N r8 n) v1 v2 v3 v4 S_8) else (sm_b1 (pm_lay N S_8 (7 : Int32) v2) (fun (S_10 : sm_St) => sm_b1 (pm_lay N S_10 (8 : Int32) v4) (fun (S_11 : sm_St) => sm_b2 (pm_compare N S_11 (7 : Int32) (8 : Int32)) (fun (r_13 : Int32) (S_12 : sm_St) => if r_13 = 0 then (pm_colours_b73 N r8 (pm_colours_b23 N r8 n) v1 v2 v4 (0 : Int32) S_12) else (pm_colours_b73 N r8 (pm_colours_b23 N r8 n) v1 v2 v4 (1 : Int32) S_12))))))))) S 23 [(0, .ref ((xw x).2.2 0)), (1, .int v1), (2, .int v2), (3, .int v3), (4, .int v4)] []
    refine sm_iload (pc := 23) 4 ok dm_colours_23 rfl ?_
    refine sm_iload_n (pc := 25) 2 ok dm_colours_25 rfl ?_
    refine sm_icmp_ge (pc := 26) 80 ok dm_colours_26 (by decide) (fun _ => ?_) (fun _ => ?_)
    · refine sm_lv [0, 1, 2, 3] rfl ?_
      exact tm_colours_b80 ok hr N h8 _ _ _ _
    · refine sm_iload_n (pc := 29) 3 ok dm_colours_29 rfl ?_
      refine sm_if_eq (pc := 30) 80 ok dm_colours_30 (by decide) (fun _ => ?_) (fun _ => ?_)
      · refine sm_lv [0, 1, 2, 3] rfl ?_
        exact tm_colours_b80 ok hr N h8 _ _ _ _
      · refine sm_aload_n (pc := 33) 0 ok dm_colours_33 rfl ?_
        refine sm_iload (pc := 34) 4 ok dm_colours_34 rfl ?_
        refine sm_callV_i (pc := 36) (ci := 10) [.int v4] ok dm_colours_36 wd_1150 mwm_isNumber rfl rfl (Nat.le_of_ble_eq_true rfl) (Nat.le_of_ble_eq_true rfl) rfl rfl (Nat.le_of_ble_eq_true rfl) (cm_isNumber (sm_okj ok) N S v4) (fun r_9 S_8 => ?_)
        refine sm_if_eq (pc := 39) 74 ok dm_colours_39 (by decide) (fun _ => ?_) (fun _ => ?_)
        · exact tm_colours_b74 ok hr N h8 ih _ _ _ _ _
        · refine sm_aload_n (pc := 42) 0 ok dm_colours_42 rfl ?_
          refine sm_bipush (pc := 43) (7 : Int32) ok dm_colours_43 zb_7 ?_
          refine sm_iload_n (pc := 45) 2 ok dm_colours_45 rfl ?_
          refine sm_callV_v (pc := 46) (ci := 10) [.int (7 : Int32), .int v2] ok dm_colours_46 wd_1212 mwm_lay rfl rfl (Nat.le_of_ble_eq_true rfl) (Nat.le_of_ble_eq_true rfl) rfl rfl (Nat.le_of_ble_eq_true rfl) (cm_lay (sm_okj ok) N S_8 (7 : Int32) v2) (fun S_10 => ?_)
          refine sm_aload_n (pc := 49) 0 ok dm_colours_49 rfl ?_
          refine sm_bipush (pc := 50) (8 : Int32) ok dm_colours_50 zb_8 ?_
          refine sm_iload (pc := 52) 4 ok dm_colours_52 rfl ?_
          refine sm_callV_v (pc := 54) (ci := 10) [.int (8 : Int32), .int v4] ok dm_colours_54 wd_1212 mwm_lay rfl rfl (Nat.le_of_ble_eq_true rfl) (Nat.le_of_ble_eq_true rfl) rfl rfl (Nat.le_of_ble_eq_true rfl) (cm_lay (sm_okj ok) N S_10 (8 : Int32) v4) (fun S_11 => ?_)
          refine sm_aload_n (pc := 57) 0 ok dm_colours_57 rfl ?_
          refine sm_bipush (pc := 58) (7 : Int32) ok dm_colours_58 zb_7 ?_
          refine sm_bipush (pc := 60) (8 : Int32) ok dm_colours_60 zb_8 ?_
          refine sm_callV_i (pc := 62) (ci := 10) [.int (7 : Int32), .int (8 : Int32)] ok dm_colours_62 wd_1224 mwm_compare rfl rfl (Nat.le_of_ble_eq_true rfl) (Nat.le_of_ble_eq_true rfl) rfl rfl (Nat.le_of_ble_eq_true rfl) (cm_compare (sm_okj ok) N S_11 (7 : Int32) (8 : Int32)) (fun r_13 S_12 => ?_)
          refine sm_if_eq (pc := 65) 72 ok dm_colours_65 (by decide) (fun _ => ?_) (fun _ => ?_)
          · refine sm_iconst (pc := 72) (0 : Int32) ok dm_colours_72 zk_0 ?_
            refine sm_lv [0, 1, 2, 4] rfl ?_
            exact tm_colours_b73 ok hr N h8 ih _ _ _ _ _
          · refine sm_iconst (pc := 68) (1 : Int32) ok dm_colours_68 zk_1 ?_
            refine sm_goto (pc := 69) 73 ok dm_colours_69 (by decide) ?_
            refine sm_lv [0, 1, 2, 4] rfl ?_
            exact tm_colours_b73 ok hr N h8 ih _ _ _ _ _
set_option maxHeartbeats 4000000 in
set_option maxRecDepth 20000 in
theorem tm_colours_b8 {x : sm_Cx} (ok : sm_Ok x zm_sy prog_12_method_78_code "LentShadesModel" 5 3 71) (hr : (xh x).sig.returnType = (some .int)) (N : Nat) : ∀ (n : Nat) (v1 : Int32) (v2 : Int32) (S : sm_St), sm_Sm x zm_sy prog_12_method_78_code (sm_Q x zm_sy (sm_Pi zm_sy (xw x))) (pm_colours_b8 N n v1 v2 S) S 8 [(0, .ref ((xw x).2.2 0)), (1, .int v1), (2, .int v2)] [] := by
  intro n
  induction n with
  | zero =>
    intro v1 v2 S
    exact sm_none
  | succ n ih =>
    intro v1 v2 S
    show sm_Sm x zm_sy prog_12_method_78_code (sm_Q x zm_sy (sm_Pi zm_sy (xw x))) (if (8 : Int32) ≤ v2 then (some (v1, S)) else (sm_b2 (pm_isNumber N S v2) (fun (r_5 : Int32) (S_4 : sm_St) => sm_lt r_5 (fun (v3_6 : Int32) => sm_lt (0 : Int32) (fun (v4_7 : Int32) => pm_colours_b23 N (pm_colours_b8 N n) N v1 v2 v3_6 v4_7 S_4))))) S 8 [(0, .ref ((xw x).2.2 0)), (1, .int v1), (2, .int v2)] []
    refine sm_iload_n (pc := 8) 2 ok dm_colours_8 rfl ?_
    refine sm_bipush (pc := 9) (8 : Int32) ok dm_colours_9 zb_8 ?_
    refine sm_icmp_ge (pc := 11) 98 ok dm_colours_11 (by decide) (fun _ => ?_) (fun _ => ?_)
    · refine sm_iload_n (pc := 98) 1 ok dm_colours_98 rfl ?_
      exact sm_iret (pc := 99) ok dm_colours_99 hr
    · refine sm_aload_n (pc := 14) 0 ok dm_colours_14 rfl ?_
      refine sm_iload_n (pc := 15) 2 ok dm_colours_15 rfl ?_
      refine sm_callV_i (pc := 16) (ci := 10) [.int v2] ok dm_colours_16 wd_1150 mwm_isNumber rfl rfl (Nat.le_of_ble_eq_true rfl) (Nat.le_of_ble_eq_true rfl) rfl rfl (Nat.le_of_ble_eq_true rfl) (cm_isNumber (sm_okj ok) N S v2) (fun r_5 S_4 => ?_)
      refine sm_istore_n (pc := 19) (i := 3) ok dm_colours_19 rfl (by decide) (fun v => [(3, .int v), (0, .ref ((xw x).2.2 0)), (1, .int v1), (2, .int v2)]) (fun _ => rfl) (fun v3_6 => ?_)
      refine sm_iconst (pc := 20) (0 : Int32) ok dm_colours_20 zk_0 ?_
      refine sm_istore (pc := 21) (i := 4) ok dm_colours_21 (by decide) (fun v => [(4, .int v), (3, .int v3_6), (0, .ref ((xw x).2.2 0)), (1, .int v1), (2, .int v2)]) (fun _ => rfl) (fun v4_7 => ?_)
      refine sm_lv [2, 3, 4, 1, 0] rfl ?_
      exact tm_colours_b23 ok hr N ih N _ _ _ _ _
set_option maxHeartbeats 4000000 in
set_option maxRecDepth 20000 in
theorem tm_colours {x : sm_Cx} (ok : sm_Ok x zm_sy prog_12_method_78_code "LentShadesModel" 5 3 71) (hr : (xh x).sig.returnType = (some .int)) (N : Nat) (S : sm_St) : sm_Sm x zm_sy prog_12_method_78_code (sm_Q x zm_sy (sm_Pi zm_sy (xw x))) (pm_colours N S) S 0 [(0, .ref ((xw x).2.2 0))] [] := by
  unfold pm_colours
  refine sm_aload_n (pc := 0) 0 ok dm_colours_0 rfl ?_
  refine sm_callV_v (pc := 1) (ci := 10) [] ok dm_colours_1 wd_1173 mwm_takeNow rfl rfl (Nat.le_of_ble_eq_true rfl) (Nat.le_of_ble_eq_true rfl) rfl rfl (Nat.le_of_ble_eq_true rfl) (cm_takeNow (sm_okj ok) N S) (fun S_1 => ?_)
  refine sm_iconst (pc := 4) (0 : Int32) ok dm_colours_4 zk_0 ?_
  refine sm_istore_n (pc := 5) (i := 1) ok dm_colours_5 rfl (by decide) (fun v => [(1, .int v), (0, .ref ((xw x).2.2 0))]) (fun _ => rfl) (fun v1_2 => ?_)
  refine sm_iconst (pc := 6) (0 : Int32) ok dm_colours_6 zk_0 ?_
  refine sm_istore_n (pc := 7) (i := 2) ok dm_colours_7 rfl (by decide) (fun v => [(2, .int v), (1, .int v1_2), (0, .ref ((xw x).2.2 0))]) (fun _ => rfl) (fun v2_3 => ?_)
  refine sm_lv [2, 1, 0] rfl ?_
  exact tm_colours_b8 ok hr N N _ _ _
theorem cm_colours {l : Launch} {wc : sm_Wc} (hj : sm_inj zm_sy wc) (N : Nat) (S : sm_St) : sm_Ct l zm_sy wc ym_colours prog_12_method_78_code 5 (some .int) 3 71 [.ref (wc.2.2 0)] S (sm_Pi zm_sy wc) (pm_colours N S) :=
  sm_entry (Pq := fun wc => sm_Pi zm_sy wc) (fun wc => [.ref (wc.2.2 0)]) (lv := fun wc => [(0, .ref (wc.2.2 0))]) (by decide) hj zm_ok zm_stb (fun _ => Nat.le_of_ble_eq_true rfl) (fun _ => rfl) (fun x _ ok hr => tm_colours ok hr N S)
set_option maxHeartbeats 4000000 in
set_option maxRecDepth 20000 in
theorem tm_least_b41 {x : sm_Cx} (ok : sm_Ok x zm_sy prog_12_method_79_code "LentShadesModel" 6 7 161) (hr : (xh x).sig.returnType = (some .int)) (N : Nat) (S : sm_St) : sm_Sm x zm_sy prog_12_method_79_code (sm_Q x zm_sy (sm_Pi zm_sy (xw x))) (pm_least_b41 N S) S 41 [(0, .ref ((xw x).2.2 0))] [] := by
  unfold pm_least_b41
  refine sm_aload_n (pc := 41) 0 ok dm_least_41 rfl ?_
  refine sm_bipush (pc := 42) (-2 : Int32) ok dm_least_42 zb_m2 ?_
  refine sm_callV_i (pc := 44) (ci := 10) [.int (-2 : Int32)] ok dm_least_44 wd_1110 mwm_bad rfl rfl (Nat.le_of_ble_eq_true rfl) (Nat.le_of_ble_eq_true rfl) rfl rfl (Nat.le_of_ble_eq_true rfl) (cm_bad (sm_okj ok) N S (-2 : Int32)) (fun r_17 S_16 => ?_)
  exact sm_iret (pc := 47) ok dm_least_47 hr
set_option maxHeartbeats 4000000 in
set_option maxRecDepth 20000 in
theorem tm_least_b51 {x : sm_Cx} (ok : sm_Ok x zm_sy prog_12_method_79_code "LentShadesModel" 6 7 161) (hr : (xh x).sig.returnType = (some .int)) (N : Nat) : ∀ (n : Nat) (v1 : Int32) (v2 : Int32) (v3 : Int32) (v4 : Int32) (v5 : Int32) (S : sm_St), sm_Sm x zm_sy prog_12_method_79_code (sm_Q x zm_sy (sm_Pi zm_sy (xw x))) (pm_least_b51 N n v1 v2 v3 v4 v5 S) S 51 [(0, .ref ((xw x).2.2 0)), (1, .int v1), (2, .int v2), (3, .int v3), (4, .int v4), (5, .int v5)] [] := by
  intro n
  induction n with
  | zero =>
    intro v1 v2 v3 v4 v5 S
    exact sm_none
  | succ n ih =>
    intro v1 v2 v3 v4 v5 S
    show sm_Sm x zm_sy prog_12_method_79_code (sm_Q x zm_sy (sm_Pi zm_sy (xw x))) (if (12 : Int32) < v5 then (some ((-1 : Int32), S)) else (sm_b1 (pm_takeNow N S) (fun (S_10 : sm_St) => if sm_in v1 4 = true then sm_lt (sm_sI S_10 8 v1.toNatClampNeg v5) (fun (S_11 : sm_St) => sm_b1 (pm_nights N S_11 v3) (fun (S_12 : sm_St) => sm_b2 (pm_hasLeast N S_12 v2 v4) (fun (r_14 : Int32) (S_13 : sm_St) => if r_14 = 0 then (sm_lt (v5 + (1 : Int32)) (fun (v5_15 : Int32) => (pm_least_b51 N n) v1 v2 v3 v4 v5_15 S_13)) else (some (v5, S_13))))) else none))) S 51 [(0, .ref ((xw x).2.2 0)), (1, .int v1), (2, .int v2), (3, .int v3), (4, .int v4), (5, .int v5)] []
    refine sm_iload (pc := 51) 5 ok dm_least_51 rfl ?_
    refine sm_bipush (pc := 53) (12 : Int32) ok dm_least_53 zb_12 ?_
    refine sm_icmp_gt (pc := 55) 94 ok dm_least_55 (by decide) (fun _ => ?_) (fun _ => ?_)
    · refine sm_iconst (pc := 94) (-1 : Int32) ok dm_least_94 zk_m1 ?_
      exact sm_iret (pc := 95) ok dm_least_95 hr
    · refine sm_aload_n (pc := 58) 0 ok dm_least_58 rfl ?_
      refine sm_callV_v (pc := 59) (ci := 10) [] ok dm_least_59 wd_1173 mwm_takeNow rfl rfl (Nat.le_of_ble_eq_true rfl) (Nat.le_of_ble_eq_true rfl) rfl rfl (Nat.le_of_ble_eq_true rfl) (cm_takeNow (sm_okj ok) N S) (fun S_10 => ?_)
      refine sm_aload_n (pc := 62) 0 ok dm_least_62 rfl ?_
      refine sm_getR (pc := 63) (ci := 10) (k := 8) ok dm_least_63 rfl rfl zc_i10 (by decide) rfl wd_1011 ?_
      refine sm_iload_n (pc := 66) 1 ok dm_least_66 rfl ?_
      refine sm_iload (pc := 67) 5 ok dm_least_67 rfl ?_
      refine sm_iast (pc := 69) ok dm_least_69 rfl (fun S_11 => ?_)
      refine sm_aload_n (pc := 70) 0 ok dm_least_70 rfl ?_
      refine sm_iload_n (pc := 71) 3 ok dm_least_71 rfl ?_
      refine sm_callV_v (pc := 72) (ci := 10) [.int v3] ok dm_least_72 wd_1177 mwm_nights rfl rfl (Nat.le_of_ble_eq_true rfl) (Nat.le_of_ble_eq_true rfl) rfl rfl (Nat.le_of_ble_eq_true rfl) (cm_nights (sm_okj ok) N S_11 v3) (fun S_12 => ?_)
      refine sm_aload_n (pc := 75) 0 ok dm_least_75 rfl ?_
      refine sm_iload_n (pc := 76) 2 ok dm_least_76 rfl ?_
      refine sm_iload (pc := 77) 4 ok dm_least_77 rfl ?_
      refine sm_callV_i (pc := 79) (ci := 10) [.int v2, .int v4] ok dm_least_79 wd_1281 mwm_hasLeast rfl rfl (Nat.le_of_ble_eq_true rfl) (Nat.le_of_ble_eq_true rfl) rfl rfl (Nat.le_of_ble_eq_true rfl) (cm_hasLeast (sm_okj ok) N S_12 v2 v4) (fun r_14 S_13 => ?_)
      refine sm_if_eq (pc := 82) 88 ok dm_least_82 (by decide) (fun _ => ?_) (fun _ => ?_)
      · refine sm_iinc (pc := 88) (i := 5) 5 (1 : Int32) ok dm_least_88 rfl zk_1 (by decide) (fun v => [(5, .int v), (0, .ref ((xw x).2.2 0)), (1, .int v1), (2, .int v2), (3, .int v3), (4, .int v4)]) (fun _ => rfl) (fun v5_15 => ?_)
        refine sm_goto (pc := 91) 51 ok dm_least_91 (by decide) ?_
        refine sm_lv [1, 2, 3, 4, 5, 0] rfl ?_
        exact ih _ _ _ _ _ _
      · refine sm_iload (pc := 85) 5 ok dm_least_85 rfl ?_
        exact sm_iret (pc := 87) ok dm_least_87 hr
set_option maxHeartbeats 4000000 in
set_option maxRecDepth 20000 in
theorem tm_least {x : sm_Cx} (ok : sm_Ok x zm_sy prog_12_method_79_code "LentShadesModel" 6 7 161) (hr : (xh x).sig.returnType = (some .int)) (N : Nat) (S : sm_St) (v1 : Int32) (v2 : Int32) (v3 : Int32) (v4 : Int32) : sm_Sm x zm_sy prog_12_method_79_code (sm_Q x zm_sy (sm_Pi zm_sy (xw x))) (pm_least N S v1 v2 v3 v4) S 0 [(0, .ref ((xw x).2.2 0)), (1, .int v1), (2, .int v2), (3, .int v3), (4, .int v4)] [] := by
  unfold pm_least
  refine sm_aload_n (pc := 0) 0 ok dm_least_0 rfl ?_
  refine sm_iload_n (pc := 1) 1 ok dm_least_1 rfl ?_
  refine sm_callV_i (pc := 2) (ci := 10) [.int v1] ok dm_least_2 wd_1165 mwm_isThing rfl rfl (Nat.le_of_ble_eq_true rfl) (Nat.le_of_ble_eq_true rfl) rfl rfl (Nat.le_of_ble_eq_true rfl) (cm_isThing (sm_okj ok) N S v1) (fun r_2 S_1 => ?_)
  refine sm_if_eq (pc := 5) 41 ok dm_least_5 (by decide) (fun _ => ?_) (fun _ => ?_)
  · refine sm_lv [0] rfl ?_
    exact tm_least_b41 ok hr N _
  · refine sm_aload_n (pc := 8) 0 ok dm_least_8 rfl ?_
    refine sm_iload_n (pc := 9) 2 ok dm_least_9 rfl ?_
    refine sm_callV_i (pc := 10) (ci := 10) [.int v2] ok dm_least_10 wd_1154 mwm_isCloth rfl rfl (Nat.le_of_ble_eq_true rfl) (Nat.le_of_ble_eq_true rfl) rfl rfl (Nat.le_of_ble_eq_true rfl) (cm_isCloth (sm_okj ok) N S_1 v2) (fun r_4 S_3 => ?_)
    refine sm_if_eq (pc := 13) 41 ok dm_least_13 (by decide) (fun _ => ?_) (fun _ => ?_)
    · refine sm_lv [0] rfl ?_
      exact tm_least_b41 ok hr N _
    · refine sm_iload_n (pc := 16) 3 ok dm_least_16 rfl ?_
      refine sm_i2l (pc := 17) ok dm_least_17 ?_
      refine sm_lconst (pc := 18) (0 : Int64) ok dm_least_18 zl_0 ?_
      refine sm_ldc2 (pc := 19) ok dm_least_19 wd_1109 ?_
      refine sm_callS_i (pc := 22) [.long (v3.toInt64), .long (0 : Int64), .long (12 : Int64)] ok dm_least_22 wd_1105 mwm_in (Nat.le_of_ble_eq_true rfl) (Nat.le_of_ble_eq_true rfl) rfl rfl (Nat.le_of_ble_eq_true rfl) (cm_in (sm_okj ok) N S_3 (v3.toInt64) (0 : Int64) (12 : Int64)) (fun r_6 S_5 => ?_)
      refine sm_if_eq (pc := 25) 41 ok dm_least_25 (by decide) (fun _ => ?_) (fun _ => ?_)
      · refine sm_lv [0] rfl ?_
        exact tm_least_b41 ok hr N _
      · refine sm_iload (pc := 28) 4 ok dm_least_28 rfl ?_
        refine sm_i2l (pc := 30) ok dm_least_30 ?_
        refine sm_lconst (pc := 31) (0 : Int64) ok dm_least_31 zl_0 ?_
        refine sm_ldc2 (pc := 32) ok dm_least_32 wd_1109 ?_
        refine sm_callS_i (pc := 35) [.long (v4.toInt64), .long (0 : Int64), .long (12 : Int64)] ok dm_least_35 wd_1105 mwm_in (Nat.le_of_ble_eq_true rfl) (Nat.le_of_ble_eq_true rfl) rfl rfl (Nat.le_of_ble_eq_true rfl) (cm_in (sm_okj ok) N S_5 (v4.toInt64) (0 : Int64) (12 : Int64)) (fun r_8 S_7 => ?_)
        refine sm_if_ne (pc := 38) 48 ok dm_least_38 (by decide) (fun _ => ?_) (fun _ => ?_)
        · refine sm_iconst (pc := 48) (0 : Int32) ok dm_least_48 zk_0 ?_
          refine sm_istore (pc := 49) (i := 5) ok dm_least_49 (by decide) (fun v => [(5, .int v), (0, .ref ((xw x).2.2 0)), (1, .int v1), (2, .int v2), (3, .int v3), (4, .int v4)]) (fun _ => rfl) (fun v5_9 => ?_)
          refine sm_lv [1, 2, 3, 4, 5, 0] rfl ?_
          exact tm_least_b51 ok hr N N _ _ _ _ _ _
        · refine sm_lv [0] rfl ?_
          exact tm_least_b41 ok hr N _
theorem cm_least {l : Launch} {wc : sm_Wc} (hj : sm_inj zm_sy wc) (N : Nat) (S : sm_St) (v1 : Int32) (v2 : Int32) (v3 : Int32) (v4 : Int32) : sm_Ct l zm_sy wc ym_least prog_12_method_79_code 6 (some .int) 7 161 [.ref (wc.2.2 0), .int v1, .int v2, .int v3, .int v4] S (sm_Pi zm_sy wc) (pm_least N S v1 v2 v3 v4) :=
  sm_entry (Pq := fun wc => sm_Pi zm_sy wc) (fun wc => [.ref (wc.2.2 0), .int v1, .int v2, .int v3, .int v4]) (lv := fun wc => [(0, .ref (wc.2.2 0)), (1, .int v1), (2, .int v2), (3, .int v3), (4, .int v4)]) (by decide) hj zm_ok zm_stb (fun _ => Nat.le_of_ble_eq_true rfl) (fun _ => rfl) (fun x _ ok hr => tm_least ok hr N S v1 v2 v3 v4)
set_option maxHeartbeats 4000000 in
set_option maxRecDepth 20000 in
theorem tm_type_b41 {x : sm_Cx} (ok : sm_Ok x zm_sy prog_12_method_80_code "LentShadesModel" 5 1 25) (hr : (xh x).sig.returnType = (some .int)) (N : Nat) : ∀ (n : Nat) (v1 : Int64) (v4 : Int32) (S : sm_St), sm_Sm x zm_sy prog_12_method_80_code (sm_Q x zm_sy (sm_Pi zm_sy (xw x))) (pm_type_b41 N n v1 v4 S) S 41 [(0, .ref ((xw x).2.2 0)), (1, .long v1), (4, .int v4)] [] := by
  intro n
  induction n with
  | zero =>
    intro v1 v4 S
    exact sm_none
  | succ n ih =>
    intro v1 v4 S
    show sm_Sm x zm_sy prog_12_method_80_code (sm_Q x zm_sy (sm_Pi zm_sy (xw x))) (if v4 < 0 then (some ((S.1 0 21), S)) else (if sm_in (S.1 0 21) 200 = true then sm_lt (sm_sI S 17 (S.1 0 21).toNatClampNeg (((v1.toUInt64 >>> (((8 : Int32) * v4).toInt64.toUInt64 &&& Int64.toUInt64 63)).toInt64 &&& (255 : Int64)).toInt32)) (fun (S_8 : sm_St) => sm_lt (sm_sI S_8 0 21 ((S_8.1 0 21) + (1 : Int32))) (fun (S_9 : sm_St) => sm_lt (v4 + (-1 : Int32)) (fun (v4_10 : Int32) => (pm_type_b41 N n) v1 v4_10 S_9))) else none)) S 41 [(0, .ref ((xw x).2.2 0)), (1, .long v1), (4, .int v4)] []
    refine sm_iload (pc := 41) 2 ok dm_type_41 rfl ?_
    refine sm_if_lt (pc := 43) 83 ok dm_type_43 (by decide) (fun _ => ?_) (fun _ => ?_)
    · refine sm_aload_n (pc := 83) 0 ok dm_type_83 rfl ?_
      refine sm_getI (pc := 84) (ci := 10) (k := 21) ok dm_type_84 rfl rfl zc_i10 (by decide) rfl wd_1024 ?_
      exact sm_iret (pc := 87) ok dm_type_87 hr
    · refine sm_aload_n (pc := 46) 0 ok dm_type_46 rfl ?_
      refine sm_getR (pc := 47) (ci := 10) (k := 20) ok dm_type_47 rfl rfl zc_i10 (by decide) rfl wd_1023 ?_
      refine sm_aload_n (pc := 50) 0 ok dm_type_50 rfl ?_
      refine sm_getI (pc := 51) (ci := 10) (k := 21) ok dm_type_51 rfl rfl zc_i10 (by decide) rfl wd_1024 ?_
      refine sm_lload_n (pc := 54) 1 ok dm_type_54 rfl ?_
      refine sm_bipush (pc := 55) (8 : Int32) ok dm_type_55 zb_8 ?_
      refine sm_iload (pc := 57) 2 ok dm_type_57 rfl ?_
      refine sm_imul (pc := 59) ok dm_type_59 ?_
      refine sm_lushr (pc := 60) ok dm_type_60 ?_
      refine sm_ldc2 (pc := 61) ok dm_type_61 wd_1406 ?_
      refine sm_land (pc := 64) ok dm_type_64 ?_
      refine sm_l2i (pc := 65) ok dm_type_65 ?_
      refine sm_iast (pc := 66) ok dm_type_66 rfl (fun S_8 => ?_)
      refine sm_aload_n (pc := 67) 0 ok dm_type_67 rfl ?_
      refine sm_dup (pc := 68) ok dm_type_68 rfl ?_
      refine sm_getI (pc := 69) (ci := 10) (k := 21) ok dm_type_69 rfl rfl zc_i10 (by decide) rfl wd_1024 ?_
      refine sm_iconst (pc := 72) (1 : Int32) ok dm_type_72 zk_1 ?_
      refine sm_iadd (pc := 73) ok dm_type_73 ?_
      refine sm_putI (pc := 74) (ci := 10) (k := 21) ok dm_type_74 rfl rfl zc_i10 zc_y10 zc_t10 zc_n10 (by decide) rfl rfl rfl wd_1024 (fun S_9 => ?_)
      refine sm_iinc (pc := 77) (i := 4) 2 (-1 : Int32) ok dm_type_77 rfl zk_m1 (by decide) (fun v => [(4, .int v), (0, .ref ((xw x).2.2 0)), (1, .long v1)]) (fun _ => rfl) (fun v4_10 => ?_)
      refine sm_goto (pc := 80) 41 ok dm_type_80 (by decide) ?_
      refine sm_lv [1, 2, 0] rfl ?_
      exact ih _ _ _
set_option maxHeartbeats 4000000 in
set_option maxRecDepth 20000 in
theorem tm_type {x : sm_Cx} (ok : sm_Ok x zm_sy prog_12_method_80_code "LentShadesModel" 5 1 25) (hr : (xh x).sig.returnType = (some .int)) (N : Nat) (S : sm_St) (v1 : Int64) (v3 : Int32) : sm_Sm x zm_sy prog_12_method_80_code (sm_Q x zm_sy (sm_Pi zm_sy (xw x))) (pm_type N S v1 v3) S 0 [(0, .ref ((xw x).2.2 0)), (1, .long v1), (3, .int v3)] [] := by
  unfold pm_type
  refine sm_iload_n (pc := 0) 2 ok dm_type_0 rfl ?_
  refine sm_i2l (pc := 1) ok dm_type_1 ?_
  refine sm_lconst (pc := 2) (1 : Int64) ok dm_type_2 zl_1 ?_
  refine sm_ldc2 (pc := 3) ok dm_type_3 wd_1405 ?_
  refine sm_callS_i (pc := 6) [.long (v3.toInt64), .long (1 : Int64), .long (8 : Int64)] ok dm_type_6 wd_1105 mwm_in (Nat.le_of_ble_eq_true rfl) (Nat.le_of_ble_eq_true rfl) rfl rfl (Nat.le_of_ble_eq_true rfl) (cm_in (sm_okj ok) N S (v3.toInt64) (1 : Int64) (8 : Int64)) (fun r_2 S_1 => ?_)
  refine sm_if_ne (pc := 9) 19 ok dm_type_9 (by decide) (fun _ => ?_) (fun _ => ?_)
  · refine sm_aload_n (pc := 19) 0 ok dm_type_19 rfl ?_
    refine sm_getI (pc := 20) (ci := 10) (k := 21) ok dm_type_20 rfl rfl zc_i10 (by decide) rfl wd_1024 ?_
    refine sm_iload_n (pc := 23) 2 ok dm_type_23 rfl ?_
    refine sm_iadd (pc := 24) ok dm_type_24 ?_
    refine sm_sipush (pc := 25) (200 : Int32) ok dm_type_25 zs_200 ?_
    refine sm_icmp_le (pc := 28) 36 ok dm_type_28 (by decide) (fun _ => ?_) (fun _ => ?_)
    · refine sm_iload_n (pc := 36) 2 ok dm_type_36 rfl ?_
      refine sm_iconst (pc := 37) (1 : Int32) ok dm_type_37 zk_1 ?_
      refine sm_isub (pc := 38) ok dm_type_38 ?_
      refine sm_istore (pc := 39) (i := 4) ok dm_type_39 (by decide) (fun v => [(4, .int v), (0, .ref ((xw x).2.2 0)), (1, .long v1), (3, .int v3)]) (fun _ => rfl) (fun v4_3 => ?_)
      refine sm_lv [1, 2, 0] rfl ?_
      exact tm_type_b41 ok hr N N _ _ _
    · refine sm_aload_n (pc := 31) 0 ok dm_type_31 rfl ?_
      refine sm_callV_i (pc := 32) (ci := 10) [] ok dm_type_32 wd_1118 mwm_full rfl rfl (Nat.le_of_ble_eq_true rfl) (Nat.le_of_ble_eq_true rfl) rfl rfl (Nat.le_of_ble_eq_true rfl) (cm_full (sm_okj ok) N S_1) (fun r_5 S_4 => ?_)
      exact sm_iret (pc := 35) ok dm_type_35 hr
  · refine sm_aload_n (pc := 12) 0 ok dm_type_12 rfl ?_
    refine sm_bipush (pc := 13) (-2 : Int32) ok dm_type_13 zb_m2 ?_
    refine sm_callV_i (pc := 15) (ci := 10) [.int (-2 : Int32)] ok dm_type_15 wd_1110 mwm_bad rfl rfl (Nat.le_of_ble_eq_true rfl) (Nat.le_of_ble_eq_true rfl) rfl rfl (Nat.le_of_ble_eq_true rfl) (cm_bad (sm_okj ok) N S_1 (-2 : Int32)) (fun r_7 S_6 => ?_)
    exact sm_iret (pc := 18) ok dm_type_18 hr
theorem cm_type {l : Launch} {wc : sm_Wc} (hj : sm_inj zm_sy wc) (N : Nat) (S : sm_St) (v1 : Int64) (v3 : Int32) : sm_Ct l zm_sy wc ym_type prog_12_method_80_code 5 (some .int) 1 25 [.ref (wc.2.2 0), .long v1, .int v3] S (sm_Pi zm_sy wc) (pm_type N S v1 v3) :=
  sm_entry (Pq := fun wc => sm_Pi zm_sy wc) (fun wc => [.ref (wc.2.2 0), .long v1, .int v3]) (lv := fun wc => [(0, .ref (wc.2.2 0)), (1, .long v1), (3, .int v3)]) (by decide) hj zm_ok zm_stb (fun _ => Nat.le_of_ble_eq_true rfl) (fun _ => rfl) (fun x _ ok hr => tm_type ok hr N S v1 v3)
set_option maxHeartbeats 4000000 in
set_option maxRecDepth 20000 in
theorem tm_clear {x : sm_Cx} (ok : sm_Ok x zm_sy prog_12_method_81_code "LentShadesModel" 2 0 0) (hr : (xh x).sig.returnType = (some .int)) (N : Nat) (S : sm_St) : sm_Sm x zm_sy prog_12_method_81_code (sm_Q x zm_sy (sm_Pi zm_sy (xw x))) (pm_clear N S) S 0 [(0, .ref ((xw x).2.2 0))] [] := by
  unfold pm_clear
  refine sm_aload_n (pc := 0) 0 ok dm_clear_0 rfl ?_
  refine sm_getI (pc := 1) (ci := 10) (k := 21) ok dm_clear_1 rfl rfl zc_i10 (by decide) rfl wd_1024 ?_
  refine sm_istore_n (pc := 4) (i := 1) ok dm_clear_4 rfl (by decide) (fun v => [(1, .int v), (0, .ref ((xw x).2.2 0))]) (fun _ => rfl) (fun v1_1 => ?_)
  refine sm_aload_n (pc := 5) 1 ok dm_clear_5 rfl ?_
  refine sm_iconst (pc := 6) (0 : Int32) ok dm_clear_6 zk_0 ?_
  refine sm_putI (pc := 7) (ci := 10) (k := 21) ok dm_clear_7 rfl rfl zc_i10 zc_y10 zc_t10 zc_n10 (by decide) rfl rfl rfl wd_1024 (fun S_2 => ?_)
  refine sm_iload_n (pc := 10) 0 ok dm_clear_10 rfl ?_
  exact sm_iret (pc := 11) ok dm_clear_11 hr
theorem cm_clear {l : Launch} {wc : sm_Wc} (hj : sm_inj zm_sy wc) (N : Nat) (S : sm_St) : sm_Ct l zm_sy wc ym_clear prog_12_method_81_code 2 (some .int) 0 0 [.ref (wc.2.2 0)] S (sm_Pi zm_sy wc) (pm_clear N S) :=
  sm_entry (Pq := fun wc => sm_Pi zm_sy wc) (fun wc => [.ref (wc.2.2 0)]) (lv := fun wc => [(0, .ref (wc.2.2 0))]) (by decide) hj zm_ok zm_stb (fun _ => Nat.le_of_ble_eq_true rfl) (fun _ => rfl) (fun x _ ok hr => tm_clear ok hr N S)
set_option maxHeartbeats 4000000 in
set_option maxRecDepth 20000 in
theorem tm_isSmall {x : sm_Cx} (ok : sm_Ok x zm_sy prog_12_method_82_code "LentShadesModel" 1 1 25) (hr : (xh x).sig.returnType = (some .boolean)) (N : Nat) (S : sm_St) (v0 : Int32) : sm_Sm x zm_sy prog_12_method_82_code (sm_Q x zm_sy (sm_Pi zm_sy (xw x))) (pm_isSmall N S v0) S 0 [(0, .int v0)] [] := by
  unfold pm_isSmall
  refine sm_iload_n (pc := 0) 0 ok dm_isSmall_0 rfl ?_
  refine sm_i2l (pc := 1) ok dm_isSmall_1 ?_
  refine sm_ldc2 (pc := 2) ok dm_isSmall_2 wd_1422 ?_
  refine sm_ldc2 (pc := 5) ok dm_isSmall_5 wd_1423 ?_
  refine sm_callS_i (pc := 8) [.long (v0.toInt64), .long (97 : Int64), .long (122 : Int64)] ok dm_isSmall_8 wd_1105 mwm_in (Nat.le_of_ble_eq_true rfl) (Nat.le_of_ble_eq_true rfl) rfl rfl (Nat.le_of_ble_eq_true rfl) (cm_in (sm_okj ok) N S (v0.toInt64) (97 : Int64) (122 : Int64)) (fun r_2 S_1 => ?_)
  exact sm_zretc (pc := 11) ok dm_isSmall_11 hr
theorem cm_isSmall {l : Launch} {wc : sm_Wc} (hj : sm_inj zm_sy wc) (N : Nat) (S : sm_St) (v0 : Int32) : sm_Ct l zm_sy wc ym_isSmall prog_12_method_82_code 1 (some .boolean) 1 25 [.int v0] S (sm_Pi zm_sy wc) (pm_isSmall N S v0) :=
  sm_entry (Pq := fun wc => sm_Pi zm_sy wc) (fun wc => [.int v0]) (lv := fun wc => [(0, .int v0)]) (by decide) hj zm_ok zm_stb (fun _ => Nat.le_of_ble_eq_true rfl) (fun _ => rfl) (fun x _ ok hr => tm_isSmall ok hr N S v0)
set_option maxHeartbeats 4000000 in
set_option maxRecDepth 20000 in
theorem tm_isFigure {x : sm_Cx} (ok : sm_Ok x zm_sy prog_12_method_83_code "LentShadesModel" 1 1 25) (hr : (xh x).sig.returnType = (some .boolean)) (N : Nat) (S : sm_St) (v0 : Int32) : sm_Sm x zm_sy prog_12_method_83_code (sm_Q x zm_sy (sm_Pi zm_sy (xw x))) (pm_isFigure N S v0) S 0 [(0, .int v0)] [] := by
  unfold pm_isFigure
  refine sm_iload_n (pc := 0) 0 ok dm_isFigure_0 rfl ?_
  refine sm_i2l (pc := 1) ok dm_isFigure_1 ?_
  refine sm_ldc2 (pc := 2) ok dm_isFigure_2 wd_1427 ?_
  refine sm_ldc2 (pc := 5) ok dm_isFigure_5 wd_1428 ?_
  refine sm_callS_i (pc := 8) [.long (v0.toInt64), .long (48 : Int64), .long (57 : Int64)] ok dm_isFigure_8 wd_1105 mwm_in (Nat.le_of_ble_eq_true rfl) (Nat.le_of_ble_eq_true rfl) rfl rfl (Nat.le_of_ble_eq_true rfl) (cm_in (sm_okj ok) N S (v0.toInt64) (48 : Int64) (57 : Int64)) (fun r_2 S_1 => ?_)
  exact sm_zretc (pc := 11) ok dm_isFigure_11 hr
theorem cm_isFigure {l : Launch} {wc : sm_Wc} (hj : sm_inj zm_sy wc) (N : Nat) (S : sm_St) (v0 : Int32) : sm_Ct l zm_sy wc ym_isFigure prog_12_method_83_code 1 (some .boolean) 1 25 [.int v0] S (sm_Pi zm_sy wc) (pm_isFigure N S v0) :=
  sm_entry (Pq := fun wc => sm_Pi zm_sy wc) (fun wc => [.int v0]) (lv := fun wc => [(0, .int v0)]) (by decide) hj zm_ok zm_stb (fun _ => Nat.le_of_ble_eq_true rfl) (fun _ => rfl) (fun x _ ok hr => tm_isFigure ok hr N S v0)
set_option maxHeartbeats 4000000 in
set_option maxRecDepth 20000 in
theorem tm_look_b299 {x : sm_Cx} (ok : sm_Ok x zm_sy prog_12_method_84_code "LentShadesModel" 5 2 45) (hr : (xh x).sig.returnType = none) (N : Nat) (s1 : Int32) (S : sm_St) : sm_Sm x zm_sy prog_12_method_84_code (sm_Q x zm_sy (sm_Pv zm_sy (xw x))) (pm_look_b299 N s1 S) S 299 [] [.int s1, .ref ((xw x).2.2 0)] := by
  unfold pm_look_b299
  refine sm_putI (pc := 299) (ci := 10) (k := 24) ok dm_look_299 rfl rfl zc_i10 zc_y10 zc_t10 zc_n10 (by decide) rfl rfl rfl wd_1027 (fun S_24 => ?_)
  exact sm_vret (pc := 302) ok dm_look_302 hr
set_option maxHeartbeats 4000000 in
set_option maxRecDepth 20000 in
theorem tm_look_b295 {x : sm_Cx} (ok : sm_Ok x zm_sy prog_12_method_84_code "LentShadesModel" 5 2 45) (hr : (xh x).sig.returnType = none) (N : Nat) (S : sm_St) : sm_Sm x zm_sy prog_12_method_84_code (sm_Q x zm_sy (sm_Pv zm_sy (xw x))) (pm_look_b295 N S) S 295 [(0, .ref ((xw x).2.2 0))] [.ref ((xw x).2.2 0)] := by
  unfold pm_look_b295
  refine sm_aload_n (pc := 295) 0 ok dm_look_295 rfl ?_
  refine sm_getI (pc := 296) (ci := 10) (k := 24) ok dm_look_296 rfl rfl zc_i10 (by decide) rfl wd_1027 ?_
  refine sm_lv [] rfl ?_
  exact tm_look_b299 ok hr N _ _
set_option maxHeartbeats 4000000 in
set_option maxRecDepth 20000 in
theorem tm_look_b274 {x : sm_Cx} (ok : sm_Ok x zm_sy prog_12_method_84_code "LentShadesModel" 5 2 45) (hr : (xh x).sig.returnType = none) (N : Nat) (S : sm_St) : sm_Sm x zm_sy prog_12_method_84_code (sm_Q x zm_sy (sm_Pv zm_sy (xw x))) (pm_look_b274 N S) S 274 [(0, .ref ((xw x).2.2 0))] [] := by
  unfold pm_look_b274
  refine sm_aload_n (pc := 274) 0 ok dm_look_274 rfl ?_
  refine sm_aload_n (pc := 275) 0 ok dm_look_275 rfl ?_
  refine sm_getI (pc := 276) (ci := 10) (k := 24) ok dm_look_276 rfl rfl zc_i10 (by decide) rfl wd_1027 ?_
  refine sm_iconst (pc := 279) (2 : Int32) ok dm_look_279 zk_2 ?_
  refine sm_icmp_ne (pc := 280) 295 ok dm_look_280 (by decide) (fun _ => ?_) (fun _ => ?_)
  · exact tm_look_b295 ok hr N _
  · refine sm_aload_n (pc := 283) 0 ok dm_look_283 rfl ?_
    refine sm_getI (pc := 284) (ci := 10) (k := 23) ok dm_look_284 rfl rfl zc_i10 (by decide) rfl wd_1026 ?_
    refine sm_iconst (pc := 287) (2 : Int32) ok dm_look_287 zk_2 ?_
    refine sm_icmp_le (pc := 288) 295 ok dm_look_288 (by decide) (fun _ => ?_) (fun _ => ?_)
    · exact tm_look_b295 ok hr N _
    · refine sm_iconst (pc := 291) (4 : Int32) ok dm_look_291 zk_4 ?_
      refine sm_goto (pc := 292) 299 ok dm_look_292 (by decide) ?_
      refine sm_lv [] rfl ?_
      exact tm_look_b299 ok hr N _ _
set_option maxHeartbeats 4000000 in
set_option maxRecDepth 20000 in
theorem tm_look_b218 {x : sm_Cx} (ok : sm_Ok x zm_sy prog_12_method_84_code "LentShadesModel" 5 2 45) (hr : (xh x).sig.returnType = none) (N : Nat) : ∀ (n : Nat) (v4 : Int32) (S : sm_St), sm_Sm x zm_sy prog_12_method_84_code (sm_Q x zm_sy (sm_Pv zm_sy (xw x))) (pm_look_b218 N n v4 S) S 218 [(0, .ref ((xw x).2.2 0)), (4, .int v4)] [] := by
  intro n
  induction n with
  | zero =>
    intro v4 S
    exact sm_none
  | succ n ih =>
    intro v4 S
    show sm_Sm x zm_sy prog_12_method_84_code (sm_Q x zm_sy (sm_Pv zm_sy (xw x))) (if (S.1 0 23) ≤ v4 then (pm_look_b274 N S) else (if (2 : Int32) ≤ v4 then (pm_look_b274 N S) else (if (S.1 0 24) = (2 : Int32) then (if sm_in ((S.1 0 22) + v4) 200 = true then (sm_lt (sm_sI S 0 25 ((((10 : Int32) * (S.1 0 25)) + (S.1 17 ((S.1 0 22) + v4).toNatClampNeg)) - (48 : Int32))) (fun (S_22 : sm_St) => sm_lt (v4 + (1 : Int32)) (fun (v4_23 : Int32) => (pm_look_b218 N n) v4_23 S_22))) else none) else (pm_look_b274 N S)))) S 218 [(0, .ref ((xw x).2.2 0)), (4, .int v4)] []
    refine sm_iload (pc := 218) 1 ok dm_look_218 rfl ?_
    refine sm_aload_n (pc := 220) 0 ok dm_look_220 rfl ?_
    refine sm_getI (pc := 221) (ci := 10) (k := 23) ok dm_look_221 rfl rfl zc_i10 (by decide) rfl wd_1026 ?_
    refine sm_icmp_ge (pc := 224) 274 ok dm_look_224 (by decide) (fun _ => ?_) (fun _ => ?_)
    · refine sm_lv [0] rfl ?_
      exact tm_look_b274 ok hr N _
    · refine sm_iload (pc := 227) 1 ok dm_look_227 rfl ?_
      refine sm_iconst (pc := 229) (2 : Int32) ok dm_look_229 zk_2 ?_
      refine sm_icmp_ge (pc := 230) 274 ok dm_look_230 (by decide) (fun _ => ?_) (fun _ => ?_)
      · refine sm_lv [0] rfl ?_
        exact tm_look_b274 ok hr N _
      · refine sm_aload_n (pc := 233) 0 ok dm_look_233 rfl ?_
        refine sm_getI (pc := 234) (ci := 10) (k := 24) ok dm_look_234 rfl rfl zc_i10 (by decide) rfl wd_1027 ?_
        refine sm_iconst (pc := 237) (2 : Int32) ok dm_look_237 zk_2 ?_
        refine sm_icmp_ne (pc := 238) 274 ok dm_look_238 (by decide) (fun _ => ?_) (fun _ => ?_)
        · refine sm_lv [0] rfl ?_
          exact tm_look_b274 ok hr N _
        · refine sm_aload_n (pc := 241) 0 ok dm_look_241 rfl ?_
          refine sm_bipush (pc := 242) (10 : Int32) ok dm_look_242 zb_10 ?_
          refine sm_aload_n (pc := 244) 0 ok dm_look_244 rfl ?_
          refine sm_getI (pc := 245) (ci := 10) (k := 25) ok dm_look_245 rfl rfl zc_i10 (by decide) rfl wd_1028 ?_
          refine sm_imul (pc := 248) ok dm_look_248 ?_
          refine sm_aload_n (pc := 249) 0 ok dm_look_249 rfl ?_
          refine sm_getR (pc := 250) (ci := 10) (k := 20) ok dm_look_250 rfl rfl zc_i10 (by decide) rfl wd_1023 ?_
          refine sm_aload_n (pc := 253) 0 ok dm_look_253 rfl ?_
          refine sm_getI (pc := 254) (ci := 10) (k := 22) ok dm_look_254 rfl rfl zc_i10 (by decide) rfl wd_1025 ?_
          refine sm_iload (pc := 257) 1 ok dm_look_257 rfl ?_
          refine sm_iadd (pc := 259) ok dm_look_259 ?_
          refine sm_iald (pc := 260) ok dm_look_260 rfl ?_
          refine sm_iadd (pc := 261) ok dm_look_261 ?_
          refine sm_bipush (pc := 262) (48 : Int32) ok dm_look_262 zb_48 ?_
          refine sm_isub (pc := 264) ok dm_look_264 ?_
          refine sm_putI (pc := 265) (ci := 10) (k := 25) ok dm_look_265 rfl rfl zc_i10 zc_y10 zc_t10 zc_n10 (by decide) rfl rfl rfl wd_1028 (fun S_22 => ?_)
          refine sm_iinc (pc := 268) (i := 4) 1 (1 : Int32) ok dm_look_268 rfl zk_1 (by decide) (fun v => [(4, .int v), (0, .ref ((xw x).2.2 0))]) (fun _ => rfl) (fun v4_23 => ?_)
          refine sm_goto (pc := 271) 218 ok dm_look_271 (by decide) ?_
          refine sm_lv [1, 0] rfl ?_
          exact ih _ _
set_option maxHeartbeats 4000000 in
set_option maxRecDepth 20000 in
theorem tm_look_b215 {x : sm_Cx} (ok : sm_Ok x zm_sy prog_12_method_84_code "LentShadesModel" 5 2 45) (hr : (xh x).sig.returnType = none) (N : Nat) (S : sm_St) : sm_Sm x zm_sy prog_12_method_84_code (sm_Q x zm_sy (sm_Pv zm_sy (xw x))) (pm_look_b215 N S) S 215 [(0, .ref ((xw x).2.2 0))] [] := by
  unfold pm_look_b215
  refine sm_iconst (pc := 215) (0 : Int32) ok dm_look_215 zk_0 ?_
  refine sm_istore (pc := 216) (i := 4) ok dm_look_216 (by decide) (fun v => [(4, .int v), (0, .ref ((xw x).2.2 0))]) (fun _ => rfl) (fun v4_21 => ?_)
  refine sm_lv [1, 0] rfl ?_
  exact tm_look_b218 ok hr N N _ _
set_option maxHeartbeats 4000000 in
set_option maxRecDepth 20000 in
theorem tm_look_b208 {x : sm_Cx} (ok : sm_Ok x zm_sy prog_12_method_84_code "LentShadesModel" 5 2 45) (hr : (xh x).sig.returnType = none) (N : Nat) {r136 : Int32 → sm_St → Option (sm_St)} (h136 : ∀ (v3 : Int32) (S : sm_St), sm_Sm x zm_sy prog_12_method_84_code (sm_Q x zm_sy (sm_Pv zm_sy (xw x))) (r136 v3 S) S 136 [(0, .ref ((xw x).2.2 0)), (3, .int v3)] []) (v3 : Int32) (s1 : Int32) (s2 : Int32) (S : sm_St) : sm_Sm x zm_sy prog_12_method_84_code (sm_Q x zm_sy (sm_Pv zm_sy (xw x))) (pm_look_b208 N r136 v3 s1 s2 S) S 208 [(0, .ref ((xw x).2.2 0)), (3, .int v3)] [.int s2, .int s1, .ref ((xw x).2.2 0)] := by
  unfold pm_look_b208
  refine sm_iadd (pc := 208) ok dm_look_208 ?_
  refine sm_putI (pc := 209) (ci := 10) (k := 23) ok dm_look_209 rfl rfl zc_i10 zc_y10 zc_t10 zc_n10 (by decide) rfl rfl rfl wd_1026 (fun S_20 => ?_)
  refine sm_goto (pc := 212) 136 ok dm_look_212 (by decide) ?_
  exact h136 _ _
set_option maxHeartbeats 4000000 in
set_option maxRecDepth 20000 in
theorem tm_look_b193 {x : sm_Cx} (ok : sm_Ok x zm_sy prog_12_method_84_code "LentShadesModel" 5 2 45) (hr : (xh x).sig.returnType = none) (N : Nat) {r136 : Int32 → sm_St → Option (sm_St)} (h136 : ∀ (v3 : Int32) (S : sm_St), sm_Sm x zm_sy prog_12_method_84_code (sm_Q x zm_sy (sm_Pv zm_sy (xw x))) (r136 v3 S) S 136 [(0, .ref ((xw x).2.2 0)), (3, .int v3)] []) (s0 : Int32) (S : sm_St) : sm_Sm x zm_sy prog_12_method_84_code (sm_Q x zm_sy (sm_Pv zm_sy (xw x))) (pm_look_b193 N r136 s0 S) S 193 [(0, .ref ((xw x).2.2 0))] [.int s0] := by
  unfold pm_look_b193
  refine sm_istore_n (pc := 193) (i := 3) ok dm_look_193 rfl (by decide) (fun v => [(3, .int v), (0, .ref ((xw x).2.2 0))]) (fun _ => rfl) (fun v3_19 => ?_)
  refine sm_aload_n (pc := 194) 1 ok dm_look_194 rfl ?_
  refine sm_dup (pc := 195) ok dm_look_195 rfl ?_
  refine sm_getI (pc := 196) (ci := 10) (k := 23) ok dm_look_196 rfl rfl zc_i10 (by decide) rfl wd_1026 ?_
  refine sm_iload_n (pc := 199) 0 ok dm_look_199 rfl ?_
  refine sm_if_eq (pc := 200) 207 ok dm_look_200 (by decide) (fun _ => ?_) (fun _ => ?_)
  · refine sm_iconst (pc := 207) (0 : Int32) ok dm_look_207 zk_0 ?_
    refine sm_lv [1, 0] rfl ?_
    exact tm_look_b208 ok hr N h136 _ _ _ _
  · refine sm_iconst (pc := 203) (1 : Int32) ok dm_look_203 zk_1 ?_
    refine sm_goto (pc := 204) 208 ok dm_look_204 (by decide) ?_
    refine sm_lv [1, 0] rfl ?_
    exact tm_look_b208 ok hr N h136 _ _ _ _
set_option maxHeartbeats 4000000 in
set_option maxRecDepth 20000 in
theorem tm_look_b136 {x : sm_Cx} (ok : sm_Ok x zm_sy prog_12_method_84_code "LentShadesModel" 5 2 45) (hr : (xh x).sig.returnType = none) (N : Nat) : ∀ (n : Nat) (v3 : Int32) (S : sm_St), sm_Sm x zm_sy prog_12_method_84_code (sm_Q x zm_sy (sm_Pv zm_sy (xw x))) (pm_look_b136 N n v3 S) S 136 [(0, .ref ((xw x).2.2 0)), (3, .int v3)] [] := by
  intro n
  induction n with
  | zero =>
    intro v3 S
    exact sm_none
  | succ n ih =>
    intro v3 S
    show sm_Sm x zm_sy prog_12_method_84_code (sm_Q x zm_sy (sm_Pv zm_sy (xw x))) (if v3 = 0 then (pm_look_b215 N S) else (if (S.1 0 21) ≤ ((S.1 0 22) + (S.1 0 23)) then (pm_look_b215 N S) else (if sm_in ((S.1 0 22) + (S.1 0 23)) 200 = true then (sm_lt (S.1 17 ((S.1 0 22) + (S.1 0 23)).toNatClampNeg) (fun (v4_14 : Int32) => if (S.1 0 24) = (1 : Int32) then (sm_b2 (pm_isSmall N S v4_14) (fun (r_18 : Int32) (S_17 : sm_St) => pm_look_b193 N (pm_look_b136 N n) r_18 S_17)) else (sm_b2 (pm_isFigure N S v4_14) (fun (r_16 : Int32) (S_15 : sm_St) => pm_look_b193 N (pm_look_b136 N n) r_16 S_15)))) else none))) S 136 [(0, .ref ((xw x).2.2 0)), (3, .int v3)] []
    refine sm_iload_n (pc := 136) 1 ok dm_look_136 rfl ?_
    refine sm_if_eq (pc := 137) 215 ok dm_look_137 (by decide) (fun _ => ?_) (fun _ => ?_)
    · refine sm_lv [0] rfl ?_
      exact tm_look_b215 ok hr N _
    · refine sm_aload_n (pc := 140) 0 ok dm_look_140 rfl ?_
      refine sm_getI (pc := 141) (ci := 10) (k := 22) ok dm_look_141 rfl rfl zc_i10 (by decide) rfl wd_1025 ?_
      refine sm_aload_n (pc := 144) 0 ok dm_look_144 rfl ?_
      refine sm_getI (pc := 145) (ci := 10) (k := 23) ok dm_look_145 rfl rfl zc_i10 (by decide) rfl wd_1026 ?_
      refine sm_iadd (pc := 148) ok dm_look_148 ?_
      refine sm_aload_n (pc := 149) 0 ok dm_look_149 rfl ?_
      refine sm_getI (pc := 150) (ci := 10) (k := 21) ok dm_look_150 rfl rfl zc_i10 (by decide) rfl wd_1024 ?_
      refine sm_icmp_ge (pc := 153) 215 ok dm_look_153 (by decide) (fun _ => ?_) (fun _ => ?_)
      · refine sm_lv [0] rfl ?_
        exact tm_look_b215 ok hr N _
      · refine sm_aload_n (pc := 156) 0 ok dm_look_156 rfl ?_
        refine sm_getR (pc := 157) (ci := 10) (k := 20) ok dm_look_157 rfl rfl zc_i10 (by decide) rfl wd_1023 ?_
        refine sm_aload_n (pc := 160) 0 ok dm_look_160 rfl ?_
        refine sm_getI (pc := 161) (ci := 10) (k := 22) ok dm_look_161 rfl rfl zc_i10 (by decide) rfl wd_1025 ?_
        refine sm_aload_n (pc := 164) 0 ok dm_look_164 rfl ?_
        refine sm_getI (pc := 165) (ci := 10) (k := 23) ok dm_look_165 rfl rfl zc_i10 (by decide) rfl wd_1026 ?_
        refine sm_iadd (pc := 168) ok dm_look_168 ?_
        refine sm_iald (pc := 169) ok dm_look_169 rfl ?_
        refine sm_istore (pc := 170) (i := 4) ok dm_look_170 (by decide) (fun v => [(4, .int v), (0, .ref ((xw x).2.2 0)), (3, .int v3)]) (fun _ => rfl) (fun v4_14 => ?_)
        refine sm_aload_n (pc := 172) 1 ok dm_look_172 rfl ?_
        refine sm_getI (pc := 173) (ci := 10) (k := 24) ok dm_look_173 rfl rfl zc_i10 (by decide) rfl wd_1027 ?_
        refine sm_iconst (pc := 176) (1 : Int32) ok dm_look_176 zk_1 ?_
        refine sm_icmp_ne (pc := 177) 188 ok dm_look_177 (by decide) (fun _ => ?_) (fun _ => ?_)
        · refine sm_iload (pc := 188) 0 ok dm_look_188 rfl ?_
          refine sm_callS_i (pc := 190) [.int v4_14] ok dm_look_190 wd_1424 mwm_isFigure (Nat.le_of_ble_eq_true rfl) (Nat.le_of_ble_eq_true rfl) rfl rfl (Nat.le_of_ble_eq_true rfl) (cm_isFigure (sm_okj ok) N S v4_14) (fun r_16 S_15 => ?_)
          refine sm_lv [1] rfl ?_
          exact tm_look_b193 ok hr N ih _ _
        · refine sm_iload (pc := 180) 0 ok dm_look_180 rfl ?_
          refine sm_callS_i (pc := 182) [.int v4_14] ok dm_look_182 wd_1419 mwm_isSmall (Nat.le_of_ble_eq_true rfl) (Nat.le_of_ble_eq_true rfl) rfl rfl (Nat.le_of_ble_eq_true rfl) (cm_isSmall (sm_okj ok) N S v4_14) (fun r_18 S_17 => ?_)
          refine sm_goto (pc := 185) 193 ok dm_look_185 (by decide) ?_
          refine sm_lv [1] rfl ?_
          exact tm_look_b193 ok hr N ih _ _
set_option maxHeartbeats 4000000 in
set_option maxRecDepth 20000 in
theorem tm_look_b135 {x : sm_Cx} (ok : sm_Ok x zm_sy prog_12_method_84_code "LentShadesModel" 5 2 45) (hr : (xh x).sig.returnType = none) (N : Nat) (s0 : Int32) (S : sm_St) : sm_Sm x zm_sy prog_12_method_84_code (sm_Q x zm_sy (sm_Pv zm_sy (xw x))) (pm_look_b135 N s0 S) S 135 [(0, .ref ((xw x).2.2 0))] [.int s0] := by
  unfold pm_look_b135
  refine sm_istore_n (pc := 135) (i := 3) ok dm_look_135 rfl (by decide) (fun v => [(3, .int v), (0, .ref ((xw x).2.2 0))]) (fun _ => rfl) (fun v3_13 => ?_)
  refine sm_lv [1, 0] rfl ?_
  exact tm_look_b136 ok hr N N _ _
set_option maxHeartbeats 4000000 in
set_option maxRecDepth 20000 in
theorem tm_look_b114 {x : sm_Cx} (ok : sm_Ok x zm_sy prog_12_method_84_code "LentShadesModel" 5 2 45) (hr : (xh x).sig.returnType = none) (N : Nat) (s1 : Int32) (S : sm_St) : sm_Sm x zm_sy prog_12_method_84_code (sm_Q x zm_sy (sm_Pv zm_sy (xw x))) (pm_look_b114 N s1 S) S 114 [(0, .ref ((xw x).2.2 0))] [.int s1, .ref ((xw x).2.2 0)] := by
  unfold pm_look_b114
  refine sm_putI (pc := 114) (ci := 10) (k := 24) ok dm_look_114 rfl rfl zc_i10 zc_y10 zc_t10 zc_n10 (by decide) rfl rfl rfl wd_1027 (fun S_11 => ?_)
  refine sm_aload_n (pc := 117) 0 ok dm_look_117 rfl ?_
  refine sm_iconst (pc := 118) (1 : Int32) ok dm_look_118 zk_1 ?_
  refine sm_putI (pc := 119) (ci := 10) (k := 23) ok dm_look_119 rfl rfl zc_i10 zc_y10 zc_t10 zc_n10 (by decide) rfl rfl rfl wd_1026 (fun S_12 => ?_)
  refine sm_aload_n (pc := 122) 0 ok dm_look_122 rfl ?_
  refine sm_getI (pc := 123) (ci := 10) (k := 24) ok dm_look_123 rfl rfl zc_i10 (by decide) rfl wd_1027 ?_
  refine sm_iconst (pc := 126) (3 : Int32) ok dm_look_126 zk_3 ?_
  refine sm_icmp_ge (pc := 127) 134 ok dm_look_127 (by decide) (fun _ => ?_) (fun _ => ?_)
  · refine sm_iconst (pc := 134) (0 : Int32) ok dm_look_134 zk_0 ?_
    exact tm_look_b135 ok hr N _ _
  · refine sm_iconst (pc := 130) (1 : Int32) ok dm_look_130 zk_1 ?_
    refine sm_goto (pc := 131) 135 ok dm_look_131 (by decide) ?_
    exact tm_look_b135 ok hr N _ _
set_option maxHeartbeats 4000000 in
set_option maxRecDepth 20000 in
theorem tm_look_b43 {x : sm_Cx} (ok : sm_Ok x zm_sy prog_12_method_84_code "LentShadesModel" 5 2 45) (hr : (xh x).sig.returnType = none) (N : Nat) (S : sm_St) : sm_Sm x zm_sy prog_12_method_84_code (sm_Q x zm_sy (sm_Pv zm_sy (xw x))) (pm_look_b43 N S) S 43 [(0, .ref ((xw x).2.2 0))] [] := by
  unfold pm_look_b43
  refine sm_aload_n (pc := 43) 0 ok dm_look_43 rfl ?_
  refine sm_iconst (pc := 44) (0 : Int32) ok dm_look_44 zk_0 ?_
  refine sm_putI (pc := 45) (ci := 10) (k := 23) ok dm_look_45 rfl rfl zc_i10 zc_y10 zc_t10 zc_n10 (by decide) rfl rfl rfl wd_1026 (fun S_3 => ?_)
  refine sm_aload_n (pc := 48) 0 ok dm_look_48 rfl ?_
  refine sm_iconst (pc := 49) (0 : Int32) ok dm_look_49 zk_0 ?_
  refine sm_putI (pc := 50) (ci := 10) (k := 24) ok dm_look_50 rfl rfl zc_i10 zc_y10 zc_t10 zc_n10 (by decide) rfl rfl rfl wd_1027 (fun S_4 => ?_)
  refine sm_aload_n (pc := 53) 0 ok dm_look_53 rfl ?_
  refine sm_iconst (pc := 54) (0 : Int32) ok dm_look_54 zk_0 ?_
  refine sm_putI (pc := 55) (ci := 10) (k := 25) ok dm_look_55 rfl rfl zc_i10 zc_y10 zc_t10 zc_n10 (by decide) rfl rfl rfl wd_1028 (fun S_5 => ?_)
  refine sm_aload_n (pc := 58) 0 ok dm_look_58 rfl ?_
  refine sm_getI (pc := 59) (ci := 10) (k := 22) ok dm_look_59 rfl rfl zc_i10 (by decide) rfl wd_1025 ?_
  refine sm_aload_n (pc := 62) 0 ok dm_look_62 rfl ?_
  refine sm_getI (pc := 63) (ci := 10) (k := 21) ok dm_look_63 rfl rfl zc_i10 (by decide) rfl wd_1024 ?_
  refine sm_icmp_ne (pc := 66) 70 ok dm_look_66 (by decide) (fun _ => ?_) (fun _ => ?_)
  · refine sm_aload_n (pc := 70) 0 ok dm_look_70 rfl ?_
    refine sm_getR (pc := 71) (ci := 10) (k := 20) ok dm_look_71 rfl rfl zc_i10 (by decide) rfl wd_1023 ?_
    refine sm_aload_n (pc := 74) 0 ok dm_look_74 rfl ?_
    refine sm_getI (pc := 75) (ci := 10) (k := 22) ok dm_look_75 rfl rfl zc_i10 (by decide) rfl wd_1025 ?_
    refine sm_iald (pc := 78) ok dm_look_78 rfl ?_
    refine sm_istore_n (pc := 79) (i := 2) ok dm_look_79 rfl (by decide) (fun v => [(2, .int v), (0, .ref ((xw x).2.2 0))]) (fun _ => rfl) (fun v2_6 => ?_)
    refine sm_aload_n (pc := 80) 1 ok dm_look_80 rfl ?_
    refine sm_iload_n (pc := 81) 0 ok dm_look_81 rfl ?_
    refine sm_callS_i (pc := 82) [.int v2_6] ok dm_look_82 wd_1419 mwm_isSmall (Nat.le_of_ble_eq_true rfl) (Nat.le_of_ble_eq_true rfl) rfl rfl (Nat.le_of_ble_eq_true rfl) (cm_isSmall (sm_okj ok) N S_5 v2_6) (fun r_8 S_7 => ?_)
    refine sm_if_eq (pc := 85) 92 ok dm_look_85 (by decide) (fun _ => ?_) (fun _ => ?_)
    · refine sm_iload_n (pc := 92) 0 ok dm_look_92 rfl ?_
      refine sm_callS_i (pc := 93) [.int v2_6] ok dm_look_93 wd_1424 mwm_isFigure (Nat.le_of_ble_eq_true rfl) (Nat.le_of_ble_eq_true rfl) rfl rfl (Nat.le_of_ble_eq_true rfl) (cm_isFigure (sm_okj ok) N S_7 v2_6) (fun r_10 S_9 => ?_)
      refine sm_if_eq (pc := 96) 103 ok dm_look_96 (by decide) (fun _ => ?_) (fun _ => ?_)
      · refine sm_iload_n (pc := 103) 0 ok dm_look_103 rfl ?_
        refine sm_bipush (pc := 104) (59 : Int32) ok dm_look_104 zb_59 ?_
        refine sm_icmp_ne (pc := 106) 113 ok dm_look_106 (by decide) (fun _ => ?_) (fun _ => ?_)
        · refine sm_iconst (pc := 113) (4 : Int32) ok dm_look_113 zk_4 ?_
          refine sm_lv [1] rfl ?_
          exact tm_look_b114 ok hr N _ _
        · refine sm_iconst (pc := 109) (3 : Int32) ok dm_look_109 zk_3 ?_
          refine sm_goto (pc := 110) 114 ok dm_look_110 (by decide) ?_
          refine sm_lv [1] rfl ?_
          exact tm_look_b114 ok hr N _ _
      · refine sm_iconst (pc := 99) (2 : Int32) ok dm_look_99 zk_2 ?_
        refine sm_goto (pc := 100) 114 ok dm_look_100 (by decide) ?_
        refine sm_lv [1] rfl ?_
        exact tm_look_b114 ok hr N _ _
    · refine sm_iconst (pc := 88) (1 : Int32) ok dm_look_88 zk_1 ?_
      refine sm_goto (pc := 89) 114 ok dm_look_89 (by decide) ?_
      refine sm_lv [1] rfl ?_
      exact tm_look_b114 ok hr N _ _
  · exact sm_vret (pc := 69) ok dm_look_69 hr
set_option maxHeartbeats 4000000 in
set_option maxRecDepth 20000 in
theorem tm_look_b5 {x : sm_Cx} (ok : sm_Ok x zm_sy prog_12_method_84_code "LentShadesModel" 5 2 45) (hr : (xh x).sig.returnType = none) (N : Nat) : ∀ (n : Nat) (S : sm_St), sm_Sm x zm_sy prog_12_method_84_code (sm_Q x zm_sy (sm_Pv zm_sy (xw x))) (pm_look_b5 N n S) S 5 [(0, .ref ((xw x).2.2 0))] [] := by
  intro n
  induction n with
  | zero =>
    intro S
    exact sm_none
  | succ n ih =>
    intro S
    show sm_Sm x zm_sy prog_12_method_84_code (sm_Q x zm_sy (sm_Pv zm_sy (xw x))) (if (S.1 0 21) ≤ (S.1 0 22) then (pm_look_b43 N S) else (if sm_in (S.1 0 22) 200 = true then (if (S.1 17 (S.1 0 22).toNatClampNeg) = (32 : Int32) then (sm_lt (sm_sI S 0 22 ((S.1 0 22) + (1 : Int32))) (fun (S_2 : sm_St) => (pm_look_b5 N n) S_2)) else (pm_look_b43 N S)) else none)) S 5 [(0, .ref ((xw x).2.2 0))] []
    refine sm_aload_n (pc := 5) 0 ok dm_look_5 rfl ?_
    refine sm_getI (pc := 6) (ci := 10) (k := 22) ok dm_look_6 rfl rfl zc_i10 (by decide) rfl wd_1025 ?_
    refine sm_aload_n (pc := 9) 0 ok dm_look_9 rfl ?_
    refine sm_getI (pc := 10) (ci := 10) (k := 21) ok dm_look_10 rfl rfl zc_i10 (by decide) rfl wd_1024 ?_
    refine sm_icmp_ge (pc := 13) 43 ok dm_look_13 (by decide) (fun _ => ?_) (fun _ => ?_)
    · exact tm_look_b43 ok hr N _
    · refine sm_aload_n (pc := 16) 0 ok dm_look_16 rfl ?_
      refine sm_getR (pc := 17) (ci := 10) (k := 20) ok dm_look_17 rfl rfl zc_i10 (by decide) rfl wd_1023 ?_
      refine sm_aload_n (pc := 20) 0 ok dm_look_20 rfl ?_
      refine sm_getI (pc := 21) (ci := 10) (k := 22) ok dm_look_21 rfl rfl zc_i10 (by decide) rfl wd_1025 ?_
      refine sm_iald (pc := 24) ok dm_look_24 rfl ?_
      refine sm_bipush (pc := 25) (32 : Int32) ok dm_look_25 zb_32 ?_
      refine sm_icmp_ne (pc := 27) 43 ok dm_look_27 (by decide) (fun _ => ?_) (fun _ => ?_)
      · exact tm_look_b43 ok hr N _
      · refine sm_aload_n (pc := 30) 0 ok dm_look_30 rfl ?_
        refine sm_dup (pc := 31) ok dm_look_31 rfl ?_
        refine sm_getI (pc := 32) (ci := 10) (k := 22) ok dm_look_32 rfl rfl zc_i10 (by decide) rfl wd_1025 ?_
        refine sm_iconst (pc := 35) (1 : Int32) ok dm_look_35 zk_1 ?_
        refine sm_iadd (pc := 36) ok dm_look_36 ?_
        refine sm_putI (pc := 37) (ci := 10) (k := 22) ok dm_look_37 rfl rfl zc_i10 zc_y10 zc_t10 zc_n10 (by decide) rfl rfl rfl wd_1025 (fun S_2 => ?_)
        refine sm_goto (pc := 40) 5 ok dm_look_40 (by decide) ?_
        exact ih _
set_option maxHeartbeats 4000000 in
set_option maxRecDepth 20000 in
theorem tm_look {x : sm_Cx} (ok : sm_Ok x zm_sy prog_12_method_84_code "LentShadesModel" 5 2 45) (hr : (xh x).sig.returnType = none) (N : Nat) (S : sm_St) (v1 : Int32) : sm_Sm x zm_sy prog_12_method_84_code (sm_Q x zm_sy (sm_Pv zm_sy (xw x))) (pm_look N S v1) S 0 [(0, .ref ((xw x).2.2 0)), (1, .int v1)] [] := by
  unfold pm_look
  refine sm_aload_n (pc := 0) 0 ok dm_look_0 rfl ?_
  refine sm_iload_n (pc := 1) 1 ok dm_look_1 rfl ?_
  refine sm_putI (pc := 2) (ci := 10) (k := 22) ok dm_look_2 rfl rfl zc_i10 zc_y10 zc_t10 zc_n10 (by decide) rfl rfl rfl wd_1025 (fun S_1 => ?_)
  refine sm_lv [0] rfl ?_
  exact tm_look_b5 ok hr N N _
theorem cm_look {l : Launch} {wc : sm_Wc} (hj : sm_inj zm_sy wc) (N : Nat) (S : sm_St) (v1 : Int32) : sm_Ct l zm_sy wc ym_look prog_12_method_84_code 5 none 2 45 [.ref (wc.2.2 0), .int v1] S (sm_Pv zm_sy wc) (pm_look N S v1) :=
  sm_entry (Pq := fun wc => sm_Pv zm_sy wc) (fun wc => [.ref (wc.2.2 0), .int v1]) (lv := fun wc => [(0, .ref (wc.2.2 0)), (1, .int v1)]) (by decide) hj zm_ok zm_stb (fun _ => Nat.le_of_ble_eq_true rfl) (fun _ => rfl) (fun x _ ok hr => tm_look ok hr N S v1)
set_option maxHeartbeats 4000000 in
set_option maxRecDepth 20000 in
theorem tm_goOn {x : sm_Cx} (ok : sm_Ok x zm_sy prog_12_method_85_code "LentShadesModel" 1 3 69) (hr : (xh x).sig.returnType = none) (N : Nat) (S : sm_St) : sm_Sm x zm_sy prog_12_method_85_code (sm_Q x zm_sy (sm_Pv zm_sy (xw x))) (pm_goOn N S) S 0 [(0, .ref ((xw x).2.2 0))] [] := by
  unfold pm_goOn
  refine sm_aload_n (pc := 0) 0 ok dm_goOn_0 rfl ?_
  refine sm_aload_n (pc := 1) 0 ok dm_goOn_1 rfl ?_
  refine sm_getI (pc := 2) (ci := 10) (k := 22) ok dm_goOn_2 rfl rfl zc_i10 (by decide) rfl wd_1025 ?_
  refine sm_aload_n (pc := 5) 0 ok dm_goOn_5 rfl ?_
  refine sm_getI (pc := 6) (ci := 10) (k := 23) ok dm_goOn_6 rfl rfl zc_i10 (by decide) rfl wd_1026 ?_
  refine sm_iadd (pc := 9) ok dm_goOn_9 ?_
  refine sm_callV_v (pc := 10) (ci := 10) [.int ((S.1 0 22) + (S.1 0 23))] ok dm_goOn_10 wd_1415 mwm_look rfl rfl (Nat.le_of_ble_eq_true rfl) (Nat.le_of_ble_eq_true rfl) rfl rfl (Nat.le_of_ble_eq_true rfl) (cm_look (sm_okj ok) N S ((S.1 0 22) + (S.1 0 23))) (fun S_1 => ?_)
  exact sm_vret (pc := 13) ok dm_goOn_13 hr
theorem cm_goOn {l : Launch} {wc : sm_Wc} (hj : sm_inj zm_sy wc) (N : Nat) (S : sm_St) : sm_Ct l zm_sy wc ym_goOn prog_12_method_85_code 1 none 3 69 [.ref (wc.2.2 0)] S (sm_Pv zm_sy wc) (pm_goOn N S) :=
  sm_entry (Pq := fun wc => sm_Pv zm_sy wc) (fun wc => [.ref (wc.2.2 0)]) (lv := fun wc => [(0, .ref (wc.2.2 0))]) (by decide) hj zm_ok zm_stb (fun _ => Nat.le_of_ble_eq_true rfl) (fun _ => rfl) (fun x _ ok hr => tm_goOn ok hr N S)
set_option maxHeartbeats 4000000 in
set_option maxRecDepth 20000 in
theorem tm_isWord_b99 {x : sm_Cx} (ok : sm_Ok x zm_sy prog_12_method_86_code "LentShadesModel" 8 0 0) (hr : (xh x).sig.returnType = (some .boolean)) (N : Nat) {r26 : Int32 → Int32 → Int32 → Int32 → Int32 → Int32 → Int32 → sm_St → Option (Int32 × sm_St)} (h26 : ∀ (v1 : Int32) (v2 : Int32) (v3 : Int32) (v4 : Int32) (v5 : Int32) (v6 : Int32) (v7 : Int32) (S : sm_St), sm_Sm x zm_sy prog_12_method_86_code (sm_Q x zm_sy (sm_Pi zm_sy (xw x))) (r26 v1 v2 v3 v4 v5 v6 v7 S) S 26 [(0, .ref ((xw x).2.2 0)), (1, .int v1), (2, .int v2), (3, .int v3), (4, .int v4), (5, .int v5), (6, .int v6), (7, .int v7)] []) (v1 : Int32) (v2 : Int32) (v3 : Int32) (v4 : Int32) (v5 : Int32) (v7 : Int32) (s0 : Int32) (S : sm_St) : sm_Sm x zm_sy prog_12_method_86_code (sm_Q x zm_sy (sm_Pi zm_sy (xw x))) (pm_isWord_b99 N r26 v1 v2 v3 v4 v5 v7 s0 S) S 99 [(0, .ref ((xw x).2.2 0)), (1, .int v1), (2, .int v2), (3, .int v3), (4, .int v4), (5, .int v5), (7, .int v7)] [.int s0] := by
  unfold pm_isWord_b99
  refine sm_istore (pc := 99) (i := 6) ok dm_isWord_99 (by decide) (fun v => [(6, .int v), (0, .ref ((xw x).2.2 0)), (1, .int v1), (2, .int v2), (3, .int v3), (4, .int v4), (5, .int v5), (7, .int v7)]) (fun _ => rfl) (fun v6_3 => ?_)
  refine sm_iinc (pc := 101) (i := 7) 7 (1 : Int32) ok dm_isWord_101 rfl zk_1 (by decide) (fun v => [(7, .int v), (6, .int v6_3), (0, .ref ((xw x).2.2 0)), (1, .int v1), (2, .int v2), (3, .int v3), (4, .int v4), (5, .int v5)]) (fun _ => rfl) (fun v7_4 => ?_)
  refine sm_goto (pc := 104) 26 ok dm_isWord_104 (by decide) ?_
  refine sm_lv [2, 3, 4, 5, 6, 7, 1, 0] rfl ?_
  exact h26 _ _ _ _ _ _ _ _
set_option maxHeartbeats 4000000 in
set_option maxRecDepth 20000 in
theorem tm_isWord_b91 {x : sm_Cx} (ok : sm_Ok x zm_sy prog_12_method_86_code "LentShadesModel" 8 0 0) (hr : (xh x).sig.returnType = (some .boolean)) (N : Nat) {r26 : Int32 → Int32 → Int32 → Int32 → Int32 → Int32 → Int32 → sm_St → Option (Int32 × sm_St)} (h26 : ∀ (v1 : Int32) (v2 : Int32) (v3 : Int32) (v4 : Int32) (v5 : Int32) (v6 : Int32) (v7 : Int32) (S : sm_St), sm_Sm x zm_sy prog_12_method_86_code (sm_Q x zm_sy (sm_Pi zm_sy (xw x))) (r26 v1 v2 v3 v4 v5 v6 v7 S) S 26 [(0, .ref ((xw x).2.2 0)), (1, .int v1), (2, .int v2), (3, .int v3), (4, .int v4), (5, .int v5), (6, .int v6), (7, .int v7)] []) (v1 : Int32) (v2 : Int32) (v3 : Int32) (v4 : Int32) (v5 : Int32) (v7 : Int32) (s0 : Int32) (s1 : Int32) (S : sm_St) : sm_Sm x zm_sy prog_12_method_86_code (sm_Q x zm_sy (sm_Pi zm_sy (xw x))) (pm_isWord_b91 N r26 v1 v2 v3 v4 v5 v7 s0 s1 S) S 91 [(0, .ref ((xw x).2.2 0)), (1, .int v1), (2, .int v2), (3, .int v3), (4, .int v4), (5, .int v5), (7, .int v7)] [.int s1, .int s0] := by
  unfold pm_isWord_b91
  refine sm_icmp_ne (pc := 91) 98 ok dm_isWord_91 (by decide) (fun _ => ?_) (fun _ => ?_)
  · refine sm_iconst (pc := 98) (0 : Int32) ok dm_isWord_98 zk_0 ?_
    exact tm_isWord_b99 ok hr N h26 _ _ _ _ _ _ _ _
  · refine sm_iconst (pc := 94) (1 : Int32) ok dm_isWord_94 zk_1 ?_
    refine sm_goto (pc := 95) 99 ok dm_isWord_95 (by decide) ?_
    exact tm_isWord_b99 ok hr N h26 _ _ _ _ _ _ _ _
set_option maxHeartbeats 4000000 in
set_option maxRecDepth 20000 in
theorem tm_isWord_b26 {x : sm_Cx} (ok : sm_Ok x zm_sy prog_12_method_86_code "LentShadesModel" 8 0 0) (hr : (xh x).sig.returnType = (some .boolean)) (N : Nat) : ∀ (n : Nat) (v1 : Int32) (v2 : Int32) (v3 : Int32) (v4 : Int32) (v5 : Int32) (v6 : Int32) (v7 : Int32) (S : sm_St), sm_Sm x zm_sy prog_12_method_86_code (sm_Q x zm_sy (sm_Pi zm_sy (xw x))) (pm_isWord_b26 N n v1 v2 v3 v4 v5 v6 v7 S) S 26 [(0, .ref ((xw x).2.2 0)), (1, .int v1), (2, .int v2), (3, .int v3), (4, .int v4), (5, .int v5), (6, .int v6), (7, .int v7)] [] := by
  intro n
  induction n with
  | zero =>
    intro v1 v2 v3 v4 v5 v6 v7 S
    exact sm_none
  | succ n ih =>
    intro v1 v2 v3 v4 v5 v6 v7 S
    show sm_Sm x zm_sy prog_12_method_86_code (sm_Q x zm_sy (sm_Pi zm_sy (xw x))) (if (5 : Int32) ≤ v7 then (sm_rz v6 S) else (if v6 = 0 then (sm_rz v6 S) else (if sm_in ((S.1 0 22) + v7) 200 = true then (if v7 = 0 then (pm_isWord_b91 N (pm_isWord_b26 N n) v1 v2 v3 v4 v5 v7 (S.1 17 ((S.1 0 22) + v7).toNatClampNeg) v1 S) else (if v7 = (1 : Int32) then (pm_isWord_b91 N (pm_isWord_b26 N n) v1 v2 v3 v4 v5 v7 (S.1 17 ((S.1 0 22) + v7).toNatClampNeg) v2 S) else (if v7 = (2 : Int32) then (pm_isWord_b91 N (pm_isWord_b26 N n) v1 v2 v3 v4 v5 v7 (S.1 17 ((S.1 0 22) + v7).toNatClampNeg) v3 S) else (if v7 = (3 : Int32) then (pm_isWord_b91 N (pm_isWord_b26 N n) v1 v2 v3 v4 v5 v7 (S.1 17 ((S.1 0 22) + v7).toNatClampNeg) v4 S) else (pm_isWord_b91 N (pm_isWord_b26 N n) v1 v2 v3 v4 v5 v7 (S.1 17 ((S.1 0 22) + v7).toNatClampNeg) v5 S))))) else none))) S 26 [(0, .ref ((xw x).2.2 0)), (1, .int v1), (2, .int v2), (3, .int v3), (4, .int v4), (5, .int v5), (6, .int v6), (7, .int v7)] []
    refine sm_iload (pc := 26) 7 ok dm_isWord_26 rfl ?_
    refine sm_iconst (pc := 28) (5 : Int32) ok dm_isWord_28 zk_5 ?_
    refine sm_icmp_ge (pc := 29) 107 ok dm_isWord_29 (by decide) (fun _ => ?_) (fun _ => ?_)
    · refine sm_iload (pc := 107) 6 ok dm_isWord_107 rfl ?_
      exact sm_zretc (pc := 109) ok dm_isWord_109 hr
    · refine sm_iload (pc := 32) 6 ok dm_isWord_32 rfl ?_
      refine sm_if_eq (pc := 34) 107 ok dm_isWord_34 (by decide) (fun _ => ?_) (fun _ => ?_)
      · refine sm_iload (pc := 107) 6 ok dm_isWord_107 rfl ?_
        exact sm_zretc (pc := 109) ok dm_isWord_109 hr
      · refine sm_aload_n (pc := 37) 0 ok dm_isWord_37 rfl ?_
        refine sm_getR (pc := 38) (ci := 10) (k := 20) ok dm_isWord_38 rfl rfl zc_i10 (by decide) rfl wd_1023 ?_
        refine sm_aload_n (pc := 41) 0 ok dm_isWord_41 rfl ?_
        refine sm_getI (pc := 42) (ci := 10) (k := 22) ok dm_isWord_42 rfl rfl zc_i10 (by decide) rfl wd_1025 ?_
        refine sm_iload (pc := 45) 7 ok dm_isWord_45 rfl ?_
        refine sm_iadd (pc := 47) ok dm_isWord_47 ?_
        refine sm_iald (pc := 48) ok dm_isWord_48 rfl ?_
        refine sm_iload (pc := 49) 7 ok dm_isWord_49 rfl ?_
        refine sm_if_ne (pc := 51) 58 ok dm_isWord_51 (by decide) (fun _ => ?_) (fun _ => ?_)
        · refine sm_iload (pc := 58) 7 ok dm_isWord_58 rfl ?_
          refine sm_iconst (pc := 60) (1 : Int32) ok dm_isWord_60 zk_1 ?_
          refine sm_icmp_ne (pc := 61) 68 ok dm_isWord_61 (by decide) (fun _ => ?_) (fun _ => ?_)
          · refine sm_iload (pc := 68) 7 ok dm_isWord_68 rfl ?_
            refine sm_iconst (pc := 70) (2 : Int32) ok dm_isWord_70 zk_2 ?_
            refine sm_icmp_ne (pc := 71) 78 ok dm_isWord_71 (by decide) (fun _ => ?_) (fun _ => ?_)
            · refine sm_iload (pc := 78) 7 ok dm_isWord_78 rfl ?_
              refine sm_iconst (pc := 80) (3 : Int32) ok dm_isWord_80 zk_3 ?_
              refine sm_icmp_ne (pc := 81) 89 ok dm_isWord_81 (by decide) (fun _ => ?_) (fun _ => ?_)
              · refine sm_iload (pc := 89) 5 ok dm_isWord_89 rfl ?_
                refine sm_lv [0, 1, 2, 3, 4, 5, 7] rfl ?_
                exact tm_isWord_b91 ok hr N ih _ _ _ _ _ _ _ _ _
              · refine sm_iload (pc := 84) 4 ok dm_isWord_84 rfl ?_
                refine sm_goto (pc := 86) 91 ok dm_isWord_86 (by decide) ?_
                refine sm_lv [0, 1, 2, 3, 4, 5, 7] rfl ?_
                exact tm_isWord_b91 ok hr N ih _ _ _ _ _ _ _ _ _
            · refine sm_iload_n (pc := 74) 3 ok dm_isWord_74 rfl ?_
              refine sm_goto (pc := 75) 91 ok dm_isWord_75 (by decide) ?_
              refine sm_lv [0, 1, 2, 3, 4, 5, 7] rfl ?_
              exact tm_isWord_b91 ok hr N ih _ _ _ _ _ _ _ _ _
          · refine sm_iload_n (pc := 64) 2 ok dm_isWord_64 rfl ?_
            refine sm_goto (pc := 65) 91 ok dm_isWord_65 (by decide) ?_
            refine sm_lv [0, 1, 2, 3, 4, 5, 7] rfl ?_
            exact tm_isWord_b91 ok hr N ih _ _ _ _ _ _ _ _ _
        · refine sm_iload_n (pc := 54) 1 ok dm_isWord_54 rfl ?_
          refine sm_goto (pc := 55) 91 ok dm_isWord_55 (by decide) ?_
          refine sm_lv [0, 1, 2, 3, 4, 5, 7] rfl ?_
          exact tm_isWord_b91 ok hr N ih _ _ _ _ _ _ _ _ _
set_option maxHeartbeats 4000000 in
set_option maxRecDepth 20000 in
theorem tm_isWord_b21 {x : sm_Cx} (ok : sm_Ok x zm_sy prog_12_method_86_code "LentShadesModel" 8 0 0) (hr : (xh x).sig.returnType = (some .boolean)) (N : Nat) (v1 : Int32) (v2 : Int32) (v3 : Int32) (v4 : Int32) (v5 : Int32) (s0 : Int32) (S : sm_St) : sm_Sm x zm_sy prog_12_method_86_code (sm_Q x zm_sy (sm_Pi zm_sy (xw x))) (pm_isWord_b21 N v1 v2 v3 v4 v5 s0 S) S 21 [(0, .ref ((xw x).2.2 0)), (1, .int v1), (2, .int v2), (3, .int v3), (4, .int v4), (5, .int v5)] [.int s0] := by
  unfold pm_isWord_b21
  refine sm_istore (pc := 21) (i := 6) ok dm_isWord_21 (by decide) (fun v => [(6, .int v), (0, .ref ((xw x).2.2 0)), (1, .int v1), (2, .int v2), (3, .int v3), (4, .int v4), (5, .int v5)]) (fun _ => rfl) (fun v6_1 => ?_)
  refine sm_iconst (pc := 23) (0 : Int32) ok dm_isWord_23 zk_0 ?_
  refine sm_istore (pc := 24) (i := 7) ok dm_isWord_24 (by decide) (fun v => [(7, .int v), (6, .int v6_1), (0, .ref ((xw x).2.2 0)), (1, .int v1), (2, .int v2), (3, .int v3), (4, .int v4), (5, .int v5)]) (fun _ => rfl) (fun v7_2 => ?_)
  refine sm_lv [2, 3, 4, 5, 6, 7, 1, 0] rfl ?_
  exact tm_isWord_b26 ok hr N N _ _ _ _ _ _ _ _
set_option maxHeartbeats 4000000 in
set_option maxRecDepth 20000 in
theorem tm_isWord_b20 {x : sm_Cx} (ok : sm_Ok x zm_sy prog_12_method_86_code "LentShadesModel" 8 0 0) (hr : (xh x).sig.returnType = (some .boolean)) (N : Nat) (v1 : Int32) (v2 : Int32) (v3 : Int32) (v4 : Int32) (v5 : Int32) (S : sm_St) : sm_Sm x zm_sy prog_12_method_86_code (sm_Q x zm_sy (sm_Pi zm_sy (xw x))) (pm_isWord_b20 N v1 v2 v3 v4 v5 S) S 20 [(0, .ref ((xw x).2.2 0)), (1, .int v1), (2, .int v2), (3, .int v3), (4, .int v4), (5, .int v5)] [] := by
  unfold pm_isWord_b20
  refine sm_iconst (pc := 20) (0 : Int32) ok dm_isWord_20 zk_0 ?_
  exact tm_isWord_b21 ok hr N _ _ _ _ _ _ _
set_option maxHeartbeats 4000000 in
set_option maxRecDepth 20000 in
theorem tm_isWord {x : sm_Cx} (ok : sm_Ok x zm_sy prog_12_method_86_code "LentShadesModel" 8 0 0) (hr : (xh x).sig.returnType = (some .boolean)) (N : Nat) (S : sm_St) (v1 : Int32) (v2 : Int32) (v3 : Int32) (v4 : Int32) (v5 : Int32) : sm_Sm x zm_sy prog_12_method_86_code (sm_Q x zm_sy (sm_Pi zm_sy (xw x))) (pm_isWord N S v1 v2 v3 v4 v5) S 0 [(0, .ref ((xw x).2.2 0)), (1, .int v1), (2, .int v2), (3, .int v3), (4, .int v4), (5, .int v5)] [] := by
  unfold pm_isWord
  refine sm_aload_n (pc := 0) 0 ok dm_isWord_0 rfl ?_
  refine sm_getI (pc := 1) (ci := 10) (k := 24) ok dm_isWord_1 rfl rfl zc_i10 (by decide) rfl wd_1027 ?_
  refine sm_iconst (pc := 4) (1 : Int32) ok dm_isWord_4 zk_1 ?_
  refine sm_icmp_ne (pc := 5) 20 ok dm_isWord_5 (by decide) (fun _ => ?_) (fun _ => ?_)
  · exact tm_isWord_b20 ok hr N _ _ _ _ _ _
  · refine sm_aload_n (pc := 8) 0 ok dm_isWord_8 rfl ?_
    refine sm_getI (pc := 9) (ci := 10) (k := 23) ok dm_isWord_9 rfl rfl zc_i10 (by decide) rfl wd_1026 ?_
    refine sm_iconst (pc := 12) (5 : Int32) ok dm_isWord_12 zk_5 ?_
    refine sm_icmp_ne (pc := 13) 20 ok dm_isWord_13 (by decide) (fun _ => ?_) (fun _ => ?_)
    · exact tm_isWord_b20 ok hr N _ _ _ _ _ _
    · refine sm_iconst (pc := 16) (1 : Int32) ok dm_isWord_16 zk_1 ?_
      refine sm_goto (pc := 17) 21 ok dm_isWord_17 (by decide) ?_
      exact tm_isWord_b21 ok hr N _ _ _ _ _ _ _
theorem cm_isWord {l : Launch} {wc : sm_Wc} (hj : sm_inj zm_sy wc) (N : Nat) (S : sm_St) (v1 : Int32) (v2 : Int32) (v3 : Int32) (v4 : Int32) (v5 : Int32) : sm_Ct l zm_sy wc ym_isWord prog_12_method_86_code 8 (some .boolean) 0 0 [.ref (wc.2.2 0), .int v1, .int v2, .int v3, .int v4, .int v5] S (sm_Pi zm_sy wc) (pm_isWord N S v1 v2 v3 v4 v5) :=
  sm_entry (Pq := fun wc => sm_Pi zm_sy wc) (fun wc => [.ref (wc.2.2 0), .int v1, .int v2, .int v3, .int v4, .int v5]) (lv := fun wc => [(0, .ref (wc.2.2 0)), (1, .int v1), (2, .int v2), (3, .int v3), (4, .int v4), (5, .int v5)]) (by decide) hj zm_ok zm_stb (fun _ => Nat.le_of_ble_eq_true rfl) (fun _ => rfl) (fun x _ ok hr => tm_isWord ok hr N S v1 v2 v3 v4 v5)
set_option maxHeartbeats 4000000 in
set_option maxRecDepth 20000 in
theorem tm_takesOne {x : sm_Cx} (ok : sm_Ok x zm_sy prog_12_method_87_code "LentShadesModel" 3 4 89) (hr : (xh x).sig.returnType = (some .boolean)) (N : Nat) (S : sm_St) (v1 : Int32) (v2 : Int32) : sm_Sm x zm_sy prog_12_method_87_code (sm_Q x zm_sy (sm_Pi zm_sy (xw x))) (pm_takesOne N S v1 v2) S 0 [(0, .ref ((xw x).2.2 0)), (1, .int v1), (2, .int v2)] [] := by
  unfold pm_takesOne
  refine sm_aload_n (pc := 0) 0 ok dm_takesOne_0 rfl ?_
  refine sm_getI (pc := 1) (ci := 10) (k := 24) ok dm_takesOne_1 rfl rfl zc_i10 (by decide) rfl wd_1027 ?_
  refine sm_iconst (pc := 4) (2 : Int32) ok dm_takesOne_4 zk_2 ?_
  refine sm_icmp_ne (pc := 5) 23 ok dm_takesOne_5 (by decide) (fun _ => ?_) (fun _ => ?_)
  · refine sm_iconst (pc := 23) (0 : Int32) ok dm_takesOne_23 zk_0 ?_
    exact sm_zret (pc := 24) ok dm_takesOne_24 hr rfl
  · refine sm_aload_n (pc := 8) 0 ok dm_takesOne_8 rfl ?_
    refine sm_getI (pc := 9) (ci := 10) (k := 25) ok dm_takesOne_9 rfl rfl zc_i10 (by decide) rfl wd_1028 ?_
    refine sm_i2l (pc := 12) ok dm_takesOne_12 ?_
    refine sm_iload_n (pc := 13) 1 ok dm_takesOne_13 rfl ?_
    refine sm_i2l (pc := 14) ok dm_takesOne_14 ?_
    refine sm_iload_n (pc := 15) 2 ok dm_takesOne_15 rfl ?_
    refine sm_i2l (pc := 16) ok dm_takesOne_16 ?_
    refine sm_callS_i (pc := 17) [.long ((S.1 0 25).toInt64), .long (v1.toInt64), .long (v2.toInt64)] ok dm_takesOne_17 wd_1105 mwm_in (Nat.le_of_ble_eq_true rfl) (Nat.le_of_ble_eq_true rfl) rfl rfl (Nat.le_of_ble_eq_true rfl) (cm_in (sm_okj ok) N S ((S.1 0 25).toInt64) (v1.toInt64) (v2.toInt64)) (fun r_2 S_1 => ?_)
    refine sm_if_ne (pc := 20) 25 ok dm_takesOne_20 (by decide) (fun _ => ?_) (fun _ => ?_)
    · refine sm_aload_n (pc := 25) 0 ok dm_takesOne_25 rfl ?_
      refine sm_aload_n (pc := 26) 0 ok dm_takesOne_26 rfl ?_
      refine sm_getI (pc := 27) (ci := 10) (k := 25) ok dm_takesOne_27 rfl rfl zc_i10 (by decide) rfl wd_1028 ?_
      refine sm_putI (pc := 30) (ci := 10) (k := 31) ok dm_takesOne_30 rfl rfl zc_i10 zc_y10 zc_t10 zc_n10 (by decide) rfl rfl rfl wd_1034 (fun S_3 => ?_)
      refine sm_aload_n (pc := 33) 0 ok dm_takesOne_33 rfl ?_
      refine sm_callV_v (pc := 34) (ci := 10) [] ok dm_takesOne_34 wd_1441 mwm_goOn rfl rfl (Nat.le_of_ble_eq_true rfl) (Nat.le_of_ble_eq_true rfl) rfl rfl (Nat.le_of_ble_eq_true rfl) (cm_goOn (sm_okj ok) N S_3) (fun S_4 => ?_)
      refine sm_iconst (pc := 37) (1 : Int32) ok dm_takesOne_37 zk_1 ?_
      exact sm_zret (pc := 38) ok dm_takesOne_38 hr rfl
    · refine sm_iconst (pc := 23) (0 : Int32) ok dm_takesOne_23 zk_0 ?_
      exact sm_zret (pc := 24) ok dm_takesOne_24 hr rfl
theorem cm_takesOne {l : Launch} {wc : sm_Wc} (hj : sm_inj zm_sy wc) (N : Nat) (S : sm_St) (v1 : Int32) (v2 : Int32) : sm_Ct l zm_sy wc ym_takesOne prog_12_method_87_code 3 (some .boolean) 4 89 [.ref (wc.2.2 0), .int v1, .int v2] S (sm_Pi zm_sy wc) (pm_takesOne N S v1 v2) :=
  sm_entry (Pq := fun wc => sm_Pi zm_sy wc) (fun wc => [.ref (wc.2.2 0), .int v1, .int v2]) (lv := fun wc => [(0, .ref (wc.2.2 0)), (1, .int v1), (2, .int v2)]) (by decide) hj zm_ok zm_stb (fun _ => Nat.le_of_ble_eq_true rfl) (fun _ => rfl) (fun x _ ok hr => tm_takesOne ok hr N S v1 v2)
set_option maxHeartbeats 4000000 in
set_option maxRecDepth 20000 in
theorem tm_isReadNumber_b34 {x : sm_Cx} (ok : sm_Ok x zm_sy prog_12_method_88_code "LentShadesModel" 2 1 25) (hr : (xh x).sig.returnType = (some .boolean)) (N : Nat) (S : sm_St) : sm_Sm x zm_sy prog_12_method_88_code (sm_Q x zm_sy (sm_Pi zm_sy (xw x))) (pm_isReadNumber_b34 N S) S 34 [] [] := by
  unfold pm_isReadNumber_b34
  refine sm_iconst (pc := 34) (1 : Int32) ok dm_isReadNumber_34 zk_1 ?_
  refine sm_goto (pc := 35) 39 ok dm_isReadNumber_35 (by decide) ?_
  exact sm_zret (pc := 39) ok dm_isReadNumber_39 hr rfl
set_option maxHeartbeats 4000000 in
set_option maxRecDepth 20000 in
theorem tm_isReadNumber {x : sm_Cx} (ok : sm_Ok x zm_sy prog_12_method_88_code "LentShadesModel" 2 1 25) (hr : (xh x).sig.returnType = (some .boolean)) (N : Nat) (S : sm_St) (v1 : Int32) : sm_Sm x zm_sy prog_12_method_88_code (sm_Q x zm_sy (sm_Pi zm_sy (xw x))) (pm_isReadNumber N S v1) S 0 [(0, .ref ((xw x).2.2 0)), (1, .int v1)] [] := by
  unfold pm_isReadNumber
  refine sm_iload_n (pc := 0) 1 ok dm_isReadNumber_0 rfl ?_
  refine sm_i2l (pc := 1) ok dm_isReadNumber_1 ?_
  refine sm_lconst (pc := 2) (0 : Int64) ok dm_isReadNumber_2 zl_0 ?_
  refine sm_aload_n (pc := 3) 0 ok dm_isReadNumber_3 rfl ?_
  refine sm_getI (pc := 4) (ci := 10) (k := 29) ok dm_isReadNumber_4 rfl rfl zc_i10 (by decide) rfl wd_1032 ?_
  refine sm_iconst (pc := 7) (1 : Int32) ok dm_isReadNumber_7 zk_1 ?_
  refine sm_isub (pc := 8) ok dm_isReadNumber_8 ?_
  refine sm_i2l (pc := 9) ok dm_isReadNumber_9 ?_
  refine sm_callS_i (pc := 10) [.long (v1.toInt64), .long (0 : Int64), .long (((S.1 0 29) - (1 : Int32)).toInt64)] ok dm_isReadNumber_10 wd_1105 mwm_in (Nat.le_of_ble_eq_true rfl) (Nat.le_of_ble_eq_true rfl) rfl rfl (Nat.le_of_ble_eq_true rfl) (cm_in (sm_okj ok) N S (v1.toInt64) (0 : Int64) (((S.1 0 29) - (1 : Int32)).toInt64)) (fun r_2 S_1 => ?_)
  refine sm_if_ne (pc := 13) 34 ok dm_isReadNumber_13 (by decide) (fun _ => ?_) (fun _ => ?_)
  · refine sm_lv [] rfl ?_
    exact tm_isReadNumber_b34 ok hr N _
  · refine sm_iload_n (pc := 16) 1 ok dm_isReadNumber_16 rfl ?_
    refine sm_i2l (pc := 17) ok dm_isReadNumber_17 ?_
    refine sm_ldc2 (pc := 18) ok dm_isReadNumber_18 wd_1104 ?_
    refine sm_iconst (pc := 21) (3 : Int32) ok dm_isReadNumber_21 zk_3 ?_
    refine sm_aload_n (pc := 22) 0 ok dm_isReadNumber_22 rfl ?_
    refine sm_getI (pc := 23) (ci := 10) (k := 30) ok dm_isReadNumber_23 rfl rfl zc_i10 (by decide) rfl wd_1033 ?_
    refine sm_iadd (pc := 26) ok dm_isReadNumber_26 ?_
    refine sm_i2l (pc := 27) ok dm_isReadNumber_27 ?_
    refine sm_callS_i (pc := 28) [.long (v1.toInt64), .long (4 : Int64), .long (((3 : Int32) + (S_1.1 0 30)).toInt64)] ok dm_isReadNumber_28 wd_1105 mwm_in (Nat.le_of_ble_eq_true rfl) (Nat.le_of_ble_eq_true rfl) rfl rfl (Nat.le_of_ble_eq_true rfl) (cm_in (sm_okj ok) N S_1 (v1.toInt64) (4 : Int64) (((3 : Int32) + (S_1.1 0 30)).toInt64)) (fun r_4 S_3 => ?_)
    refine sm_if_eq (pc := 31) 38 ok dm_isReadNumber_31 (by decide) (fun _ => ?_) (fun _ => ?_)
    · refine sm_iconst (pc := 38) (0 : Int32) ok dm_isReadNumber_38 zk_0 ?_
      exact sm_zret (pc := 39) ok dm_isReadNumber_39 hr rfl
    · refine sm_lv [] rfl ?_
      exact tm_isReadNumber_b34 ok hr N _
theorem cm_isReadNumber {l : Launch} {wc : sm_Wc} (hj : sm_inj zm_sy wc) (N : Nat) (S : sm_St) (v1 : Int32) : sm_Ct l zm_sy wc ym_isReadNumber prog_12_method_88_code 2 (some .boolean) 1 25 [.ref (wc.2.2 0), .int v1] S (sm_Pi zm_sy wc) (pm_isReadNumber N S v1) :=
  sm_entry (Pq := fun wc => sm_Pi zm_sy wc) (fun wc => [.ref (wc.2.2 0), .int v1]) (lv := fun wc => [(0, .ref (wc.2.2 0)), (1, .int v1)]) (by decide) hj zm_ok zm_stb (fun _ => Nat.le_of_ble_eq_true rfl) (fun _ => rfl) (fun x _ ok hr => tm_isReadNumber ok hr N S v1)
set_option maxHeartbeats 4000000 in
set_option maxRecDepth 20000 in
theorem tm_readsCloth_b75 {x : sm_Cx} (ok : sm_Ok x zm_sy prog_12_method_89_code "LentShadesModel" 3 5 111) (hr : (xh x).sig.returnType = (some .boolean)) (N : Nat) (v1 : Int32) (S : sm_St) : sm_Sm x zm_sy prog_12_method_89_code (sm_Q x zm_sy (sm_Pi zm_sy (xw x))) (pm_readsCloth_b75 N v1 S) S 75 [(0, .ref ((xw x).2.2 0)), (1, .int v1)] [] := by
  unfold pm_readsCloth_b75
  refine sm_aload_n (pc := 75) 0 ok dm_readsCloth_75 rfl ?_
  refine sm_dup (pc := 76) ok dm_readsCloth_76 rfl ?_
  refine sm_getI (pc := 77) (ci := 10) (k := 29) ok dm_readsCloth_77 rfl rfl zc_i10 (by decide) rfl wd_1032 ?_
  refine sm_iconst (pc := 80) (1 : Int32) ok dm_readsCloth_80 zk_1 ?_
  refine sm_iadd (pc := 81) ok dm_readsCloth_81 ?_
  refine sm_putI (pc := 82) (ci := 10) (k := 29) ok dm_readsCloth_82 rfl rfl zc_i10 zc_y10 zc_t10 zc_n10 (by decide) rfl rfl rfl wd_1032 (fun S_9 => ?_)
  refine sm_iload_n (pc := 85) 1 ok dm_readsCloth_85 rfl ?_
  exact sm_zretc (pc := 86) ok dm_readsCloth_86 hr
set_option maxHeartbeats 4000000 in
set_option maxRecDepth 20000 in
theorem tm_readsCloth_b48 {x : sm_Cx} (ok : sm_Ok x zm_sy prog_12_method_89_code "LentShadesModel" 3 5 111) (hr : (xh x).sig.returnType = (some .boolean)) (N : Nat) {r18 : Int32 → Int32 → sm_St → Option (Int32 × sm_St)} (h18 : ∀ (v1 : Int32) (v2 : Int32) (S : sm_St), sm_Sm x zm_sy prog_12_method_89_code (sm_Q x zm_sy (sm_Pi zm_sy (xw x))) (r18 v1 v2 S) S 18 [(0, .ref ((xw x).2.2 0)), (1, .int v1), (2, .int v2)] []) (v2 : Int32) (s1 : Int32) (s2 : Int32) (S : sm_St) : sm_Sm x zm_sy prog_12_method_89_code (sm_Q x zm_sy (sm_Pi zm_sy (xw x))) (pm_readsCloth_b48 N r18 v2 s1 s2 S) S 48 [(0, .ref ((xw x).2.2 0)), (2, .int v2)] [.int s2, .int s1, .ref ((xw x).2.2 0)] := by
  unfold pm_readsCloth_b48
  refine sm_callV_i (pc := 48) (ci := 10) [.int s1, .int s2] ok dm_readsCloth_48 wd_1445 mwm_takesOne rfl rfl (Nat.le_of_ble_eq_true rfl) (Nat.le_of_ble_eq_true rfl) rfl rfl (Nat.le_of_ble_eq_true rfl) (cm_takesOne (sm_okj ok) N S s1 s2) (fun r_5 S_4 => ?_)
  refine sm_istore_n (pc := 51) (i := 1) ok dm_readsCloth_51 rfl (by decide) (fun v => [(1, .int v), (0, .ref ((xw x).2.2 0)), (2, .int v2)]) (fun _ => rfl) (fun v1_6 => ?_)
  refine sm_aload_n (pc := 52) 1 ok dm_readsCloth_52 rfl ?_
  refine sm_getR (pc := 53) (ci := 10) (k := 26) ok dm_readsCloth_53 rfl rfl zc_i10 (by decide) rfl wd_1029 ?_
  refine sm_iconst (pc := 56) (3 : Int32) ok dm_readsCloth_56 zk_3 ?_
  refine sm_aload_n (pc := 57) 1 ok dm_readsCloth_57 rfl ?_
  refine sm_getI (pc := 58) (ci := 10) (k := 29) ok dm_readsCloth_58 rfl rfl zc_i10 (by decide) rfl wd_1032 ?_
  refine sm_imul (pc := 61) ok dm_readsCloth_61 ?_
  refine sm_iload_n (pc := 62) 2 ok dm_readsCloth_62 rfl ?_
  refine sm_iadd (pc := 63) ok dm_readsCloth_63 ?_
  refine sm_aload_n (pc := 64) 1 ok dm_readsCloth_64 rfl ?_
  refine sm_getI (pc := 65) (ci := 10) (k := 31) ok dm_readsCloth_65 rfl rfl zc_i10 (by decide) rfl wd_1034 ?_
  refine sm_iast (pc := 68) ok dm_readsCloth_68 rfl (fun S_7 => ?_)
  refine sm_iinc (pc := 69) (i := 2) 2 (1 : Int32) ok dm_readsCloth_69 rfl zk_1 (by decide) (fun v => [(2, .int v), (1, .int v1_6), (0, .ref ((xw x).2.2 0))]) (fun _ => rfl) (fun v2_8 => ?_)
  refine sm_goto (pc := 72) 18 ok dm_readsCloth_72 (by decide) ?_
  refine sm_lv [2, 1, 0] rfl ?_
  exact h18 _ _ _
set_option maxHeartbeats 4000000 in
set_option maxRecDepth 20000 in
theorem tm_readsCloth_b18 {x : sm_Cx} (ok : sm_Ok x zm_sy prog_12_method_89_code "LentShadesModel" 3 5 111) (hr : (xh x).sig.returnType = (some .boolean)) (N : Nat) : ∀ (n : Nat) (v1 : Int32) (v2 : Int32) (S : sm_St), sm_Sm x zm_sy prog_12_method_89_code (sm_Q x zm_sy (sm_Pi zm_sy (xw x))) (pm_readsCloth_b18 N n v1 v2 S) S 18 [(0, .ref ((xw x).2.2 0)), (1, .int v1), (2, .int v2)] [] := by
  intro n
  induction n with
  | zero =>
    intro v1 v2 S
    exact sm_none
  | succ n ih =>
    intro v1 v2 S
    show sm_Sm x zm_sy prog_12_method_89_code (sm_Q x zm_sy (sm_Pi zm_sy (xw x))) (if (3 : Int32) ≤ v2 then (pm_readsCloth_b75 N v1 S) else (if v1 = 0 then (pm_readsCloth_b75 N v1 S) else (if v2 = 0 then (pm_readsCloth_b48 N (pm_readsCloth_b18 N n) v2 (0 : Int32) (4 : Int32) S) else (if v2 = (1 : Int32) then (pm_readsCloth_b48 N (pm_readsCloth_b18 N n) v2 (0 : Int32) (3 : Int32) S) else (pm_readsCloth_b48 N (pm_readsCloth_b18 N n) v2 (0 : Int32) (12 : Int32) S))))) S 18 [(0, .ref ((xw x).2.2 0)), (1, .int v1), (2, .int v2)] []
    refine sm_iload_n (pc := 18) 2 ok dm_readsCloth_18 rfl ?_
    refine sm_iconst (pc := 19) (3 : Int32) ok dm_readsCloth_19 zk_3 ?_
    refine sm_icmp_ge (pc := 20) 75 ok dm_readsCloth_20 (by decide) (fun _ => ?_) (fun _ => ?_)
    · refine sm_lv [0, 1] rfl ?_
      exact tm_readsCloth_b75 ok hr N _ _
    · refine sm_iload_n (pc := 23) 1 ok dm_readsCloth_23 rfl ?_
      refine sm_if_eq (pc := 24) 75 ok dm_readsCloth_24 (by decide) (fun _ => ?_) (fun _ => ?_)
      · refine sm_lv [0, 1] rfl ?_
        exact tm_readsCloth_b75 ok hr N _ _
      · refine sm_aload_n (pc := 27) 0 ok dm_readsCloth_27 rfl ?_
        refine sm_iconst (pc := 28) (0 : Int32) ok dm_readsCloth_28 zk_0 ?_
        refine sm_iload_n (pc := 29) 2 ok dm_readsCloth_29 rfl ?_
        refine sm_if_ne (pc := 30) 37 ok dm_readsCloth_30 (by decide) (fun _ => ?_) (fun _ => ?_)
        · refine sm_iload_n (pc := 37) 2 ok dm_readsCloth_37 rfl ?_
          refine sm_iconst (pc := 38) (1 : Int32) ok dm_readsCloth_38 zk_1 ?_
          refine sm_icmp_ne (pc := 39) 46 ok dm_readsCloth_39 (by decide) (fun _ => ?_) (fun _ => ?_)
          · refine sm_bipush (pc := 46) (12 : Int32) ok dm_readsCloth_46 zb_12 ?_
            refine sm_lv [0, 2] rfl ?_
            exact tm_readsCloth_b48 ok hr N ih _ _ _ _
          · refine sm_iconst (pc := 42) (3 : Int32) ok dm_readsCloth_42 zk_3 ?_
            refine sm_goto (pc := 43) 48 ok dm_readsCloth_43 (by decide) ?_
            refine sm_lv [0, 2] rfl ?_
            exact tm_readsCloth_b48 ok hr N ih _ _ _ _
        · refine sm_iconst (pc := 33) (4 : Int32) ok dm_readsCloth_33 zk_4 ?_
          refine sm_goto (pc := 34) 48 ok dm_readsCloth_34 (by decide) ?_
          refine sm_lv [0, 2] rfl ?_
          exact tm_readsCloth_b48 ok hr N ih _ _ _ _
set_option maxHeartbeats 4000000 in
set_option maxRecDepth 20000 in
theorem tm_readsCloth {x : sm_Cx} (ok : sm_Ok x zm_sy prog_12_method_89_code "LentShadesModel" 3 5 111) (hr : (xh x).sig.returnType = (some .boolean)) (N : Nat) (S : sm_St) : sm_Sm x zm_sy prog_12_method_89_code (sm_Q x zm_sy (sm_Pi zm_sy (xw x))) (pm_readsCloth N S) S 0 [(0, .ref ((xw x).2.2 0))] [] := by
  unfold pm_readsCloth
  refine sm_aload_n (pc := 0) 0 ok dm_readsCloth_0 rfl ?_
  refine sm_getI (pc := 1) (ci := 10) (k := 29) ok dm_readsCloth_1 rfl rfl zc_i10 (by decide) rfl wd_1032 ?_
  refine sm_iconst (pc := 4) (4 : Int32) ok dm_readsCloth_4 zk_4 ?_
  refine sm_icmp_ne (pc := 5) 10 ok dm_readsCloth_5 (by decide) (fun _ => ?_) (fun _ => ?_)
  · refine sm_aload_n (pc := 10) 0 ok dm_readsCloth_10 rfl ?_
    refine sm_callV_v (pc := 11) (ci := 10) [] ok dm_readsCloth_11 wd_1441 mwm_goOn rfl rfl (Nat.le_of_ble_eq_true rfl) (Nat.le_of_ble_eq_true rfl) rfl rfl (Nat.le_of_ble_eq_true rfl) (cm_goOn (sm_okj ok) N S) (fun S_1 => ?_)
    refine sm_iconst (pc := 14) (1 : Int32) ok dm_readsCloth_14 zk_1 ?_
    refine sm_istore_n (pc := 15) (i := 1) ok dm_readsCloth_15 rfl (by decide) (fun v => [(1, .int v), (0, .ref ((xw x).2.2 0))]) (fun _ => rfl) (fun v1_2 => ?_)
    refine sm_iconst (pc := 16) (0 : Int32) ok dm_readsCloth_16 zk_0 ?_
    refine sm_istore_n (pc := 17) (i := 2) ok dm_readsCloth_17 rfl (by decide) (fun v => [(2, .int v), (1, .int v1_2), (0, .ref ((xw x).2.2 0))]) (fun _ => rfl) (fun v2_3 => ?_)
    refine sm_lv [2, 1, 0] rfl ?_
    exact tm_readsCloth_b18 ok hr N N _ _ _
  · refine sm_iconst (pc := 8) (0 : Int32) ok dm_readsCloth_8 zk_0 ?_
    exact sm_zret (pc := 9) ok dm_readsCloth_9 hr rfl
theorem cm_readsCloth {l : Launch} {wc : sm_Wc} (hj : sm_inj zm_sy wc) (N : Nat) (S : sm_St) : sm_Ct l zm_sy wc ym_readsCloth prog_12_method_89_code 3 (some .boolean) 5 111 [.ref (wc.2.2 0)] S (sm_Pi zm_sy wc) (pm_readsCloth N S) :=
  sm_entry (Pq := fun wc => sm_Pi zm_sy wc) (fun wc => [.ref (wc.2.2 0)]) (lv := fun wc => [(0, .ref (wc.2.2 0))]) (by decide) hj zm_ok zm_stb (fun _ => Nat.le_of_ble_eq_true rfl) (fun _ => rfl) (fun x _ ok hr => tm_readsCloth ok hr N S)
