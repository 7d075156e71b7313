set_option maxHeartbeats 4000000 in
set_option maxRecDepth 20000 in
theorem tm_productBy_b116 {x : sm_Cx} (ok : sm_Ok x zm_sy prog_12_method_54_code "LentShadesModel" 8 0 0) (hr : (xh x).sig.returnType = (some .long)) (N : Nat) {r8 : Int32 → Int32 → Int64 → Int32 → sm_St → Option (Int64 × sm_St)} {r63 : Int32 → Int32 → Int64 → Int32 → Int32 → sm_St → Option (Int64 × sm_St)} (h8 : ∀ (v2 : Int32) (v3 : Int32) (v4 : Int64) (v6 : Int32) (S : sm_St), sm_Sm x zm_sy prog_12_method_54_code (sm_Q x zm_sy (sm_Pl zm_sy (xw x))) (r8 v2 v3 v4 v6 S) S 8 [(0, .ref ((xw x).2.2 0)), (2, .int v2), (3, .int v3), (4, .long v4), (6, .int v6)] []) (h63 : ∀ (v2 : Int32) (v3 : Int32) (v4 : Int64) (v6 : Int32) (v7 : Int32) (S : sm_St), sm_Sm x zm_sy prog_12_method_54_code (sm_Q x zm_sy (sm_Pl zm_sy (xw x))) (r63 v2 v3 v4 v6 v7 S) S 63 [(0, .ref ((xw x).2.2 0)), (2, .int v2), (3, .int v3), (4, .long v4), (6, .int v6), (7, .int v7)] []) (v2 : Int32) (v3 : Int32) (v6 : Int32) (v7 : Int32) (s0 : Int64) (S : sm_St) : sm_Sm x zm_sy prog_12_method_54_code (sm_Q x zm_sy (sm_Pl zm_sy (xw x))) (pm_productBy_b116 N r8 r63 v2 v3 v6 v7 s0 S) S 116 [(0, .ref ((xw x).2.2 0)), (2, .int v2), (3, .int v3), (6, .int v6), (7, .int v7)] [.long s0] := by
  unfold pm_productBy_b116
  refine sm_lstore (pc := 116) (i := 4) ok dm_productBy_116 (by decide) (fun v => [(4, .long v), (0, .ref ((xw x).2.2 0)), (2, .int v2), (3, .int v3), (6, .int v6), (7, .int v7)]) (fun _ => rfl) (fun v4_9 => ?_)
  refine sm_iinc (pc := 118) (i := 7) 5 (1 : Int32) ok dm_productBy_118 rfl zk_1 (by decide) (fun v => [(7, .int v), (4, .long v4_9), (0, .ref ((xw x).2.2 0)), (2, .int v2), (3, .int v3), (6, .int v6)]) (fun _ => rfl) (fun v7_10 => ?_)
  refine sm_goto (pc := 121) 63 ok dm_productBy_121 (by decide) ?_
  refine sm_lv [2, 3, 4, 1, 5, 0] rfl ?_
  exact h63 _ _ _ _ _ _
set_option maxHeartbeats 4000000 in
set_option maxRecDepth 20000 in
theorem tm_productBy_b63 {x : sm_Cx} (ok : sm_Ok x zm_sy prog_12_method_54_code "LentShadesModel" 8 0 0) (hr : (xh x).sig.returnType = (some .long)) (N : Nat) {r8 : Int32 → Int32 → Int64 → Int32 → sm_St → Option (Int64 × sm_St)} (h8 : ∀ (v2 : Int32) (v3 : Int32) (v4 : Int64) (v6 : Int32) (S : sm_St), sm_Sm x zm_sy prog_12_method_54_code (sm_Q x zm_sy (sm_Pl zm_sy (xw x))) (r8 v2 v3 v4 v6 S) S 8 [(0, .ref ((xw x).2.2 0)), (2, .int v2), (3, .int v3), (4, .long v4), (6, .int v6)] []) : ∀ (n : Nat) (v2 : Int32) (v3 : Int32) (v4 : Int64) (v6 : Int32) (v7 : Int32) (S : sm_St), sm_Sm x zm_sy prog_12_method_54_code (sm_Q x zm_sy (sm_Pl zm_sy (xw x))) (pm_productBy_b63 N r8 n v2 v3 v4 v6 v7 S) S 63 [(0, .ref ((xw x).2.2 0)), (2, .int v2), (3, .int v3), (4, .long v4), (6, .int v6), (7, .int v7)] [] := by
  intro n
  induction n with
  | zero =>
    intro v2 v3 v4 v6 v7 S
    exact sm_none
  | succ n ih =>
    intro v2 v3 v4 v6 v7 S
    show sm_Sm x zm_sy prog_12_method_54_code (sm_Q x zm_sy (sm_Pl zm_sy (xw x))) (if v6 ≤ v7 then (sm_lt (v6 + (1 : Int32)) (fun (v6_8 : Int32) => r8 v2 v3 v4 v6_8 S)) else (if sm_in v7 4 = true then (if sm_in v6 4 = true then (if (S.1 12 v7.toNatClampNeg) = (S.1 12 v6.toNatClampNeg) then (pm_productBy_b116 N r8 (pm_productBy_b63 N r8 n) v2 v3 v6 v7 (0 : Int64) S) else (if sm_in v7 4 = true then (if sm_in v6 4 = true then (if (S.1 12 v7.toNatClampNeg) ≤ (S.1 12 v6.toNatClampNeg) then (pm_productBy_b116 N r8 (pm_productBy_b63 N r8 n) v2 v3 v6 v7 v4 S) else (pm_productBy_b116 N r8 (pm_productBy_b63 N r8 n) v2 v3 v6 v7 (-v4) S)) else none) else none)) else none) else none)) S 63 [(0, .ref ((xw x).2.2 0)), (2, .int v2), (3, .int v3), (4, .long v4), (6, .int v6), (7, .int v7)] []
    refine sm_iload (pc := 63) 5 ok dm_productBy_63 rfl ?_
    refine sm_iload (pc := 65) 4 ok dm_productBy_65 rfl ?_
    refine sm_icmp_ge (pc := 67) 124 ok dm_productBy_67 (by decide) (fun _ => ?_) (fun _ => ?_)
    · refine sm_iinc (pc := 124) (i := 6) 4 (1 : Int32) ok dm_productBy_124 rfl zk_1 (by decide) (fun v => [(6, .int v), (0, .ref ((xw x).2.2 0)), (2, .int v2), (3, .int v3), (4, .long v4), (7, .int v7)]) (fun _ => rfl) (fun v6_8 => ?_)
      refine sm_goto (pc := 127) 8 ok dm_productBy_127 (by decide) ?_
      refine sm_lv [1, 2, 3, 4, 0] rfl ?_
      exact h8 _ _ _ _ _
    · refine sm_aload_n (pc := 70) 0 ok dm_productBy_70 rfl ?_
      refine sm_getR (pc := 71) (ci := 10) (k := 12) ok dm_productBy_71 rfl rfl zc_i10 (by decide) rfl wd_1015 ?_
      refine sm_iload (pc := 74) 5 ok dm_productBy_74 rfl ?_
      refine sm_iald (pc := 76) ok dm_productBy_76 rfl ?_
      refine sm_aload_n (pc := 77) 0 ok dm_productBy_77 rfl ?_
      refine sm_getR (pc := 78) (ci := 10) (k := 12) ok dm_productBy_78 rfl rfl zc_i10 (by decide) rfl wd_1015 ?_
      refine sm_iload (pc := 81) 4 ok dm_productBy_81 rfl ?_
      refine sm_iald (pc := 83) ok dm_productBy_83 rfl ?_
      refine sm_icmp_ne (pc := 84) 91 ok dm_productBy_84 (by decide) (fun _ => ?_) (fun _ => ?_)
      · refine sm_aload_n (pc := 91) 0 ok dm_productBy_91 rfl ?_
        refine sm_getR (pc := 92) (ci := 10) (k := 12) ok dm_productBy_92 rfl rfl zc_i10 (by decide) rfl wd_1015 ?_
        refine sm_iload (pc := 95) 5 ok dm_productBy_95 rfl ?_
        refine sm_iald (pc := 97) ok dm_productBy_97 rfl ?_
        refine sm_aload_n (pc := 98) 0 ok dm_productBy_98 rfl ?_
        refine sm_getR (pc := 99) (ci := 10) (k := 12) ok dm_productBy_99 rfl rfl zc_i10 (by decide) rfl wd_1015 ?_
        refine sm_iload (pc := 102) 4 ok dm_productBy_102 rfl ?_
        refine sm_iald (pc := 104) ok dm_productBy_104 rfl ?_
        refine sm_icmp_le (pc := 105) 114 ok dm_productBy_105 (by decide) (fun _ => ?_) (fun _ => ?_)
        · refine sm_lload (pc := 114) 3 ok dm_productBy_114 rfl ?_
          refine sm_lv [0, 1, 2, 4, 5] rfl ?_
          exact tm_productBy_b116 ok hr N h8 ih _ _ _ _ _ _
        · refine sm_lload (pc := 108) 3 ok dm_productBy_108 rfl ?_
          refine sm_lneg (pc := 110) ok dm_productBy_110 ?_
          refine sm_goto (pc := 111) 116 ok dm_productBy_111 (by decide) ?_
          refine sm_lv [0, 1, 2, 4, 5] rfl ?_
          exact tm_productBy_b116 ok hr N h8 ih _ _ _ _ _ _
      · refine sm_lconst (pc := 87) (0 : Int64) ok dm_productBy_87 zl_0 ?_
        refine sm_goto (pc := 88) 116 ok dm_productBy_88 (by decide) ?_
        refine sm_lv [0, 1, 2, 4, 5] rfl ?_
        exact tm_productBy_b116 ok hr N h8 ih _ _ _ _ _ _
set_option maxHeartbeats 4000000 in
set_option maxRecDepth 20000 in
theorem tm_productBy_b8 {x : sm_Cx} (ok : sm_Ok x zm_sy prog_12_method_54_code "LentShadesModel" 8 0 0) (hr : (xh x).sig.returnType = (some .long)) (N : Nat) : ∀ (n : Nat) (v2 : Int32) (v3 : Int32) (v4 : Int64) (v6 : Int32) (S : sm_St), sm_Sm x zm_sy prog_12_method_54_code (sm_Q x zm_sy (sm_Pl zm_sy (xw x))) (pm_productBy_b8 N n v2 v3 v4 v6 S) S 8 [(0, .ref ((xw x).2.2 0)), (2, .int v2), (3, .int v3), (4, .long v4), (6, .int v6)] [] := by
  intro n
  induction n with
  | zero =>
    intro v2 v3 v4 v6 S
    exact sm_none
  | succ n ih =>
    intro v2 v3 v4 v6 S
    show sm_Sm x zm_sy prog_12_method_54_code (sm_Q x zm_sy (sm_Pl zm_sy (xw x))) (if v2 ≤ v6 then (some (v4, S)) else (if v2 = 0 then none else (if sm_in v6 4 = true then sm_lt (sm_sI S 12 v6.toNatClampNeg (v3 - v3 / v2 * v2)) (fun (S_4 : sm_St) => if v2 = 0 then none else (sm_lt (v3 / v2) (fun (v3_5 : Int32) => if sm_in v6 4 = true then (if sm_in v6 4 = true then (if sm_in (S_4.1 12 v6.toNatClampNeg) 4 = true then (if sm_in (((4 : Int32) * (S_4.1 10 v6.toNatClampNeg)) + (S_4.1 11 (S_4.1 12 v6.toNatClampNeg).toNatClampNeg)) 16 = true then (sm_lt (v4 * (S_4.2.1 9 (((4 : Int32) * (S_4.1 10 v6.toNatClampNeg)) + (S_4.1 11 (S_4.1 12 v6.toNatClampNeg).toNatClampNeg)).toNatClampNeg)) (fun (v4_6 : Int64) => sm_lt (0 : Int32) (fun (v7_7 : Int32) => pm_productBy_b63 N (pm_productBy_b8 N n) N v2 v3_5 v4_6 v6 v7_7 S_4))) else none) else none) else none) else none))) else none))) S 8 [(0, .ref ((xw x).2.2 0)), (2, .int v2), (3, .int v3), (4, .long v4), (6, .int v6)] []
    refine sm_iload (pc := 8) 4 ok dm_productBy_8 rfl ?_
    refine sm_iload_n (pc := 10) 1 ok dm_productBy_10 rfl ?_
    refine sm_icmp_ge (pc := 11) 130 ok dm_productBy_11 (by decide) (fun _ => ?_) (fun _ => ?_)
    · refine sm_lload (pc := 130) 3 ok dm_productBy_130 rfl ?_
      exact sm_lret (pc := 132) ok dm_productBy_132 hr
    · refine sm_aload_n (pc := 14) 0 ok dm_productBy_14 rfl ?_
      refine sm_getR (pc := 15) (ci := 10) (k := 12) ok dm_productBy_15 rfl rfl zc_i10 (by decide) rfl wd_1015 ?_
      refine sm_iload (pc := 18) 4 ok dm_productBy_18 rfl ?_
      refine sm_iload_n (pc := 20) 2 ok dm_productBy_20 rfl ?_
      refine sm_iload_n (pc := 21) 1 ok dm_productBy_21 rfl ?_
      refine sm_irem (pc := 22) ok dm_productBy_22 ?_
      refine sm_iast (pc := 23) ok dm_productBy_23 rfl (fun S_4 => ?_)
      refine sm_iload_n (pc := 24) 2 ok dm_productBy_24 rfl ?_
      refine sm_iload_n (pc := 25) 1 ok dm_productBy_25 rfl ?_
      refine sm_idiv (pc := 26) ok dm_productBy_26 ?_
      refine sm_istore_n (pc := 27) (i := 3) ok dm_productBy_27 rfl (by decide) (fun v => [(3, .int v), (0, .ref ((xw x).2.2 0)), (2, .int v2), (4, .long v4), (6, .int v6)]) (fun _ => rfl) (fun v3_5 => ?_)
      refine sm_lload (pc := 28) 3 ok dm_productBy_28 rfl ?_
      refine sm_aload_n (pc := 30) 1 ok dm_productBy_30 rfl ?_
      refine sm_getR (pc := 31) (ci := 10) (k := 9) ok dm_productBy_31 rfl rfl zc_i10 (by decide) rfl wd_1012 ?_
      refine sm_iconst (pc := 34) (4 : Int32) ok dm_productBy_34 zk_4 ?_
      refine sm_aload_n (pc := 35) 1 ok dm_productBy_35 rfl ?_
      refine sm_getR (pc := 36) (ci := 10) (k := 10) ok dm_productBy_36 rfl rfl zc_i10 (by decide) rfl wd_1013 ?_
      refine sm_iload (pc := 39) 4 ok dm_productBy_39 rfl ?_
      refine sm_iald (pc := 41) ok dm_productBy_41 rfl ?_
      refine sm_imul (pc := 42) ok dm_productBy_42 ?_
      refine sm_aload_n (pc := 43) 1 ok dm_productBy_43 rfl ?_
      refine sm_getR (pc := 44) (ci := 10) (k := 11) ok dm_productBy_44 rfl rfl zc_i10 (by decide) rfl wd_1014 ?_
      refine sm_aload_n (pc := 47) 1 ok dm_productBy_47 rfl ?_
      refine sm_getR (pc := 48) (ci := 10) (k := 12) ok dm_productBy_48 rfl rfl zc_i10 (by decide) rfl wd_1015 ?_
      refine sm_iload (pc := 51) 4 ok dm_productBy_51 rfl ?_
      refine sm_iald (pc := 53) ok dm_productBy_53 rfl ?_
      refine sm_iald (pc := 54) ok dm_productBy_54 rfl ?_
      refine sm_iadd (pc := 55) ok dm_productBy_55 ?_
      refine sm_lald (pc := 56) ok dm_productBy_56 rfl ?_
      refine sm_lmul (pc := 57) ok dm_productBy_57 ?_
      refine sm_lstore (pc := 58) (i := 4) ok dm_productBy_58 (by decide) (fun v => [(4, .long v), (3, .int v3_5), (0, .ref ((xw x).2.2 0)), (2, .int v2), (6, .int v6)]) (fun _ => rfl) (fun v4_6 => ?_)
      refine sm_iconst (pc := 60) (0 : Int32) ok dm_productBy_60 zk_0 ?_
      refine sm_istore (pc := 61) (i := 7) ok dm_productBy_61 (by decide) (fun v => [(7, .int v), (4, .long v4_6), (3, .int v3_5), (0, .ref ((xw x).2.2 0)), (2, .int v2), (6, .int v6)]) (fun _ => rfl) (fun v7_7 => ?_)
      refine sm_lv [3, 4, 2, 1, 5, 0] rfl ?_
      exact tm_productBy_b63 ok hr N ih N _ _ _ _ _ _
set_option maxHeartbeats 4000000 in
set_option maxRecDepth 20000 in
theorem tm_productBy {x : sm_Cx} (ok : sm_Ok x zm_sy prog_12_method_54_code "LentShadesModel" 8 0 0) (hr : (xh x).sig.returnType = (some .long)) (N : Nat) (S : sm_St) (v1 : Int32) (v2 : Int32) : sm_Sm x zm_sy prog_12_method_54_code (sm_Q x zm_sy (sm_Pl zm_sy (xw x))) (pm_productBy N S v1 v2) S 0 [(0, .ref ((xw x).2.2 0)), (1, .int v1), (2, .int v2)] [] := by
  unfold pm_productBy
  refine sm_iload_n (pc := 0) 1 ok dm_productBy_0 rfl ?_
  refine sm_istore_n (pc := 1) (i := 3) ok dm_productBy_1 rfl (by decide) (fun v => [(3, .int v), (0, .ref ((xw x).2.2 0)), (1, .int v1), (2, .int v2)]) (fun _ => rfl) (fun v3_1 => ?_)
  refine sm_lconst (pc := 2) (1 : Int64) ok dm_productBy_2 zl_1 ?_
  refine sm_lstore (pc := 3) (i := 4) ok dm_productBy_3 (by decide) (fun v => [(4, .long v), (3, .int v3_1), (0, .ref ((xw x).2.2 0)), (1, .int v1), (2, .int v2)]) (fun _ => rfl) (fun v4_2 => ?_)
  refine sm_iconst (pc := 5) (0 : Int32) ok dm_productBy_5 zk_0 ?_
  refine sm_istore (pc := 6) (i := 6) ok dm_productBy_6 (by decide) (fun v => [(6, .int v), (4, .long v4_2), (3, .int v3_1), (0, .ref ((xw x).2.2 0)), (1, .int v1), (2, .int v2)]) (fun _ => rfl) (fun v6_3 => ?_)
  refine sm_lv [3, 5, 2, 1, 0] rfl ?_
  exact tm_productBy_b8 ok hr N N _ _ _ _ _
theorem cm_productBy {l : Launch} {wc : sm_Wc} (hj : sm_inj zm_sy wc) (N : Nat) (S : sm_St) (v1 : Int32) (v2 : Int32) : sm_Ct l zm_sy wc ym_productBy prog_12_method_54_code 8 (some .long) 0 0 [.ref (wc.2.2 0), .int v1, .int v2] S (sm_Pl zm_sy wc) (pm_productBy N S v1 v2) :=
  sm_entry (Pq := fun wc => sm_Pl zm_sy wc) (fun wc => [.ref (wc.2.2 0), .int v1, .int v2]) (lv := fun wc => [(0, .ref (wc.2.2 0)), (1, .int v1), (2, .int v2)]) (by decide) hj zm_ok zm_stb (fun _ => Nat.le_of_ble_eq_true rfl) (fun _ => rfl) (fun x _ ok hr => tm_productBy ok hr N S v1 v2)
set_option maxHeartbeats 4000000 in
set_option maxRecDepth 20000 in
theorem tm_whole_b89 {x : sm_Cx} (ok : sm_Ok x zm_sy prog_12_method_53_code "LentShadesModel" 8 1 27) (hr : (xh x).sig.returnType = (some .long)) (N : Nat) : ∀ (n : Nat) (v3 : Int32) (v4 : Int32) (v5 : Int64) (v7 : Int32) (S : sm_St), sm_Sm x zm_sy prog_12_method_53_code (sm_Q x zm_sy (sm_Pl zm_sy (xw x))) (pm_whole_b89 N n v3 v4 v5 v7 S) S 89 [(0, .ref ((xw x).2.2 0)), (3, .int v3), (4, .int v4), (5, .long v5), (7, .int v7)] [] := by
  intro n
  induction n with
  | zero =>
    intro v3 v4 v5 v7 S
    exact sm_none
  | succ n ih =>
    intro v3 v4 v5 v7 S
    show sm_Sm x zm_sy prog_12_method_53_code (sm_Q x zm_sy (sm_Pl zm_sy (xw x))) (if v4 ≤ v7 then (some (v5, S)) else (sm_b2 (pm_productBy N S v7 v3) (fun (r_15 : Int64) (S_14 : sm_St) => sm_lt (v5 + r_15) (fun (v5_16 : Int64) => sm_lt (v7 + (1 : Int32)) (fun (v7_17 : Int32) => (pm_whole_b89 N n) v3 v4 v5_16 v7_17 S_14))))) S 89 [(0, .ref ((xw x).2.2 0)), (3, .int v3), (4, .int v4), (5, .long v5), (7, .int v7)] []
    refine sm_iload (pc := 89) 4 ok dm_whole_89 rfl ?_
    refine sm_iload (pc := 91) 2 ok dm_whole_91 rfl ?_
    refine sm_icmp_ge (pc := 93) 114 ok dm_whole_93 (by decide) (fun _ => ?_) (fun _ => ?_)
    · refine sm_lload (pc := 114) 3 ok dm_whole_114 rfl ?_
      exact sm_lret (pc := 116) ok dm_whole_116 hr
    · refine sm_lload (pc := 96) 3 ok dm_whole_96 rfl ?_
      refine sm_aload_n (pc := 98) 0 ok dm_whole_98 rfl ?_
      refine sm_iload (pc := 99) 4 ok dm_whole_99 rfl ?_
      refine sm_iload_n (pc := 101) 1 ok dm_whole_101 rfl ?_
      refine sm_callV_l (pc := 102) (ci := 10) [.int v7, .int v3] ok dm_whole_102 wd_1301 mwm_productBy rfl rfl (Nat.le_of_ble_eq_true rfl) (Nat.le_of_ble_eq_true rfl) rfl rfl (Nat.le_of_ble_eq_true rfl) (cm_productBy (sm_okj ok) N S v7 v3) (fun r_15 S_14 => ?_)
      refine sm_ladd (pc := 105) ok dm_whole_105 ?_
      refine sm_lstore (pc := 106) (i := 5) ok dm_whole_106 (by decide) (fun v => [(5, .long v), (0, .ref ((xw x).2.2 0)), (3, .int v3), (4, .int v4), (7, .int v7)]) (fun _ => rfl) (fun v5_16 => ?_)
      refine sm_iinc (pc := 108) (i := 7) 4 (1 : Int32) ok dm_whole_108 rfl zk_1 (by decide) (fun v => [(7, .int v), (5, .long v5_16), (0, .ref ((xw x).2.2 0)), (3, .int v3), (4, .int v4)]) (fun _ => rfl) (fun v7_17 => ?_)
      refine sm_goto (pc := 111) 89 ok dm_whole_111 (by decide) ?_
      refine sm_lv [2, 3, 4, 1, 0] rfl ?_
      exact ih _ _ _ _ _
set_option maxHeartbeats 4000000 in
set_option maxRecDepth 20000 in
theorem tm_whole_b81 {x : sm_Cx} (ok : sm_Ok x zm_sy prog_12_method_53_code "LentShadesModel" 8 1 27) (hr : (xh x).sig.returnType = (some .long)) (N : Nat) (v3 : Int32) (s0 : Int32) (S : sm_St) : sm_Sm x zm_sy prog_12_method_53_code (sm_Q x zm_sy (sm_Pl zm_sy (xw x))) (pm_whole_b81 N v3 s0 S) S 81 [(0, .ref ((xw x).2.2 0)), (3, .int v3)] [.int s0] := by
  unfold pm_whole_b81
  refine sm_istore (pc := 81) (i := 4) ok dm_whole_81 (by decide) (fun v => [(4, .int v), (0, .ref ((xw x).2.2 0)), (3, .int v3)]) (fun _ => rfl) (fun v4_11 => ?_)
  refine sm_lconst (pc := 83) (0 : Int64) ok dm_whole_83 zl_0 ?_
  refine sm_lstore (pc := 84) (i := 5) ok dm_whole_84 (by decide) (fun v => [(5, .long v), (4, .int v4_11), (0, .ref ((xw x).2.2 0)), (3, .int v3)]) (fun _ => rfl) (fun v5_12 => ?_)
  refine sm_iconst (pc := 86) (0 : Int32) ok dm_whole_86 zk_0 ?_
  refine sm_istore (pc := 87) (i := 7) ok dm_whole_87 (by decide) (fun v => [(7, .int v), (5, .long v5_12), (4, .int v4_11), (0, .ref ((xw x).2.2 0)), (3, .int v3)]) (fun _ => rfl) (fun v7_13 => ?_)
  refine sm_lv [3, 4, 2, 1, 0] rfl ?_
  exact tm_whole_b89 ok hr N N _ _ _ _ _
set_option maxHeartbeats 4000000 in
set_option maxRecDepth 20000 in
theorem tm_whole_b62 {x : sm_Cx} (ok : sm_Ok x zm_sy prog_12_method_53_code "LentShadesModel" 8 1 27) (hr : (xh x).sig.returnType = (some .long)) (N : Nat) {r39 : Int32 → Int32 → Int32 → sm_St → Option (Int64 × sm_St)} (h39 : ∀ (v2 : Int32) (v3 : Int32) (v4 : Int32) (S : sm_St), sm_Sm x zm_sy prog_12_method_53_code (sm_Q x zm_sy (sm_Pl zm_sy (xw x))) (r39 v2 v3 v4 S) S 39 [(0, .ref ((xw x).2.2 0)), (2, .int v2), (3, .int v3), (4, .int v4)] []) (v2 : Int32) (v3 : Int32) (v4 : Int32) (S : sm_St) : sm_Sm x zm_sy prog_12_method_53_code (sm_Q x zm_sy (sm_Pl zm_sy (xw x))) (pm_whole_b62 N r39 v2 v3 v4 S) S 62 [(0, .ref ((xw x).2.2 0)), (2, .int v2), (3, .int v3), (4, .int v4)] [] := by
  unfold pm_whole_b62
  refine sm_iinc (pc := 62) (i := 4) 3 (1 : Int32) ok dm_whole_62 rfl zk_1 (by decide) (fun v => [(4, .int v), (0, .ref ((xw x).2.2 0)), (2, .int v2), (3, .int v3)]) (fun _ => rfl) (fun v4_10 => ?_)
  refine sm_goto (pc := 65) 39 ok dm_whole_65 (by decide) ?_
  refine sm_lv [1, 2, 3, 0] rfl ?_
  exact h39 _ _ _ _
set_option maxHeartbeats 4000000 in
set_option maxRecDepth 20000 in
theorem tm_whole_b39 {x : sm_Cx} (ok : sm_Ok x zm_sy prog_12_method_53_code "LentShadesModel" 8 1 27) (hr : (xh x).sig.returnType = (some .long)) (N : Nat) : ∀ (n : Nat) (v2 : Int32) (v3 : Int32) (v4 : Int32) (S : sm_St), sm_Sm x zm_sy prog_12_method_53_code (sm_Q x zm_sy (sm_Pl zm_sy (xw x))) (pm_whole_b39 N n v2 v3 v4 S) S 39 [(0, .ref ((xw x).2.2 0)), (2, .int v2), (3, .int v3), (4, .int v4)] [] := by
  intro n
  induction n with
  | zero =>
    intro v2 v3 v4 S
    exact sm_none
  | succ n ih =>
    intro v2 v3 v4 S
    show sm_Sm x zm_sy prog_12_method_53_code (sm_Q x zm_sy (sm_Pl zm_sy (xw x))) (if (4 : Int32) ≤ v4 then (if v3 = (4 : Int32) then (pm_whole_b81 N v3 (256 : Int32) S) else (pm_whole_b81 N v3 (27 : Int32) S)) else (if v4 = v2 then (pm_whole_b62 N (pm_whole_b39 N n) v2 v3 v4 S) else (if sm_in v3 4 = true then sm_lt (sm_sI S 11 v3.toNatClampNeg v4) (fun (S_8 : sm_St) => sm_lt (v3 + (1 : Int32)) (fun (v3_9 : Int32) => pm_whole_b62 N (pm_whole_b39 N n) v2 v3_9 v4 S_8)) else none))) S 39 [(0, .ref ((xw x).2.2 0)), (2, .int v2), (3, .int v3), (4, .int v4)] []
    refine sm_iload (pc := 39) 3 ok dm_whole_39 rfl ?_
    refine sm_iconst (pc := 41) (4 : Int32) ok dm_whole_41 zk_4 ?_
    refine sm_icmp_ge (pc := 42) 68 ok dm_whole_42 (by decide) (fun _ => ?_) (fun _ => ?_)
    · refine sm_iload_n (pc := 68) 2 ok dm_whole_68 rfl ?_
      refine sm_iconst (pc := 69) (4 : Int32) ok dm_whole_69 zk_4 ?_
      refine sm_icmp_ne (pc := 70) 79 ok dm_whole_70 (by decide) (fun _ => ?_) (fun _ => ?_)
      · refine sm_bipush (pc := 79) (27 : Int32) ok dm_whole_79 zb_27 ?_
        refine sm_lv [0, 2] rfl ?_
        exact tm_whole_b81 ok hr N _ _ _
      · refine sm_sipush (pc := 73) (256 : Int32) ok dm_whole_73 zs_256 ?_
        refine sm_goto (pc := 76) 81 ok dm_whole_76 (by decide) ?_
        refine sm_lv [0, 2] rfl ?_
        exact tm_whole_b81 ok hr N _ _ _
    · refine sm_iload (pc := 45) 3 ok dm_whole_45 rfl ?_
      refine sm_iload_n (pc := 47) 1 ok dm_whole_47 rfl ?_
      refine sm_icmp_eq (pc := 48) 62 ok dm_whole_48 (by decide) (fun _ => ?_) (fun _ => ?_)
      · exact tm_whole_b62 ok hr N ih _ _ _ _
      · refine sm_aload_n (pc := 51) 0 ok dm_whole_51 rfl ?_
        refine sm_getR (pc := 52) (ci := 10) (k := 11) ok dm_whole_52 rfl rfl zc_i10 (by decide) rfl wd_1014 ?_
        refine sm_iload_n (pc := 55) 2 ok dm_whole_55 rfl ?_
        refine sm_iload (pc := 56) 3 ok dm_whole_56 rfl ?_
        refine sm_iast (pc := 58) ok dm_whole_58 rfl (fun S_8 => ?_)
        refine sm_iinc (pc := 59) (i := 3) 2 (1 : Int32) ok dm_whole_59 rfl zk_1 (by decide) (fun v => [(3, .int v), (0, .ref ((xw x).2.2 0)), (2, .int v2), (4, .int v4)]) (fun _ => rfl) (fun v3_9 => ?_)
        refine sm_lv [1, 2, 0, 3] rfl ?_
        exact tm_whole_b62 ok hr N ih _ _ _ _
set_option maxHeartbeats 4000000 in
set_option maxRecDepth 20000 in
theorem tm_whole_b28 {x : sm_Cx} (ok : sm_Ok x zm_sy prog_12_method_53_code "LentShadesModel" 8 1 27) (hr : (xh x).sig.returnType = (some .long)) (N : Nat) {r5 : Int32 → Int32 → Int32 → Int32 → sm_St → Option (Int64 × sm_St)} (h5 : ∀ (v1 : Int32) (v2 : Int32) (v3 : Int32) (v4 : Int32) (S : sm_St), sm_Sm x zm_sy prog_12_method_53_code (sm_Q x zm_sy (sm_Pl zm_sy (xw x))) (r5 v1 v2 v3 v4 S) S 5 [(0, .ref ((xw x).2.2 0)), (1, .int v1), (2, .int v2), (3, .int v3), (4, .int v4)] []) (v1 : Int32) (v2 : Int32) (v3 : Int32) (v4 : Int32) (S : sm_St) : sm_Sm x zm_sy prog_12_method_53_code (sm_Q x zm_sy (sm_Pl zm_sy (xw x))) (pm_whole_b28 N r5 v1 v2 v3 v4 S) S 28 [(0, .ref ((xw x).2.2 0)), (1, .int v1), (2, .int v2), (3, .int v3), (4, .int v4)] [] := by
  unfold pm_whole_b28
  refine sm_iinc (pc := 28) (i := 4) 4 (1 : Int32) ok dm_whole_28 rfl zk_1 (by decide) (fun v => [(4, .int v), (0, .ref ((xw x).2.2 0)), (1, .int v1), (2, .int v2), (3, .int v3)]) (fun _ => rfl) (fun v4_7 => ?_)
  refine sm_goto (pc := 31) 5 ok dm_whole_31 (by decide) ?_
  refine sm_lv [1, 2, 3, 4, 0] rfl ?_
  exact h5 _ _ _ _ _
set_option maxHeartbeats 4000000 in
set_option maxRecDepth 20000 in
theorem tm_whole_b5 {x : sm_Cx} (ok : sm_Ok x zm_sy prog_12_method_53_code "LentShadesModel" 8 1 27) (hr : (xh x).sig.returnType = (some .long)) (N : Nat) : ∀ (n : Nat) (v1 : Int32) (v2 : Int32) (v3 : Int32) (v4 : Int32) (S : sm_St), sm_Sm x zm_sy prog_12_method_53_code (sm_Q x zm_sy (sm_Pl zm_sy (xw x))) (pm_whole_b5 N n v1 v2 v3 v4 S) S 5 [(0, .ref ((xw x).2.2 0)), (1, .int v1), (2, .int v2), (3, .int v3), (4, .int v4)] [] := by
  intro n
  induction n with
  | zero =>
    intro v1 v2 v3 v4 S
    exact sm_none
  | succ n ih =>
    intro v1 v2 v3 v4 S
    show sm_Sm x zm_sy prog_12_method_53_code (sm_Q x zm_sy (sm_Pl zm_sy (xw x))) (if (4 : Int32) ≤ v4 then (sm_lt (0 : Int32) (fun (v3_3 : Int32) => sm_lt (0 : Int32) (fun (v4_4 : Int32) => pm_whole_b39 N N v2 v3_3 v4_4 S))) else (if v4 = v1 then (pm_whole_b28 N (pm_whole_b5 N n) v1 v2 v3 v4 S) else (if sm_in v3 4 = true then sm_lt (sm_sI S 10 v3.toNatClampNeg v4) (fun (S_5 : sm_St) => sm_lt (v3 + (1 : Int32)) (fun (v3_6 : Int32) => pm_whole_b28 N (pm_whole_b5 N n) v1 v2 v3_6 v4 S_5)) else none))) S 5 [(0, .ref ((xw x).2.2 0)), (1, .int v1), (2, .int v2), (3, .int v3), (4, .int v4)] []
    refine sm_iload (pc := 5) 4 ok dm_whole_5 rfl ?_
    refine sm_iconst (pc := 7) (4 : Int32) ok dm_whole_7 zk_4 ?_
    refine sm_icmp_ge (pc := 8) 34 ok dm_whole_8 (by decide) (fun _ => ?_) (fun _ => ?_)
    · refine sm_iconst (pc := 34) (0 : Int32) ok dm_whole_34 zk_0 ?_
      refine sm_istore_n (pc := 35) (i := 3) ok dm_whole_35 rfl (by decide) (fun v => [(3, .int v), (0, .ref ((xw x).2.2 0)), (1, .int v1), (2, .int v2), (4, .int v4)]) (fun _ => rfl) (fun v3_3 => ?_)
      refine sm_iconst (pc := 36) (0 : Int32) ok dm_whole_36 zk_0 ?_
      refine sm_istore (pc := 37) (i := 4) ok dm_whole_37 (by decide) (fun v => [(4, .int v), (3, .int v3_3), (0, .ref ((xw x).2.2 0)), (1, .int v1), (2, .int v2)]) (fun _ => rfl) (fun v4_4 => ?_)
      refine sm_lv [2, 4, 1, 0] rfl ?_
      exact tm_whole_b39 ok hr N N _ _ _ _
    · refine sm_iload (pc := 11) 4 ok dm_whole_11 rfl ?_
      refine sm_iload_n (pc := 13) 1 ok dm_whole_13 rfl ?_
      refine sm_icmp_eq (pc := 14) 28 ok dm_whole_14 (by decide) (fun _ => ?_) (fun _ => ?_)
      · exact tm_whole_b28 ok hr N ih _ _ _ _ _
      · refine sm_aload_n (pc := 17) 0 ok dm_whole_17 rfl ?_
        refine sm_getR (pc := 18) (ci := 10) (k := 10) ok dm_whole_18 rfl rfl zc_i10 (by decide) rfl wd_1013 ?_
        refine sm_iload_n (pc := 21) 3 ok dm_whole_21 rfl ?_
        refine sm_iload (pc := 22) 4 ok dm_whole_22 rfl ?_
        refine sm_iast (pc := 24) ok dm_whole_24 rfl (fun S_5 => ?_)
        refine sm_iinc (pc := 25) (i := 3) 3 (1 : Int32) ok dm_whole_25 rfl zk_1 (by decide) (fun v => [(3, .int v), (0, .ref ((xw x).2.2 0)), (1, .int v1), (2, .int v2), (4, .int v4)]) (fun _ => rfl) (fun v3_6 => ?_)
        refine sm_lv [1, 2, 3, 0, 4] rfl ?_
        exact tm_whole_b28 ok hr N ih _ _ _ _ _
set_option maxHeartbeats 4000000 in
set_option maxRecDepth 20000 in
theorem tm_whole {x : sm_Cx} (ok : sm_Ok x zm_sy prog_12_method_53_code "LentShadesModel" 8 1 27) (hr : (xh x).sig.returnType = (some .long)) (N : Nat) (S : sm_St) (v1 : Int32) (v2 : Int32) : sm_Sm x zm_sy prog_12_method_53_code (sm_Q x zm_sy (sm_Pl zm_sy (xw x))) (pm_whole N S v1 v2) S 0 [(0, .ref ((xw x).2.2 0)), (1, .int v1), (2, .int v2)] [] := by
  unfold pm_whole
  refine sm_iconst (pc := 0) (0 : Int32) ok dm_whole_0 zk_0 ?_
  refine sm_istore_n (pc := 1) (i := 3) ok dm_whole_1 rfl (by decide) (fun v => [(3, .int v), (0, .ref ((xw x).2.2 0)), (1, .int v1), (2, .int v2)]) (fun _ => rfl) (fun v3_1 => ?_)
  refine sm_iconst (pc := 2) (0 : Int32) ok dm_whole_2 zk_0 ?_
  refine sm_istore (pc := 3) (i := 4) ok dm_whole_3 (by decide) (fun v => [(4, .int v), (3, .int v3_1), (0, .ref ((xw x).2.2 0)), (1, .int v1), (2, .int v2)]) (fun _ => rfl) (fun v4_2 => ?_)
  refine sm_lv [2, 3, 4, 1, 0] rfl ?_
  exact tm_whole_b5 ok hr N N _ _ _ _ _
theorem cm_whole {l : Launch} {wc : sm_Wc} (hj : sm_inj zm_sy wc) (N : Nat) (S : sm_St) (v1 : Int32) (v2 : Int32) : sm_Ct l zm_sy wc ym_whole prog_12_method_53_code 8 (some .long) 1 27 [.ref (wc.2.2 0), .int v1, .int v2] S (sm_Pl zm_sy wc) (pm_whole N S v1 v2) :=
  sm_entry (Pq := fun wc => sm_Pl zm_sy wc) (fun wc => [.ref (wc.2.2 0), .int v1, .int v2]) (lv := fun wc => [(0, .ref (wc.2.2 0)), (1, .int v1), (2, .int v2)]) (by decide) hj zm_ok zm_stb (fun _ => Nat.le_of_ble_eq_true rfl) (fun _ => rfl) (fun x _ ok hr => tm_whole ok hr N S v1 v2)
set_option maxHeartbeats 4000000 in
set_option maxRecDepth 20000 in
theorem tm_isAnyVain_b30 {x : sm_Cx} (ok : sm_Ok x zm_sy prog_12_method_55_code "LentShadesModel" 3 1 21) (hr : (xh x).sig.returnType = (some .boolean)) (N : Nat) {r4 : Int32 → Int32 → sm_St → Option (Int32 × sm_St)} (h4 : ∀ (v1 : Int32) (v2 : Int32) (S : sm_St), sm_Sm x zm_sy prog_12_method_55_code (sm_Q x zm_sy (sm_Pi zm_sy (xw x))) (r4 v1 v2 S) S 4 [(0, .ref ((xw x).2.2 0)), (1, .int v1), (2, .int v2)] []) (v2 : Int32) (s0 : Int32) (S : sm_St) : sm_Sm x zm_sy prog_12_method_55_code (sm_Q x zm_sy (sm_Pi zm_sy (xw x))) (pm_isAnyVain_b30 N r4 v2 s0 S) S 30 [(0, .ref ((xw x).2.2 0)), (2, .int v2)] [.int s0] := by
  unfold pm_isAnyVain_b30
  refine sm_istore_n (pc := 30) (i := 1) ok dm_isAnyVain_30 rfl (by decide) (fun v => [(1, .int v), (0, .ref ((xw x).2.2 0)), (2, .int v2)]) (fun _ => rfl) (fun v1_7 => ?_)
  refine sm_iinc (pc := 31) (i := 2) 2 (1 : Int32) ok dm_isAnyVain_31 rfl zk_1 (by decide) (fun v => [(2, .int v), (1, .int v1_7), (0, .ref ((xw x).2.2 0))]) (fun _ => rfl) (fun v2_8 => ?_)
  refine sm_goto (pc := 34) 4 ok dm_isAnyVain_34 (by decide) ?_
  refine sm_lv [2, 1, 0] rfl ?_
  exact h4 _ _ _
set_option maxHeartbeats 4000000 in
set_option maxRecDepth 20000 in
theorem tm_isAnyVain_b25 {x : sm_Cx} (ok : sm_Ok x zm_sy prog_12_method_55_code "LentShadesModel" 3 1 21) (hr : (xh x).sig.returnType = (some .boolean)) (N : Nat) {r4 : Int32 → Int32 → sm_St → Option (Int32 × sm_St)} (h4 : ∀ (v1 : Int32) (v2 : Int32) (S : sm_St), sm_Sm x zm_sy prog_12_method_55_code (sm_Q x zm_sy (sm_Pi zm_sy (xw x))) (r4 v1 v2 S) S 4 [(0, .ref ((xw x).2.2 0)), (1, .int v1), (2, .int v2)] []) (v2 : Int32) (S : sm_St) : sm_Sm x zm_sy prog_12_method_55_code (sm_Q x zm_sy (sm_Pi zm_sy (xw x))) (pm_isAnyVain_b25 N r4 v2 S) S 25 [(0, .ref ((xw x).2.2 0)), (2, .int v2)] [] := by
  unfold pm_isAnyVain_b25
  refine sm_iconst (pc := 25) (1 : Int32) ok dm_isAnyVain_25 zk_1 ?_
  refine sm_goto (pc := 26) 30 ok dm_isAnyVain_26 (by decide) ?_
  exact tm_isAnyVain_b30 ok hr N h4 _ _ _
set_option maxHeartbeats 4000000 in
set_option maxRecDepth 20000 in
theorem tm_isAnyVain_b4 {x : sm_Cx} (ok : sm_Ok x zm_sy prog_12_method_55_code "LentShadesModel" 3 1 21) (hr : (xh x).sig.returnType = (some .boolean)) (N : Nat) : ∀ (n : Nat) (v1 : Int32) (v2 : Int32) (S : sm_St), sm_Sm x zm_sy prog_12_method_55_code (sm_Q x zm_sy (sm_Pi zm_sy (xw x))) (pm_isAnyVain_b4 N n v1 v2 S) S 4 [(0, .ref ((xw x).2.2 0)), (1, .int v1), (2, .int v2)] [] := by
  intro n
  induction n with
  | zero =>
    intro v1 v2 S
    exact sm_none
  | succ n ih =>
    intro v1 v2 S
    show sm_Sm x zm_sy prog_12_method_55_code (sm_Q x zm_sy (sm_Pi zm_sy (xw x))) (sm_b2 (pm_cloths N S) (fun (r_4 : Int32) (S_3 : sm_St) => if r_4 ≤ v2 then (sm_rz v1 S_3) else (if v1 = 0 then (sm_b2 (pm_kindOf N S_3 v2) (fun (r_6 : Int32) (S_5 : sm_St) => if r_6 = (4 : Int32) then (pm_isAnyVain_b25 N (pm_isAnyVain_b4 N n) v2 S_5) else (pm_isAnyVain_b30 N (pm_isAnyVain_b4 N n) v2 (0 : Int32) S_5))) else (pm_isAnyVain_b25 N (pm_isAnyVain_b4 N n) v2 S_3)))) S 4 [(0, .ref ((xw x).2.2 0)), (1, .int v1), (2, .int v2)] []
    refine sm_iload_n (pc := 4) 2 ok dm_isAnyVain_4 rfl ?_
    refine sm_aload_n (pc := 5) 0 ok dm_isAnyVain_5 rfl ?_
    refine sm_callV_i (pc := 6) (ci := 10) [] ok dm_isAnyVain_6 wd_1114 mwm_cloths rfl rfl (Nat.le_of_ble_eq_true rfl) (Nat.le_of_ble_eq_true rfl) rfl rfl (Nat.le_of_ble_eq_true rfl) (cm_cloths (sm_okj ok) N S) (fun r_4 S_3 => ?_)
    refine sm_icmp_ge (pc := 9) 37 ok dm_isAnyVain_9 (by decide) (fun _ => ?_) (fun _ => ?_)
    · refine sm_iload_n (pc := 37) 1 ok dm_isAnyVain_37 rfl ?_
      exact sm_zretc (pc := 38) ok dm_isAnyVain_38 hr
    · refine sm_iload_n (pc := 12) 1 ok dm_isAnyVain_12 rfl ?_
      refine sm_if_ne (pc := 13) 25 ok dm_isAnyVain_13 (by decide) (fun _ => ?_) (fun _ => ?_)
      · refine sm_lv [0, 2] rfl ?_
        exact tm_isAnyVain_b25 ok hr N ih _ _
      · refine sm_aload_n (pc := 16) 0 ok dm_isAnyVain_16 rfl ?_
        refine sm_iload_n (pc := 17) 2 ok dm_isAnyVain_17 rfl ?_
        refine sm_callV_i (pc := 18) (ci := 10) [.int v2] ok dm_isAnyVain_18 wd_1189 mwm_kindOf rfl rfl (Nat.le_of_ble_eq_true rfl) (Nat.le_of_ble_eq_true rfl) rfl rfl (Nat.le_of_ble_eq_true rfl) (cm_kindOf (sm_okj ok) N S_3 v2) (fun r_6 S_5 => ?_)
        refine sm_iconst (pc := 21) (4 : Int32) ok dm_isAnyVain_21 zk_4 ?_
        refine sm_icmp_ne (pc := 22) 29 ok dm_isAnyVain_22 (by decide) (fun _ => ?_) (fun _ => ?_)
        · refine sm_iconst (pc := 29) (0 : Int32) ok dm_isAnyVain_29 zk_0 ?_
          refine sm_lv [0, 2] rfl ?_
          exact tm_isAnyVain_b30 ok hr N ih _ _ _
        · refine sm_lv [0, 2] rfl ?_
          exact tm_isAnyVain_b25 ok hr N ih _ _
set_option maxHeartbeats 4000000 in
set_option maxRecDepth 20000 in
theorem tm_isAnyVain {x : sm_Cx} (ok : sm_Ok x zm_sy prog_12_method_55_code "LentShadesModel" 3 1 21) (hr : (xh x).sig.returnType = (some .boolean)) (N : Nat) (S : sm_St) : sm_Sm x zm_sy prog_12_method_55_code (sm_Q x zm_sy (sm_Pi zm_sy (xw x))) (pm_isAnyVain N S) S 0 [(0, .ref ((xw x).2.2 0))] [] := by
  unfold pm_isAnyVain
  refine sm_iconst (pc := 0) (0 : Int32) ok dm_isAnyVain_0 zk_0 ?_
  refine sm_istore_n (pc := 1) (i := 1) ok dm_isAnyVain_1 rfl (by decide) (fun v => [(1, .int v), (0, .ref ((xw x).2.2 0))]) (fun _ => rfl) (fun v1_1 => ?_)
  refine sm_iconst (pc := 2) (0 : Int32) ok dm_isAnyVain_2 zk_0 ?_
  refine sm_istore_n (pc := 3) (i := 2) ok dm_isAnyVain_3 rfl (by decide) (fun v => [(2, .int v), (1, .int v1_1), (0, .ref ((xw x).2.2 0))]) (fun _ => rfl) (fun v2_2 => ?_)
  refine sm_lv [2, 1, 0] rfl ?_
  exact tm_isAnyVain_b4 ok hr N N _ _ _
theorem cm_isAnyVain {l : Launch} {wc : sm_Wc} (hj : sm_inj zm_sy wc) (N : Nat) (S : sm_St) : sm_Ct l zm_sy wc ym_isAnyVain prog_12_method_55_code 3 (some .boolean) 1 21 [.ref (wc.2.2 0)] S (sm_Pi zm_sy wc) (pm_isAnyVain N S) :=
  sm_entry (Pq := fun wc => sm_Pi zm_sy wc) (fun wc => [.ref (wc.2.2 0)]) (lv := fun wc => [(0, .ref (wc.2.2 0))]) (by decide) hj zm_ok zm_stb (fun _ => Nat.le_of_ble_eq_true rfl) (fun _ => rfl) (fun x _ ok hr => tm_isAnyVain ok hr N S)
set_option maxHeartbeats 4000000 in
set_option maxRecDepth 20000 in
theorem tm_layFixed_b71 {x : sm_Cx} (ok : sm_Ok x zm_sy prog_12_method_56_code "LentShadesModel" 3 4 93) (hr : (xh x).sig.returnType = none) (N : Nat) {r28 : Int32 → Int32 → sm_St → Option (sm_St)} (h28 : ∀ (v1 : Int32) (v2 : Int32) (S : sm_St), sm_Sm x zm_sy prog_12_method_56_code (sm_Q x zm_sy (sm_Pv zm_sy (xw x))) (r28 v1 v2 S) S 28 [(0, .ref ((xw x).2.2 0)), (1, .int v1), (2, .int v2)] []) (v1 : Int32) (v2 : Int32) (S : sm_St) : sm_Sm x zm_sy prog_12_method_56_code (sm_Q x zm_sy (sm_Pv zm_sy (xw x))) (pm_layFixed_b71 N r28 v1 v2 S) S 71 [(0, .ref ((xw x).2.2 0)), (1, .int v1), (2, .int v2)] [] := by
  unfold pm_layFixed_b71
  refine sm_iinc (pc := 71) (i := 2) 2 (1 : Int32) ok dm_layFixed_71 rfl zk_1 (by decide) (fun v => [(2, .int v), (0, .ref ((xw x).2.2 0)), (1, .int v1)]) (fun _ => rfl) (fun v2_13 => ?_)
  refine sm_goto (pc := 74) 28 ok dm_layFixed_74 (by decide) ?_
  refine sm_lv [1, 2, 0] rfl ?_
  exact h28 _ _ _
set_option maxHeartbeats 4000000 in
set_option maxRecDepth 20000 in
theorem tm_layFixed_b28 {x : sm_Cx} (ok : sm_Ok x zm_sy prog_12_method_56_code "LentShadesModel" 3 4 93) (hr : (xh x).sig.returnType = none) (N : Nat) : ∀ (n : Nat) (v1 : Int32) (v2 : Int32) (S : sm_St), sm_Sm x zm_sy prog_12_method_56_code (sm_Q x zm_sy (sm_Pv zm_sy (xw x))) (pm_layFixed_b28 N n v1 v2 S) S 28 [(0, .ref ((xw x).2.2 0)), (1, .int v1), (2, .int v2)] [] := by
  intro n
  induction n with
  | zero =>
    intro v1 v2 S
    exact sm_none
  | succ n ih =>
    intro v1 v2 S
    show sm_Sm x zm_sy prog_12_method_56_code (sm_Q x zm_sy (sm_Pv zm_sy (xw x))) (if (8 : Int32) ≤ v2 then (some S) else (sm_b2 (pm_takes N S v1 v2) (fun (r_7 : Int32) (S_6 : sm_St) => if r_7 ≤ 0 then (pm_layFixed_b71 N (pm_layFixed_b28 N n) v1 v2 S_6) else (sm_b1 (pm_lay N S_6 (8 : Int32) v2) (fun (S_8 : sm_St) => sm_b2 (pm_takes N S_8 v1 v2) (fun (r_10 : Int32) (S_9 : sm_St) => sm_b1 (pm_times N S_9 (8 : Int32) (r_10.toInt64)) (fun (S_11 : sm_St) => sm_b1 (pm_add N S_11 (7 : Int32) (8 : Int32)) (fun (S_12 : sm_St) => pm_layFixed_b71 N (pm_layFixed_b28 N n) v1 v2 S_12)))))))) S 28 [(0, .ref ((xw x).2.2 0)), (1, .int v1), (2, .int v2)] []
    refine sm_iload_n (pc := 28) 2 ok dm_layFixed_28 rfl ?_
    refine sm_bipush (pc := 29) (8 : Int32) ok dm_layFixed_29 zb_8 ?_
    refine sm_icmp_ge (pc := 31) 77 ok dm_layFixed_31 (by decide) (fun _ => ?_) (fun _ => ?_)
    · exact sm_vret (pc := 77) ok dm_layFixed_77 hr
    · refine sm_aload_n (pc := 34) 0 ok dm_layFixed_34 rfl ?_
      refine sm_iload_n (pc := 35) 1 ok dm_layFixed_35 rfl ?_
      refine sm_iload_n (pc := 36) 2 ok dm_layFixed_36 rfl ?_
      refine sm_callV_i (pc := 37) (ci := 10) [.int v1, .int v2] ok dm_layFixed_37 wd_1197 mwm_takes rfl rfl (Nat.le_of_ble_eq_true rfl) (Nat.le_of_ble_eq_true rfl) rfl rfl (Nat.le_of_ble_eq_true rfl) (cm_takes (sm_okj ok) N S v1 v2) (fun r_7 S_6 => ?_)
      refine sm_if_le (pc := 40) 71 ok dm_layFixed_40 (by decide) (fun _ => ?_) (fun _ => ?_)
      · exact tm_layFixed_b71 ok hr N ih _ _ _
      · refine sm_aload_n (pc := 43) 0 ok dm_layFixed_43 rfl ?_
        refine sm_bipush (pc := 44) (8 : Int32) ok dm_layFixed_44 zb_8 ?_
        refine sm_iload_n (pc := 46) 2 ok dm_layFixed_46 rfl ?_
        refine sm_callV_v (pc := 47) (ci := 10) [.int (8 : Int32), .int v2] ok dm_layFixed_47 wd_1212 mwm_lay rfl rfl (Nat.le_of_ble_eq_true rfl) (Nat.le_of_ble_eq_true rfl) rfl rfl (Nat.le_of_ble_eq_true rfl) (cm_lay (sm_okj ok) N S_6 (8 : Int32) v2) (fun S_8 => ?_)
        refine sm_aload_n (pc := 50) 0 ok dm_layFixed_50 rfl ?_
        refine sm_bipush (pc := 51) (8 : Int32) ok dm_layFixed_51 zb_8 ?_
        refine sm_aload_n (pc := 53) 0 ok dm_layFixed_53 rfl ?_
        refine sm_iload_n (pc := 54) 1 ok dm_layFixed_54 rfl ?_
        refine sm_iload_n (pc := 55) 2 ok dm_layFixed_55 rfl ?_
        refine sm_callV_i (pc := 56) (ci := 10) [.int v1, .int v2] ok dm_layFixed_56 wd_1197 mwm_takes rfl rfl (Nat.le_of_ble_eq_true rfl) (Nat.le_of_ble_eq_true rfl) rfl rfl (Nat.le_of_ble_eq_true rfl) (cm_takes (sm_okj ok) N S_8 v1 v2) (fun r_10 S_9 => ?_)
        refine sm_i2l (pc := 59) ok dm_layFixed_59 ?_
        refine sm_callV_v (pc := 60) (ci := 10) [.int (8 : Int32), .long (r_10.toInt64)] ok dm_layFixed_60 wd_1130 mwm_times rfl rfl (Nat.le_of_ble_eq_true rfl) (Nat.le_of_ble_eq_true rfl) rfl rfl (Nat.le_of_ble_eq_true rfl) (cm_times (sm_okj ok) N S_9 (8 : Int32) (r_10.toInt64)) (fun S_11 => ?_)
        refine sm_aload_n (pc := 63) 0 ok dm_layFixed_63 rfl ?_
        refine sm_bipush (pc := 64) (7 : Int32) ok dm_layFixed_64 zb_7 ?_
        refine sm_bipush (pc := 66) (8 : Int32) ok dm_layFixed_66 zb_8 ?_
        refine sm_callV_v (pc := 68) (ci := 10) [.int (7 : Int32), .int (8 : Int32)] ok dm_layFixed_68 wd_1216 mwm_add rfl rfl (Nat.le_of_ble_eq_true rfl) (Nat.le_of_ble_eq_true rfl) rfl rfl (Nat.le_of_ble_eq_true rfl) (cm_add (sm_okj ok) N S_11 (7 : Int32) (8 : Int32)) (fun S_12 => ?_)
        exact tm_layFixed_b71 ok hr N ih _ _ _
set_option maxHeartbeats 4000000 in
set_option maxRecDepth 20000 in
theorem tm_layFixed {x : sm_Cx} (ok : sm_Ok x zm_sy prog_12_method_56_code "LentShadesModel" 3 4 93) (hr : (xh x).sig.returnType = none) (N : Nat) (S : sm_St) (v1 : Int32) : sm_Sm x zm_sy prog_12_method_56_code (sm_Q x zm_sy (sm_Pv zm_sy (xw x))) (pm_layFixed N S v1) S 0 [(0, .ref ((xw x).2.2 0)), (1, .int v1)] [] := by
  unfold pm_layFixed
  refine sm_aload_n (pc := 0) 0 ok dm_layFixed_0 rfl ?_
  refine sm_iload_n (pc := 1) 1 ok dm_layFixed_1 rfl ?_
  refine sm_callV_i (pc := 2) (ci := 10) [.int v1] ok dm_layFixed_2 wd_1193 mwm_takesAll rfl rfl (Nat.le_of_ble_eq_true rfl) (Nat.le_of_ble_eq_true rfl) rfl rfl (Nat.le_of_ble_eq_true rfl) (cm_takesAll (sm_okj ok) N S v1) (fun r_2 S_1 => ?_)
  refine sm_if_ne (pc := 5) 19 ok dm_layFixed_5 (by decide) (fun _ => ?_) (fun _ => ?_)
  · refine sm_aload_n (pc := 19) 0 ok dm_layFixed_19 rfl ?_
    refine sm_bipush (pc := 20) (7 : Int32) ok dm_layFixed_20 zb_7 ?_
    refine sm_lconst (pc := 22) (0 : Int64) ok dm_layFixed_22 zl_0 ?_
    refine sm_callV_v (pc := 23) (ci := 10) [.int (7 : Int32), .long (0 : Int64)] ok dm_layFixed_23 wd_998 mwm_set rfl rfl (Nat.le_of_ble_eq_true rfl) (Nat.le_of_ble_eq_true rfl) rfl rfl (Nat.le_of_ble_eq_true rfl) (cm_set (sm_okj ok) N S_1 (7 : Int32) (0 : Int64)) (fun S_3 => ?_)
    refine sm_iconst (pc := 26) (4 : Int32) ok dm_layFixed_26 zk_4 ?_
    refine sm_istore_n (pc := 27) (i := 2) ok dm_layFixed_27 rfl (by decide) (fun v => [(2, .int v), (0, .ref ((xw x).2.2 0)), (1, .int v1)]) (fun _ => rfl) (fun v2_4 => ?_)
    refine sm_lv [1, 2, 0] rfl ?_
    exact tm_layFixed_b28 ok hr N N _ _ _
  · refine sm_aload_n (pc := 8) 0 ok dm_layFixed_8 rfl ?_
    refine sm_bipush (pc := 9) (7 : Int32) ok dm_layFixed_9 zb_7 ?_
    refine sm_bipush (pc := 11) (14 : Int32) ok dm_layFixed_11 zb_14 ?_
    refine sm_iload_n (pc := 13) 1 ok dm_layFixed_13 rfl ?_
    refine sm_iadd (pc := 14) ok dm_layFixed_14 ?_
    refine sm_callV_v (pc := 15) (ci := 10) [.int (7 : Int32), .int ((14 : Int32) + v1)] ok dm_layFixed_15 wd_1126 mwm_copy rfl rfl (Nat.le_of_ble_eq_true rfl) (Nat.le_of_ble_eq_true rfl) rfl rfl (Nat.le_of_ble_eq_true rfl) (cm_copy (sm_okj ok) N S_1 (7 : Int32) ((14 : Int32) + v1)) (fun S_5 => ?_)
    exact sm_vret (pc := 18) ok dm_layFixed_18 hr
theorem cm_layFixed {l : Launch} {wc : sm_Wc} (hj : sm_inj zm_sy wc) (N : Nat) (S : sm_St) (v1 : Int32) : sm_Ct l zm_sy wc ym_layFixed prog_12_method_56_code 3 none 4 93 [.ref (wc.2.2 0), .int v1] S (sm_Pv zm_sy wc) (pm_layFixed N S v1) :=
  sm_entry (Pq := fun wc => sm_Pv zm_sy wc) (fun wc => [.ref (wc.2.2 0), .int v1]) (lv := fun wc => [(0, .ref (wc.2.2 0)), (1, .int v1)]) (by decide) hj zm_ok zm_stb (fun _ => Nat.le_of_ble_eq_true rfl) (fun _ => rfl) (fun x _ ok hr => tm_layFixed ok hr N S v1)
set_option maxHeartbeats 4000000 in
set_option maxRecDepth 20000 in
theorem tm_rest_b99 {x : sm_Cx} (ok : sm_Ok x zm_sy prog_12_method_57_code "LentShadesModel" 7 5 121) (hr : (xh x).sig.returnType = (some .int)) (N : Nat) {r63 : Int32 → Int64 → Int32 → sm_St → Option (Int32 × sm_St)} (h63 : ∀ (v1 : Int32) (v2 : Int64) (v4 : Int32) (S : sm_St), sm_Sm x zm_sy prog_12_method_57_code (sm_Q x zm_sy (sm_Pi zm_sy (xw x))) (r63 v1 v2 v4 S) S 63 [(0, .ref ((xw x).2.2 0)), (1, .int v1), (2, .long v2), (4, .int v4)] []) (v1 : Int32) (v2 : Int64) (v4 : Int32) (s0 : Int64) (S : sm_St) : sm_Sm x zm_sy prog_12_method_57_code (sm_Q x zm_sy (sm_Pi zm_sy (xw x))) (pm_rest_b99 N r63 v1 v2 v4 s0 S) S 99 [(0, .ref ((xw x).2.2 0)), (1, .int v1), (2, .long v2), (4, .int v4)] [.long s0] := by
  unfold pm_rest_b99
  refine sm_lstore (pc := 99) (i := 5) ok dm_rest_99 (by decide) (fun v => [(5, .long v), (0, .ref ((xw x).2.2 0)), (1, .int v1), (2, .long v2), (4, .int v4)]) (fun _ => rfl) (fun v5_25 => ?_)
  refine sm_aload_n (pc := 101) 1 ok dm_rest_101 rfl ?_
  refine sm_iload (pc := 102) 4 ok dm_rest_102 rfl ?_
  refine sm_callV_v (pc := 104) (ci := 10) [.int v4] ok dm_rest_104 wd_1305 mwm_layFixed rfl rfl (Nat.le_of_ble_eq_true rfl) (Nat.le_of_ble_eq_true rfl) rfl rfl (Nat.le_of_ble_eq_true rfl) (cm_layFixed (sm_okj ok) N S v4) (fun S_26 => ?_)
  refine sm_aload_n (pc := 107) 1 ok dm_rest_107 rfl ?_
  refine sm_bipush (pc := 108) (7 : Int32) ok dm_rest_108 zb_7 ?_
  refine sm_lload (pc := 110) 0 ok dm_rest_110 rfl ?_
  refine sm_callV_v (pc := 112) (ci := 10) [.int (7 : Int32), .long v5_25] ok dm_rest_112 wd_1130 mwm_times rfl rfl (Nat.le_of_ble_eq_true rfl) (Nat.le_of_ble_eq_true rfl) rfl rfl (Nat.le_of_ble_eq_true rfl) (cm_times (sm_okj ok) N S_26 (7 : Int32) v5_25) (fun S_27 => ?_)
  refine sm_aload_n (pc := 115) 1 ok dm_rest_115 rfl ?_
  refine sm_bipush (pc := 116) (9 : Int32) ok dm_rest_116 zb_9 ?_
  refine sm_bipush (pc := 118) (7 : Int32) ok dm_rest_118 zb_7 ?_
  refine sm_callV_v (pc := 120) (ci := 10) [.int (9 : Int32), .int (7 : Int32)] ok dm_rest_120 wd_1216 mwm_add rfl rfl (Nat.le_of_ble_eq_true rfl) (Nat.le_of_ble_eq_true rfl) rfl rfl (Nat.le_of_ble_eq_true rfl) (cm_add (sm_okj ok) N S_27 (9 : Int32) (7 : Int32)) (fun S_28 => ?_)
  refine sm_iinc (pc := 123) (i := 4) 4 (1 : Int32) ok dm_rest_123 rfl zk_1 (by decide) (fun v => [(4, .int v), (5, .long v5_25), (0, .ref ((xw x).2.2 0)), (1, .int v1), (2, .long v2)]) (fun _ => rfl) (fun v4_29 => ?_)
  refine sm_goto (pc := 126) 63 ok dm_rest_126 (by decide) ?_
  refine sm_lv [2, 3, 4, 0] rfl ?_
  exact h63 _ _ _ _
set_option maxHeartbeats 4000000 in
set_option maxRecDepth 20000 in
theorem tm_rest_b63 {x : sm_Cx} (ok : sm_Ok x zm_sy prog_12_method_57_code "LentShadesModel" 7 5 121) (hr : (xh x).sig.returnType = (some .int)) (N : Nat) : ∀ (n : Nat) (v1 : Int32) (v2 : Int64) (v4 : Int32) (S : sm_St), sm_Sm x zm_sy prog_12_method_57_code (sm_Q x zm_sy (sm_Pi zm_sy (xw x))) (pm_rest_b63 N n v1 v2 v4 S) S 63 [(0, .ref ((xw x).2.2 0)), (1, .int v1), (2, .long v2), (4, .int v4)] [] := by
  intro n
  induction n with
  | zero =>
    intro v1 v2 v4 S
    exact sm_none
  | succ n ih =>
    intro v1 v2 v4 S
    show sm_Sm x zm_sy prog_12_method_57_code (sm_Q x zm_sy (sm_Pi zm_sy (xw x))) (sm_b2 (pm_cloths N S) (fun (r_19 : Int32) (S_18 : sm_St) => if r_19 ≤ v4 then (sm_b2 (pm_tellOver N S_18 (9 : Int32) ((12 : Int64) * v2)) (fun (r_21 : Int32) (S_20 : sm_St) => some (r_21, S_20))) else (sm_b2 (pm_whole N S_18 v4 v1) (fun (r_23 : Int64) (S_22 : sm_St) => sm_lt r_23 (fun (v5_24 : Int64) => if ((v4 + v1) - (v4 + v1) / (2 : Int32) * (2 : Int32)) = (1 : Int32) then (pm_rest_b99 N (pm_rest_b63 N n) v1 v2 v4 (-v5_24) S_22) else (pm_rest_b99 N (pm_rest_b63 N n) v1 v2 v4 v5_24 S_22)))))) S 63 [(0, .ref ((xw x).2.2 0)), (1, .int v1), (2, .long v2), (4, .int v4)] []
    refine sm_iload (pc := 63) 3 ok dm_rest_63 rfl ?_
    refine sm_aload_n (pc := 65) 0 ok dm_rest_65 rfl ?_
    refine sm_callV_i (pc := 66) (ci := 10) [] ok dm_rest_66 wd_1114 mwm_cloths rfl rfl (Nat.le_of_ble_eq_true rfl) (Nat.le_of_ble_eq_true rfl) rfl rfl (Nat.le_of_ble_eq_true rfl) (cm_cloths (sm_okj ok) N S) (fun r_19 S_18 => ?_)
    refine sm_icmp_ge (pc := 69) 129 ok dm_rest_69 (by decide) (fun _ => ?_) (fun _ => ?_)
    · refine sm_aload_n (pc := 129) 0 ok dm_rest_129 rfl ?_
      refine sm_bipush (pc := 130) (9 : Int32) ok dm_rest_130 zb_9 ?_
      refine sm_ldc2 (pc := 132) ok dm_rest_132 wd_1109 ?_
      refine sm_lload_n (pc := 135) 2 ok dm_rest_135 rfl ?_
      refine sm_lmul (pc := 136) ok dm_rest_136 ?_
      refine sm_callV_i (pc := 137) (ci := 10) [.int (9 : Int32), .long ((12 : Int64) * v2)] ok dm_rest_137 wd_1228 mwm_tellOver rfl rfl (Nat.le_of_ble_eq_true rfl) (Nat.le_of_ble_eq_true rfl) rfl rfl (Nat.le_of_ble_eq_true rfl) (cm_tellOver (sm_okj ok) N S_18 (9 : Int32) ((12 : Int64) * v2)) (fun r_21 S_20 => ?_)
      exact sm_iret (pc := 140) ok dm_rest_140 hr
    · refine sm_aload_n (pc := 72) 0 ok dm_rest_72 rfl ?_
      refine sm_iload (pc := 73) 3 ok dm_rest_73 rfl ?_
      refine sm_iload_n (pc := 75) 1 ok dm_rest_75 rfl ?_
      refine sm_callV_l (pc := 76) (ci := 10) [.int v4, .int v1] ok dm_rest_76 wd_1297 mwm_whole rfl rfl (Nat.le_of_ble_eq_true rfl) (Nat.le_of_ble_eq_true rfl) rfl rfl (Nat.le_of_ble_eq_true rfl) (cm_whole (sm_okj ok) N S_18 v4 v1) (fun r_23 S_22 => ?_)
      refine sm_lstore (pc := 79) (i := 5) ok dm_rest_79 (by decide) (fun v => [(5, .long v), (0, .ref ((xw x).2.2 0)), (1, .int v1), (2, .long v2), (4, .int v4)]) (fun _ => rfl) (fun v5_24 => ?_)
      refine sm_iload (pc := 81) 4 ok dm_rest_81 rfl ?_
      refine sm_iload_n (pc := 83) 2 ok dm_rest_83 rfl ?_
      refine sm_iadd (pc := 84) ok dm_rest_84 ?_
      refine sm_iconst (pc := 85) (2 : Int32) ok dm_rest_85 zk_2 ?_
      refine sm_iremc (pc := 86) ok dm_rest_86 (by decide) ?_
      refine sm_iconst (pc := 87) (1 : Int32) ok dm_rest_87 zk_1 ?_
      refine sm_icmp_ne (pc := 88) 97 ok dm_rest_88 (by decide) (fun _ => ?_) (fun _ => ?_)
      · refine sm_lload (pc := 97) 0 ok dm_rest_97 rfl ?_
        refine sm_lv [1, 2, 3, 4] rfl ?_
        exact tm_rest_b99 ok hr N ih _ _ _ _ _
      · refine sm_lload (pc := 91) 0 ok dm_rest_91 rfl ?_
        refine sm_lneg (pc := 93) ok dm_rest_93 ?_
        refine sm_goto (pc := 94) 99 ok dm_rest_94 (by decide) ?_
        refine sm_lv [1, 2, 3, 4] rfl ?_
        exact tm_rest_b99 ok hr N ih _ _ _ _ _
set_option maxHeartbeats 4000000 in
set_option maxRecDepth 20000 in
theorem tm_rest {x : sm_Cx} (ok : sm_Ok x zm_sy prog_12_method_57_code "LentShadesModel" 7 5 121) (hr : (xh x).sig.returnType = (some .int)) (N : Nat) (S : sm_St) (v1 : Int32) : sm_Sm x zm_sy prog_12_method_57_code (sm_Q x zm_sy (sm_Pi zm_sy (xw x))) (pm_rest N S v1) S 0 [(0, .ref ((xw x).2.2 0)), (1, .int v1)] [] := by
  unfold pm_rest
  refine sm_aload_n (pc := 0) 0 ok dm_rest_0 rfl ?_
  refine sm_iload_n (pc := 1) 1 ok dm_rest_1 rfl ?_
  refine sm_callV_i (pc := 2) (ci := 10) [.int v1] ok dm_rest_2 wd_1154 mwm_isCloth rfl rfl (Nat.le_of_ble_eq_true rfl) (Nat.le_of_ble_eq_true rfl) rfl rfl (Nat.le_of_ble_eq_true rfl) (cm_isCloth (sm_okj ok) N S v1) (fun r_2 S_1 => ?_)
  refine sm_if_ne (pc := 5) 15 ok dm_rest_5 (by decide) (fun _ => ?_) (fun _ => ?_)
  · refine sm_aload_n (pc := 15) 0 ok dm_rest_15 rfl ?_
    refine sm_callV_i (pc := 16) (ci := 10) [] ok dm_rest_16 wd_1289 mwm_isAnyVain rfl rfl (Nat.le_of_ble_eq_true rfl) (Nat.le_of_ble_eq_true rfl) rfl rfl (Nat.le_of_ble_eq_true rfl) (cm_isAnyVain (sm_okj ok) N S_1) (fun r_4 S_3 => ?_)
    refine sm_if_eq (pc := 19) 27 ok dm_rest_19 (by decide) (fun _ => ?_) (fun _ => ?_)
    · refine sm_aload_n (pc := 27) 0 ok dm_rest_27 rfl ?_
      refine sm_callV_v (pc := 28) (ci := 10) [] ok dm_rest_28 wd_1173 mwm_takeNow rfl rfl (Nat.le_of_ble_eq_true rfl) (Nat.le_of_ble_eq_true rfl) rfl rfl (Nat.le_of_ble_eq_true rfl) (cm_takeNow (sm_okj ok) N S_3) (fun S_5 => ?_)
      refine sm_aload_n (pc := 31) 0 ok dm_rest_31 rfl ?_
      refine sm_callV_v (pc := 32) (ci := 10) [] ok dm_rest_32 wd_1293 mwm_layRows rfl rfl (Nat.le_of_ble_eq_true rfl) (Nat.le_of_ble_eq_true rfl) rfl rfl (Nat.le_of_ble_eq_true rfl) (cm_layRows (sm_okj ok) N S_5) (fun S_6 => ?_)
      refine sm_aload_n (pc := 35) 0 ok dm_rest_35 rfl ?_
      refine sm_iconst (pc := 36) (-1 : Int32) ok dm_rest_36 zk_m1 ?_
      refine sm_iconst (pc := 37) (-1 : Int32) ok dm_rest_37 zk_m1 ?_
      refine sm_callV_l (pc := 38) (ci := 10) [.int (-1 : Int32), .int (-1 : Int32)] ok dm_rest_38 wd_1297 mwm_whole rfl rfl (Nat.le_of_ble_eq_true rfl) (Nat.le_of_ble_eq_true rfl) rfl rfl (Nat.le_of_ble_eq_true rfl) (cm_whole (sm_okj ok) N S_6 (-1 : Int32) (-1 : Int32)) (fun r_8 S_7 => ?_)
      refine sm_lstore_n (pc := 41) (i := 2) ok dm_rest_41 rfl (by decide) (fun v => [(2, .long v), (0, .ref ((xw x).2.2 0)), (1, .int v1)]) (fun _ => rfl) (fun v2_9 => ?_)
      refine sm_lload_n (pc := 42) 0 ok dm_rest_42 rfl ?_
      refine sm_lconst (pc := 43) (0 : Int64) ok dm_rest_43 zl_0 ?_
      refine sm_lif_ne (pc := 44) 53 ok dm_rest_44 dm_rest_45 (by decide) (fun _ => ?_) (fun _ => ?_)
      · refine sm_aload_n (pc := 53) 1 ok dm_rest_53 rfl ?_
        refine sm_bipush (pc := 54) (9 : Int32) ok dm_rest_54 zb_9 ?_
        refine sm_lconst (pc := 56) (0 : Int64) ok dm_rest_56 zl_0 ?_
        refine sm_callV_v (pc := 57) (ci := 10) [.int (9 : Int32), .long (0 : Int64)] ok dm_rest_57 wd_998 mwm_set rfl rfl (Nat.le_of_ble_eq_true rfl) (Nat.le_of_ble_eq_true rfl) rfl rfl (Nat.le_of_ble_eq_true rfl) (cm_set (sm_okj ok) N S_7 (9 : Int32) (0 : Int64)) (fun S_10 => ?_)
        refine sm_iconst (pc := 60) (0 : Int32) ok dm_rest_60 zk_0 ?_
        refine sm_istore (pc := 61) (i := 4) ok dm_rest_61 (by decide) (fun v => [(4, .int v), (2, .long v2_9), (0, .ref ((xw x).2.2 0)), (1, .int v1)]) (fun _ => rfl) (fun v4_11 => ?_)
        refine sm_lv [2, 3, 1, 0] rfl ?_
        exact tm_rest_b63 ok hr N N _ _ _ _
      · refine sm_aload_n (pc := 48) 1 ok dm_rest_48 rfl ?_
        refine sm_callV_i (pc := 49) (ci := 10) [] ok dm_rest_49 wd_1265 mwm_no rfl rfl (Nat.le_of_ble_eq_true rfl) (Nat.le_of_ble_eq_true rfl) rfl rfl (Nat.le_of_ble_eq_true rfl) (cm_no (sm_okj ok) N S_7) (fun r_13 S_12 => ?_)
        exact sm_iret (pc := 52) ok dm_rest_52 hr
    · refine sm_aload_n (pc := 22) 0 ok dm_rest_22 rfl ?_
      refine sm_callV_i (pc := 23) (ci := 10) [] ok dm_rest_23 wd_1265 mwm_no rfl rfl (Nat.le_of_ble_eq_true rfl) (Nat.le_of_ble_eq_true rfl) rfl rfl (Nat.le_of_ble_eq_true rfl) (cm_no (sm_okj ok) N S_3) (fun r_15 S_14 => ?_)
      exact sm_iret (pc := 26) ok dm_rest_26 hr
  · refine sm_aload_n (pc := 8) 0 ok dm_rest_8 rfl ?_
    refine sm_bipush (pc := 9) (-2 : Int32) ok dm_rest_9 zb_m2 ?_
    refine sm_callV_i (pc := 11) (ci := 10) [.int (-2 : Int32)] ok dm_rest_11 wd_1110 mwm_bad rfl rfl (Nat.le_of_ble_eq_true rfl) (Nat.le_of_ble_eq_true rfl) rfl rfl (Nat.le_of_ble_eq_true rfl) (cm_bad (sm_okj ok) N S_1 (-2 : Int32)) (fun r_17 S_16 => ?_)
    exact sm_iret (pc := 14) ok dm_rest_14 hr
theorem cm_rest {l : Launch} {wc : sm_Wc} (hj : sm_inj zm_sy wc) (N : Nat) (S : sm_St) (v1 : Int32) : sm_Ct l zm_sy wc ym_rest prog_12_method_57_code 7 (some .int) 5 121 [.ref (wc.2.2 0), .int v1] S (sm_Pi zm_sy wc) (pm_rest N S v1) :=
  sm_entry (Pq := fun wc => sm_Pi zm_sy wc) (fun wc => [.ref (wc.2.2 0), .int v1]) (lv := fun wc => [(0, .ref (wc.2.2 0)), (1, .int v1)]) (by decide) hj zm_ok zm_stb (fun _ => Nat.le_of_ble_eq_true rfl) (fun _ => rfl) (fun x _ ok hr => tm_rest ok hr N S v1)
set_option maxHeartbeats 4000000 in
set_option maxRecDepth 20000 in
theorem tm_findPairs_b68 {x : sm_Cx} (ok : sm_Ok x zm_sy prog_12_method_58_code "LentShadesModel" 3 3 67) (hr : (xh x).sig.returnType = none) (N : Nat) {r7 : Int32 → sm_St → Option (sm_St)} {r16 : Int32 → Int32 → sm_St → Option (sm_St)} (h7 : ∀ (v1 : Int32) (S : sm_St), sm_Sm x zm_sy prog_12_method_58_code (sm_Q x zm_sy (sm_Pv zm_sy (xw x))) (r7 v1 S) S 7 [(0, .ref ((xw x).2.2 0)), (1, .int v1)] []) (h16 : ∀ (v1 : Int32) (v2 : Int32) (S : sm_St), sm_Sm x zm_sy prog_12_method_58_code (sm_Q x zm_sy (sm_Pv zm_sy (xw x))) (r16 v1 v2 S) S 16 [(0, .ref ((xw x).2.2 0)), (1, .int v1), (2, .int v2)] []) (v1 : Int32) (v2 : Int32) (S : sm_St) : sm_Sm x zm_sy prog_12_method_58_code (sm_Q x zm_sy (sm_Pv zm_sy (xw x))) (pm_findPairs_b68 N r7 r16 v1 v2 S) S 68 [(0, .ref ((xw x).2.2 0)), (1, .int v1), (2, .int v2)] [] := by
  unfold pm_findPairs_b68
  refine sm_iinc (pc := 68) (i := 2) 2 (1 : Int32) ok dm_findPairs_68 rfl zk_1 (by decide) (fun v => [(2, .int v), (0, .ref ((xw x).2.2 0)), (1, .int v1)]) (fun _ => rfl) (fun v2_12 => ?_)
  refine sm_goto (pc := 71) 16 ok dm_findPairs_71 (by decide) ?_
  refine sm_lv [1, 2, 0] rfl ?_
  exact h16 _ _ _
set_option maxHeartbeats 4000000 in
set_option maxRecDepth 20000 in
theorem tm_findPairs_b16 {x : sm_Cx} (ok : sm_Ok x zm_sy prog_12_method_58_code "LentShadesModel" 3 3 67) (hr : (xh x).sig.returnType = none) (N : Nat) {r7 : Int32 → sm_St → Option (sm_St)} (h7 : ∀ (v1 : Int32) (S : sm_St), sm_Sm x zm_sy prog_12_method_58_code (sm_Q x zm_sy (sm_Pv zm_sy (xw x))) (r7 v1 S) S 7 [(0, .ref ((xw x).2.2 0)), (1, .int v1)] []) : ∀ (n : Nat) (v1 : Int32) (v2 : Int32) (S : sm_St), sm_Sm x zm_sy prog_12_method_58_code (sm_Q x zm_sy (sm_Pv zm_sy (xw x))) (pm_findPairs_b16 N r7 n v1 v2 S) S 16 [(0, .ref ((xw x).2.2 0)), (1, .int v1), (2, .int v2)] [] := by
  intro n
  induction n with
  | zero =>
    intro v1 v2 S
    exact sm_none
  | succ n ih =>
    intro v1 v2 S
    show sm_Sm x zm_sy prog_12_method_58_code (sm_Q x zm_sy (sm_Pv zm_sy (xw x))) (if (8 : Int32) ≤ v2 then (sm_lt (v1 + (1 : Int32)) (fun (v1_4 : Int32) => r7 v1_4 S)) else (sm_b2 (pm_isNumber N S v1) (fun (r_6 : Int32) (S_5 : sm_St) => if r_6 = 0 then (pm_findPairs_b68 N r7 (pm_findPairs_b16 N r7 n) v1 v2 S_5) else (sm_b2 (pm_isNumber N S_5 v2) (fun (r_8 : Int32) (S_7 : sm_St) => if r_8 = 0 then (pm_findPairs_b68 N r7 (pm_findPairs_b16 N r7 n) v1 v2 S_7) else (if sm_in (S_7.1 0 13) 22 = true then sm_lt (sm_sI S_7 13 (S_7.1 0 13).toNatClampNeg v1) (fun (S_9 : sm_St) => if sm_in (S_9.1 0 13) 22 = true then sm_lt (sm_sI S_9 14 (S_9.1 0 13).toNatClampNeg v2) (fun (S_10 : sm_St) => sm_lt (sm_sI S_10 0 13 ((S_10.1 0 13) + (1 : Int32))) (fun (S_11 : sm_St) => pm_findPairs_b68 N r7 (pm_findPairs_b16 N r7 n) v1 v2 S_11)) else none) else none)))))) S 16 [(0, .ref ((xw x).2.2 0)), (1, .int v1), (2, .int v2)] []
    refine sm_iload_n (pc := 16) 2 ok dm_findPairs_16 rfl ?_
    refine sm_bipush (pc := 17) (8 : Int32) ok dm_findPairs_17 zb_8 ?_
    refine sm_icmp_ge (pc := 19) 74 ok dm_findPairs_19 (by decide) (fun _ => ?_) (fun _ => ?_)
    · refine sm_iinc (pc := 74) (i := 1) 1 (1 : Int32) ok dm_findPairs_74 rfl zk_1 (by decide) (fun v => [(1, .int v), (0, .ref ((xw x).2.2 0)), (2, .int v2)]) (fun _ => rfl) (fun v1_4 => ?_)
      refine sm_goto (pc := 77) 7 ok dm_findPairs_77 (by decide) ?_
      refine sm_lv [1, 0] rfl ?_
      exact h7 _ _
    · refine sm_aload_n (pc := 22) 0 ok dm_findPairs_22 rfl ?_
      refine sm_iload_n (pc := 23) 1 ok dm_findPairs_23 rfl ?_
      refine sm_callV_i (pc := 24) (ci := 10) [.int v1] ok dm_findPairs_24 wd_1150 mwm_isNumber rfl rfl (Nat.le_of_ble_eq_true rfl) (Nat.le_of_ble_eq_true rfl) rfl rfl (Nat.le_of_ble_eq_true rfl) (cm_isNumber (sm_okj ok) N S v1) (fun r_6 S_5 => ?_)
      refine sm_if_eq (pc := 27) 68 ok dm_findPairs_27 (by decide) (fun _ => ?_) (fun _ => ?_)
      · exact tm_findPairs_b68 ok hr N h7 ih _ _ _
      · refine sm_aload_n (pc := 30) 0 ok dm_findPairs_30 rfl ?_
        refine sm_iload_n (pc := 31) 2 ok dm_findPairs_31 rfl ?_
        refine sm_callV_i (pc := 32) (ci := 10) [.int v2] ok dm_findPairs_32 wd_1150 mwm_isNumber rfl rfl (Nat.le_of_ble_eq_true rfl) (Nat.le_of_ble_eq_true rfl) rfl rfl (Nat.le_of_ble_eq_true rfl) (cm_isNumber (sm_okj ok) N S_5 v2) (fun r_8 S_7 => ?_)
        refine sm_if_eq (pc := 35) 68 ok dm_findPairs_35 (by decide) (fun _ => ?_) (fun _ => ?_)
        · exact tm_findPairs_b68 ok hr N h7 ih _ _ _
        · refine sm_aload_n (pc := 38) 0 ok dm_findPairs_38 rfl ?_
          refine sm_getR (pc := 39) (ci := 10) (k := 14) ok dm_findPairs_39 rfl rfl zc_i10 (by decide) rfl wd_1017 ?_
          refine sm_aload_n (pc := 42) 0 ok dm_findPairs_42 rfl ?_
          refine sm_getI (pc := 43) (ci := 10) (k := 13) ok dm_findPairs_43 rfl rfl zc_i10 (by decide) rfl wd_1016 ?_
          refine sm_iload_n (pc := 46) 1 ok dm_findPairs_46 rfl ?_
          refine sm_iast (pc := 47) ok dm_findPairs_47 rfl (fun S_9 => ?_)
          refine sm_aload_n (pc := 48) 0 ok dm_findPairs_48 rfl ?_
          refine sm_getR (pc := 49) (ci := 10) (k := 15) ok dm_findPairs_49 rfl rfl zc_i10 (by decide) rfl wd_1018 ?_
          refine sm_aload_n (pc := 52) 0 ok dm_findPairs_52 rfl ?_
          refine sm_getI (pc := 53) (ci := 10) (k := 13) ok dm_findPairs_53 rfl rfl zc_i10 (by decide) rfl wd_1016 ?_
          refine sm_iload_n (pc := 56) 2 ok dm_findPairs_56 rfl ?_
          refine sm_iast (pc := 57) ok dm_findPairs_57 rfl (fun S_10 => ?_)
          refine sm_aload_n (pc := 58) 0 ok dm_findPairs_58 rfl ?_
          refine sm_dup (pc := 59) ok dm_findPairs_59 rfl ?_
          refine sm_getI (pc := 60) (ci := 10) (k := 13) ok dm_findPairs_60 rfl rfl zc_i10 (by decide) rfl wd_1016 ?_
          refine sm_iconst (pc := 63) (1 : Int32) ok dm_findPairs_63 zk_1 ?_
          refine sm_iadd (pc := 64) ok dm_findPairs_64 ?_
          refine sm_putI (pc := 65) (ci := 10) (k := 13) ok dm_findPairs_65 rfl rfl zc_i10 zc_y10 zc_t10 zc_n10 (by decide) rfl rfl rfl wd_1016 (fun S_11 => ?_)
          exact tm_findPairs_b68 ok hr N h7 ih _ _ _
set_option maxHeartbeats 4000000 in
set_option maxRecDepth 20000 in
theorem tm_findPairs_b7 {x : sm_Cx} (ok : sm_Ok x zm_sy prog_12_method_58_code "LentShadesModel" 3 3 67) (hr : (xh x).sig.returnType = none) (N : Nat) : ∀ (n : Nat) (v1 : Int32) (S : sm_St), sm_Sm x zm_sy prog_12_method_58_code (sm_Q x zm_sy (sm_Pv zm_sy (xw x))) (pm_findPairs_b7 N n v1 S) S 7 [(0, .ref ((xw x).2.2 0)), (1, .int v1)] [] := by
  intro n
  induction n with
  | zero =>
    intro v1 S
    exact sm_none
  | succ n ih =>
    intro v1 S
    show sm_Sm x zm_sy prog_12_method_58_code (sm_Q x zm_sy (sm_Pv zm_sy (xw x))) (if (4 : Int32) ≤ v1 then (some S) else (sm_lt (v1 + (1 : Int32)) (fun (v2_3 : Int32) => pm_findPairs_b16 N (pm_findPairs_b7 N n) N v1 v2_3 S))) S 7 [(0, .ref ((xw x).2.2 0)), (1, .int v1)] []
    refine sm_iload_n (pc := 7) 1 ok dm_findPairs_7 rfl ?_
    refine sm_iconst (pc := 8) (4 : Int32) ok dm_findPairs_8 zk_4 ?_
    refine sm_icmp_ge (pc := 9) 80 ok dm_findPairs_9 (by decide) (fun _ => ?_) (fun _ => ?_)
    · exact sm_vret (pc := 80) ok dm_findPairs_80 hr
    · refine sm_iload_n (pc := 12) 1 ok dm_findPairs_12 rfl ?_
      refine sm_iconst (pc := 13) (1 : Int32) ok dm_findPairs_13 zk_1 ?_
      refine sm_iadd (pc := 14) ok dm_findPairs_14 ?_
      refine sm_istore_n (pc := 15) (i := 2) ok dm_findPairs_15 rfl (by decide) (fun v => [(2, .int v), (0, .ref ((xw x).2.2 0)), (1, .int v1)]) (fun _ => rfl) (fun v2_3 => ?_)
      refine sm_lv [1, 2, 0] rfl ?_
      exact tm_findPairs_b16 ok hr N ih N _ _ _
set_option maxHeartbeats 4000000 in
set_option maxRecDepth 20000 in
theorem tm_findPairs {x : sm_Cx} (ok : sm_Ok x zm_sy prog_12_method_58_code "LentShadesModel" 3 3 67) (hr : (xh x).sig.returnType = none) (N : Nat) (S : sm_St) : sm_Sm x zm_sy prog_12_method_58_code (sm_Q x zm_sy (sm_Pv zm_sy (xw x))) (pm_findPairs N S) S 0 [(0, .ref ((xw x).2.2 0))] [] := by
  unfold pm_findPairs
  refine sm_aload_n (pc := 0) 0 ok dm_findPairs_0 rfl ?_
  refine sm_iconst (pc := 1) (0 : Int32) ok dm_findPairs_1 zk_0 ?_
  refine sm_putI (pc := 2) (ci := 10) (k := 13) ok dm_findPairs_2 rfl rfl zc_i10 zc_y10 zc_t10 zc_n10 (by decide) rfl rfl rfl wd_1016 (fun S_1 => ?_)
  refine sm_iconst (pc := 5) (0 : Int32) ok dm_findPairs_5 zk_0 ?_
  refine sm_istore_n (pc := 6) (i := 1) ok dm_findPairs_6 rfl (by decide) (fun v => [(1, .int v), (0, .ref ((xw x).2.2 0))]) (fun _ => rfl) (fun v1_2 => ?_)
  refine sm_lv [1, 0] rfl ?_
  exact tm_findPairs_b7 ok hr N N _ _
theorem cm_findPairs {l : Launch} {wc : sm_Wc} (hj : sm_inj zm_sy wc) (N : Nat) (S : sm_St) : sm_Ct l zm_sy wc ym_findPairs prog_12_method_58_code 3 none 3 67 [.ref (wc.2.2 0)] S (sm_Pv zm_sy wc) (pm_findPairs N S) :=
  sm_entry (Pq := fun wc => sm_Pv zm_sy wc) (fun wc => [.ref (wc.2.2 0)]) (lv := fun wc => [(0, .ref (wc.2.2 0))]) (by decide) hj zm_ok zm_stb (fun _ => Nat.le_of_ble_eq_true rfl) (fun _ => rfl) (fun x _ ok hr => tm_findPairs ok hr N S)
set_option maxHeartbeats 4000000 in
set_option maxRecDepth 20000 in
theorem tm_comesSo_b80 {x : sm_Cx} (ok : sm_Ok x zm_sy prog_12_method_59_code "LentShadesModel" 7 7 161) (hr : (xh x).sig.returnType = (some .boolean)) (N : Nat) (v1 : Int32) (v2 : Int32) (v3 : Int32) (v4 : Int32) (S : sm_St) : sm_Sm x zm_sy prog_12_method_59_code (sm_Q x zm_sy (sm_Pi zm_sy (xw x))) (pm_comesSo_b80 N v1 v2 v3 v4 S) S 80 [(0, .ref ((xw x).2.2 0)), (1, .int v1), (2, .int v2), (3, .int v3), (4, .int v4)] [] := by
  unfold pm_comesSo_b80
  refine sm_aload_n (pc := 80) 0 ok dm_comesSo_80 rfl ?_
  refine sm_iload (pc := 81) 4 ok dm_comesSo_81 rfl ?_
  refine sm_callV_v (pc := 83) (ci := 10) [.int v4] ok dm_comesSo_83 wd_1177 mwm_nights rfl rfl (Nat.le_of_ble_eq_true rfl) (Nat.le_of_ble_eq_true rfl) rfl rfl (Nat.le_of_ble_eq_true rfl) (cm_nights (sm_okj ok) N S v4) (fun S_4 => ?_)
  refine sm_aload_n (pc := 86) 0 ok dm_comesSo_86 rfl ?_
  refine sm_iload_n (pc := 87) 1 ok dm_comesSo_87 rfl ?_
  refine sm_iload_n (pc := 88) 2 ok dm_comesSo_88 rfl ?_
  refine sm_callV_i (pc := 89) (ci := 10) [.int v1, .int v2] ok dm_comesSo_89 wd_1281 mwm_hasLeast rfl rfl (Nat.le_of_ble_eq_true rfl) (Nat.le_of_ble_eq_true rfl) rfl rfl (Nat.le_of_ble_eq_true rfl) (cm_hasLeast (sm_okj ok) N S_4 v1 v2) (fun r_6 S_5 => ?_)
  refine sm_if_eq (pc := 92) 108 ok dm_comesSo_92 (by decide) (fun _ => ?_) (fun _ => ?_)
  · refine sm_iconst (pc := 108) (0 : Int32) ok dm_comesSo_108 zk_0 ?_
    exact sm_zret (pc := 109) ok dm_comesSo_109 hr rfl
  · refine sm_aload_n (pc := 95) 0 ok dm_comesSo_95 rfl ?_
    refine sm_iload_n (pc := 96) 1 ok dm_comesSo_96 rfl ?_
    refine sm_iload_n (pc := 97) 3 ok dm_comesSo_97 rfl ?_
    refine sm_callV_i (pc := 98) (ci := 10) [.int v1, .int v3] ok dm_comesSo_98 wd_1321 mwm_hasMost rfl rfl (Nat.le_of_ble_eq_true rfl) (Nat.le_of_ble_eq_true rfl) rfl rfl (Nat.le_of_ble_eq_true rfl) (cm_hasMost (sm_okj ok) N S_5 v1 v3) (fun r_8 S_7 => ?_)
    refine sm_if_eq (pc := 101) 108 ok dm_comesSo_101 (by decide) (fun _ => ?_) (fun _ => ?_)
    · refine sm_iconst (pc := 108) (0 : Int32) ok dm_comesSo_108 zk_0 ?_
      exact sm_zret (pc := 109) ok dm_comesSo_109 hr rfl
    · refine sm_iconst (pc := 104) (1 : Int32) ok dm_comesSo_104 zk_1 ?_
      refine sm_goto (pc := 105) 109 ok dm_comesSo_105 (by decide) ?_
      exact sm_zret (pc := 109) ok dm_comesSo_109 hr rfl
set_option maxHeartbeats 4000000 in
set_option maxRecDepth 20000 in
theorem tm_comesSo_b42 {x : sm_Cx} (ok : sm_Ok x zm_sy prog_12_method_59_code "LentShadesModel" 7 7 161) (hr : (xh x).sig.returnType = (some .boolean)) (N : Nat) (v1 : Int32) (v2 : Int32) (v3 : Int32) (v4 : Int32) (v6 : Int32) (S : sm_St) : sm_Sm x zm_sy prog_12_method_59_code (sm_Q x zm_sy (sm_Pi zm_sy (xw x))) (pm_comesSo_b42 N v1 v2 v3 v4 v6 S) S 42 [(0, .ref ((xw x).2.2 0)), (1, .int v1), (2, .int v2), (3, .int v3), (4, .int v4), (6, .int v6)] [] := by
  unfold pm_comesSo_b42
  refine sm_iload (pc := 42) 5 ok dm_comesSo_42 rfl ?_
  refine sm_iconst (pc := 44) (-1 : Int32) ok dm_comesSo_44 zk_m1 ?_
  refine sm_icmp_eq (pc := 45) 80 ok dm_comesSo_45 (by decide) (fun _ => ?_) (fun _ => ?_)
  · refine sm_lv [0, 1, 2, 3, 4] rfl ?_
    exact tm_comesSo_b80 ok hr N _ _ _ _ _
  · refine sm_aload_n (pc := 48) 0 ok dm_comesSo_48 rfl ?_
    refine sm_getR (pc := 49) (ci := 10) (k := 7) ok dm_comesSo_49 rfl rfl zc_i10 (by decide) rfl wd_1010 ?_
    refine sm_iconst (pc := 52) (0 : Int32) ok dm_comesSo_52 zk_0 ?_
    refine sm_aload_n (pc := 53) 0 ok dm_comesSo_53 rfl ?_
    refine sm_getR (pc := 54) (ci := 10) (k := 14) ok dm_comesSo_54 rfl rfl zc_i10 (by decide) rfl wd_1017 ?_
    refine sm_iload (pc := 57) 5 ok dm_comesSo_57 rfl ?_
    refine sm_iconst (pc := 59) (2 : Int32) ok dm_comesSo_59 zk_2 ?_
    refine sm_idivc (pc := 60) ok dm_comesSo_60 (by decide) ?_
    refine sm_iald (pc := 61) ok dm_comesSo_61 rfl ?_
    refine sm_aload_n (pc := 62) 0 ok dm_comesSo_62 rfl ?_
    refine sm_getR (pc := 63) (ci := 10) (k := 15) ok dm_comesSo_63 rfl rfl zc_i10 (by decide) rfl wd_1018 ?_
    refine sm_iload (pc := 66) 5 ok dm_comesSo_66 rfl ?_
    refine sm_iconst (pc := 68) (2 : Int32) ok dm_comesSo_68 zk_2 ?_
    refine sm_idivc (pc := 69) ok dm_comesSo_69 (by decide) ?_
    refine sm_iald (pc := 70) ok dm_comesSo_70 rfl ?_
    refine sm_iload (pc := 71) 5 ok dm_comesSo_71 rfl ?_
    refine sm_iconst (pc := 73) (2 : Int32) ok dm_comesSo_73 zk_2 ?_
    refine sm_iremc (pc := 74) ok dm_comesSo_74 (by decide) ?_
    refine sm_iconst (pc := 75) (3 : Int32) ok dm_comesSo_75 zk_3 ?_
    refine sm_imul (pc := 76) ok dm_comesSo_76 ?_
    refine sm_callS_v (pc := 77) [.ref ((xw x).2.2 7), .int (0 : Int32), .int (S.1 13 (v6 / (2 : Int32)).toNatClampNeg), .int (S.1 14 (v6 / (2 : Int32)).toNatClampNeg), .int ((v6 - v6 / (2 : Int32) * (2 : Int32)) * (3 : Int32))] ok dm_comesSo_77 wd_1158 mwm_putHours (Nat.le_of_ble_eq_true rfl) (Nat.le_of_ble_eq_true rfl) rfl rfl (Nat.le_of_ble_eq_true rfl) (cm_putHours (sm_okj ok) N S 7 (0 : Int32) (S.1 13 (v6 / (2 : Int32)).toNatClampNeg) (S.1 14 (v6 / (2 : Int32)).toNatClampNeg) ((v6 - v6 / (2 : Int32) * (2 : Int32)) * (3 : Int32)) (sm_tag rfl)) (fun S_3 => ?_)
    refine sm_lv [0, 1, 2, 3, 4] rfl ?_
    exact tm_comesSo_b80 ok hr N _ _ _ _ _
set_option maxHeartbeats 4000000 in
set_option maxRecDepth 20000 in
theorem tm_comesSo {x : sm_Cx} (ok : sm_Ok x zm_sy prog_12_method_59_code "LentShadesModel" 7 7 161) (hr : (xh x).sig.returnType = (some .boolean)) (N : Nat) (S : sm_St) (v1 : Int32) (v2 : Int32) (v3 : Int32) (v4 : Int32) (v5 : Int32) (v6 : Int32) : sm_Sm x zm_sy prog_12_method_59_code (sm_Q x zm_sy (sm_Pi zm_sy (xw x))) (pm_comesSo N S v1 v2 v3 v4 v5 v6) S 0 [(0, .ref ((xw x).2.2 0)), (1, .int v1), (2, .int v2), (3, .int v3), (4, .int v4), (5, .int v5), (6, .int v6)] [] := by
  unfold pm_comesSo
  refine sm_aload_n (pc := 0) 0 ok dm_comesSo_0 rfl ?_
  refine sm_callV_v (pc := 1) (ci := 10) [] ok dm_comesSo_1 wd_1173 mwm_takeNow rfl rfl (Nat.le_of_ble_eq_true rfl) (Nat.le_of_ble_eq_true rfl) rfl rfl (Nat.le_of_ble_eq_true rfl) (cm_takeNow (sm_okj ok) N S) (fun S_1 => ?_)
  refine sm_iload (pc := 4) 5 ok dm_comesSo_4 rfl ?_
  refine sm_iconst (pc := 6) (-1 : Int32) ok dm_comesSo_6 zk_m1 ?_
  refine sm_icmp_eq (pc := 7) 42 ok dm_comesSo_7 (by decide) (fun _ => ?_) (fun _ => ?_)
  · refine sm_lv [0, 1, 2, 3, 4, 6] rfl ?_
    exact tm_comesSo_b42 ok hr N _ _ _ _ _ _
  · refine sm_aload_n (pc := 10) 0 ok dm_comesSo_10 rfl ?_
    refine sm_getR (pc := 11) (ci := 10) (k := 7) ok dm_comesSo_11 rfl rfl zc_i10 (by decide) rfl wd_1010 ?_
    refine sm_iconst (pc := 14) (0 : Int32) ok dm_comesSo_14 zk_0 ?_
    refine sm_aload_n (pc := 15) 0 ok dm_comesSo_15 rfl ?_
    refine sm_getR (pc := 16) (ci := 10) (k := 14) ok dm_comesSo_16 rfl rfl zc_i10 (by decide) rfl wd_1017 ?_
    refine sm_iload (pc := 19) 5 ok dm_comesSo_19 rfl ?_
    refine sm_iconst (pc := 21) (2 : Int32) ok dm_comesSo_21 zk_2 ?_
    refine sm_idivc (pc := 22) ok dm_comesSo_22 (by decide) ?_
    refine sm_iald (pc := 23) ok dm_comesSo_23 rfl ?_
    refine sm_aload_n (pc := 24) 0 ok dm_comesSo_24 rfl ?_
    refine sm_getR (pc := 25) (ci := 10) (k := 15) ok dm_comesSo_25 rfl rfl zc_i10 (by decide) rfl wd_1018 ?_
    refine sm_iload (pc := 28) 5 ok dm_comesSo_28 rfl ?_
    refine sm_iconst (pc := 30) (2 : Int32) ok dm_comesSo_30 zk_2 ?_
    refine sm_idivc (pc := 31) ok dm_comesSo_31 (by decide) ?_
    refine sm_iald (pc := 32) ok dm_comesSo_32 rfl ?_
    refine sm_iload (pc := 33) 5 ok dm_comesSo_33 rfl ?_
    refine sm_iconst (pc := 35) (2 : Int32) ok dm_comesSo_35 zk_2 ?_
    refine sm_iremc (pc := 36) ok dm_comesSo_36 (by decide) ?_
    refine sm_iconst (pc := 37) (3 : Int32) ok dm_comesSo_37 zk_3 ?_
    refine sm_imul (pc := 38) ok dm_comesSo_38 ?_
    refine sm_callS_v (pc := 39) [.ref ((xw x).2.2 7), .int (0 : Int32), .int (S_1.1 13 (v5 / (2 : Int32)).toNatClampNeg), .int (S_1.1 14 (v5 / (2 : Int32)).toNatClampNeg), .int ((v5 - v5 / (2 : Int32) * (2 : Int32)) * (3 : Int32))] ok dm_comesSo_39 wd_1158 mwm_putHours (Nat.le_of_ble_eq_true rfl) (Nat.le_of_ble_eq_true rfl) rfl rfl (Nat.le_of_ble_eq_true rfl) (cm_putHours (sm_okj ok) N S_1 7 (0 : Int32) (S_1.1 13 (v5 / (2 : Int32)).toNatClampNeg) (S_1.1 14 (v5 / (2 : Int32)).toNatClampNeg) ((v5 - v5 / (2 : Int32) * (2 : Int32)) * (3 : Int32)) (sm_tag rfl)) (fun S_2 => ?_)
    refine sm_lv [0, 1, 2, 3, 4, 6] rfl ?_
    exact tm_comesSo_b42 ok hr N _ _ _ _ _ _
theorem cm_comesSo {l : Launch} {wc : sm_Wc} (hj : sm_inj zm_sy wc) (N : Nat) (S : sm_St) (v1 : Int32) (v2 : Int32) (v3 : Int32) (v4 : Int32) (v5 : Int32) (v6 : Int32) : sm_Ct l zm_sy wc ym_comesSo prog_12_method_59_code 7 (some .boolean) 7 161 [.ref (wc.2.2 0), .int v1, .int v2, .int v3, .int v4, .int v5, .int v6] S (sm_Pi zm_sy wc) (pm_comesSo N S v1 v2 v3 v4 v5 v6) :=
  sm_entry (Pq := fun wc => sm_Pi zm_sy wc) (fun wc => [.ref (wc.2.2 0), .int v1, .int v2, .int v3, .int v4, .int v5, .int v6]) (lv := fun wc => [(0, .ref (wc.2.2 0)), (1, .int v1), (2, .int v2), (3, .int v3), (4, .int v4), (5, .int v5), (6, .int v6)]) (by decide) hj zm_ok zm_stb (fun _ => Nat.le_of_ble_eq_true rfl) (fun _ => rfl) (fun x _ ok hr => tm_comesSo ok hr N S v1 v2 v3 v4 v5 v6)
set_option maxHeartbeats 4000000 in
set_option maxRecDepth 20000 in
theorem tm_findMoves_b97 {x : sm_Cx} (ok : sm_Ok x zm_sy prog_12_method_60_code "LentShadesModel" 7 8 187) (hr : (xh x).sig.returnType = (some .int)) (N : Nat) {r76 : Int32 → Int32 → Int32 → Int32 → Int32 → sm_St → Option (Int32 × sm_St)} (h76 : ∀ (v1 : Int32) (v2 : Int32) (v3 : Int32) (v4 : Int32) (v5 : Int32) (S : sm_St), sm_Sm x zm_sy prog_12_method_60_code (sm_Q x zm_sy (sm_Pi zm_sy (xw x))) (r76 v1 v2 v3 v4 v5 S) S 76 [(0, .ref ((xw x).2.2 0)), (1, .int v1), (2, .int v2), (3, .int v3), (4, .int v4), (5, .int v5)] []) : ∀ (n : Nat) (v1 : Int32) (v2 : Int32) (v3 : Int32) (v4 : Int32) (v5 : Int32) (v6 : Int32) (S : sm_St), sm_Sm x zm_sy prog_12_method_60_code (sm_Q x zm_sy (sm_Pi zm_sy (xw x))) (pm_findMoves_b97 N r76 n v1 v2 v3 v4 v5 v6 S) S 97 [(0, .ref ((xw x).2.2 0)), (1, .int v1), (2, .int v2), (3, .int v3), (4, .int v4), (5, .int v5), (6, .int v6)] [] := by
  intro n
  induction n with
  | zero =>
    intro v1 v2 v3 v4 v5 v6 S
    exact sm_none
  | succ n ih =>
    intro v1 v2 v3 v4 v5 v6 S
    show sm_Sm x zm_sy prog_12_method_60_code (sm_Q x zm_sy (sm_Pi zm_sy (xw x))) (if ((2 : Int32) * (S.1 0 13)) ≤ v6 then (sm_lt (v5 + (1 : Int32)) (fun (v5_13 : Int32) => r76 v1 v2 v3 v4 v5_13 S)) else (sm_b2 (pm_comesSo N S v1 v2 v3 v4 v5 v6) (fun (r_15 : Int32) (S_14 : sm_St) => if r_15 = 0 then (sm_lt (v6 + (1 : Int32)) (fun (v6_16 : Int32) => (pm_findMoves_b97 N r76 n) v1 v2 v3 v4 v5 v6_16 S_14)) else (sm_lt (sm_sI S_14 0 16 v5) (fun (S_17 : sm_St) => sm_lt (sm_sI S_17 0 17 v6) (fun (S_18 : sm_St) => some ((2 : Int32), S_18))))))) S 97 [(0, .ref ((xw x).2.2 0)), (1, .int v1), (2, .int v2), (3, .int v3), (4, .int v4), (5, .int v5), (6, .int v6)] []
    refine sm_iload (pc := 97) 6 ok dm_findMoves_97 rfl ?_
    refine sm_iconst (pc := 99) (2 : Int32) ok dm_findMoves_99 zk_2 ?_
    refine sm_aload_n (pc := 100) 0 ok dm_findMoves_100 rfl ?_
    refine sm_getI (pc := 101) (ci := 10) (k := 13) ok dm_findMoves_101 rfl rfl zc_i10 (by decide) rfl wd_1016 ?_
    refine sm_imul (pc := 104) ok dm_findMoves_104 ?_
    refine sm_icmp_ge (pc := 105) 144 ok dm_findMoves_105 (by decide) (fun _ => ?_) (fun _ => ?_)
    · refine sm_iinc (pc := 144) (i := 5) 5 (1 : Int32) ok dm_findMoves_144 rfl zk_1 (by decide) (fun v => [(5, .int v), (0, .ref ((xw x).2.2 0)), (1, .int v1), (2, .int v2), (3, .int v3), (4, .int v4), (6, .int v6)]) (fun _ => rfl) (fun v5_13 => ?_)
      refine sm_goto (pc := 147) 76 ok dm_findMoves_147 (by decide) ?_
      refine sm_lv [1, 2, 3, 4, 5, 0] rfl ?_
      exact h76 _ _ _ _ _ _
    · refine sm_aload_n (pc := 108) 0 ok dm_findMoves_108 rfl ?_
      refine sm_iload_n (pc := 109) 1 ok dm_findMoves_109 rfl ?_
      refine sm_iload_n (pc := 110) 2 ok dm_findMoves_110 rfl ?_
      refine sm_iload_n (pc := 111) 3 ok dm_findMoves_111 rfl ?_
      refine sm_iload (pc := 112) 4 ok dm_findMoves_112 rfl ?_
      refine sm_iload (pc := 114) 5 ok dm_findMoves_114 rfl ?_
      refine sm_iload (pc := 116) 6 ok dm_findMoves_116 rfl ?_
      refine sm_callV_i (pc := 118) (ci := 10) [.int v1, .int v2, .int v3, .int v4, .int v5, .int v6] ok dm_findMoves_118 wd_1317 mwm_comesSo rfl rfl (Nat.le_of_ble_eq_true rfl) (Nat.le_of_ble_eq_true rfl) rfl rfl (Nat.le_of_ble_eq_true rfl) (cm_comesSo (sm_okj ok) N S v1 v2 v3 v4 v5 v6) (fun r_15 S_14 => ?_)
      refine sm_if_eq (pc := 121) 138 ok dm_findMoves_121 (by decide) (fun _ => ?_) (fun _ => ?_)
      · refine sm_iinc (pc := 138) (i := 6) 6 (1 : Int32) ok dm_findMoves_138 rfl zk_1 (by decide) (fun v => [(6, .int v), (0, .ref ((xw x).2.2 0)), (1, .int v1), (2, .int v2), (3, .int v3), (4, .int v4), (5, .int v5)]) (fun _ => rfl) (fun v6_16 => ?_)
        refine sm_goto (pc := 141) 97 ok dm_findMoves_141 (by decide) ?_
        refine sm_lv [1, 2, 3, 4, 5, 6, 0] rfl ?_
        exact ih _ _ _ _ _ _ _
      · refine sm_aload_n (pc := 124) 0 ok dm_findMoves_124 rfl ?_
        refine sm_iload (pc := 125) 5 ok dm_findMoves_125 rfl ?_
        refine sm_putI (pc := 127) (ci := 10) (k := 16) ok dm_findMoves_127 rfl rfl zc_i10 zc_y10 zc_t10 zc_n10 (by decide) rfl rfl rfl wd_1019 (fun S_17 => ?_)
        refine sm_aload_n (pc := 130) 0 ok dm_findMoves_130 rfl ?_
        refine sm_iload (pc := 131) 6 ok dm_findMoves_131 rfl ?_
        refine sm_putI (pc := 133) (ci := 10) (k := 17) ok dm_findMoves_133 rfl rfl zc_i10 zc_y10 zc_t10 zc_n10 (by decide) rfl rfl rfl wd_1020 (fun S_18 => ?_)
        refine sm_iconst (pc := 136) (2 : Int32) ok dm_findMoves_136 zk_2 ?_
        exact sm_iret (pc := 137) ok dm_findMoves_137 hr
set_option maxHeartbeats 4000000 in
set_option maxRecDepth 20000 in
theorem tm_findMoves_b76 {x : sm_Cx} (ok : sm_Ok x zm_sy prog_12_method_60_code "LentShadesModel" 7 8 187) (hr : (xh x).sig.returnType = (some .int)) (N : Nat) : ∀ (n : Nat) (v1 : Int32) (v2 : Int32) (v3 : Int32) (v4 : Int32) (v5 : Int32) (S : sm_St), sm_Sm x zm_sy prog_12_method_60_code (sm_Q x zm_sy (sm_Pi zm_sy (xw x))) (pm_findMoves_b76 N n v1 v2 v3 v4 v5 S) S 76 [(0, .ref ((xw x).2.2 0)), (1, .int v1), (2, .int v2), (3, .int v3), (4, .int v4), (5, .int v5)] [] := by
  intro n
  induction n with
  | zero =>
    intro v1 v2 v3 v4 v5 S
    exact sm_none
  | succ n ih =>
    intro v1 v2 v3 v4 v5 S
    show sm_Sm x zm_sy prog_12_method_60_code (sm_Q x zm_sy (sm_Pi zm_sy (xw x))) (if ((2 : Int32) * (S.1 0 13)) ≤ v5 then (some ((-1 : Int32), S)) else (sm_lt (((v5 / (2 : Int32)) * (2 : Int32)) + (2 : Int32)) (fun (v6_12 : Int32) => pm_findMoves_b97 N (pm_findMoves_b76 N n) N v1 v2 v3 v4 v5 v6_12 S))) S 76 [(0, .ref ((xw x).2.2 0)), (1, .int v1), (2, .int v2), (3, .int v3), (4, .int v4), (5, .int v5)] []
    refine sm_iload (pc := 76) 5 ok dm_findMoves_76 rfl ?_
    refine sm_iconst (pc := 78) (2 : Int32) ok dm_findMoves_78 zk_2 ?_
    refine sm_aload_n (pc := 79) 0 ok dm_findMoves_79 rfl ?_
    refine sm_getI (pc := 80) (ci := 10) (k := 13) ok dm_findMoves_80 rfl rfl zc_i10 (by decide) rfl wd_1016 ?_
    refine sm_imul (pc := 83) ok dm_findMoves_83 ?_
    refine sm_icmp_ge (pc := 84) 150 ok dm_findMoves_84 (by decide) (fun _ => ?_) (fun _ => ?_)
    · refine sm_iconst (pc := 150) (-1 : Int32) ok dm_findMoves_150 zk_m1 ?_
      exact sm_iret (pc := 151) ok dm_findMoves_151 hr
    · refine sm_iload (pc := 87) 5 ok dm_findMoves_87 rfl ?_
      refine sm_iconst (pc := 89) (2 : Int32) ok dm_findMoves_89 zk_2 ?_
      refine sm_idivc (pc := 90) ok dm_findMoves_90 (by decide) ?_
      refine sm_iconst (pc := 91) (2 : Int32) ok dm_findMoves_91 zk_2 ?_
      refine sm_imul (pc := 92) ok dm_findMoves_92 ?_
      refine sm_iconst (pc := 93) (2 : Int32) ok dm_findMoves_93 zk_2 ?_
      refine sm_iadd (pc := 94) ok dm_findMoves_94 ?_
      refine sm_istore (pc := 95) (i := 6) ok dm_findMoves_95 (by decide) (fun v => [(6, .int v), (0, .ref ((xw x).2.2 0)), (1, .int v1), (2, .int v2), (3, .int v3), (4, .int v4), (5, .int v5)]) (fun _ => rfl) (fun v6_12 => ?_)
      refine sm_lv [1, 2, 3, 4, 5, 6, 0] rfl ?_
      exact tm_findMoves_b97 ok hr N ih N _ _ _ _ _ _ _
set_option maxHeartbeats 4000000 in
set_option maxRecDepth 20000 in
theorem tm_findMoves_b33 {x : sm_Cx} (ok : sm_Ok x zm_sy prog_12_method_60_code "LentShadesModel" 7 8 187) (hr : (xh x).sig.returnType = (some .int)) (N : Nat) : ∀ (n : Nat) (v1 : Int32) (v2 : Int32) (v3 : Int32) (v4 : Int32) (v5 : Int32) (S : sm_St), sm_Sm x zm_sy prog_12_method_60_code (sm_Q x zm_sy (sm_Pi zm_sy (xw x))) (pm_findMoves_b33 N n v1 v2 v3 v4 v5 S) S 33 [(0, .ref ((xw x).2.2 0)), (1, .int v1), (2, .int v2), (3, .int v3), (4, .int v4), (5, .int v5)] [] := by
  intro n
  induction n with
  | zero =>
    intro v1 v2 v3 v4 v5 S
    exact sm_none
  | succ n ih =>
    intro v1 v2 v3 v4 v5 S
    show sm_Sm x zm_sy prog_12_method_60_code (sm_Q x zm_sy (sm_Pi zm_sy (xw x))) (if ((2 : Int32) * (S.1 0 13)) ≤ v5 then (sm_lt (0 : Int32) (fun (v5_7 : Int32) => pm_findMoves_b76 N N v1 v2 v3 v4 v5_7 S)) else (sm_b2 (pm_comesSo N S v1 v2 v3 v4 v5 (-1 : Int32)) (fun (r_9 : Int32) (S_8 : sm_St) => if r_9 = 0 then (sm_lt (v5 + (1 : Int32)) (fun (v5_10 : Int32) => (pm_findMoves_b33 N n) v1 v2 v3 v4 v5_10 S_8)) else (sm_lt (sm_sI S_8 0 16 v5) (fun (S_11 : sm_St) => some ((1 : Int32), S_11)))))) S 33 [(0, .ref ((xw x).2.2 0)), (1, .int v1), (2, .int v2), (3, .int v3), (4, .int v4), (5, .int v5)] []
    refine sm_iload (pc := 33) 5 ok dm_findMoves_33 rfl ?_
    refine sm_iconst (pc := 35) (2 : Int32) ok dm_findMoves_35 zk_2 ?_
    refine sm_aload_n (pc := 36) 0 ok dm_findMoves_36 rfl ?_
    refine sm_getI (pc := 37) (ci := 10) (k := 13) ok dm_findMoves_37 rfl rfl zc_i10 (by decide) rfl wd_1016 ?_
    refine sm_imul (pc := 40) ok dm_findMoves_40 ?_
    refine sm_icmp_ge (pc := 41) 73 ok dm_findMoves_41 (by decide) (fun _ => ?_) (fun _ => ?_)
    · refine sm_iconst (pc := 73) (0 : Int32) ok dm_findMoves_73 zk_0 ?_
      refine sm_istore (pc := 74) (i := 5) ok dm_findMoves_74 (by decide) (fun v => [(5, .int v), (0, .ref ((xw x).2.2 0)), (1, .int v1), (2, .int v2), (3, .int v3), (4, .int v4)]) (fun _ => rfl) (fun v5_7 => ?_)
      refine sm_lv [1, 2, 3, 4, 5, 0] rfl ?_
      exact tm_findMoves_b76 ok hr N N _ _ _ _ _ _
    · refine sm_aload_n (pc := 44) 0 ok dm_findMoves_44 rfl ?_
      refine sm_iload_n (pc := 45) 1 ok dm_findMoves_45 rfl ?_
      refine sm_iload_n (pc := 46) 2 ok dm_findMoves_46 rfl ?_
      refine sm_iload_n (pc := 47) 3 ok dm_findMoves_47 rfl ?_
      refine sm_iload (pc := 48) 4 ok dm_findMoves_48 rfl ?_
      refine sm_iload (pc := 50) 5 ok dm_findMoves_50 rfl ?_
      refine sm_iconst (pc := 52) (-1 : Int32) ok dm_findMoves_52 zk_m1 ?_
      refine sm_callV_i (pc := 53) (ci := 10) [.int v1, .int v2, .int v3, .int v4, .int v5, .int (-1 : Int32)] ok dm_findMoves_53 wd_1317 mwm_comesSo rfl rfl (Nat.le_of_ble_eq_true rfl) (Nat.le_of_ble_eq_true rfl) rfl rfl (Nat.le_of_ble_eq_true rfl) (cm_comesSo (sm_okj ok) N S v1 v2 v3 v4 v5 (-1 : Int32)) (fun r_9 S_8 => ?_)
      refine sm_if_eq (pc := 56) 67 ok dm_findMoves_56 (by decide) (fun _ => ?_) (fun _ => ?_)
      · refine sm_iinc (pc := 67) (i := 5) 5 (1 : Int32) ok dm_findMoves_67 rfl zk_1 (by decide) (fun v => [(5, .int v), (0, .ref ((xw x).2.2 0)), (1, .int v1), (2, .int v2), (3, .int v3), (4, .int v4)]) (fun _ => rfl) (fun v5_10 => ?_)
        refine sm_goto (pc := 70) 33 ok dm_findMoves_70 (by decide) ?_
        refine sm_lv [1, 2, 3, 4, 5, 0] rfl ?_
        exact ih _ _ _ _ _ _
      · refine sm_aload_n (pc := 59) 0 ok dm_findMoves_59 rfl ?_
        refine sm_iload (pc := 60) 5 ok dm_findMoves_60 rfl ?_
        refine sm_putI (pc := 62) (ci := 10) (k := 16) ok dm_findMoves_62 rfl rfl zc_i10 zc_y10 zc_t10 zc_n10 (by decide) rfl rfl rfl wd_1019 (fun S_11 => ?_)
        refine sm_iconst (pc := 65) (1 : Int32) ok dm_findMoves_65 zk_1 ?_
        exact sm_iret (pc := 66) ok dm_findMoves_66 hr
set_option maxHeartbeats 4000000 in
set_option maxRecDepth 20000 in
theorem tm_findMoves {x : sm_Cx} (ok : sm_Ok x zm_sy prog_12_method_60_code "LentShadesModel" 7 8 187) (hr : (xh x).sig.returnType = (some .int)) (N : Nat) (S : sm_St) (v1 : Int32) (v2 : Int32) (v3 : Int32) (v4 : Int32) : sm_Sm x zm_sy prog_12_method_60_code (sm_Q x zm_sy (sm_Pi zm_sy (xw x))) (pm_findMoves N S v1 v2 v3 v4) S 0 [(0, .ref ((xw x).2.2 0)), (1, .int v1), (2, .int v2), (3, .int v3), (4, .int v4)] [] := by
  unfold pm_findMoves
  refine sm_aload_n (pc := 0) 0 ok dm_findMoves_0 rfl ?_
  refine sm_iconst (pc := 1) (-1 : Int32) ok dm_findMoves_1 zk_m1 ?_
  refine sm_putI (pc := 2) (ci := 10) (k := 16) ok dm_findMoves_2 rfl rfl zc_i10 zc_y10 zc_t10 zc_n10 (by decide) rfl rfl rfl wd_1019 (fun S_1 => ?_)
  refine sm_aload_n (pc := 5) 0 ok dm_findMoves_5 rfl ?_
  refine sm_iconst (pc := 6) (-1 : Int32) ok dm_findMoves_6 zk_m1 ?_
  refine sm_putI (pc := 7) (ci := 10) (k := 17) ok dm_findMoves_7 rfl rfl zc_i10 zc_y10 zc_t10 zc_n10 (by decide) rfl rfl rfl wd_1020 (fun S_2 => ?_)
  refine sm_aload_n (pc := 10) 0 ok dm_findMoves_10 rfl ?_
  refine sm_iload_n (pc := 11) 1 ok dm_findMoves_11 rfl ?_
  refine sm_iload_n (pc := 12) 2 ok dm_findMoves_12 rfl ?_
  refine sm_iload_n (pc := 13) 3 ok dm_findMoves_13 rfl ?_
  refine sm_iload (pc := 14) 4 ok dm_findMoves_14 rfl ?_
  refine sm_iconst (pc := 16) (-1 : Int32) ok dm_findMoves_16 zk_m1 ?_
  refine sm_iconst (pc := 17) (-1 : Int32) ok dm_findMoves_17 zk_m1 ?_
  refine sm_callV_i (pc := 18) (ci := 10) [.int v1, .int v2, .int v3, .int v4, .int (-1 : Int32), .int (-1 : Int32)] ok dm_findMoves_18 wd_1317 mwm_comesSo rfl rfl (Nat.le_of_ble_eq_true rfl) (Nat.le_of_ble_eq_true rfl) rfl rfl (Nat.le_of_ble_eq_true rfl) (cm_comesSo (sm_okj ok) N S_2 v1 v2 v3 v4 (-1 : Int32) (-1 : Int32)) (fun r_4 S_3 => ?_)
  refine sm_if_eq (pc := 21) 26 ok dm_findMoves_21 (by decide) (fun _ => ?_) (fun _ => ?_)
  · refine sm_aload_n (pc := 26) 0 ok dm_findMoves_26 rfl ?_
    refine sm_callV_v (pc := 27) (ci := 10) [] ok dm_findMoves_27 wd_1325 mwm_findPairs rfl rfl (Nat.le_of_ble_eq_true rfl) (Nat.le_of_ble_eq_true rfl) rfl rfl (Nat.le_of_ble_eq_true rfl) (cm_findPairs (sm_okj ok) N S_3) (fun S_5 => ?_)
    refine sm_iconst (pc := 30) (0 : Int32) ok dm_findMoves_30 zk_0 ?_
    refine sm_istore (pc := 31) (i := 5) ok dm_findMoves_31 (by decide) (fun v => [(5, .int v), (0, .ref ((xw x).2.2 0)), (1, .int v1), (2, .int v2), (3, .int v3), (4, .int v4)]) (fun _ => rfl) (fun v5_6 => ?_)
    refine sm_lv [1, 2, 3, 4, 5, 0] rfl ?_
    exact tm_findMoves_b33 ok hr N N _ _ _ _ _ _
  · refine sm_iconst (pc := 24) (0 : Int32) ok dm_findMoves_24 zk_0 ?_
    exact sm_iret (pc := 25) ok dm_findMoves_25 hr
theorem cm_findMoves {l : Launch} {wc : sm_Wc} (hj : sm_inj zm_sy wc) (N : Nat) (S : sm_St) (v1 : Int32) (v2 : Int32) (v3 : Int32) (v4 : Int32) : sm_Ct l zm_sy wc ym_findMoves prog_12_method_60_code 7 (some .int) 8 187 [.ref (wc.2.2 0), .int v1, .int v2, .int v3, .int v4] S (sm_Pi zm_sy wc) (pm_findMoves N S v1 v2 v3 v4) :=
  sm_entry (Pq := fun wc => sm_Pi zm_sy wc) (fun wc => [.ref (wc.2.2 0), .int v1, .int v2, .int v3, .int v4]) (lv := fun wc => [(0, .ref (wc.2.2 0)), (1, .int v1), (2, .int v2), (3, .int v3), (4, .int v4)]) (by decide) hj zm_ok zm_stb (fun _ => Nat.le_of_ble_eq_true rfl) (fun _ => rfl) (fun x _ ok hr => tm_findMoves ok hr N S v1 v2 v3 v4)
set_option maxHeartbeats 4000000 in
set_option maxRecDepth 20000 in
theorem tm_tellMove {x : sm_Cx} (ok : sm_Ok x zm_sy prog_12_method_61_code "LentShadesModel" 2 0 0) (hr : (xh x).sig.returnType = (some .int)) (N : Nat) (S : sm_St) (v1 : Int32) : sm_Sm x zm_sy prog_12_method_61_code (sm_Q x zm_sy (sm_Pi zm_sy (xw x))) (pm_tellMove N S v1) S 0 [(0, .ref ((xw x).2.2 0)), (1, .int v1)] [] := by
  unfold pm_tellMove
  refine sm_iload_n (pc := 0) 1 ok dm_tellMove_0 rfl ?_
  refine sm_iconst (pc := 1) (-1 : Int32) ok dm_tellMove_1 zk_m1 ?_
  refine sm_icmp_ne (pc := 2) 10 ok dm_tellMove_2 (by decide) (fun _ => ?_) (fun _ => ?_)
  · refine sm_sipush (pc := 10) (1000 : Int32) ok dm_tellMove_10 zs_1000 ?_
    refine sm_aload_n (pc := 13) 0 ok dm_tellMove_13 rfl ?_
    refine sm_getR (pc := 14) (ci := 10) (k := 14) ok dm_tellMove_14 rfl rfl zc_i10 (by decide) rfl wd_1017 ?_
    refine sm_iload_n (pc := 17) 1 ok dm_tellMove_17 rfl ?_
    refine sm_iconst (pc := 18) (2 : Int32) ok dm_tellMove_18 zk_2 ?_
    refine sm_idivc (pc := 19) ok dm_tellMove_19 (by decide) ?_
    refine sm_iald (pc := 20) ok dm_tellMove_20 rfl ?_
    refine sm_imul (pc := 21) ok dm_tellMove_21 ?_
    refine sm_bipush (pc := 22) (100 : Int32) ok dm_tellMove_22 zb_100 ?_
    refine sm_aload_n (pc := 24) 0 ok dm_tellMove_24 rfl ?_
    refine sm_getR (pc := 25) (ci := 10) (k := 15) ok dm_tellMove_25 rfl rfl zc_i10 (by decide) rfl wd_1018 ?_
    refine sm_iload_n (pc := 28) 1 ok dm_tellMove_28 rfl ?_
    refine sm_iconst (pc := 29) (2 : Int32) ok dm_tellMove_29 zk_2 ?_
    refine sm_idivc (pc := 30) ok dm_tellMove_30 (by decide) ?_
    refine sm_iald (pc := 31) ok dm_tellMove_31 rfl ?_
    refine sm_imul (pc := 32) ok dm_tellMove_32 ?_
    refine sm_iadd (pc := 33) ok dm_tellMove_33 ?_
    refine sm_iconst (pc := 34) (3 : Int32) ok dm_tellMove_34 zk_3 ?_
    refine sm_iload_n (pc := 35) 1 ok dm_tellMove_35 rfl ?_
    refine sm_iconst (pc := 36) (2 : Int32) ok dm_tellMove_36 zk_2 ?_
    refine sm_iremc (pc := 37) ok dm_tellMove_37 (by decide) ?_
    refine sm_imul (pc := 38) ok dm_tellMove_38 ?_
    refine sm_iadd (pc := 39) ok dm_tellMove_39 ?_
    exact sm_iret (pc := 40) ok dm_tellMove_40 hr
  · refine sm_bipush (pc := 5) (-5 : Int32) ok dm_tellMove_5 zb_m5 ?_
    refine sm_goto (pc := 7) 40 ok dm_tellMove_7 (by decide) ?_
    exact sm_iret (pc := 40) ok dm_tellMove_40 hr
theorem cm_tellMove {l : Launch} {wc : sm_Wc} (hj : sm_inj zm_sy wc) (N : Nat) (S : sm_St) (v1 : Int32) : sm_Ct l zm_sy wc ym_tellMove prog_12_method_61_code 2 (some .int) 0 0 [.ref (wc.2.2 0), .int v1] S (sm_Pi zm_sy wc) (pm_tellMove N S v1) :=
  sm_entry (Pq := fun wc => sm_Pi zm_sy wc) (fun wc => [.ref (wc.2.2 0), .int v1]) (lv := fun wc => [(0, .ref (wc.2.2 0)), (1, .int v1)]) (by decide) hj zm_ok zm_stb (fun _ => Nat.le_of_ble_eq_true rfl) (fun _ => rfl) (fun x _ ok hr => tm_tellMove ok hr N S v1)
set_option maxHeartbeats 4000000 in
set_option maxRecDepth 20000 in
theorem tm_moves_b57 {x : sm_Cx} (ok : sm_Ok x zm_sy prog_12_method_62_code "LentShadesModel" 7 9 213) (hr : (xh x).sig.returnType = (some .int)) (N : Nat) (S : sm_St) : sm_Sm x zm_sy prog_12_method_62_code (sm_Q x zm_sy (sm_Pi zm_sy (xw x))) (pm_moves_b57 N S) S 57 [(0, .ref ((xw x).2.2 0))] [] := by
  unfold pm_moves_b57
  refine sm_aload_n (pc := 57) 0 ok dm_moves_57 rfl ?_
  refine sm_bipush (pc := 58) (-10 : Int32) ok dm_moves_58 zb_m10 ?_
  refine sm_callV_i (pc := 60) (ci := 10) [.int (-10 : Int32)] ok dm_moves_60 wd_1110 mwm_bad rfl rfl (Nat.le_of_ble_eq_true rfl) (Nat.le_of_ble_eq_true rfl) rfl rfl (Nat.le_of_ble_eq_true rfl) (cm_bad (sm_okj ok) N S (-10 : Int32)) (fun r_17 S_16 => ?_)
  exact sm_iret (pc := 63) ok dm_moves_63 hr
set_option maxHeartbeats 4000000 in
set_option maxRecDepth 20000 in
theorem tm_moves_b107 {x : sm_Cx} (ok : sm_Ok x zm_sy prog_12_method_62_code "LentShadesModel" 7 9 213) (hr : (xh x).sig.returnType = (some .int)) (N : Nat) (s1 : Int32) (S : sm_St) : sm_Sm x zm_sy prog_12_method_62_code (sm_Q x zm_sy (sm_Pi zm_sy (xw x))) (pm_moves_b107 N s1 S) S 107 [] [.int s1, .ref ((xw x).2.2 0)] := by
  unfold pm_moves_b107
  refine sm_callV_i (pc := 107) (ci := 10) [.int s1] ok dm_moves_107 wd_1329 mwm_tellMove rfl rfl (Nat.le_of_ble_eq_true rfl) (Nat.le_of_ble_eq_true rfl) rfl rfl (Nat.le_of_ble_eq_true rfl) (cm_tellMove (sm_okj ok) N S s1) (fun r_15 S_14 => ?_)
  exact sm_iret (pc := 110) ok dm_moves_110 hr
set_option maxHeartbeats 4000000 in
set_option maxRecDepth 20000 in
theorem tm_moves {x : sm_Cx} (ok : sm_Ok x zm_sy prog_12_method_62_code "LentShadesModel" 7 9 213) (hr : (xh x).sig.returnType = (some .int)) (N : Nat) (S : sm_St) (v1 : Int32) (v2 : Int32) (v3 : Int32) (v4 : Int32) (v5 : Int32) : sm_Sm x zm_sy prog_12_method_62_code (sm_Q x zm_sy (sm_Pi zm_sy (xw x))) (pm_moves N S v1 v2 v3 v4 v5) S 0 [(0, .ref ((xw x).2.2 0)), (1, .int v1), (2, .int v2), (3, .int v3), (4, .int v4), (5, .int v5)] [] := by
  unfold pm_moves
  refine sm_aload_n (pc := 0) 0 ok dm_moves_0 rfl ?_
  refine sm_iload_n (pc := 1) 1 ok dm_moves_1 rfl ?_
  refine sm_callV_i (pc := 2) (ci := 10) [.int v1] ok dm_moves_2 wd_1154 mwm_isCloth rfl rfl (Nat.le_of_ble_eq_true rfl) (Nat.le_of_ble_eq_true rfl) rfl rfl (Nat.le_of_ble_eq_true rfl) (cm_isCloth (sm_okj ok) N S v1) (fun r_2 S_1 => ?_)
  refine sm_if_eq (pc := 5) 57 ok dm_moves_5 (by decide) (fun _ => ?_) (fun _ => ?_)
  · refine sm_lv [0] rfl ?_
    exact tm_moves_b57 ok hr N _
  · refine sm_iload_n (pc := 8) 3 ok dm_moves_8 rfl ?_
    refine sm_i2l (pc := 9) ok dm_moves_9 ?_
    refine sm_lconst (pc := 10) (0 : Int64) ok dm_moves_10 zl_0 ?_
    refine sm_ldc2 (pc := 11) ok dm_moves_11 wd_1109 ?_
    refine sm_callS_i (pc := 14) [.long (v3.toInt64), .long (0 : Int64), .long (12 : Int64)] ok dm_moves_14 wd_1105 mwm_in (Nat.le_of_ble_eq_true rfl) (Nat.le_of_ble_eq_true rfl) rfl rfl (Nat.le_of_ble_eq_true rfl) (cm_in (sm_okj ok) N S_1 (v3.toInt64) (0 : Int64) (12 : Int64)) (fun r_4 S_3 => ?_)
    refine sm_if_eq (pc := 17) 57 ok dm_moves_17 (by decide) (fun _ => ?_) (fun _ => ?_)
    · refine sm_lv [0] rfl ?_
      exact tm_moves_b57 ok hr N _
    · refine sm_iload_n (pc := 20) 2 ok dm_moves_20 rfl ?_
      refine sm_i2l (pc := 21) ok dm_moves_21 ?_
      refine sm_lconst (pc := 22) (0 : Int64) ok dm_moves_22 zl_0 ?_
      refine sm_iload_n (pc := 23) 3 ok dm_moves_23 rfl ?_
      refine sm_i2l (pc := 24) ok dm_moves_24 ?_
      refine sm_callS_i (pc := 25) [.long (v2.toInt64), .long (0 : Int64), .long (v3.toInt64)] ok dm_moves_25 wd_1105 mwm_in (Nat.le_of_ble_eq_true rfl) (Nat.le_of_ble_eq_true rfl) rfl rfl (Nat.le_of_ble_eq_true rfl) (cm_in (sm_okj ok) N S_3 (v2.toInt64) (0 : Int64) (v3.toInt64)) (fun r_6 S_5 => ?_)
      refine sm_if_eq (pc := 28) 57 ok dm_moves_28 (by decide) (fun _ => ?_) (fun _ => ?_)
      · refine sm_lv [0] rfl ?_
        exact tm_moves_b57 ok hr N _
      · refine sm_iload (pc := 31) 4 ok dm_moves_31 rfl ?_
        refine sm_i2l (pc := 33) ok dm_moves_33 ?_
        refine sm_lconst (pc := 34) (1 : Int64) ok dm_moves_34 zl_1 ?_
        refine sm_ldc2 (pc := 35) ok dm_moves_35 wd_1108 ?_
        refine sm_callS_i (pc := 38) [.long (v4.toInt64), .long (1 : Int64), .long (3 : Int64)] ok dm_moves_38 wd_1105 mwm_in (Nat.le_of_ble_eq_true rfl) (Nat.le_of_ble_eq_true rfl) rfl rfl (Nat.le_of_ble_eq_true rfl) (cm_in (sm_okj ok) N S_5 (v4.toInt64) (1 : Int64) (3 : Int64)) (fun r_8 S_7 => ?_)
        refine sm_if_eq (pc := 41) 57 ok dm_moves_41 (by decide) (fun _ => ?_) (fun _ => ?_)
        · refine sm_lv [0] rfl ?_
          exact tm_moves_b57 ok hr N _
        · refine sm_iload (pc := 44) 5 ok dm_moves_44 rfl ?_
          refine sm_i2l (pc := 46) ok dm_moves_46 ?_
          refine sm_lconst (pc := 47) (0 : Int64) ok dm_moves_47 zl_0 ?_
          refine sm_ldc2 (pc := 48) ok dm_moves_48 wd_1244 ?_
          refine sm_callS_i (pc := 51) [.long (v5.toInt64), .long (0 : Int64), .long (2 : Int64)] ok dm_moves_51 wd_1105 mwm_in (Nat.le_of_ble_eq_true rfl) (Nat.le_of_ble_eq_true rfl) rfl rfl (Nat.le_of_ble_eq_true rfl) (cm_in (sm_okj ok) N S_7 (v5.toInt64) (0 : Int64) (2 : Int64)) (fun r_10 S_9 => ?_)
          refine sm_if_ne (pc := 54) 64 ok dm_moves_54 (by decide) (fun _ => ?_) (fun _ => ?_)
          · refine sm_aload_n (pc := 64) 0 ok dm_moves_64 rfl ?_
            refine sm_iload_n (pc := 65) 1 ok dm_moves_65 rfl ?_
            refine sm_iload_n (pc := 66) 2 ok dm_moves_66 rfl ?_
            refine sm_iload_n (pc := 67) 3 ok dm_moves_67 rfl ?_
            refine sm_iload (pc := 68) 4 ok dm_moves_68 rfl ?_
            refine sm_callV_i (pc := 70) (ci := 10) [.int v1, .int v2, .int v3, .int v4] ok dm_moves_70 wd_1313 mwm_findMoves rfl rfl (Nat.le_of_ble_eq_true rfl) (Nat.le_of_ble_eq_true rfl) rfl rfl (Nat.le_of_ble_eq_true rfl) (cm_findMoves (sm_okj ok) N S_9 v1 v2 v3 v4) (fun r_12 S_11 => ?_)
            refine sm_istore (pc := 73) (i := 6) ok dm_moves_73 (by decide) (fun v => [(6, .int v), (0, .ref ((xw x).2.2 0)), (1, .int v1), (2, .int v2), (3, .int v3), (4, .int v4), (5, .int v5)]) (fun _ => rfl) (fun v6_13 => ?_)
            refine sm_iload (pc := 75) 6 ok dm_moves_75 rfl ?_
            refine sm_if_eq (pc := 77) 86 ok dm_moves_77 (by decide) (fun _ => ?_) (fun _ => ?_)
            · refine sm_iload (pc := 86) 0 ok dm_moves_86 rfl ?_
              exact sm_iret (pc := 88) ok dm_moves_88 hr
            · refine sm_iload (pc := 80) 0 ok dm_moves_80 rfl ?_
              refine sm_iconst (pc := 82) (-1 : Int32) ok dm_moves_82 zk_m1 ?_
              refine sm_icmp_ne (pc := 83) 89 ok dm_moves_83 (by decide) (fun _ => ?_) (fun _ => ?_)
              · refine sm_aload_n (pc := 89) 1 ok dm_moves_89 rfl ?_
                refine sm_iload (pc := 90) 6 ok dm_moves_90 rfl ?_
                refine sm_iconst (pc := 92) (1 : Int32) ok dm_moves_92 zk_1 ?_
                refine sm_icmp_ne (pc := 93) 103 ok dm_moves_93 (by decide) (fun _ => ?_) (fun _ => ?_)
                · refine sm_aload_n (pc := 103) 1 ok dm_moves_103 rfl ?_
                  refine sm_getI (pc := 104) (ci := 10) (k := 17) ok dm_moves_104 rfl rfl zc_i10 (by decide) rfl wd_1020 ?_
                  refine sm_lv [] rfl ?_
                  exact tm_moves_b107 ok hr N _ _
                · refine sm_aload_n (pc := 96) 1 ok dm_moves_96 rfl ?_
                  refine sm_getI (pc := 97) (ci := 10) (k := 16) ok dm_moves_97 rfl rfl zc_i10 (by decide) rfl wd_1019 ?_
                  refine sm_goto (pc := 100) 107 ok dm_moves_100 (by decide) ?_
                  refine sm_lv [] rfl ?_
                  exact tm_moves_b107 ok hr N _ _
              · refine sm_iload (pc := 86) 0 ok dm_moves_86 rfl ?_
                exact sm_iret (pc := 88) ok dm_moves_88 hr
          · refine sm_lv [0] rfl ?_
            exact tm_moves_b57 ok hr N _
theorem cm_moves {l : Launch} {wc : sm_Wc} (hj : sm_inj zm_sy wc) (N : Nat) (S : sm_St) (v1 : Int32) (v2 : Int32) (v3 : Int32) (v4 : Int32) (v5 : Int32) : sm_Ct l zm_sy wc ym_moves prog_12_method_62_code 7 (some .int) 9 213 [.ref (wc.2.2 0), .int v1, .int v2, .int v3, .int v4, .int v5] S (sm_Pi zm_sy wc) (pm_moves N S v1 v2 v3 v4 v5) :=
  sm_entry (Pq := fun wc => sm_Pi zm_sy wc) (fun wc => [.ref (wc.2.2 0), .int v1, .int v2, .int v3, .int v4, .int v5]) (lv := fun wc => [(0, .ref (wc.2.2 0)), (1, .int v1), (2, .int v2), (3, .int v3), (4, .int v4), (5, .int v5)]) (by decide) hj zm_ok zm_stb (fun _ => Nat.le_of_ble_eq_true rfl) (fun _ => rfl) (fun x _ ok hr => tm_moves ok hr N S v1 v2 v3 v4 v5)
set_option maxHeartbeats 4000000 in
set_option maxRecDepth 20000 in
theorem tm_bound_b31 {x : sm_Cx} (ok : sm_Ok x zm_sy prog_12_method_63_code "LentShadesModel" 4 2 46) (hr : (xh x).sig.returnType = (some .int)) (N : Nat) (S : sm_St) : sm_Sm x zm_sy prog_12_method_63_code (sm_Q x zm_sy (sm_Pi zm_sy (xw x))) (pm_bound_b31 N S) S 31 [(0, .ref ((xw x).2.2 0))] [] := by
  unfold pm_bound_b31
  refine sm_aload_n (pc := 31) 0 ok dm_bound_31 rfl ?_
  refine sm_bipush (pc := 32) (-2 : Int32) ok dm_bound_32 zb_m2 ?_
  refine sm_callV_i (pc := 34) (ci := 10) [.int (-2 : Int32)] ok dm_bound_34 wd_1110 mwm_bad rfl rfl (Nat.le_of_ble_eq_true rfl) (Nat.le_of_ble_eq_true rfl) rfl rfl (Nat.le_of_ble_eq_true rfl) (cm_bad (sm_okj ok) N S (-2 : Int32)) (fun r_10 S_9 => ?_)
  exact sm_iret (pc := 37) ok dm_bound_37 hr
set_option maxHeartbeats 4000000 in
set_option maxRecDepth 20000 in
theorem tm_bound {x : sm_Cx} (ok : sm_Ok x zm_sy prog_12_method_63_code "LentShadesModel" 4 2 46) (hr : (xh x).sig.returnType = (some .int)) (N : Nat) (S : sm_St) (v1 : Int32) (v2 : Int32) (v3 : Int32) : sm_Sm x zm_sy prog_12_method_63_code (sm_Q x zm_sy (sm_Pi zm_sy (xw x))) (pm_bound N S v1 v2 v3) S 0 [(0, .ref ((xw x).2.2 0)), (1, .int v1), (2, .int v2), (3, .int v3)] [] := by
  unfold pm_bound
  refine sm_aload_n (pc := 0) 0 ok dm_bound_0 rfl ?_
  refine sm_iload_n (pc := 1) 1 ok dm_bound_1 rfl ?_
  refine sm_callV_i (pc := 2) (ci := 10) [.int v1] ok dm_bound_2 wd_1154 mwm_isCloth rfl rfl (Nat.le_of_ble_eq_true rfl) (Nat.le_of_ble_eq_true rfl) rfl rfl (Nat.le_of_ble_eq_true rfl) (cm_isCloth (sm_okj ok) N S v1) (fun r_2 S_1 => ?_)
  refine sm_if_eq (pc := 5) 31 ok dm_bound_5 (by decide) (fun _ => ?_) (fun _ => ?_)
  · refine sm_lv [0] rfl ?_
    exact tm_bound_b31 ok hr N _
  · refine sm_iload_n (pc := 8) 3 ok dm_bound_8 rfl ?_
    refine sm_i2l (pc := 9) ok dm_bound_9 ?_
    refine sm_lconst (pc := 10) (0 : Int64) ok dm_bound_10 zl_0 ?_
    refine sm_ldc2 (pc := 11) ok dm_bound_11 wd_1109 ?_
    refine sm_callS_i (pc := 14) [.long (v3.toInt64), .long (0 : Int64), .long (12 : Int64)] ok dm_bound_14 wd_1105 mwm_in (Nat.le_of_ble_eq_true rfl) (Nat.le_of_ble_eq_true rfl) rfl rfl (Nat.le_of_ble_eq_true rfl) (cm_in (sm_okj ok) N S_1 (v3.toInt64) (0 : Int64) (12 : Int64)) (fun r_4 S_3 => ?_)
    refine sm_if_eq (pc := 17) 31 ok dm_bound_17 (by decide) (fun _ => ?_) (fun _ => ?_)
    · refine sm_lv [0] rfl ?_
      exact tm_bound_b31 ok hr N _
    · refine sm_iload_n (pc := 20) 2 ok dm_bound_20 rfl ?_
      refine sm_i2l (pc := 21) ok dm_bound_21 ?_
      refine sm_lconst (pc := 22) (0 : Int64) ok dm_bound_22 zl_0 ?_
      refine sm_iload_n (pc := 23) 3 ok dm_bound_23 rfl ?_
      refine sm_i2l (pc := 24) ok dm_bound_24 ?_
      refine sm_callS_i (pc := 25) [.long (v2.toInt64), .long (0 : Int64), .long (v3.toInt64)] ok dm_bound_25 wd_1105 mwm_in (Nat.le_of_ble_eq_true rfl) (Nat.le_of_ble_eq_true rfl) rfl rfl (Nat.le_of_ble_eq_true rfl) (cm_in (sm_okj ok) N S_3 (v2.toInt64) (0 : Int64) (v3.toInt64)) (fun r_6 S_5 => ?_)
      refine sm_if_ne (pc := 28) 38 ok dm_bound_28 (by decide) (fun _ => ?_) (fun _ => ?_)
      · refine sm_aload_n (pc := 38) 0 ok dm_bound_38 rfl ?_
        refine sm_getR (pc := 39) (ci := 10) (k := 0) ok dm_bound_39 rfl rfl zc_i10 (by decide) rfl wd_1003 ?_
        refine sm_iconst (pc := 42) (0 : Int32) ok dm_bound_42 zk_0 ?_
        refine sm_iconst (pc := 43) (4 : Int32) ok dm_bound_43 zk_4 ?_
        refine sm_iload_n (pc := 44) 1 ok dm_bound_44 rfl ?_
        refine sm_imul (pc := 45) ok dm_bound_45 ?_
        refine sm_iadd (pc := 46) ok dm_bound_46 ?_
        refine sm_iconst (pc := 47) (2 : Int32) ok dm_bound_47 zk_2 ?_
        refine sm_iadd (pc := 48) ok dm_bound_48 ?_
        refine sm_iload_n (pc := 49) 2 ok dm_bound_49 rfl ?_
        refine sm_iast (pc := 50) ok dm_bound_50 rfl (fun S_7 => ?_)
        refine sm_aload_n (pc := 51) 0 ok dm_bound_51 rfl ?_
        refine sm_getR (pc := 52) (ci := 10) (k := 0) ok dm_bound_52 rfl rfl zc_i10 (by decide) rfl wd_1003 ?_
        refine sm_iconst (pc := 55) (0 : Int32) ok dm_bound_55 zk_0 ?_
        refine sm_iconst (pc := 56) (4 : Int32) ok dm_bound_56 zk_4 ?_
        refine sm_iload_n (pc := 57) 1 ok dm_bound_57 rfl ?_
        refine sm_imul (pc := 58) ok dm_bound_58 ?_
        refine sm_iadd (pc := 59) ok dm_bound_59 ?_
        refine sm_iconst (pc := 60) (3 : Int32) ok dm_bound_60 zk_3 ?_
        refine sm_iadd (pc := 61) ok dm_bound_61 ?_
        refine sm_iload_n (pc := 62) 3 ok dm_bound_62 rfl ?_
        refine sm_iast (pc := 63) ok dm_bound_63 rfl (fun S_8 => ?_)
        refine sm_iconst (pc := 64) (1 : Int32) ok dm_bound_64 zk_1 ?_
        exact sm_iret (pc := 65) ok dm_bound_65 hr
      · refine sm_lv [0] rfl ?_
        exact tm_bound_b31 ok hr N _
theorem cm_bound {l : Launch} {wc : sm_Wc} (hj : sm_inj zm_sy wc) (N : Nat) (S : sm_St) (v1 : Int32) (v2 : Int32) (v3 : Int32) : sm_Ct l zm_sy wc ym_bound prog_12_method_63_code 4 (some .int) 2 46 [.ref (wc.2.2 0), .int v1, .int v2, .int v3] S (sm_Pi zm_sy wc) (pm_bound N S v1 v2 v3) :=
  sm_entry (Pq := fun wc => sm_Pi zm_sy wc) (fun wc => [.ref (wc.2.2 0), .int v1, .int v2, .int v3]) (lv := fun wc => [(0, .ref (wc.2.2 0)), (1, .int v1), (2, .int v2), (3, .int v3)]) (by decide) hj zm_ok zm_stb (fun _ => Nat.le_of_ble_eq_true rfl) (fun _ => rfl) (fun x _ ok hr => tm_bound ok hr N S v1 v2 v3)
set_option maxHeartbeats 4000000 in
set_option maxRecDepth 20000 in
theorem tm_layOrder_b78 {x : sm_Cx} (ok : sm_Ok x zm_sy prog_12_method_64_code "LentShadesModel" 6 1 20) (hr : (xh x).sig.returnType = (some .boolean)) (N : Nat) {r12 : Int32 → Int32 → Int32 → sm_St → Option (Int32 × sm_St)} {r43 : Int32 → Int32 → Int32 → Int32 → sm_St → Option (Int32 × sm_St)} (h12 : ∀ (v2 : Int32) (v3 : Int32) (v4 : Int32) (S : sm_St), sm_Sm x zm_sy prog_12_method_64_code (sm_Q x zm_sy (sm_Pi zm_sy (xw x))) (r12 v2 v3 v4 S) S 12 [(0, .ref ((xw x).2.2 0)), (2, .int v2), (3, .int v3), (4, .int v4)] []) (h43 : ∀ (v2 : Int32) (v3 : Int32) (v4 : Int32) (v5 : Int32) (S : sm_St), sm_Sm x zm_sy prog_12_method_64_code (sm_Q x zm_sy (sm_Pi zm_sy (xw x))) (r43 v2 v3 v4 v5 S) S 43 [(0, .ref ((xw x).2.2 0)), (2, .int v2), (3, .int v3), (4, .int v4), (5, .int v5)] []) (v2 : Int32) (v4 : Int32) (v5 : Int32) (s0 : Int32) (S : sm_St) : sm_Sm x zm_sy prog_12_method_64_code (sm_Q x zm_sy (sm_Pi zm_sy (xw x))) (pm_layOrder_b78 N r12 r43 v2 v4 v5 s0 S) S 78 [(0, .ref ((xw x).2.2 0)), (2, .int v2), (4, .int v4), (5, .int v5)] [.int s0] := by
  unfold pm_layOrder_b78
  refine sm_istore_n (pc := 78) (i := 3) ok dm_layOrder_78 rfl (by decide) (fun v => [(3, .int v), (0, .ref ((xw x).2.2 0)), (2, .int v2), (4, .int v4), (5, .int v5)]) (fun _ => rfl) (fun v3_16 => ?_)
  refine sm_iinc (pc := 79) (i := 5) 4 (1 : Int32) ok dm_layOrder_79 rfl zk_1 (by decide) (fun v => [(5, .int v), (3, .int v3_16), (0, .ref ((xw x).2.2 0)), (2, .int v2), (4, .int v4)]) (fun _ => rfl) (fun v5_17 => ?_)
  refine sm_goto (pc := 82) 43 ok dm_layOrder_82 (by decide) ?_
  refine sm_lv [2, 3, 1, 4, 0] rfl ?_
  exact h43 _ _ _ _ _
set_option maxHeartbeats 4000000 in
set_option maxRecDepth 20000 in
theorem tm_layOrder_b77 {x : sm_Cx} (ok : sm_Ok x zm_sy prog_12_method_64_code "LentShadesModel" 6 1 20) (hr : (xh x).sig.returnType = (some .boolean)) (N : Nat) {r12 : Int32 → Int32 → Int32 → sm_St → Option (Int32 × sm_St)} {r43 : Int32 → Int32 → Int32 → Int32 → sm_St → Option (Int32 × sm_St)} (h12 : ∀ (v2 : Int32) (v3 : Int32) (v4 : Int32) (S : sm_St), sm_Sm x zm_sy prog_12_method_64_code (sm_Q x zm_sy (sm_Pi zm_sy (xw x))) (r12 v2 v3 v4 S) S 12 [(0, .ref ((xw x).2.2 0)), (2, .int v2), (3, .int v3), (4, .int v4)] []) (h43 : ∀ (v2 : Int32) (v3 : Int32) (v4 : Int32) (v5 : Int32) (S : sm_St), sm_Sm x zm_sy prog_12_method_64_code (sm_Q x zm_sy (sm_Pi zm_sy (xw x))) (r43 v2 v3 v4 v5 S) S 43 [(0, .ref ((xw x).2.2 0)), (2, .int v2), (3, .int v3), (4, .int v4), (5, .int v5)] []) (v2 : Int32) (v4 : Int32) (v5 : Int32) (S : sm_St) : sm_Sm x zm_sy prog_12_method_64_code (sm_Q x zm_sy (sm_Pi zm_sy (xw x))) (pm_layOrder_b77 N r12 r43 v2 v4 v5 S) S 77 [(0, .ref ((xw x).2.2 0)), (2, .int v2), (4, .int v4), (5, .int v5)] [] := by
  unfold pm_layOrder_b77
  refine sm_iconst (pc := 77) (0 : Int32) ok dm_layOrder_77 zk_0 ?_
  exact tm_layOrder_b78 ok hr N h12 h43 _ _ _ _ _
set_option maxHeartbeats 4000000 in
set_option maxRecDepth 20000 in
theorem tm_layOrder_b43 {x : sm_Cx} (ok : sm_Ok x zm_sy prog_12_method_64_code "LentShadesModel" 6 1 20) (hr : (xh x).sig.returnType = (some .boolean)) (N : Nat) {r12 : Int32 → Int32 → Int32 → sm_St → Option (Int32 × sm_St)} (h12 : ∀ (v2 : Int32) (v3 : Int32) (v4 : Int32) (S : sm_St), sm_Sm x zm_sy prog_12_method_64_code (sm_Q x zm_sy (sm_Pi zm_sy (xw x))) (r12 v2 v3 v4 S) S 12 [(0, .ref ((xw x).2.2 0)), (2, .int v2), (3, .int v3), (4, .int v4)] []) : ∀ (n : Nat) (v2 : Int32) (v3 : Int32) (v4 : Int32) (v5 : Int32) (S : sm_St), sm_Sm x zm_sy prog_12_method_64_code (sm_Q x zm_sy (sm_Pi zm_sy (xw x))) (pm_layOrder_b43 N r12 n v2 v3 v4 v5 S) S 43 [(0, .ref ((xw x).2.2 0)), (2, .int v2), (3, .int v3), (4, .int v4), (5, .int v5)] [] := by
  intro n
  induction n with
  | zero =>
    intro v2 v3 v4 v5 S
    exact sm_none
  | succ n ih =>
    intro v2 v3 v4 v5 S
    show sm_Sm x zm_sy prog_12_method_64_code (sm_Q x zm_sy (sm_Pi zm_sy (xw x))) (sm_b2 (pm_cloths N S) (fun (r_14 : Int32) (S_13 : sm_St) => if r_14 ≤ v5 then (sm_lt (v4 + (-1 : Int32)) (fun (v4_15 : Int32) => r12 v2 v3 v4_15 S_13)) else (if v3 = 0 then (pm_layOrder_b77 N r12 (pm_layOrder_b43 N r12 n) v2 v4 v5 S_13) else (if sm_in v5 4 = true then (if sm_in v4 4 = true then (if (S_13.1 15 v5.toNatClampNeg) = (S_13.1 15 v4.toNatClampNeg) then (pm_layOrder_b77 N r12 (pm_layOrder_b43 N r12 n) v2 v4 v5 S_13) else (pm_layOrder_b78 N r12 (pm_layOrder_b43 N r12 n) v2 v4 v5 (1 : Int32) S_13)) else none) else none)))) S 43 [(0, .ref ((xw x).2.2 0)), (2, .int v2), (3, .int v3), (4, .int v4), (5, .int v5)] []
    refine sm_iload (pc := 43) 4 ok dm_layOrder_43 rfl ?_
    refine sm_aload_n (pc := 45) 0 ok dm_layOrder_45 rfl ?_
    refine sm_callV_i (pc := 46) (ci := 10) [] ok dm_layOrder_46 wd_1114 mwm_cloths rfl rfl (Nat.le_of_ble_eq_true rfl) (Nat.le_of_ble_eq_true rfl) rfl rfl (Nat.le_of_ble_eq_true rfl) (cm_cloths (sm_okj ok) N S) (fun r_14 S_13 => ?_)
    refine sm_icmp_ge (pc := 49) 85 ok dm_layOrder_49 (by decide) (fun _ => ?_) (fun _ => ?_)
    · refine sm_iinc (pc := 85) (i := 4) 3 (-1 : Int32) ok dm_layOrder_85 rfl zk_m1 (by decide) (fun v => [(4, .int v), (0, .ref ((xw x).2.2 0)), (2, .int v2), (3, .int v3), (5, .int v5)]) (fun _ => rfl) (fun v4_15 => ?_)
      refine sm_goto (pc := 88) 12 ok dm_layOrder_88 (by decide) ?_
      refine sm_lv [1, 2, 3, 0] rfl ?_
      exact h12 _ _ _ _
    · refine sm_iload_n (pc := 52) 2 ok dm_layOrder_52 rfl ?_
      refine sm_if_eq (pc := 53) 77 ok dm_layOrder_53 (by decide) (fun _ => ?_) (fun _ => ?_)
      · refine sm_lv [0, 1, 3, 4] rfl ?_
        exact tm_layOrder_b77 ok hr N h12 ih _ _ _ _
      · refine sm_aload_n (pc := 56) 0 ok dm_layOrder_56 rfl ?_
        refine sm_getR (pc := 57) (ci := 10) (k := 18) ok dm_layOrder_57 rfl rfl zc_i10 (by decide) rfl wd_1021 ?_
        refine sm_iload (pc := 60) 4 ok dm_layOrder_60 rfl ?_
        refine sm_iald (pc := 62) ok dm_layOrder_62 rfl ?_
        refine sm_aload_n (pc := 63) 0 ok dm_layOrder_63 rfl ?_
        refine sm_getR (pc := 64) (ci := 10) (k := 18) ok dm_layOrder_64 rfl rfl zc_i10 (by decide) rfl wd_1021 ?_
        refine sm_iload (pc := 67) 3 ok dm_layOrder_67 rfl ?_
        refine sm_iald (pc := 69) ok dm_layOrder_69 rfl ?_
        refine sm_icmp_eq (pc := 70) 77 ok dm_layOrder_70 (by decide) (fun _ => ?_) (fun _ => ?_)
        · refine sm_lv [0, 1, 3, 4] rfl ?_
          exact tm_layOrder_b77 ok hr N h12 ih _ _ _ _
        · refine sm_iconst (pc := 73) (1 : Int32) ok dm_layOrder_73 zk_1 ?_
          refine sm_goto (pc := 74) 78 ok dm_layOrder_74 (by decide) ?_
          refine sm_lv [0, 1, 3, 4] rfl ?_
          exact tm_layOrder_b78 ok hr N h12 ih _ _ _ _ _
set_option maxHeartbeats 4000000 in
set_option maxRecDepth 20000 in
theorem tm_layOrder_b12 {x : sm_Cx} (ok : sm_Ok x zm_sy prog_12_method_64_code "LentShadesModel" 6 1 20) (hr : (xh x).sig.returnType = (some .boolean)) (N : Nat) : ∀ (n : Nat) (v2 : Int32) (v3 : Int32) (v4 : Int32) (S : sm_St), sm_Sm x zm_sy prog_12_method_64_code (sm_Q x zm_sy (sm_Pi zm_sy (xw x))) (pm_layOrder_b12 N n v2 v3 v4 S) S 12 [(0, .ref ((xw x).2.2 0)), (2, .int v2), (3, .int v3), (4, .int v4)] [] := by
  intro n
  induction n with
  | zero =>
    intro v2 v3 v4 S
    exact sm_none
  | succ n ih =>
    intro v2 v3 v4 S
    show sm_Sm x zm_sy prog_12_method_64_code (sm_Q x zm_sy (sm_Pi zm_sy (xw x))) (if v4 < 0 then (sm_rz v3 S) else (sm_b2 (pm_cloths N S) (fun (r_7 : Int32) (S_6 : sm_St) => if r_7 = 0 then none else (if sm_in v4 4 = true then sm_lt (sm_sI S_6 15 v4.toNatClampNeg (v2 - v2 / r_7 * r_7)) (fun (S_8 : sm_St) => sm_b2 (pm_cloths N S_8) (fun (r_10 : Int32) (S_9 : sm_St) => if r_10 = 0 then none else (sm_lt (v2 / r_10) (fun (v2_11 : Int32) => sm_lt (v4 + (1 : Int32)) (fun (v5_12 : Int32) => pm_layOrder_b43 N (pm_layOrder_b12 N n) N v2_11 v3 v4 v5_12 S_9))))) else none)))) S 12 [(0, .ref ((xw x).2.2 0)), (2, .int v2), (3, .int v3), (4, .int v4)] []
    refine sm_iload (pc := 12) 3 ok dm_layOrder_12 rfl ?_
    refine sm_if_lt (pc := 14) 91 ok dm_layOrder_14 (by decide) (fun _ => ?_) (fun _ => ?_)
    · refine sm_iload_n (pc := 91) 2 ok dm_layOrder_91 rfl ?_
      exact sm_zretc (pc := 92) ok dm_layOrder_92 hr
    · refine sm_aload_n (pc := 17) 0 ok dm_layOrder_17 rfl ?_
      refine sm_getR (pc := 18) (ci := 10) (k := 18) ok dm_layOrder_18 rfl rfl zc_i10 (by decide) rfl wd_1021 ?_
      refine sm_iload (pc := 21) 3 ok dm_layOrder_21 rfl ?_
      refine sm_iload_n (pc := 23) 1 ok dm_layOrder_23 rfl ?_
      refine sm_aload_n (pc := 24) 0 ok dm_layOrder_24 rfl ?_
      refine sm_callV_i (pc := 25) (ci := 10) [] ok dm_layOrder_25 wd_1114 mwm_cloths rfl rfl (Nat.le_of_ble_eq_true rfl) (Nat.le_of_ble_eq_true rfl) rfl rfl (Nat.le_of_ble_eq_true rfl) (cm_cloths (sm_okj ok) N S) (fun r_7 S_6 => ?_)
      refine sm_irem (pc := 28) ok dm_layOrder_28 ?_
      refine sm_iast (pc := 29) ok dm_layOrder_29 rfl (fun S_8 => ?_)
      refine sm_iload_n (pc := 30) 1 ok dm_layOrder_30 rfl ?_
      refine sm_aload_n (pc := 31) 0 ok dm_layOrder_31 rfl ?_
      refine sm_callV_i (pc := 32) (ci := 10) [] ok dm_layOrder_32 wd_1114 mwm_cloths rfl rfl (Nat.le_of_ble_eq_true rfl) (Nat.le_of_ble_eq_true rfl) rfl rfl (Nat.le_of_ble_eq_true rfl) (cm_cloths (sm_okj ok) N S_8) (fun r_10 S_9 => ?_)
      refine sm_idiv (pc := 35) ok dm_layOrder_35 ?_
      refine sm_istore_n (pc := 36) (i := 2) ok dm_layOrder_36 rfl (by decide) (fun v => [(2, .int v), (0, .ref ((xw x).2.2 0)), (3, .int v3), (4, .int v4)]) (fun _ => rfl) (fun v2_11 => ?_)
      refine sm_iload (pc := 37) 3 ok dm_layOrder_37 rfl ?_
      refine sm_iconst (pc := 39) (1 : Int32) ok dm_layOrder_39 zk_1 ?_
      refine sm_iadd (pc := 40) ok dm_layOrder_40 ?_
      refine sm_istore (pc := 41) (i := 5) ok dm_layOrder_41 (by decide) (fun v => [(5, .int v), (2, .int v2_11), (0, .ref ((xw x).2.2 0)), (3, .int v3), (4, .int v4)]) (fun _ => rfl) (fun v5_12 => ?_)
      refine sm_lv [2, 1, 3, 4, 0] rfl ?_
      exact tm_layOrder_b43 ok hr N ih N _ _ _ _ _
set_option maxHeartbeats 4000000 in
set_option maxRecDepth 20000 in
theorem tm_layOrder {x : sm_Cx} (ok : sm_Ok x zm_sy prog_12_method_64_code "LentShadesModel" 6 1 20) (hr : (xh x).sig.returnType = (some .boolean)) (N : Nat) (S : sm_St) (v1 : Int32) : sm_Sm x zm_sy prog_12_method_64_code (sm_Q x zm_sy (sm_Pi zm_sy (xw x))) (pm_layOrder N S v1) S 0 [(0, .ref ((xw x).2.2 0)), (1, .int v1)] [] := by
  unfold pm_layOrder
  refine sm_iload_n (pc := 0) 1 ok dm_layOrder_0 rfl ?_
  refine sm_istore_n (pc := 1) (i := 2) ok dm_layOrder_1 rfl (by decide) (fun v => [(2, .int v), (0, .ref ((xw x).2.2 0)), (1, .int v1)]) (fun _ => rfl) (fun v2_1 => ?_)
  refine sm_iconst (pc := 2) (1 : Int32) ok dm_layOrder_2 zk_1 ?_
  refine sm_istore_n (pc := 3) (i := 3) ok dm_layOrder_3 rfl (by decide) (fun v => [(3, .int v), (2, .int v2_1), (0, .ref ((xw x).2.2 0)), (1, .int v1)]) (fun _ => rfl) (fun v3_2 => ?_)
  refine sm_aload_n (pc := 4) 2 ok dm_layOrder_4 rfl ?_
  refine sm_callV_i (pc := 5) (ci := 10) [] ok dm_layOrder_5 wd_1114 mwm_cloths rfl rfl (Nat.le_of_ble_eq_true rfl) (Nat.le_of_ble_eq_true rfl) rfl rfl (Nat.le_of_ble_eq_true rfl) (cm_cloths (sm_okj ok) N S) (fun r_4 S_3 => ?_)
  refine sm_iconst (pc := 8) (1 : Int32) ok dm_layOrder_8 zk_1 ?_
  refine sm_isub (pc := 9) ok dm_layOrder_9 ?_
  refine sm_istore (pc := 10) (i := 4) ok dm_layOrder_10 (by decide) (fun v => [(4, .int v), (3, .int v3_2), (2, .int v2_1), (0, .ref ((xw x).2.2 0)), (1, .int v1)]) (fun _ => rfl) (fun v4_5 => ?_)
  refine sm_lv [3, 2, 1, 0] rfl ?_
  exact tm_layOrder_b12 ok hr N N _ _ _ _
theorem cm_layOrder {l : Launch} {wc : sm_Wc} (hj : sm_inj zm_sy wc) (N : Nat) (S : sm_St) (v1 : Int32) : sm_Ct l zm_sy wc ym_layOrder prog_12_method_64_code 6 (some .boolean) 1 20 [.ref (wc.2.2 0), .int v1] S (sm_Pi zm_sy wc) (pm_layOrder N S v1) :=
  sm_entry (Pq := fun wc => sm_Pi zm_sy wc) (fun wc => [.ref (wc.2.2 0), .int v1]) (lv := fun wc => [(0, .ref (wc.2.2 0)), (1, .int v1)]) (by decide) hj zm_ok zm_stb (fun _ => Nat.le_of_ble_eq_true rfl) (fun _ => rfl) (fun x _ ok hr => tm_layOrder ok hr N S v1)
set_option maxHeartbeats 4000000 in
set_option maxRecDepth 20000 in
theorem tm_comesOutWell_b129 {x : sm_Cx} (ok : sm_Ok x zm_sy prog_12_method_65_code "LentShadesModel" 3 6 139) (hr : (xh x).sig.returnType = (some .boolean)) (N : Nat) {r72 : Int32 → Int32 → sm_St → Option (Int32 × sm_St)} (h72 : ∀ (v1 : Int32) (v2 : Int32) (S : sm_St), sm_Sm x zm_sy prog_12_method_65_code (sm_Q x zm_sy (sm_Pi zm_sy (xw x))) (r72 v1 v2 S) S 72 [(0, .ref ((xw x).2.2 0)), (1, .int v1), (2, .int v2)] []) (v2 : Int32) (s0 : Int32) (S : sm_St) : sm_Sm x zm_sy prog_12_method_65_code (sm_Q x zm_sy (sm_Pi zm_sy (xw x))) (pm_comesOutWell_b129 N r72 v2 s0 S) S 129 [(0, .ref ((xw x).2.2 0)), (2, .int v2)] [.int s0] := by
  unfold pm_comesOutWell_b129
  refine sm_istore_n (pc := 129) (i := 1) ok dm_comesOutWell_129 rfl (by decide) (fun v => [(1, .int v), (0, .ref ((xw x).2.2 0)), (2, .int v2)]) (fun _ => rfl) (fun v1_19 => ?_)
  refine sm_iinc (pc := 130) (i := 2) 2 (1 : Int32) ok dm_comesOutWell_130 rfl zk_1 (by decide) (fun v => [(2, .int v), (1, .int v1_19), (0, .ref ((xw x).2.2 0))]) (fun _ => rfl) (fun v2_20 => ?_)
  refine sm_goto (pc := 133) 72 ok dm_comesOutWell_133 (by decide) ?_
  refine sm_lv [2, 1, 0] rfl ?_
  exact h72 _ _ _
set_option maxHeartbeats 4000000 in
set_option maxRecDepth 20000 in
theorem tm_comesOutWell_b128 {x : sm_Cx} (ok : sm_Ok x zm_sy prog_12_method_65_code "LentShadesModel" 3 6 139) (hr : (xh x).sig.returnType = (some .boolean)) (N : Nat) {r72 : Int32 → Int32 → sm_St → Option (Int32 × sm_St)} (h72 : ∀ (v1 : Int32) (v2 : Int32) (S : sm_St), sm_Sm x zm_sy prog_12_method_65_code (sm_Q x zm_sy (sm_Pi zm_sy (xw x))) (r72 v1 v2 S) S 72 [(0, .ref ((xw x).2.2 0)), (1, .int v1), (2, .int v2)] []) (v2 : Int32) (S : sm_St) : sm_Sm x zm_sy prog_12_method_65_code (sm_Q x zm_sy (sm_Pi zm_sy (xw x))) (pm_comesOutWell_b128 N r72 v2 S) S 128 [(0, .ref ((xw x).2.2 0)), (2, .int v2)] [] := by
  unfold pm_comesOutWell_b128
  refine sm_iconst (pc := 128) (0 : Int32) ok dm_comesOutWell_128 zk_0 ?_
  exact tm_comesOutWell_b129 ok hr N h72 _ _ _
set_option maxHeartbeats 4000000 in
set_option maxRecDepth 20000 in
theorem tm_comesOutWell_b72 {x : sm_Cx} (ok : sm_Ok x zm_sy prog_12_method_65_code "LentShadesModel" 3 6 139) (hr : (xh x).sig.returnType = (some .boolean)) (N : Nat) : ∀ (n : Nat) (v1 : Int32) (v2 : Int32) (S : sm_St), sm_Sm x zm_sy prog_12_method_65_code (sm_Q x zm_sy (sm_Pi zm_sy (xw x))) (pm_comesOutWell_b72 N n v1 v2 S) S 72 [(0, .ref ((xw x).2.2 0)), (1, .int v1), (2, .int v2)] [] := by
  intro n
  induction n with
  | zero =>
    intro v1 v2 S
    exact sm_none
  | succ n ih =>
    intro v1 v2 S
    show sm_Sm x zm_sy prog_12_method_65_code (sm_Q x zm_sy (sm_Pi zm_sy (xw x))) (sm_b2 (pm_cloths N S) (fun (r_14 : Int32) (S_13 : sm_St) => if r_14 ≤ v2 then (sm_rz v1 S_13) else (if v1 = 0 then (sm_rz v1 S_13) else (if sm_in (((0 : Int32) + ((4 : Int32) * v2)) + (2 : Int32)) 81 = true then (sm_b2 (pm_hasLeast N S_13 v2 (S_13.1 1 (((0 : Int32) + ((4 : Int32) * v2)) + (2 : Int32)).toNatClampNeg)) (fun (r_16 : Int32) (S_15 : sm_St) => if r_16 = 0 then (pm_comesOutWell_b128 N (pm_comesOutWell_b72 N n) v2 S_15) else (if sm_in (((0 : Int32) + ((4 : Int32) * v2)) + (3 : Int32)) 81 = true then (sm_b2 (pm_hasMost N S_15 v2 (S_15.1 1 (((0 : Int32) + ((4 : Int32) * v2)) + (3 : Int32)).toNatClampNeg)) (fun (r_18 : Int32) (S_17 : sm_St) => if r_18 = 0 then (pm_comesOutWell_b128 N (pm_comesOutWell_b72 N n) v2 S_17) else (pm_comesOutWell_b129 N (pm_comesOutWell_b72 N n) v2 (1 : Int32) S_17))) else none))) else none)))) S 72 [(0, .ref ((xw x).2.2 0)), (1, .int v1), (2, .int v2)] []
    refine sm_iload_n (pc := 72) 2 ok dm_comesOutWell_72 rfl ?_
    refine sm_aload_n (pc := 73) 0 ok dm_comesOutWell_73 rfl ?_
    refine sm_callV_i (pc := 74) (ci := 10) [] ok dm_comesOutWell_74 wd_1114 mwm_cloths rfl rfl (Nat.le_of_ble_eq_true rfl) (Nat.le_of_ble_eq_true rfl) rfl rfl (Nat.le_of_ble_eq_true rfl) (cm_cloths (sm_okj ok) N S) (fun r_14 S_13 => ?_)
    refine sm_icmp_ge (pc := 77) 136 ok dm_comesOutWell_77 (by decide) (fun _ => ?_) (fun _ => ?_)
    · refine sm_iload_n (pc := 136) 1 ok dm_comesOutWell_136 rfl ?_
      exact sm_zretc (pc := 137) ok dm_comesOutWell_137 hr
    · refine sm_iload_n (pc := 80) 1 ok dm_comesOutWell_80 rfl ?_
      refine sm_if_eq (pc := 81) 136 ok dm_comesOutWell_81 (by decide) (fun _ => ?_) (fun _ => ?_)
      · refine sm_iload_n (pc := 136) 1 ok dm_comesOutWell_136 rfl ?_
        exact sm_zretc (pc := 137) ok dm_comesOutWell_137 hr
      · refine sm_aload_n (pc := 84) 0 ok dm_comesOutWell_84 rfl ?_
        refine sm_iload_n (pc := 85) 2 ok dm_comesOutWell_85 rfl ?_
        refine sm_aload_n (pc := 86) 0 ok dm_comesOutWell_86 rfl ?_
        refine sm_getR (pc := 87) (ci := 10) (k := 0) ok dm_comesOutWell_87 rfl rfl zc_i10 (by decide) rfl wd_1003 ?_
        refine sm_iconst (pc := 90) (0 : Int32) ok dm_comesOutWell_90 zk_0 ?_
        refine sm_iconst (pc := 91) (4 : Int32) ok dm_comesOutWell_91 zk_4 ?_
        refine sm_iload_n (pc := 92) 2 ok dm_comesOutWell_92 rfl ?_
        refine sm_imul (pc := 93) ok dm_comesOutWell_93 ?_
        refine sm_iadd (pc := 94) ok dm_comesOutWell_94 ?_
        refine sm_iconst (pc := 95) (2 : Int32) ok dm_comesOutWell_95 zk_2 ?_
        refine sm_iadd (pc := 96) ok dm_comesOutWell_96 ?_
        refine sm_iald (pc := 97) ok dm_comesOutWell_97 rfl ?_
        refine sm_callV_i (pc := 98) (ci := 10) [.int v2, .int (S_13.1 1 (((0 : Int32) + ((4 : Int32) * v2)) + (2 : Int32)).toNatClampNeg)] ok dm_comesOutWell_98 wd_1281 mwm_hasLeast rfl rfl (Nat.le_of_ble_eq_true rfl) (Nat.le_of_ble_eq_true rfl) rfl rfl (Nat.le_of_ble_eq_true rfl) (cm_hasLeast (sm_okj ok) N S_13 v2 (S_13.1 1 (((0 : Int32) + ((4 : Int32) * v2)) + (2 : Int32)).toNatClampNeg)) (fun r_16 S_15 => ?_)
        refine sm_if_eq (pc := 101) 128 ok dm_comesOutWell_101 (by decide) (fun _ => ?_) (fun _ => ?_)
        · refine sm_lv [0, 2] rfl ?_
          exact tm_comesOutWell_b128 ok hr N ih _ _
        · refine sm_aload_n (pc := 104) 0 ok dm_comesOutWell_104 rfl ?_
          refine sm_iload_n (pc := 105) 2 ok dm_comesOutWell_105 rfl ?_
          refine sm_aload_n (pc := 106) 0 ok dm_comesOutWell_106 rfl ?_
          refine sm_getR (pc := 107) (ci := 10) (k := 0) ok dm_comesOutWell_107 rfl rfl zc_i10 (by decide) rfl wd_1003 ?_
          refine sm_iconst (pc := 110) (0 : Int32) ok dm_comesOutWell_110 zk_0 ?_
          refine sm_iconst (pc := 111) (4 : Int32) ok dm_comesOutWell_111 zk_4 ?_
          refine sm_iload_n (pc := 112) 2 ok dm_comesOutWell_112 rfl ?_
          refine sm_imul (pc := 113) ok dm_comesOutWell_113 ?_
          refine sm_iadd (pc := 114) ok dm_comesOutWell_114 ?_
          refine sm_iconst (pc := 115) (3 : Int32) ok dm_comesOutWell_115 zk_3 ?_
          refine sm_iadd (pc := 116) ok dm_comesOutWell_116 ?_
          refine sm_iald (pc := 117) ok dm_comesOutWell_117 rfl ?_
          refine sm_callV_i (pc := 118) (ci := 10) [.int v2, .int (S_15.1 1 (((0 : Int32) + ((4 : Int32) * v2)) + (3 : Int32)).toNatClampNeg)] ok dm_comesOutWell_118 wd_1321 mwm_hasMost rfl rfl (Nat.le_of_ble_eq_true rfl) (Nat.le_of_ble_eq_true rfl) rfl rfl (Nat.le_of_ble_eq_true rfl) (cm_hasMost (sm_okj ok) N S_15 v2 (S_15.1 1 (((0 : Int32) + ((4 : Int32) * v2)) + (3 : Int32)).toNatClampNeg)) (fun r_18 S_17 => ?_)
          refine sm_if_eq (pc := 121) 128 ok dm_comesOutWell_121 (by decide) (fun _ => ?_) (fun _ => ?_)
          · refine sm_lv [0, 2] rfl ?_
            exact tm_comesOutWell_b128 ok hr N ih _ _
          · refine sm_iconst (pc := 124) (1 : Int32) ok dm_comesOutWell_124 zk_1 ?_
            refine sm_goto (pc := 125) 129 ok dm_comesOutWell_125 (by decide) ?_
            refine sm_lv [0, 2] rfl ?_
            exact tm_comesOutWell_b129 ok hr N ih _ _ _
set_option maxHeartbeats 4000000 in
set_option maxRecDepth 20000 in
theorem tm_comesOutWell_b27 {x : sm_Cx} (ok : sm_Ok x zm_sy prog_12_method_65_code "LentShadesModel" 3 6 139) (hr : (xh x).sig.returnType = (some .boolean)) (N : Nat) : ∀ (n : Nat) (v1 : Int32) (S : sm_St), sm_Sm x zm_sy prog_12_method_65_code (sm_Q x zm_sy (sm_Pi zm_sy (xw x))) (pm_comesOutWell_b27 N n v1 S) S 27 [(0, .ref ((xw x).2.2 0)), (1, .int v1)] [] := by
  intro n
  induction n with
  | zero =>
    intro v1 S
    exact sm_none
  | succ n ih =>
    intro v1 S
    show sm_Sm x zm_sy prog_12_method_65_code (sm_Q x zm_sy (sm_Pi zm_sy (xw x))) (sm_b2 (pm_cloths N S) (fun (r_7 : Int32) (S_6 : sm_St) => if r_7 ≤ v1 then (sm_b1 (pm_night N S_6) (fun (S_8 : sm_St) => sm_lt (1 : Int32) (fun (v1_9 : Int32) => sm_lt (0 : Int32) (fun (v2_10 : Int32) => pm_comesOutWell_b72 N N v1_9 v2_10 S_8)))) else (if sm_in (v1 - (1 : Int32)) 4 = true then (if sm_in v1 4 = true then (sm_b1 (pm_putHours N S_6 7 (0 : Int32) (S_6.1 15 (v1 - (1 : Int32)).toNatClampNeg) (S_6.1 15 v1.toNatClampNeg) (3 : Int32)) (fun (S_11 : sm_St) => sm_lt (v1 + (1 : Int32)) (fun (v1_12 : Int32) => (pm_comesOutWell_b27 N n) v1_12 S_11))) else none) else none))) S 27 [(0, .ref ((xw x).2.2 0)), (1, .int v1)] []
    refine sm_iload_n (pc := 27) 1 ok dm_comesOutWell_27 rfl ?_
    refine sm_aload_n (pc := 28) 0 ok dm_comesOutWell_28 rfl ?_
    refine sm_callV_i (pc := 29) (ci := 10) [] ok dm_comesOutWell_29 wd_1114 mwm_cloths rfl rfl (Nat.le_of_ble_eq_true rfl) (Nat.le_of_ble_eq_true rfl) rfl rfl (Nat.le_of_ble_eq_true rfl) (cm_cloths (sm_okj ok) N S) (fun r_7 S_6 => ?_)
    refine sm_icmp_ge (pc := 32) 64 ok dm_comesOutWell_32 (by decide) (fun _ => ?_) (fun _ => ?_)
    · refine sm_aload_n (pc := 64) 0 ok dm_comesOutWell_64 rfl ?_
      refine sm_callV_v (pc := 65) (ci := 10) [] ok dm_comesOutWell_65 wd_1181 mwm_night rfl rfl (Nat.le_of_ble_eq_true rfl) (Nat.le_of_ble_eq_true rfl) rfl rfl (Nat.le_of_ble_eq_true rfl) (cm_night (sm_okj ok) N S_6) (fun S_8 => ?_)
      refine sm_iconst (pc := 68) (1 : Int32) ok dm_comesOutWell_68 zk_1 ?_
      refine sm_istore_n (pc := 69) (i := 1) ok dm_comesOutWell_69 rfl (by decide) (fun v => [(1, .int v), (0, .ref ((xw x).2.2 0))]) (fun _ => rfl) (fun v1_9 => ?_)
      refine sm_iconst (pc := 70) (0 : Int32) ok dm_comesOutWell_70 zk_0 ?_
      refine sm_istore_n (pc := 71) (i := 2) ok dm_comesOutWell_71 rfl (by decide) (fun v => [(2, .int v), (1, .int v1_9), (0, .ref ((xw x).2.2 0))]) (fun _ => rfl) (fun v2_10 => ?_)
      refine sm_lv [2, 1, 0] rfl ?_
      exact tm_comesOutWell_b72 ok hr N N _ _ _
    · refine sm_aload_n (pc := 35) 0 ok dm_comesOutWell_35 rfl ?_
      refine sm_getR (pc := 36) (ci := 10) (k := 7) ok dm_comesOutWell_36 rfl rfl zc_i10 (by decide) rfl wd_1010 ?_
      refine sm_iconst (pc := 39) (0 : Int32) ok dm_comesOutWell_39 zk_0 ?_
      refine sm_aload_n (pc := 40) 0 ok dm_comesOutWell_40 rfl ?_
      refine sm_getR (pc := 41) (ci := 10) (k := 18) ok dm_comesOutWell_41 rfl rfl zc_i10 (by decide) rfl wd_1021 ?_
      refine sm_iload_n (pc := 44) 1 ok dm_comesOutWell_44 rfl ?_
      refine sm_iconst (pc := 45) (1 : Int32) ok dm_comesOutWell_45 zk_1 ?_
      refine sm_isub (pc := 46) ok dm_comesOutWell_46 ?_
      refine sm_iald (pc := 47) ok dm_comesOutWell_47 rfl ?_
      refine sm_aload_n (pc := 48) 0 ok dm_comesOutWell_48 rfl ?_
      refine sm_getR (pc := 49) (ci := 10) (k := 18) ok dm_comesOutWell_49 rfl rfl zc_i10 (by decide) rfl wd_1021 ?_
      refine sm_iload_n (pc := 52) 1 ok dm_comesOutWell_52 rfl ?_
      refine sm_iald (pc := 53) ok dm_comesOutWell_53 rfl ?_
      refine sm_iconst (pc := 54) (3 : Int32) ok dm_comesOutWell_54 zk_3 ?_
      refine sm_callS_v (pc := 55) [.ref ((xw x).2.2 7), .int (0 : Int32), .int (S_6.1 15 (v1 - (1 : Int32)).toNatClampNeg), .int (S_6.1 15 v1.toNatClampNeg), .int (3 : Int32)] ok dm_comesOutWell_55 wd_1158 mwm_putHours (Nat.le_of_ble_eq_true rfl) (Nat.le_of_ble_eq_true rfl) rfl rfl (Nat.le_of_ble_eq_true rfl) (cm_putHours (sm_okj ok) N S_6 7 (0 : Int32) (S_6.1 15 (v1 - (1 : Int32)).toNatClampNeg) (S_6.1 15 v1.toNatClampNeg) (3 : Int32) (sm_tag rfl)) (fun S_11 => ?_)
      refine sm_iinc (pc := 58) (i := 1) 1 (1 : Int32) ok dm_comesOutWell_58 rfl zk_1 (by decide) (fun v => [(1, .int v), (0, .ref ((xw x).2.2 0))]) (fun _ => rfl) (fun v1_12 => ?_)
      refine sm_goto (pc := 61) 27 ok dm_comesOutWell_61 (by decide) ?_
      refine sm_lv [1, 0] rfl ?_
      exact ih _ _
set_option maxHeartbeats 4000000 in
set_option maxRecDepth 20000 in
theorem tm_comesOutWell_b6 {x : sm_Cx} (ok : sm_Ok x zm_sy prog_12_method_65_code "LentShadesModel" 3 6 139) (hr : (xh x).sig.returnType = (some .boolean)) (N : Nat) : ∀ (n : Nat) (v1 : Int32) (S : sm_St), sm_Sm x zm_sy prog_12_method_65_code (sm_Q x zm_sy (sm_Pi zm_sy (xw x))) (pm_comesOutWell_b6 N n v1 S) S 6 [(0, .ref ((xw x).2.2 0)), (1, .int v1)] [] := by
  intro n
  induction n with
  | zero =>
    intro v1 S
    exact sm_none
  | succ n ih =>
    intro v1 S
    show sm_Sm x zm_sy prog_12_method_65_code (sm_Q x zm_sy (sm_Pi zm_sy (xw x))) (if (32 : Int32) ≤ v1 then (sm_lt (1 : Int32) (fun (v1_3 : Int32) => pm_comesOutWell_b27 N N v1_3 S)) else (if sm_in v1 32 = true then sm_lt (sm_sI S 7 v1.toNatClampNeg (0 : Int32)) (fun (S_4 : sm_St) => sm_lt (v1 + (1 : Int32)) (fun (v1_5 : Int32) => (pm_comesOutWell_b6 N n) v1_5 S_4)) else none)) S 6 [(0, .ref ((xw x).2.2 0)), (1, .int v1)] []
    refine sm_iload_n (pc := 6) 1 ok dm_comesOutWell_6 rfl ?_
    refine sm_bipush (pc := 7) (32 : Int32) ok dm_comesOutWell_7 zb_32 ?_
    refine sm_icmp_ge (pc := 9) 25 ok dm_comesOutWell_9 (by decide) (fun _ => ?_) (fun _ => ?_)
    · refine sm_iconst (pc := 25) (1 : Int32) ok dm_comesOutWell_25 zk_1 ?_
      refine sm_istore_n (pc := 26) (i := 1) ok dm_comesOutWell_26 rfl (by decide) (fun v => [(1, .int v), (0, .ref ((xw x).2.2 0))]) (fun _ => rfl) (fun v1_3 => ?_)
      refine sm_lv [1, 0] rfl ?_
      exact tm_comesOutWell_b27 ok hr N N _ _
    · refine sm_aload_n (pc := 12) 0 ok dm_comesOutWell_12 rfl ?_
      refine sm_getR (pc := 13) (ci := 10) (k := 7) ok dm_comesOutWell_13 rfl rfl zc_i10 (by decide) rfl wd_1010 ?_
      refine sm_iload_n (pc := 16) 1 ok dm_comesOutWell_16 rfl ?_
      refine sm_iconst (pc := 17) (0 : Int32) ok dm_comesOutWell_17 zk_0 ?_
      refine sm_iast (pc := 18) ok dm_comesOutWell_18 rfl (fun S_4 => ?_)
      refine sm_iinc (pc := 19) (i := 1) 1 (1 : Int32) ok dm_comesOutWell_19 rfl zk_1 (by decide) (fun v => [(1, .int v), (0, .ref ((xw x).2.2 0))]) (fun _ => rfl) (fun v1_5 => ?_)
      refine sm_goto (pc := 22) 6 ok dm_comesOutWell_22 (by decide) ?_
      refine sm_lv [1, 0] rfl ?_
      exact ih _ _
set_option maxHeartbeats 4000000 in
set_option maxRecDepth 20000 in
theorem tm_comesOutWell {x : sm_Cx} (ok : sm_Ok x zm_sy prog_12_method_65_code "LentShadesModel" 3 6 139) (hr : (xh x).sig.returnType = (some .boolean)) (N : Nat) (S : sm_St) : sm_Sm x zm_sy prog_12_method_65_code (sm_Q x zm_sy (sm_Pi zm_sy (xw x))) (pm_comesOutWell N S) S 0 [(0, .ref ((xw x).2.2 0))] [] := by
  unfold pm_comesOutWell
  refine sm_aload_n (pc := 0) 0 ok dm_comesOutWell_0 rfl ?_
  refine sm_callV_v (pc := 1) (ci := 10) [] ok dm_comesOutWell_1 wd_1173 mwm_takeNow rfl rfl (Nat.le_of_ble_eq_true rfl) (Nat.le_of_ble_eq_true rfl) rfl rfl (Nat.le_of_ble_eq_true rfl) (cm_takeNow (sm_okj ok) N S) (fun S_1 => ?_)
  refine sm_iconst (pc := 4) (0 : Int32) ok dm_comesOutWell_4 zk_0 ?_
  refine sm_istore_n (pc := 5) (i := 1) ok dm_comesOutWell_5 rfl (by decide) (fun v => [(1, .int v), (0, .ref ((xw x).2.2 0))]) (fun _ => rfl) (fun v1_2 => ?_)
  refine sm_lv [1, 0] rfl ?_
  exact tm_comesOutWell_b6 ok hr N N _ _
theorem cm_comesOutWell {l : Launch} {wc : sm_Wc} (hj : sm_inj zm_sy wc) (N : Nat) (S : sm_St) : sm_Ct l zm_sy wc ym_comesOutWell prog_12_method_65_code 3 (some .boolean) 6 139 [.ref (wc.2.2 0)] S (sm_Pi zm_sy wc) (pm_comesOutWell N S) :=
  sm_entry (Pq := fun wc => sm_Pi zm_sy wc) (fun wc => [.ref (wc.2.2 0)]) (lv := fun wc => [(0, .ref (wc.2.2 0))]) (by decide) hj zm_ok zm_stb (fun _ => Nat.le_of_ble_eq_true rfl) (fun _ => rfl) (fun x _ ok hr => tm_comesOutWell ok hr N S)
set_option maxHeartbeats 4000000 in
set_option maxRecDepth 20000 in
theorem tm_chest_b127 {x : sm_Cx} (ok : sm_Ok x zm_sy prog_12_method_66_code "LentShadesModel" 6 7 161) (hr : (xh x).sig.returnType = (some .int)) (N : Nat) (S : sm_St) : sm_Sm x zm_sy prog_12_method_66_code (sm_Q x zm_sy (sm_Pi zm_sy (xw x))) (pm_chest_b127 N S) S 127 [] [] := by
  unfold pm_chest_b127
  refine sm_bipush (pc := 127) (-5 : Int32) ok dm_chest_127 zb_m5 ?_
  refine sm_goto (pc := 129) 138 ok dm_chest_129 (by decide) ?_
  exact sm_iret (pc := 138) ok dm_chest_138 hr
set_option maxHeartbeats 4000000 in
set_option maxRecDepth 20000 in
theorem tm_chest_b100 {x : sm_Cx} (ok : sm_Ok x zm_sy prog_12_method_66_code "LentShadesModel" 6 7 161) (hr : (xh x).sig.returnType = (some .int)) (N : Nat) {r42 : Int32 → Int32 → Int32 → Int32 → sm_St → Option (Int32 × sm_St)} (h42 : ∀ (v1 : Int32) (v2 : Int32) (v3 : Int32) (v4 : Int32) (S : sm_St), sm_Sm x zm_sy prog_12_method_66_code (sm_Q x zm_sy (sm_Pi zm_sy (xw x))) (r42 v1 v2 v3 v4 S) S 42 [(0, .ref ((xw x).2.2 0)), (1, .int v1), (2, .int v2), (3, .int v3), (4, .int v4)] []) (v1 : Int32) (v2 : Int32) (v3 : Int32) (v4 : Int32) (S : sm_St) : sm_Sm x zm_sy prog_12_method_66_code (sm_Q x zm_sy (sm_Pi zm_sy (xw x))) (pm_chest_b100 N r42 v1 v2 v3 v4 S) S 100 [(0, .ref ((xw x).2.2 0)), (1, .int v1), (2, .int v2), (3, .int v3), (4, .int v4)] [] := by
  unfold pm_chest_b100
  refine sm_iinc (pc := 100) (i := 4) 4 (1 : Int32) ok dm_chest_100 rfl zk_1 (by decide) (fun v => [(4, .int v), (0, .ref ((xw x).2.2 0)), (1, .int v1), (2, .int v2), (3, .int v3)]) (fun _ => rfl) (fun v4_23 => ?_)
  refine sm_goto (pc := 103) 42 ok dm_chest_103 (by decide) ?_
  refine sm_lv [1, 2, 3, 4, 0] rfl ?_
  exact h42 _ _ _ _ _
set_option maxHeartbeats 4000000 in
set_option maxRecDepth 20000 in
theorem tm_chest_b97 {x : sm_Cx} (ok : sm_Ok x zm_sy prog_12_method_66_code "LentShadesModel" 6 7 161) (hr : (xh x).sig.returnType = (some .int)) (N : Nat) {r42 : Int32 → Int32 → Int32 → Int32 → sm_St → Option (Int32 × sm_St)} (h42 : ∀ (v1 : Int32) (v2 : Int32) (v3 : Int32) (v4 : Int32) (S : sm_St), sm_Sm x zm_sy prog_12_method_66_code (sm_Q x zm_sy (sm_Pi zm_sy (xw x))) (r42 v1 v2 v3 v4 S) S 42 [(0, .ref ((xw x).2.2 0)), (1, .int v1), (2, .int v2), (3, .int v3), (4, .int v4)] []) (v1 : Int32) (v2 : Int32) (v3 : Int32) (v4 : Int32) (S : sm_St) : sm_Sm x zm_sy prog_12_method_66_code (sm_Q x zm_sy (sm_Pi zm_sy (xw x))) (pm_chest_b97 N r42 v1 v2 v3 v4 S) S 97 [(0, .ref ((xw x).2.2 0)), (1, .int v1), (2, .int v2), (3, .int v3), (4, .int v4)] [] := by
  unfold pm_chest_b97
  refine sm_iinc (pc := 97) (i := 3) 3 (1 : Int32) ok dm_chest_97 rfl zk_1 (by decide) (fun v => [(3, .int v), (0, .ref ((xw x).2.2 0)), (1, .int v1), (2, .int v2), (4, .int v4)]) (fun _ => rfl) (fun v3_22 => ?_)
  refine sm_lv [1, 2, 3, 0, 4] rfl ?_
  exact tm_chest_b100 ok hr N h42 _ _ _ _ _
set_option maxHeartbeats 4000000 in
set_option maxRecDepth 20000 in
theorem tm_chest_b67 {x : sm_Cx} (ok : sm_Ok x zm_sy prog_12_method_66_code "LentShadesModel" 6 7 161) (hr : (xh x).sig.returnType = (some .int)) (N : Nat) {r42 : Int32 → Int32 → Int32 → Int32 → sm_St → Option (Int32 × sm_St)} (h42 : ∀ (v1 : Int32) (v2 : Int32) (v3 : Int32) (v4 : Int32) (S : sm_St), sm_Sm x zm_sy prog_12_method_66_code (sm_Q x zm_sy (sm_Pi zm_sy (xw x))) (r42 v1 v2 v3 v4 S) S 42 [(0, .ref ((xw x).2.2 0)), (1, .int v1), (2, .int v2), (3, .int v3), (4, .int v4)] []) : ∀ (n : Nat) (v1 : Int32) (v2 : Int32) (v3 : Int32) (v4 : Int32) (v5 : Int32) (S : sm_St), sm_Sm x zm_sy prog_12_method_66_code (sm_Q x zm_sy (sm_Pi zm_sy (xw x))) (pm_chest_b67 N r42 n v1 v2 v3 v4 v5 S) S 67 [(0, .ref ((xw x).2.2 0)), (1, .int v1), (2, .int v2), (3, .int v3), (4, .int v4), (5, .int v5)] [] := by
  intro n
  induction n with
  | zero =>
    intro v1 v2 v3 v4 v5 S
    exact sm_none
  | succ n ih =>
    intro v1 v2 v3 v4 v5 S
    show sm_Sm x zm_sy prog_12_method_66_code (sm_Q x zm_sy (sm_Pi zm_sy (xw x))) (if (4 : Int32) ≤ v5 then (pm_chest_b97 N r42 v1 v2 v3 v4 S) else (if v3 = 0 then (if sm_in v5 4 = true then (if sm_in v5 4 = true then sm_lt (sm_sI S 16 v5.toNatClampNeg (S.1 15 v5.toNatClampNeg)) (fun (S_20 : sm_St) => sm_lt (v5 + (1 : Int32)) (fun (v5_21 : Int32) => (pm_chest_b67 N r42 n) v1 v2 v3 v4 v5_21 S_20)) else none) else none) else (pm_chest_b97 N r42 v1 v2 v3 v4 S))) S 67 [(0, .ref ((xw x).2.2 0)), (1, .int v1), (2, .int v2), (3, .int v3), (4, .int v4), (5, .int v5)] []
    refine sm_iload (pc := 67) 5 ok dm_chest_67 rfl ?_
    refine sm_iconst (pc := 69) (4 : Int32) ok dm_chest_69 zk_4 ?_
    refine sm_icmp_ge (pc := 70) 97 ok dm_chest_70 (by decide) (fun _ => ?_) (fun _ => ?_)
    · refine sm_lv [0, 1, 2, 3, 4] rfl ?_
      exact tm_chest_b97 ok hr N h42 _ _ _ _ _
    · refine sm_iload_n (pc := 73) 3 ok dm_chest_73 rfl ?_
      refine sm_if_ne (pc := 74) 97 ok dm_chest_74 (by decide) (fun _ => ?_) (fun _ => ?_)
      · refine sm_lv [0, 1, 2, 3, 4] rfl ?_
        exact tm_chest_b97 ok hr N h42 _ _ _ _ _
      · refine sm_aload_n (pc := 77) 0 ok dm_chest_77 rfl ?_
        refine sm_getR (pc := 78) (ci := 10) (k := 19) ok dm_chest_78 rfl rfl zc_i10 (by decide) rfl wd_1022 ?_
        refine sm_iload (pc := 81) 5 ok dm_chest_81 rfl ?_
        refine sm_aload_n (pc := 83) 0 ok dm_chest_83 rfl ?_
        refine sm_getR (pc := 84) (ci := 10) (k := 18) ok dm_chest_84 rfl rfl zc_i10 (by decide) rfl wd_1021 ?_
        refine sm_iload (pc := 87) 5 ok dm_chest_87 rfl ?_
        refine sm_iald (pc := 89) ok dm_chest_89 rfl ?_
        refine sm_iast (pc := 90) ok dm_chest_90 rfl (fun S_20 => ?_)
        refine sm_iinc (pc := 91) (i := 5) 5 (1 : Int32) ok dm_chest_91 rfl zk_1 (by decide) (fun v => [(5, .int v), (0, .ref ((xw x).2.2 0)), (1, .int v1), (2, .int v2), (3, .int v3), (4, .int v4)]) (fun _ => rfl) (fun v5_21 => ?_)
        refine sm_goto (pc := 94) 67 ok dm_chest_94 (by decide) ?_
        refine sm_lv [1, 2, 3, 4, 5, 0] rfl ?_
        exact ih _ _ _ _ _ _
set_option maxHeartbeats 4000000 in
set_option maxRecDepth 20000 in
theorem tm_chest_b42 {x : sm_Cx} (ok : sm_Ok x zm_sy prog_12_method_66_code "LentShadesModel" 6 7 161) (hr : (xh x).sig.returnType = (some .int)) (N : Nat) : ∀ (n : Nat) (v1 : Int32) (v2 : Int32) (v3 : Int32) (v4 : Int32) (S : sm_St), sm_Sm x zm_sy prog_12_method_66_code (sm_Q x zm_sy (sm_Pi zm_sy (xw x))) (pm_chest_b42 N n v1 v2 v3 v4 S) S 42 [(0, .ref ((xw x).2.2 0)), (1, .int v1), (2, .int v2), (3, .int v3), (4, .int v4)] [] := by
  intro n
  induction n with
  | zero =>
    intro v1 v2 v3 v4 S
    exact sm_none
  | succ n ih =>
    intro v1 v2 v3 v4 S
    show sm_Sm x zm_sy prog_12_method_66_code (sm_Q x zm_sy (sm_Pi zm_sy (xw x))) (if v2 ≤ v4 then (if v1 = (-1 : Int32) then (some (v3, S)) else (if v3 = 0 then (pm_chest_b127 N S) else (sm_b2 (pm_cloths N S) (fun (r_14 : Int32) (S_13 : sm_St) => if v1 < r_14 then (if sm_in v1 4 = true then (some ((S_13.1 16 v1.toNatClampNeg), S_13)) else none) else (pm_chest_b127 N S_13))))) else (sm_b2 (pm_layOrder N S v4) (fun (r_16 : Int32) (S_15 : sm_St) => if r_16 = 0 then (pm_chest_b100 N (pm_chest_b42 N n) v1 v2 v3 v4 S_15) else (sm_b2 (pm_comesOutWell N S_15) (fun (r_18 : Int32) (S_17 : sm_St) => if r_18 = 0 then (pm_chest_b100 N (pm_chest_b42 N n) v1 v2 v3 v4 S_17) else (sm_lt (0 : Int32) (fun (v5_19 : Int32) => pm_chest_b67 N (pm_chest_b42 N n) N v1 v2 v3 v4 v5_19 S_17))))))) S 42 [(0, .ref ((xw x).2.2 0)), (1, .int v1), (2, .int v2), (3, .int v3), (4, .int v4)] []
    refine sm_iload (pc := 42) 4 ok dm_chest_42 rfl ?_
    refine sm_iload_n (pc := 44) 2 ok dm_chest_44 rfl ?_
    refine sm_icmp_ge (pc := 45) 106 ok dm_chest_45 (by decide) (fun _ => ?_) (fun _ => ?_)
    · refine sm_iload_n (pc := 106) 1 ok dm_chest_106 rfl ?_
      refine sm_iconst (pc := 107) (-1 : Int32) ok dm_chest_107 zk_m1 ?_
      refine sm_icmp_ne (pc := 108) 115 ok dm_chest_108 (by decide) (fun _ => ?_) (fun _ => ?_)
      · refine sm_iload_n (pc := 115) 3 ok dm_chest_115 rfl ?_
        refine sm_if_eq (pc := 116) 127 ok dm_chest_116 (by decide) (fun _ => ?_) (fun _ => ?_)
        · refine sm_lv [] rfl ?_
          exact tm_chest_b127 ok hr N _
        · refine sm_iload_n (pc := 119) 1 ok dm_chest_119 rfl ?_
          refine sm_aload_n (pc := 120) 0 ok dm_chest_120 rfl ?_
          refine sm_callV_i (pc := 121) (ci := 10) [] ok dm_chest_121 wd_1114 mwm_cloths rfl rfl (Nat.le_of_ble_eq_true rfl) (Nat.le_of_ble_eq_true rfl) rfl rfl (Nat.le_of_ble_eq_true rfl) (cm_cloths (sm_okj ok) N S) (fun r_14 S_13 => ?_)
          refine sm_icmp_lt (pc := 124) 132 ok dm_chest_124 (by decide) (fun _ => ?_) (fun _ => ?_)
          · refine sm_aload_n (pc := 132) 0 ok dm_chest_132 rfl ?_
            refine sm_getR (pc := 133) (ci := 10) (k := 19) ok dm_chest_133 rfl rfl zc_i10 (by decide) rfl wd_1022 ?_
            refine sm_iload_n (pc := 136) 1 ok dm_chest_136 rfl ?_
            refine sm_iald (pc := 137) ok dm_chest_137 rfl ?_
            exact sm_iret (pc := 138) ok dm_chest_138 hr
          · refine sm_lv [] rfl ?_
            exact tm_chest_b127 ok hr N _
      · refine sm_iload_n (pc := 111) 3 ok dm_chest_111 rfl ?_
        refine sm_goto (pc := 112) 138 ok dm_chest_112 (by decide) ?_
        exact sm_iret (pc := 138) ok dm_chest_138 hr
    · refine sm_aload_n (pc := 48) 0 ok dm_chest_48 rfl ?_
      refine sm_iload (pc := 49) 4 ok dm_chest_49 rfl ?_
      refine sm_callV_i (pc := 51) (ci := 10) [.int v4] ok dm_chest_51 wd_1341 mwm_layOrder rfl rfl (Nat.le_of_ble_eq_true rfl) (Nat.le_of_ble_eq_true rfl) rfl rfl (Nat.le_of_ble_eq_true rfl) (cm_layOrder (sm_okj ok) N S v4) (fun r_16 S_15 => ?_)
      refine sm_if_eq (pc := 54) 100 ok dm_chest_54 (by decide) (fun _ => ?_) (fun _ => ?_)
      · exact tm_chest_b100 ok hr N ih _ _ _ _ _
      · refine sm_aload_n (pc := 57) 0 ok dm_chest_57 rfl ?_
        refine sm_callV_i (pc := 58) (ci := 10) [] ok dm_chest_58 wd_1345 mwm_comesOutWell rfl rfl (Nat.le_of_ble_eq_true rfl) (Nat.le_of_ble_eq_true rfl) rfl rfl (Nat.le_of_ble_eq_true rfl) (cm_comesOutWell (sm_okj ok) N S_15) (fun r_18 S_17 => ?_)
        refine sm_if_eq (pc := 61) 100 ok dm_chest_61 (by decide) (fun _ => ?_) (fun _ => ?_)
        · exact tm_chest_b100 ok hr N ih _ _ _ _ _
        · refine sm_iconst (pc := 64) (0 : Int32) ok dm_chest_64 zk_0 ?_
          refine sm_istore (pc := 65) (i := 5) ok dm_chest_65 (by decide) (fun v => [(5, .int v), (0, .ref ((xw x).2.2 0)), (1, .int v1), (2, .int v2), (3, .int v3), (4, .int v4)]) (fun _ => rfl) (fun v5_19 => ?_)
          refine sm_lv [1, 2, 3, 4, 5, 0] rfl ?_
          exact tm_chest_b67 ok hr N ih N _ _ _ _ _ _
set_option maxHeartbeats 4000000 in
set_option maxRecDepth 20000 in
theorem tm_chest_b16 {x : sm_Cx} (ok : sm_Ok x zm_sy prog_12_method_66_code "LentShadesModel" 6 7 161) (hr : (xh x).sig.returnType = (some .int)) (N : Nat) : ∀ (n : Nat) (v1 : Int32) (v2 : Int32) (v3 : Int32) (S : sm_St), sm_Sm x zm_sy prog_12_method_66_code (sm_Q x zm_sy (sm_Pi zm_sy (xw x))) (pm_chest_b16 N n v1 v2 v3 S) S 16 [(0, .ref ((xw x).2.2 0)), (1, .int v1), (2, .int v2), (3, .int v3)] [] := by
  intro n
  induction n with
  | zero =>
    intro v1 v2 v3 S
    exact sm_none
  | succ n ih =>
    intro v1 v2 v3 S
    show sm_Sm x zm_sy prog_12_method_66_code (sm_Q x zm_sy (sm_Pi zm_sy (xw x))) (sm_b2 (pm_cloths N S) (fun (r_6 : Int32) (S_5 : sm_St) => if r_6 ≤ v3 then (sm_lt (0 : Int32) (fun (v3_7 : Int32) => sm_lt (0 : Int32) (fun (v4_8 : Int32) => pm_chest_b42 N N v1 v2 v3_7 v4_8 S_5))) else (sm_b2 (pm_cloths N S_5) (fun (r_10 : Int32) (S_9 : sm_St) => sm_lt (v2 * r_10) (fun (v2_11 : Int32) => sm_lt (v3 + (1 : Int32)) (fun (v3_12 : Int32) => (pm_chest_b16 N n) v1 v2_11 v3_12 S_9)))))) S 16 [(0, .ref ((xw x).2.2 0)), (1, .int v1), (2, .int v2), (3, .int v3)] []
    refine sm_iload_n (pc := 16) 3 ok dm_chest_16 rfl ?_
    refine sm_aload_n (pc := 17) 0 ok dm_chest_17 rfl ?_
    refine sm_callV_i (pc := 18) (ci := 10) [] ok dm_chest_18 wd_1114 mwm_cloths rfl rfl (Nat.le_of_ble_eq_true rfl) (Nat.le_of_ble_eq_true rfl) rfl rfl (Nat.le_of_ble_eq_true rfl) (cm_cloths (sm_okj ok) N S) (fun r_6 S_5 => ?_)
    refine sm_icmp_ge (pc := 21) 37 ok dm_chest_21 (by decide) (fun _ => ?_) (fun _ => ?_)
    · refine sm_iconst (pc := 37) (0 : Int32) ok dm_chest_37 zk_0 ?_
      refine sm_istore_n (pc := 38) (i := 3) ok dm_chest_38 rfl (by decide) (fun v => [(3, .int v), (0, .ref ((xw x).2.2 0)), (1, .int v1), (2, .int v2)]) (fun _ => rfl) (fun v3_7 => ?_)
      refine sm_iconst (pc := 39) (0 : Int32) ok dm_chest_39 zk_0 ?_
      refine sm_istore (pc := 40) (i := 4) ok dm_chest_40 (by decide) (fun v => [(4, .int v), (3, .int v3_7), (0, .ref ((xw x).2.2 0)), (1, .int v1), (2, .int v2)]) (fun _ => rfl) (fun v4_8 => ?_)
      refine sm_lv [2, 3, 4, 1, 0] rfl ?_
      exact tm_chest_b42 ok hr N N _ _ _ _ _
    · refine sm_iload_n (pc := 24) 2 ok dm_chest_24 rfl ?_
      refine sm_aload_n (pc := 25) 0 ok dm_chest_25 rfl ?_
      refine sm_callV_i (pc := 26) (ci := 10) [] ok dm_chest_26 wd_1114 mwm_cloths rfl rfl (Nat.le_of_ble_eq_true rfl) (Nat.le_of_ble_eq_true rfl) rfl rfl (Nat.le_of_ble_eq_true rfl) (cm_cloths (sm_okj ok) N S_5) (fun r_10 S_9 => ?_)
      refine sm_imul (pc := 29) ok dm_chest_29 ?_
      refine sm_istore_n (pc := 30) (i := 2) ok dm_chest_30 rfl (by decide) (fun v => [(2, .int v), (0, .ref ((xw x).2.2 0)), (1, .int v1), (3, .int v3)]) (fun _ => rfl) (fun v2_11 => ?_)
      refine sm_iinc (pc := 31) (i := 3) 3 (1 : Int32) ok dm_chest_31 rfl zk_1 (by decide) (fun v => [(3, .int v), (2, .int v2_11), (0, .ref ((xw x).2.2 0)), (1, .int v1)]) (fun _ => rfl) (fun v3_12 => ?_)
      refine sm_goto (pc := 34) 16 ok dm_chest_34 (by decide) ?_
      refine sm_lv [2, 3, 1, 0] rfl ?_
      exact ih _ _ _ _
set_option maxHeartbeats 4000000 in
set_option maxRecDepth 20000 in
theorem tm_chest {x : sm_Cx} (ok : sm_Ok x zm_sy prog_12_method_66_code "LentShadesModel" 6 7 161) (hr : (xh x).sig.returnType = (some .int)) (N : Nat) (S : sm_St) (v1 : Int32) : sm_Sm x zm_sy prog_12_method_66_code (sm_Q x zm_sy (sm_Pi zm_sy (xw x))) (pm_chest N S v1) S 0 [(0, .ref ((xw x).2.2 0)), (1, .int v1)] [] := by
  unfold pm_chest
  refine sm_iload_n (pc := 0) 1 ok dm_chest_0 rfl ?_
  refine sm_iconst (pc := 1) (-1 : Int32) ok dm_chest_1 zk_m1 ?_
  refine sm_icmp_ge (pc := 2) 12 ok dm_chest_2 (by decide) (fun _ => ?_) (fun _ => ?_)
  · refine sm_iconst (pc := 12) (1 : Int32) ok dm_chest_12 zk_1 ?_
    refine sm_istore_n (pc := 13) (i := 2) ok dm_chest_13 rfl (by decide) (fun v => [(2, .int v), (0, .ref ((xw x).2.2 0)), (1, .int v1)]) (fun _ => rfl) (fun v2_1 => ?_)
    refine sm_iconst (pc := 14) (0 : Int32) ok dm_chest_14 zk_0 ?_
    refine sm_istore_n (pc := 15) (i := 3) ok dm_chest_15 rfl (by decide) (fun v => [(3, .int v), (2, .int v2_1), (0, .ref ((xw x).2.2 0)), (1, .int v1)]) (fun _ => rfl) (fun v3_2 => ?_)
    refine sm_lv [2, 3, 1, 0] rfl ?_
    exact tm_chest_b16 ok hr N N _ _ _ _
  · refine sm_aload_n (pc := 5) 0 ok dm_chest_5 rfl ?_
    refine sm_bipush (pc := 6) (-10 : Int32) ok dm_chest_6 zb_m10 ?_
    refine sm_callV_i (pc := 8) (ci := 10) [.int (-10 : Int32)] ok dm_chest_8 wd_1110 mwm_bad rfl rfl (Nat.le_of_ble_eq_true rfl) (Nat.le_of_ble_eq_true rfl) rfl rfl (Nat.le_of_ble_eq_true rfl) (cm_bad (sm_okj ok) N S (-10 : Int32)) (fun r_4 S_3 => ?_)
    exact sm_iret (pc := 11) ok dm_chest_11 hr
theorem cm_chest {l : Launch} {wc : sm_Wc} (hj : sm_inj zm_sy wc) (N : Nat) (S : sm_St) (v1 : Int32) : sm_Ct l zm_sy wc ym_chest prog_12_method_66_code 6 (some .int) 7 161 [.ref (wc.2.2 0), .int v1] S (sm_Pi zm_sy wc) (pm_chest N S v1) :=
  sm_entry (Pq := fun wc => sm_Pi zm_sy wc) (fun wc => [.ref (wc.2.2 0), .int v1]) (lv := fun wc => [(0, .ref (wc.2.2 0)), (1, .int v1)]) (by decide) hj zm_ok zm_stb (fun _ => Nat.le_of_ble_eq_true rfl) (fun _ => rfl) (fun x _ ok hr => tm_chest ok hr N S v1)
set_option maxHeartbeats 4000000 in
set_option maxRecDepth 20000 in
theorem tm_mayTouch_b56 {x : sm_Cx} (ok : sm_Ok x zm_sy prog_12_method_67_code "LentShadesModel" 4 3 67) (hr : (xh x).sig.returnType = (some .boolean)) (N : Nat) {r12 : Int32 → Int32 → Int32 → sm_St → Option (Int32 × sm_St)} (h12 : ∀ (v1 : Int32) (v2 : Int32) (v3 : Int32) (S : sm_St), sm_Sm x zm_sy prog_12_method_67_code (sm_Q x zm_sy (sm_Pi zm_sy (xw x))) (r12 v1 v2 v3 S) S 12 [(0, .ref ((xw x).2.2 0)), (1, .int v1), (2, .int v2), (3, .int v3)] []) (v1 : Int32) (v3 : Int32) (s0 : Int32) (S : sm_St) : sm_Sm x zm_sy prog_12_method_67_code (sm_Q x zm_sy (sm_Pi zm_sy (xw x))) (pm_mayTouch_b56 N r12 v1 v3 s0 S) S 56 [(0, .ref ((xw x).2.2 0)), (1, .int v1), (3, .int v3)] [.int s0] := by
  unfold pm_mayTouch_b56
  refine sm_istore_n (pc := 56) (i := 2) ok dm_mayTouch_56 rfl (by decide) (fun v => [(2, .int v), (0, .ref ((xw x).2.2 0)), (1, .int v1), (3, .int v3)]) (fun _ => rfl) (fun v2_7 => ?_)
  refine sm_iinc (pc := 57) (i := 3) 3 (1 : Int32) ok dm_mayTouch_57 rfl zk_1 (by decide) (fun v => [(3, .int v), (2, .int v2_7), (0, .ref ((xw x).2.2 0)), (1, .int v1)]) (fun _ => rfl) (fun v3_8 => ?_)
  refine sm_goto (pc := 60) 12 ok dm_mayTouch_60 (by decide) ?_
  refine sm_lv [2, 3, 1, 0] rfl ?_
  exact h12 _ _ _ _
set_option maxHeartbeats 4000000 in
set_option maxRecDepth 20000 in
theorem tm_mayTouch_b55 {x : sm_Cx} (ok : sm_Ok x zm_sy prog_12_method_67_code "LentShadesModel" 4 3 67) (hr : (xh x).sig.returnType = (some .boolean)) (N : Nat) {r12 : Int32 → Int32 → Int32 → sm_St → Option (Int32 × sm_St)} (h12 : ∀ (v1 : Int32) (v2 : Int32) (v3 : Int32) (S : sm_St), sm_Sm x zm_sy prog_12_method_67_code (sm_Q x zm_sy (sm_Pi zm_sy (xw x))) (r12 v1 v2 v3 S) S 12 [(0, .ref ((xw x).2.2 0)), (1, .int v1), (2, .int v2), (3, .int v3)] []) (v1 : Int32) (v3 : Int32) (S : sm_St) : sm_Sm x zm_sy prog_12_method_67_code (sm_Q x zm_sy (sm_Pi zm_sy (xw x))) (pm_mayTouch_b55 N r12 v1 v3 S) S 55 [(0, .ref ((xw x).2.2 0)), (1, .int v1), (3, .int v3)] [] := by
  unfold pm_mayTouch_b55
  refine sm_iconst (pc := 55) (0 : Int32) ok dm_mayTouch_55 zk_0 ?_
  exact tm_mayTouch_b56 ok hr N h12 _ _ _ _
set_option maxHeartbeats 4000000 in
set_option maxRecDepth 20000 in
theorem tm_mayTouch_b51 {x : sm_Cx} (ok : sm_Ok x zm_sy prog_12_method_67_code "LentShadesModel" 4 3 67) (hr : (xh x).sig.returnType = (some .boolean)) (N : Nat) {r12 : Int32 → Int32 → Int32 → sm_St → Option (Int32 × sm_St)} (h12 : ∀ (v1 : Int32) (v2 : Int32) (v3 : Int32) (S : sm_St), sm_Sm x zm_sy prog_12_method_67_code (sm_Q x zm_sy (sm_Pi zm_sy (xw x))) (r12 v1 v2 v3 S) S 12 [(0, .ref ((xw x).2.2 0)), (1, .int v1), (2, .int v2), (3, .int v3)] []) (v1 : Int32) (v3 : Int32) (S : sm_St) : sm_Sm x zm_sy prog_12_method_67_code (sm_Q x zm_sy (sm_Pi zm_sy (xw x))) (pm_mayTouch_b51 N r12 v1 v3 S) S 51 [(0, .ref ((xw x).2.2 0)), (1, .int v1), (3, .int v3)] [] := by
  unfold pm_mayTouch_b51
  refine sm_iconst (pc := 51) (1 : Int32) ok dm_mayTouch_51 zk_1 ?_
  refine sm_goto (pc := 52) 56 ok dm_mayTouch_52 (by decide) ?_
  exact tm_mayTouch_b56 ok hr N h12 _ _ _ _
set_option maxHeartbeats 4000000 in
set_option maxRecDepth 20000 in
theorem tm_mayTouch_b12 {x : sm_Cx} (ok : sm_Ok x zm_sy prog_12_method_67_code "LentShadesModel" 4 3 67) (hr : (xh x).sig.returnType = (some .boolean)) (N : Nat) : ∀ (n : Nat) (v1 : Int32) (v2 : Int32) (v3 : Int32) (S : sm_St), sm_Sm x zm_sy prog_12_method_67_code (sm_Q x zm_sy (sm_Pi zm_sy (xw x))) (pm_mayTouch_b12 N n v1 v2 v3 S) S 12 [(0, .ref ((xw x).2.2 0)), (1, .int v1), (2, .int v2), (3, .int v3)] [] := by
  intro n
  induction n with
  | zero =>
    intro v1 v2 v3 S
    exact sm_none
  | succ n ih =>
    intro v1 v2 v3 S
    show sm_Sm x zm_sy prog_12_method_67_code (sm_Q x zm_sy (sm_Pi zm_sy (xw x))) (if (8 : Int32) ≤ v3 then (sm_rz v2 S) else (if v2 = 0 then (pm_mayTouch_b55 N (pm_mayTouch_b12 N n) v1 v3 S) else (if ((v1 >>> (v3 &&& 31)) &&& (1 : Int32)) = 0 then (pm_mayTouch_b51 N (pm_mayTouch_b12 N n) v1 v3 S) else (sm_b2 (pm_isNumber N S v3) (fun (r_4 : Int32) (S_3 : sm_St) => if r_4 = 0 then (pm_mayTouch_b55 N (pm_mayTouch_b12 N n) v1 v3 S_3) else (if (3 : Int32) < v3 then (pm_mayTouch_b51 N (pm_mayTouch_b12 N n) v1 v3 S_3) else (sm_b2 (pm_gives N S_3 v3) (fun (r_6 : Int32) (S_5 : sm_St) => if r_6 = 0 then (pm_mayTouch_b55 N (pm_mayTouch_b12 N n) v1 v3 S_5) else (pm_mayTouch_b51 N (pm_mayTouch_b12 N n) v1 v3 S_5))))))))) S 12 [(0, .ref ((xw x).2.2 0)), (1, .int v1), (2, .int v2), (3, .int v3)] []
    refine sm_iload_n (pc := 12) 3 ok dm_mayTouch_12 rfl ?_
    refine sm_bipush (pc := 13) (8 : Int32) ok dm_mayTouch_13 zb_8 ?_
    refine sm_icmp_ge (pc := 15) 63 ok dm_mayTouch_15 (by decide) (fun _ => ?_) (fun _ => ?_)
    · refine sm_iload_n (pc := 63) 2 ok dm_mayTouch_63 rfl ?_
      exact sm_zretc (pc := 64) ok dm_mayTouch_64 hr
    · refine sm_iload_n (pc := 18) 2 ok dm_mayTouch_18 rfl ?_
      refine sm_if_eq (pc := 19) 55 ok dm_mayTouch_19 (by decide) (fun _ => ?_) (fun _ => ?_)
      · refine sm_lv [0, 1, 3] rfl ?_
        exact tm_mayTouch_b55 ok hr N ih _ _ _
      · refine sm_iload_n (pc := 22) 1 ok dm_mayTouch_22 rfl ?_
        refine sm_iload_n (pc := 23) 3 ok dm_mayTouch_23 rfl ?_
        refine sm_ishr (pc := 24) ok dm_mayTouch_24 ?_
        refine sm_iconst (pc := 25) (1 : Int32) ok dm_mayTouch_25 zk_1 ?_
        refine sm_iand (pc := 26) ok dm_mayTouch_26 ?_
        refine sm_if_eq (pc := 27) 51 ok dm_mayTouch_27 (by decide) (fun _ => ?_) (fun _ => ?_)
        · refine sm_lv [0, 1, 3] rfl ?_
          exact tm_mayTouch_b51 ok hr N ih _ _ _
        · refine sm_aload_n (pc := 30) 0 ok dm_mayTouch_30 rfl ?_
          refine sm_iload_n (pc := 31) 3 ok dm_mayTouch_31 rfl ?_
          refine sm_callV_i (pc := 32) (ci := 10) [.int v3] ok dm_mayTouch_32 wd_1150 mwm_isNumber rfl rfl (Nat.le_of_ble_eq_true rfl) (Nat.le_of_ble_eq_true rfl) rfl rfl (Nat.le_of_ble_eq_true rfl) (cm_isNumber (sm_okj ok) N S v3) (fun r_4 S_3 => ?_)
          refine sm_if_eq (pc := 35) 55 ok dm_mayTouch_35 (by decide) (fun _ => ?_) (fun _ => ?_)
          · refine sm_lv [0, 1, 3] rfl ?_
            exact tm_mayTouch_b55 ok hr N ih _ _ _
          · refine sm_iload_n (pc := 38) 3 ok dm_mayTouch_38 rfl ?_
            refine sm_iconst (pc := 39) (3 : Int32) ok dm_mayTouch_39 zk_3 ?_
            refine sm_icmp_gt (pc := 40) 51 ok dm_mayTouch_40 (by decide) (fun _ => ?_) (fun _ => ?_)
            · refine sm_lv [0, 1, 3] rfl ?_
              exact tm_mayTouch_b51 ok hr N ih _ _ _
            · refine sm_aload_n (pc := 43) 0 ok dm_mayTouch_43 rfl ?_
              refine sm_iload_n (pc := 44) 3 ok dm_mayTouch_44 rfl ?_
              refine sm_callV_i (pc := 45) (ci := 10) [.int v3] ok dm_mayTouch_45 wd_1201 mwm_gives rfl rfl (Nat.le_of_ble_eq_true rfl) (Nat.le_of_ble_eq_true rfl) rfl rfl (Nat.le_of_ble_eq_true rfl) (cm_gives (sm_okj ok) N S_3 v3) (fun r_6 S_5 => ?_)
              refine sm_if_eq (pc := 48) 55 ok dm_mayTouch_48 (by decide) (fun _ => ?_) (fun _ => ?_)
              · refine sm_lv [0, 1, 3] rfl ?_
                exact tm_mayTouch_b55 ok hr N ih _ _ _
              · refine sm_lv [0, 1, 3] rfl ?_
                exact tm_mayTouch_b51 ok hr N ih _ _ _
set_option maxHeartbeats 4000000 in
set_option maxRecDepth 20000 in
theorem tm_mayTouch_b9 {x : sm_Cx} (ok : sm_Ok x zm_sy prog_12_method_67_code "LentShadesModel" 4 3 67) (hr : (xh x).sig.returnType = (some .boolean)) (N : Nat) (v1 : Int32) (s0 : Int32) (S : sm_St) : sm_Sm x zm_sy prog_12_method_67_code (sm_Q x zm_sy (sm_Pi zm_sy (xw x))) (pm_mayTouch_b9 N v1 s0 S) S 9 [(0, .ref ((xw x).2.2 0)), (1, .int v1)] [.int s0] := by
  unfold pm_mayTouch_b9
  refine sm_istore_n (pc := 9) (i := 2) ok dm_mayTouch_9 rfl (by decide) (fun v => [(2, .int v), (0, .ref ((xw x).2.2 0)), (1, .int v1)]) (fun _ => rfl) (fun v2_1 => ?_)
  refine sm_iconst (pc := 10) (0 : Int32) ok dm_mayTouch_10 zk_0 ?_
  refine sm_istore_n (pc := 11) (i := 3) ok dm_mayTouch_11 rfl (by decide) (fun v => [(3, .int v), (2, .int v2_1), (0, .ref ((xw x).2.2 0)), (1, .int v1)]) (fun _ => rfl) (fun v3_2 => ?_)
  refine sm_lv [2, 3, 1, 0] rfl ?_
  exact tm_mayTouch_b12 ok hr N N _ _ _ _
set_option maxHeartbeats 4000000 in
set_option maxRecDepth 20000 in
theorem tm_mayTouch {x : sm_Cx} (ok : sm_Ok x zm_sy prog_12_method_67_code "LentShadesModel" 4 3 67) (hr : (xh x).sig.returnType = (some .boolean)) (N : Nat) (S : sm_St) (v1 : Int32) : sm_Sm x zm_sy prog_12_method_67_code (sm_Q x zm_sy (sm_Pi zm_sy (xw x))) (pm_mayTouch N S v1) S 0 [(0, .ref ((xw x).2.2 0)), (1, .int v1)] [] := by
  unfold pm_mayTouch
  refine sm_iload_n (pc := 0) 1 ok dm_mayTouch_0 rfl ?_
  refine sm_if_le (pc := 1) 8 ok dm_mayTouch_1 (by decide) (fun _ => ?_) (fun _ => ?_)
  · refine sm_iconst (pc := 8) (0 : Int32) ok dm_mayTouch_8 zk_0 ?_
    exact tm_mayTouch_b9 ok hr N _ _ _
  · refine sm_iconst (pc := 4) (1 : Int32) ok dm_mayTouch_4 zk_1 ?_
    refine sm_goto (pc := 5) 9 ok dm_mayTouch_5 (by decide) ?_
    exact tm_mayTouch_b9 ok hr N _ _ _
theorem cm_mayTouch {l : Launch} {wc : sm_Wc} (hj : sm_inj zm_sy wc) (N : Nat) (S : sm_St) (v1 : Int32) : sm_Ct l zm_sy wc ym_mayTouch prog_12_method_67_code 4 (some .boolean) 3 67 [.ref (wc.2.2 0), .int v1] S (sm_Pi zm_sy wc) (pm_mayTouch N S v1) :=
  sm_entry (Pq := fun wc => sm_Pi zm_sy wc) (fun wc => [.ref (wc.2.2 0), .int v1]) (lv := fun wc => [(0, .ref (wc.2.2 0)), (1, .int v1)]) (by decide) hj zm_ok zm_stb (fun _ => Nat.le_of_ble_eq_true rfl) (fun _ => rfl) (fun x _ ok hr => tm_mayTouch ok hr N S v1)
set_option maxHeartbeats 4000000 in
set_option maxRecDepth 20000 in
theorem tm_isMeanOf_b49 {x : sm_Cx} (ok : sm_Ok x zm_sy prog_12_method_68_code "LentShadesModel" 6 3 71) (hr : (xh x).sig.returnType = (some .boolean)) (N : Nat) {r13 : Int32 → Int32 → Int32 → Int32 → Int32 → sm_St → Option (Int32 × sm_St)} (h13 : ∀ (v1 : Int32) (v2 : Int32) (v3 : Int32) (v4 : Int32) (v5 : Int32) (S : sm_St), sm_Sm x zm_sy prog_12_method_68_code (sm_Q x zm_sy (sm_Pi zm_sy (xw x))) (r13 v1 v2 v3 v4 v5 S) S 13 [(0, .ref ((xw x).2.2 0)), (1, .int v1), (2, .int v2), (3, .int v3), (4, .int v4), (5, .int v5)] []) (v1 : Int32) (v2 : Int32) (v3 : Int32) (v4 : Int32) (v5 : Int32) (S : sm_St) : sm_Sm x zm_sy prog_12_method_68_code (sm_Q x zm_sy (sm_Pi zm_sy (xw x))) (pm_isMeanOf_b49 N r13 v1 v2 v3 v4 v5 S) S 49 [(0, .ref ((xw x).2.2 0)), (1, .int v1), (2, .int v2), (3, .int v3), (4, .int v4), (5, .int v5)] [] := by
  unfold pm_isMeanOf_b49
  refine sm_iinc (pc := 49) (i := 5) 5 (1 : Int32) ok dm_isMeanOf_49 rfl zk_1 (by decide) (fun v => [(5, .int v), (0, .ref ((xw x).2.2 0)), (1, .int v1), (2, .int v2), (3, .int v3), (4, .int v4)]) (fun _ => rfl) (fun v5_12 => ?_)
  refine sm_goto (pc := 52) 13 ok dm_isMeanOf_52 (by decide) ?_
  refine sm_lv [1, 2, 3, 4, 5, 0] rfl ?_
  exact h13 _ _ _ _ _ _
set_option maxHeartbeats 4000000 in
set_option maxRecDepth 20000 in
theorem tm_isMeanOf_b13 {x : sm_Cx} (ok : sm_Ok x zm_sy prog_12_method_68_code "LentShadesModel" 6 3 71) (hr : (xh x).sig.returnType = (some .boolean)) (N : Nat) : ∀ (n : Nat) (v1 : Int32) (v2 : Int32) (v3 : Int32) (v4 : Int32) (v5 : Int32) (S : sm_St), sm_Sm x zm_sy prog_12_method_68_code (sm_Q x zm_sy (sm_Pi zm_sy (xw x))) (pm_isMeanOf_b13 N n v1 v2 v3 v4 v5 S) S 13 [(0, .ref ((xw x).2.2 0)), (1, .int v1), (2, .int v2), (3, .int v3), (4, .int v4), (5, .int v5)] [] := by
  intro n
  induction n with
  | zero =>
    intro v1 v2 v3 v4 v5 S
    exact sm_none
  | succ n ih =>
    intro v1 v2 v3 v4 v5 S
    show sm_Sm x zm_sy prog_12_method_68_code (sm_Q x zm_sy (sm_Pi zm_sy (xw x))) (if (8 : Int32) ≤ v5 then (sm_b1 (pm_times N S (7 : Int32) (v3.toInt64)) (fun (S_4 : sm_St) => sm_b1 (pm_copy N S_4 (8 : Int32) (18 : Int32)) (fun (S_5 : sm_St) => sm_b1 (pm_times N S_5 (8 : Int32) ((((12 : Int32) * v4) * v2).toInt64)) (fun (S_6 : sm_St) => sm_b2 (pm_compare N S_6 (7 : Int32) (8 : Int32)) (fun (r_8 : Int32) (S_7 : sm_St) => if r_8 = 0 then (some ((1 : Int32), S_7)) else (some ((0 : Int32), S_7))))))) else (if ((v1 >>> (v5 &&& 31)) &&& (1 : Int32)) = (1 : Int32) then (sm_b1 (pm_lay N S (8 : Int32) v5) (fun (S_9 : sm_St) => sm_b1 (pm_add N S_9 (7 : Int32) (8 : Int32)) (fun (S_10 : sm_St) => sm_lt (v4 + (1 : Int32)) (fun (v4_11 : Int32) => pm_isMeanOf_b49 N (pm_isMeanOf_b13 N n) v1 v2 v3 v4_11 v5 S_10)))) else (pm_isMeanOf_b49 N (pm_isMeanOf_b13 N n) v1 v2 v3 v4 v5 S))) S 13 [(0, .ref ((xw x).2.2 0)), (1, .int v1), (2, .int v2), (3, .int v3), (4, .int v4), (5, .int v5)] []
    refine sm_iload (pc := 13) 5 ok dm_isMeanOf_13 rfl ?_
    refine sm_bipush (pc := 15) (8 : Int32) ok dm_isMeanOf_15 zb_8 ?_
    refine sm_icmp_ge (pc := 17) 55 ok dm_isMeanOf_17 (by decide) (fun _ => ?_) (fun _ => ?_)
    · refine sm_aload_n (pc := 55) 0 ok dm_isMeanOf_55 rfl ?_
      refine sm_bipush (pc := 56) (7 : Int32) ok dm_isMeanOf_56 zb_7 ?_
      refine sm_iload_n (pc := 58) 3 ok dm_isMeanOf_58 rfl ?_
      refine sm_i2l (pc := 59) ok dm_isMeanOf_59 ?_
      refine sm_callV_v (pc := 60) (ci := 10) [.int (7 : Int32), .long (v3.toInt64)] ok dm_isMeanOf_60 wd_1130 mwm_times rfl rfl (Nat.le_of_ble_eq_true rfl) (Nat.le_of_ble_eq_true rfl) rfl rfl (Nat.le_of_ble_eq_true rfl) (cm_times (sm_okj ok) N S (7 : Int32) (v3.toInt64)) (fun S_4 => ?_)
      refine sm_aload_n (pc := 63) 0 ok dm_isMeanOf_63 rfl ?_
      refine sm_bipush (pc := 64) (8 : Int32) ok dm_isMeanOf_64 zb_8 ?_
      refine sm_bipush (pc := 66) (18 : Int32) ok dm_isMeanOf_66 zb_18 ?_
      refine sm_callV_v (pc := 68) (ci := 10) [.int (8 : Int32), .int (18 : Int32)] ok dm_isMeanOf_68 wd_1126 mwm_copy rfl rfl (Nat.le_of_ble_eq_true rfl) (Nat.le_of_ble_eq_true rfl) rfl rfl (Nat.le_of_ble_eq_true rfl) (cm_copy (sm_okj ok) N S_4 (8 : Int32) (18 : Int32)) (fun S_5 => ?_)
      refine sm_aload_n (pc := 71) 0 ok dm_isMeanOf_71 rfl ?_
      refine sm_bipush (pc := 72) (8 : Int32) ok dm_isMeanOf_72 zb_8 ?_
      refine sm_bipush (pc := 74) (12 : Int32) ok dm_isMeanOf_74 zb_12 ?_
      refine sm_iload (pc := 76) 4 ok dm_isMeanOf_76 rfl ?_
      refine sm_imul (pc := 78) ok dm_isMeanOf_78 ?_
      refine sm_iload_n (pc := 79) 2 ok dm_isMeanOf_79 rfl ?_
      refine sm_imul (pc := 80) ok dm_isMeanOf_80 ?_
      refine sm_i2l (pc := 81) ok dm_isMeanOf_81 ?_
      refine sm_callV_v (pc := 82) (ci := 10) [.int (8 : Int32), .long ((((12 : Int32) * v4) * v2).toInt64)] ok dm_isMeanOf_82 wd_1130 mwm_times rfl rfl (Nat.le_of_ble_eq_true rfl) (Nat.le_of_ble_eq_true rfl) rfl rfl (Nat.le_of_ble_eq_true rfl) (cm_times (sm_okj ok) N S_5 (8 : Int32) ((((12 : Int32) * v4) * v2).toInt64)) (fun S_6 => ?_)
      refine sm_aload_n (pc := 85) 0 ok dm_isMeanOf_85 rfl ?_
      refine sm_bipush (pc := 86) (7 : Int32) ok dm_isMeanOf_86 zb_7 ?_
      refine sm_bipush (pc := 88) (8 : Int32) ok dm_isMeanOf_88 zb_8 ?_
      refine sm_callV_i (pc := 90) (ci := 10) [.int (7 : Int32), .int (8 : Int32)] ok dm_isMeanOf_90 wd_1224 mwm_compare rfl rfl (Nat.le_of_ble_eq_true rfl) (Nat.le_of_ble_eq_true rfl) rfl rfl (Nat.le_of_ble_eq_true rfl) (cm_compare (sm_okj ok) N S_6 (7 : Int32) (8 : Int32)) (fun r_8 S_7 => ?_)
      refine sm_if_ne (pc := 93) 100 ok dm_isMeanOf_93 (by decide) (fun _ => ?_) (fun _ => ?_)
      · refine sm_iconst (pc := 100) (0 : Int32) ok dm_isMeanOf_100 zk_0 ?_
        exact sm_zret (pc := 101) ok dm_isMeanOf_101 hr rfl
      · refine sm_iconst (pc := 96) (1 : Int32) ok dm_isMeanOf_96 zk_1 ?_
        refine sm_goto (pc := 97) 101 ok dm_isMeanOf_97 (by decide) ?_
        exact sm_zret (pc := 101) ok dm_isMeanOf_101 hr rfl
    · refine sm_iload_n (pc := 20) 1 ok dm_isMeanOf_20 rfl ?_
      refine sm_iload (pc := 21) 5 ok dm_isMeanOf_21 rfl ?_
      refine sm_ishr (pc := 23) ok dm_isMeanOf_23 ?_
      refine sm_iconst (pc := 24) (1 : Int32) ok dm_isMeanOf_24 zk_1 ?_
      refine sm_iand (pc := 25) ok dm_isMeanOf_25 ?_
      refine sm_iconst (pc := 26) (1 : Int32) ok dm_isMeanOf_26 zk_1 ?_
      refine sm_icmp_ne (pc := 27) 49 ok dm_isMeanOf_27 (by decide) (fun _ => ?_) (fun _ => ?_)
      · exact tm_isMeanOf_b49 ok hr N ih _ _ _ _ _ _
      · refine sm_aload_n (pc := 30) 0 ok dm_isMeanOf_30 rfl ?_
        refine sm_bipush (pc := 31) (8 : Int32) ok dm_isMeanOf_31 zb_8 ?_
        refine sm_iload (pc := 33) 5 ok dm_isMeanOf_33 rfl ?_
        refine sm_callV_v (pc := 35) (ci := 10) [.int (8 : Int32), .int v5] ok dm_isMeanOf_35 wd_1212 mwm_lay rfl rfl (Nat.le_of_ble_eq_true rfl) (Nat.le_of_ble_eq_true rfl) rfl rfl (Nat.le_of_ble_eq_true rfl) (cm_lay (sm_okj ok) N S (8 : Int32) v5) (fun S_9 => ?_)
        refine sm_aload_n (pc := 38) 0 ok dm_isMeanOf_38 rfl ?_
        refine sm_bipush (pc := 39) (7 : Int32) ok dm_isMeanOf_39 zb_7 ?_
        refine sm_bipush (pc := 41) (8 : Int32) ok dm_isMeanOf_41 zb_8 ?_
        refine sm_callV_v (pc := 43) (ci := 10) [.int (7 : Int32), .int (8 : Int32)] ok dm_isMeanOf_43 wd_1216 mwm_add rfl rfl (Nat.le_of_ble_eq_true rfl) (Nat.le_of_ble_eq_true rfl) rfl rfl (Nat.le_of_ble_eq_true rfl) (cm_add (sm_okj ok) N S_9 (7 : Int32) (8 : Int32)) (fun S_10 => ?_)
        refine sm_iinc (pc := 46) (i := 4) 4 (1 : Int32) ok dm_isMeanOf_46 rfl zk_1 (by decide) (fun v => [(4, .int v), (0, .ref ((xw x).2.2 0)), (1, .int v1), (2, .int v2), (3, .int v3), (5, .int v5)]) (fun _ => rfl) (fun v4_11 => ?_)
        refine sm_lv [1, 2, 3, 4, 0, 5] rfl ?_
        exact tm_isMeanOf_b49 ok hr N ih _ _ _ _ _ _
set_option maxHeartbeats 4000000 in
set_option maxRecDepth 20000 in
theorem tm_isMeanOf {x : sm_Cx} (ok : sm_Ok x zm_sy prog_12_method_68_code "LentShadesModel" 6 3 71) (hr : (xh x).sig.returnType = (some .boolean)) (N : Nat) (S : sm_St) (v1 : Int32) (v2 : Int32) (v3 : Int32) : sm_Sm x zm_sy prog_12_method_68_code (sm_Q x zm_sy (sm_Pi zm_sy (xw x))) (pm_isMeanOf N S v1 v2 v3) S 0 [(0, .ref ((xw x).2.2 0)), (1, .int v1), (2, .int v2), (3, .int v3)] [] := by
  unfold pm_isMeanOf
  refine sm_iconst (pc := 0) (0 : Int32) ok dm_isMeanOf_0 zk_0 ?_
  refine sm_istore (pc := 1) (i := 4) ok dm_isMeanOf_1 (by decide) (fun v => [(4, .int v), (0, .ref ((xw x).2.2 0)), (1, .int v1), (2, .int v2), (3, .int v3)]) (fun _ => rfl) (fun v4_1 => ?_)
  refine sm_aload_n (pc := 3) 1 ok dm_isMeanOf_3 rfl ?_
  refine sm_bipush (pc := 4) (7 : Int32) ok dm_isMeanOf_4 zb_7 ?_
  refine sm_lconst (pc := 6) (0 : Int64) ok dm_isMeanOf_6 zl_0 ?_
  refine sm_callV_v (pc := 7) (ci := 10) [.int (7 : Int32), .long (0 : Int64)] ok dm_isMeanOf_7 wd_998 mwm_set rfl rfl (Nat.le_of_ble_eq_true rfl) (Nat.le_of_ble_eq_true rfl) rfl rfl (Nat.le_of_ble_eq_true rfl) (cm_set (sm_okj ok) N S (7 : Int32) (0 : Int64)) (fun S_2 => ?_)
  refine sm_iconst (pc := 10) (0 : Int32) ok dm_isMeanOf_10 zk_0 ?_
  refine sm_istore (pc := 11) (i := 5) ok dm_isMeanOf_11 (by decide) (fun v => [(5, .int v), (4, .int v4_1), (0, .ref ((xw x).2.2 0)), (1, .int v1), (2, .int v2), (3, .int v3)]) (fun _ => rfl) (fun v5_3 => ?_)
  refine sm_lv [2, 3, 4, 5, 1, 0] rfl ?_
  exact tm_isMeanOf_b13 ok hr N N _ _ _ _ _ _
theorem cm_isMeanOf {l : Launch} {wc : sm_Wc} (hj : sm_inj zm_sy wc) (N : Nat) (S : sm_St) (v1 : Int32) (v2 : Int32) (v3 : Int32) : sm_Ct l zm_sy wc ym_isMeanOf prog_12_method_68_code 6 (some .boolean) 3 71 [.ref (wc.2.2 0), .int v1, .int v2, .int v3] S (sm_Pi zm_sy wc) (pm_isMeanOf N S v1 v2 v3) :=
  sm_entry (Pq := fun wc => sm_Pi zm_sy wc) (fun wc => [.ref (wc.2.2 0), .int v1, .int v2, .int v3]) (lv := fun wc => [(0, .ref (wc.2.2 0)), (1, .int v1), (2, .int v2), (3, .int v3)]) (by decide) hj zm_ok zm_stb (fun _ => Nat.le_of_ble_eq_true rfl) (fun _ => rfl) (fun x _ ok hr => tm_isMeanOf ok hr N S v1 v2 v3)
