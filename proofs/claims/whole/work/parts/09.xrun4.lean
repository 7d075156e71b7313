set_option maxHeartbeats 4000000 in
set_option maxRecDepth 20000 in
theorem tx_L_refuse {x : sm_Cx} (ok : sm_Ok x zx_sy prog_1_method_20_code "LentShades" 2 0 0) (hr : (xh x).sig.returnType = (some .int)) (N : Nat) (S : sm_St) : sm_Sm x zx_sy prog_1_method_20_code (sm_Q x zx_sy (sm_Pi zx_sy (xw x))) (px_L_refuse N S) S 0 [(0, .ref ((xw x).2.2 0))] [] := by
  unfold px_L_refuse
  refine sm_aload_n (pc := 0) 0 ok dx_L_refuse_0 rfl ?_
  refine sm_getR (pc := 1) (ci := 9) (k := 0) ok dx_L_refuse_1 rfl rfl zc_i9 (by decide) rfl wd_400 ?_
  refine sm_getI (pc := 4) (ci := 2) (k := 13) ok dx_L_refuse_4 rfl rfl zc_i2 (by decide) rfl wd_197 ?_
  refine sm_istore_n (pc := 7) (i := 1) ok dx_L_refuse_7 rfl (by decide) (fun v => [(1, .int v), (0, .ref ((xw x).2.2 0))]) (fun _ => rfl) (fun v1_1 => ?_)
  refine sm_aload_n (pc := 8) 1 ok dx_L_refuse_8 rfl ?_
  refine sm_getR (pc := 9) (ci := 9) (k := 0) ok dx_L_refuse_9 rfl rfl zc_i9 (by decide) rfl wd_400 ?_
  refine sm_iconst (pc := 12) (0 : Int32) ok dx_L_refuse_12 zk_0 ?_
  refine sm_putI (pc := 13) (ci := 2) (k := 13) ok dx_L_refuse_13 rfl rfl zc_i2 zc_y2 zc_t2 zc_n2 (by decide) rfl rfl rfl wd_197 (fun S_2 => ?_)
  refine sm_iload_n (pc := 16) 0 ok dx_L_refuse_16 rfl ?_
  exact sm_iret (pc := 17) ok dx_L_refuse_17 hr
theorem cx_L_refuse {l : Launch} {wc : sm_Wc} (hj : sm_inj zx_sy wc) (N : Nat) (S : sm_St) : sm_Ct l zx_sy wc yx_L_refuse prog_1_method_20_code 2 (some .int) 0 0 [.ref (wc.2.2 0)] S (sm_Pi zx_sy wc) (px_L_refuse N S) :=
  sm_entry (Pq := fun wc => sm_Pi zx_sy wc) (fun wc => [.ref (wc.2.2 0)]) (lv := fun wc => [(0, .ref (wc.2.2 0))]) (by decide) hj zx_ok zx_stb (fun _ => Nat.le_of_ble_eq_true rfl) (fun _ => rfl) (fun x _ ok hr => tx_L_refuse ok hr N S)
set_option maxHeartbeats 4000000 in
set_option maxRecDepth 20000 in
theorem tx_L_serves {x : sm_Cx} (ok : sm_Ok x zx_sy prog_1_method_38_code "LentShades" 3 2 53) (hr : (xh x).sig.returnType = (some .boolean)) (N : Nat) (S : sm_St) (q1 : Nat) (q2 : Nat) (hq1 : zx_sy.1 q1 = (16, 0)) (hq2 : (zx_sy.1 q2).1 = 0) : sm_Sm x zx_sy prog_1_method_38_code (sm_Q x zx_sy (sm_Pi zx_sy (xw x))) (px_L_serves N S q1 q2) S 0 [(0, .ref ((xw x).2.2 0)), (1, .ref ((xw x).2.2 q1)), (2, .ref ((xw x).2.2 q2))] [] := by
  unfold px_L_serves
  refine sm_aload_n (pc := 0) 0 ok dx_L_serves_0 rfl ?_
  refine sm_getR (pc := 1) (ci := 9) (k := 0) ok dx_L_serves_1 rfl rfl zc_i9 (by decide) rfl wd_400 ?_
  refine sm_aload_n (pc := 4) 2 ok dx_L_serves_4 rfl ?_
  refine sm_iconst (pc := 5) (0 : Int32) ok dx_L_serves_5 zk_0 ?_
  refine sm_iald (pc := 6) ok dx_L_serves_6 (sm_sh0 hq2) ?_
  refine sm_callV_i (pc := 7) (ci := 2) [.int (S.1 q2 (0 : Int32).toNatClampNeg)] ok dx_L_serves_7 wd_630 mwx_House_hasCloth rfl rfl (Nat.le_of_ble_eq_true rfl) (Nat.le_of_ble_eq_true rfl) rfl rfl (Nat.le_of_ble_eq_true rfl) (cx_House_hasCloth (sm_okj ok) N S 1 (S.1 q2 (0 : Int32).toNatClampNeg) rfl) (fun r_2 S_1 => ?_)
  refine sm_if_eq (pc := 10) 30 ok dx_L_serves_10 (by decide) (fun _ => ?_) (fun _ => ?_)
  · refine sm_iconst (pc := 30) (0 : Int32) ok dx_L_serves_30 zk_0 ?_
    exact sm_zret (pc := 31) ok dx_L_serves_31 hr rfl
  · refine sm_aload_n (pc := 13) 1 ok dx_L_serves_13 rfl ?_
    refine sm_aload_n (pc := 14) 2 ok dx_L_serves_14 rfl ?_
    refine sm_iconst (pc := 15) (0 : Int32) ok dx_L_serves_15 zk_0 ?_
    refine sm_iald (pc := 16) ok dx_L_serves_16 (sm_sh0 hq2) ?_
    refine sm_aload_n (pc := 17) 2 ok dx_L_serves_17 rfl ?_
    refine sm_iconst (pc := 18) (3 : Int32) ok dx_L_serves_18 zk_3 ?_
    refine sm_iald (pc := 19) ok dx_L_serves_19 (sm_sh0 hq2) ?_
    refine sm_callV_i (pc := 20) (ci := 6) [.int (S_1.1 q2 (0 : Int32).toNatClampNeg), .int (S_1.1 q2 (3 : Int32).toNatClampNeg)] ok dx_L_serves_20 wd_747 mwx_Shades_hasAtLeast hq1 rfl (Nat.le_of_ble_eq_true rfl) (Nat.le_of_ble_eq_true rfl) rfl rfl (Nat.le_of_ble_eq_true rfl) (cx_Shades_hasAtLeast (sm_okj ok) N S_1 q1 (S_1.1 q2 (0 : Int32).toNatClampNeg) (S_1.1 q2 (3 : Int32).toNatClampNeg) hq1) (fun r_4 S_3 => ?_)
    refine sm_if_eq (pc := 23) 30 ok dx_L_serves_23 (by decide) (fun _ => ?_) (fun _ => ?_)
    · refine sm_iconst (pc := 30) (0 : Int32) ok dx_L_serves_30 zk_0 ?_
      exact sm_zret (pc := 31) ok dx_L_serves_31 hr rfl
    · refine sm_iconst (pc := 26) (1 : Int32) ok dx_L_serves_26 zk_1 ?_
      refine sm_goto (pc := 27) 31 ok dx_L_serves_27 (by decide) ?_
      exact sm_zret (pc := 31) ok dx_L_serves_31 hr rfl
theorem cx_L_serves {l : Launch} {wc : sm_Wc} (hj : sm_inj zx_sy wc) (N : Nat) (S : sm_St) (q1 : Nat) (q2 : Nat) (hq1 : zx_sy.1 q1 = (16, 0)) (hq2 : (zx_sy.1 q2).1 = 0) : sm_Ct l zx_sy wc yx_L_serves prog_1_method_38_code 3 (some .boolean) 2 53 [.ref (wc.2.2 0), .ref (wc.2.2 q1), .ref (wc.2.2 q2)] S (sm_Pi zx_sy wc) (px_L_serves N S q1 q2) :=
  sm_entry (Pq := fun wc => sm_Pi zx_sy wc) (fun wc => [.ref (wc.2.2 0), .ref (wc.2.2 q1), .ref (wc.2.2 q2)]) (lv := fun wc => [(0, .ref (wc.2.2 0)), (1, .ref (wc.2.2 q1)), (2, .ref (wc.2.2 q2))]) (by decide) hj zx_ok zx_stb (fun _ => Nat.le_of_ble_eq_true rfl) (fun _ => rfl) (fun x _ ok hr => tx_L_serves ok hr N S q1 q2 hq1 hq2)
set_option maxHeartbeats 4000000 in
set_option maxRecDepth 20000 in
theorem tx_L_contentBorrowers_b141 {x : sm_Cx} (ok : sm_Ok x zx_sy prog_1_method_37_code "LentShades" 7 4 105) (hr : (xh x).sig.returnType = (some .int)) (N : Nat) {r47 : Int32 → Nat → Int32 → sm_St → Option (Int32 × sm_St)} {r70 : Int32 → Nat → Int32 → Int32 → sm_St → Option (Int32 × sm_St)} (h47 : ∀ (v1 : Int32) (a2 : Nat) (v3 : Int32) (S : sm_St) (ha2 : zx_sy.1 a2 = (16, 0)), sm_Sm x zx_sy prog_1_method_37_code (sm_Q x zx_sy (sm_Pi zx_sy (xw x))) (r47 v1 a2 v3 S) S 47 [(0, .ref ((xw x).2.2 0)), (1, .int v1), (2, .ref ((xw x).2.2 a2)), (3, .int v3)] []) (h70 : ∀ (v1 : Int32) (a2 : Nat) (v3 : Int32) (v4 : Int32) (S : sm_St) (ha2 : zx_sy.1 a2 = (16, 0)), sm_Sm x zx_sy prog_1_method_37_code (sm_Q x zx_sy (sm_Pi zx_sy (xw x))) (r70 v1 a2 v3 v4 S) S 70 [(0, .ref ((xw x).2.2 0)), (1, .int v1), (2, .ref ((xw x).2.2 a2)), (3, .int v3), (4, .int v4)] []) (v1 : Int32) (a2 : Nat) (v3 : Int32) (v4 : Int32) (S : sm_St) (ha2 : zx_sy.1 a2 = (16, 0)) : sm_Sm x zx_sy prog_1_method_37_code (sm_Q x zx_sy (sm_Pi zx_sy (xw x))) (px_L_contentBorrowers_b141 N r47 r70 v1 a2 v3 v4 S) S 141 [(0, .ref ((xw x).2.2 0)), (1, .int v1), (2, .ref ((xw x).2.2 a2)), (3, .int v3), (4, .int v4)] [] := by
  unfold px_L_contentBorrowers_b141
  refine sm_iinc (pc := 141) (i := 4) 4 (1 : Int32) ok dx_L_contentBorrowers_141 rfl zk_1 (by decide) (fun v => [(4, .int v), (0, .ref ((xw x).2.2 0)), (1, .int v1), (2, .ref ((xw x).2.2 a2)), (3, .int v3)]) (fun _ => rfl) (fun v4_14 => ?_)
  refine sm_goto (pc := 144) 70 ok dx_L_contentBorrowers_144 (by decide) ?_
  refine sm_lv [1, 2, 3, 4, 0] rfl ?_
  exact h70 _ _ _ _ _ ha2
set_option maxHeartbeats 4000000 in
set_option maxRecDepth 20000 in
theorem tx_L_contentBorrowers_b115 {x : sm_Cx} (ok : sm_Ok x zx_sy prog_1_method_37_code "LentShades" 7 4 105) (hr : (xh x).sig.returnType = (some .int)) (N : Nat) {r47 : Int32 → Nat → Int32 → sm_St → Option (Int32 × sm_St)} {r70 : Int32 → Nat → Int32 → Int32 → sm_St → Option (Int32 × sm_St)} (h47 : ∀ (v1 : Int32) (a2 : Nat) (v3 : Int32) (S : sm_St) (ha2 : zx_sy.1 a2 = (16, 0)), sm_Sm x zx_sy prog_1_method_37_code (sm_Q x zx_sy (sm_Pi zx_sy (xw x))) (r47 v1 a2 v3 S) S 47 [(0, .ref ((xw x).2.2 0)), (1, .int v1), (2, .ref ((xw x).2.2 a2)), (3, .int v3)] []) (h70 : ∀ (v1 : Int32) (a2 : Nat) (v3 : Int32) (v4 : Int32) (S : sm_St) (ha2 : zx_sy.1 a2 = (16, 0)), sm_Sm x zx_sy prog_1_method_37_code (sm_Q x zx_sy (sm_Pi zx_sy (xw x))) (r70 v1 a2 v3 v4 S) S 70 [(0, .ref ((xw x).2.2 0)), (1, .int v1), (2, .ref ((xw x).2.2 a2)), (3, .int v3), (4, .int v4)] []) (v1 : Int32) (a2 : Nat) (v3 : Int32) (v4 : Int32) (a5 : Nat) (s0 : Int32) (S : sm_St) (ha2 : zx_sy.1 a2 = (16, 0)) (ha5 : (zx_sy.1 a5).1 = 0) : sm_Sm x zx_sy prog_1_method_37_code (sm_Q x zx_sy (sm_Pi zx_sy (xw x))) (px_L_contentBorrowers_b115 N r47 r70 v1 a2 v3 v4 a5 s0 S) S 115 [(0, .ref ((xw x).2.2 0)), (1, .int v1), (2, .ref ((xw x).2.2 a2)), (3, .int v3), (4, .int v4), (5, .ref ((xw x).2.2 a5))] [.int s0] := by
  unfold px_L_contentBorrowers_b115
  refine sm_istore (pc := 115) (i := 6) ok dx_L_contentBorrowers_115 (by decide) (fun v => [(6, .int v), (0, .ref ((xw x).2.2 0)), (1, .int v1), (2, .ref ((xw x).2.2 a2)), (3, .int v3), (4, .int v4), (5, .ref ((xw x).2.2 a5))]) (fun _ => rfl) (fun v6_10 => ?_)
  refine sm_iload (pc := 117) 0 ok dx_L_contentBorrowers_117 rfl ?_
  refine sm_if_eq (pc := 119) 141 ok dx_L_contentBorrowers_119 (by decide) (fun _ => ?_) (fun _ => ?_)
  · refine sm_lv [1, 2, 3, 4, 5] rfl ?_
    exact tx_L_contentBorrowers_b141 ok hr N h47 h70 _ _ _ _ _ ha2
  · refine sm_aload_n (pc := 122) 1 ok dx_L_contentBorrowers_122 rfl ?_
    refine sm_aload_n (pc := 123) 3 ok dx_L_contentBorrowers_123 rfl ?_
    refine sm_aload (pc := 124) 6 ok dx_L_contentBorrowers_124 rfl ?_
    refine sm_callV_i (pc := 126) (ci := 9) [.ref ((xw x).2.2 a2), .ref ((xw x).2.2 a5)] ok dx_L_contentBorrowers_126 wd_906 mwx_L_serves rfl rfl (Nat.le_of_ble_eq_true rfl) (Nat.le_of_ble_eq_true rfl) rfl rfl (Nat.le_of_ble_eq_true rfl) (cx_L_serves (sm_okj ok) N S a2 a5 ha2 (sm_tag (sm_sh0 ha5))) (fun r_12 S_11 => ?_)
    refine sm_if_ne (pc := 129) 141 ok dx_L_contentBorrowers_129 (by decide) (fun _ => ?_) (fun _ => ?_)
    · refine sm_lv [1, 2, 3, 4, 5] rfl ?_
      exact tx_L_contentBorrowers_b141 ok hr N h47 h70 _ _ _ _ _ ha2
    · refine sm_iload_n (pc := 132) 2 ok dx_L_contentBorrowers_132 rfl ?_
      refine sm_iconst (pc := 133) (1 : Int32) ok dx_L_contentBorrowers_133 zk_1 ?_
      refine sm_iload (pc := 134) 5 ok dx_L_contentBorrowers_134 rfl ?_
      refine sm_ishl (pc := 136) ok dx_L_contentBorrowers_136 ?_
      refine sm_iconst (pc := 137) (-1 : Int32) ok dx_L_contentBorrowers_137 zk_m1 ?_
      refine sm_ixor (pc := 138) ok dx_L_contentBorrowers_138 ?_
      refine sm_iand (pc := 139) ok dx_L_contentBorrowers_139 ?_
      refine sm_istore_n (pc := 140) (i := 1) ok dx_L_contentBorrowers_140 rfl (by decide) (fun v => [(1, .int v), (6, .int v6_10), (0, .ref ((xw x).2.2 0)), (2, .ref ((xw x).2.2 a2)), (3, .int v3), (4, .int v4), (5, .ref ((xw x).2.2 a5))]) (fun _ => rfl) (fun v1_13 => ?_)
      refine sm_lv [2, 0, 3, 4, 5] rfl ?_
      exact tx_L_contentBorrowers_b141 ok hr N h47 h70 _ _ _ _ _ ha2
set_option maxHeartbeats 4000000 in
set_option maxRecDepth 20000 in
theorem tx_L_contentBorrowers_b114 {x : sm_Cx} (ok : sm_Ok x zx_sy prog_1_method_37_code "LentShades" 7 4 105) (hr : (xh x).sig.returnType = (some .int)) (N : Nat) {r47 : Int32 → Nat → Int32 → sm_St → Option (Int32 × sm_St)} {r70 : Int32 → Nat → Int32 → Int32 → sm_St → Option (Int32 × sm_St)} (h47 : ∀ (v1 : Int32) (a2 : Nat) (v3 : Int32) (S : sm_St) (ha2 : zx_sy.1 a2 = (16, 0)), sm_Sm x zx_sy prog_1_method_37_code (sm_Q x zx_sy (sm_Pi zx_sy (xw x))) (r47 v1 a2 v3 S) S 47 [(0, .ref ((xw x).2.2 0)), (1, .int v1), (2, .ref ((xw x).2.2 a2)), (3, .int v3)] []) (h70 : ∀ (v1 : Int32) (a2 : Nat) (v3 : Int32) (v4 : Int32) (S : sm_St) (ha2 : zx_sy.1 a2 = (16, 0)), sm_Sm x zx_sy prog_1_method_37_code (sm_Q x zx_sy (sm_Pi zx_sy (xw x))) (r70 v1 a2 v3 v4 S) S 70 [(0, .ref ((xw x).2.2 0)), (1, .int v1), (2, .ref ((xw x).2.2 a2)), (3, .int v3), (4, .int v4)] []) (v1 : Int32) (a2 : Nat) (v3 : Int32) (v4 : Int32) (a5 : Nat) (S : sm_St) (ha2 : zx_sy.1 a2 = (16, 0)) (ha5 : (zx_sy.1 a5).1 = 0) : sm_Sm x zx_sy prog_1_method_37_code (sm_Q x zx_sy (sm_Pi zx_sy (xw x))) (px_L_contentBorrowers_b114 N r47 r70 v1 a2 v3 v4 a5 S) S 114 [(0, .ref ((xw x).2.2 0)), (1, .int v1), (2, .ref ((xw x).2.2 a2)), (3, .int v3), (4, .int v4), (5, .ref ((xw x).2.2 a5))] [] := by
  unfold px_L_contentBorrowers_b114
  refine sm_iconst (pc := 114) (0 : Int32) ok dx_L_contentBorrowers_114 zk_0 ?_
  exact tx_L_contentBorrowers_b115 ok hr N h47 h70 _ _ _ _ _ _ _ ha2 (sm_tag (sm_sh0 ha5))
set_option maxHeartbeats 4000000 in
set_option maxRecDepth 20000 in
theorem tx_L_contentBorrowers_b70 {x : sm_Cx} (ok : sm_Ok x zx_sy prog_1_method_37_code "LentShades" 7 4 105) (hr : (xh x).sig.returnType = (some .int)) (N : Nat) {r47 : Int32 → Nat → Int32 → sm_St → Option (Int32 × sm_St)} (h47 : ∀ (v1 : Int32) (a2 : Nat) (v3 : Int32) (S : sm_St) (ha2 : zx_sy.1 a2 = (16, 0)), sm_Sm x zx_sy prog_1_method_37_code (sm_Q x zx_sy (sm_Pi zx_sy (xw x))) (r47 v1 a2 v3 S) S 47 [(0, .ref ((xw x).2.2 0)), (1, .int v1), (2, .ref ((xw x).2.2 a2)), (3, .int v3)] []) : ∀ (n : Nat) (v1 : Int32) (a2 : Nat) (v3 : Int32) (v4 : Int32) (S : sm_St) (ha2 : zx_sy.1 a2 = (16, 0)), sm_Sm x zx_sy prog_1_method_37_code (sm_Q x zx_sy (sm_Pi zx_sy (xw x))) (px_L_contentBorrowers_b70 N r47 n v1 a2 v3 v4 S) S 70 [(0, .ref ((xw x).2.2 0)), (1, .int v1), (2, .ref ((xw x).2.2 a2)), (3, .int v3), (4, .int v4)] [] := by
  intro n
  induction n with
  | zero =>
    intro v1 a2 v3 v4 S ha2
    exact sm_none
  | succ n ih =>
    intro v1 a2 v3 v4 S ha2
    show sm_Sm x zx_sy prog_1_method_37_code (sm_Q x zx_sy (sm_Pi zx_sy (xw x))) (if (S.1 1 13) ≤ v4 then (sm_lt (v3 + (1 : Int32)) (fun (v3_8 : Int32) => r47 v1 a2 v3_8 S)) else (if sm_in v4 6 = true then (if sm_in (1 : Int32) 4 = true then (if v3 < (S.1 (28 + v4.toNatClampNeg) (1 : Int32).toNatClampNeg) then (px_L_contentBorrowers_b114 N r47 (px_L_contentBorrowers_b70 N r47 n) v1 a2 v3 v4 (28 + v4.toNatClampNeg) S) else (if sm_in (2 : Int32) 4 = true then (if (S.1 (28 + v4.toNatClampNeg) (2 : Int32).toNatClampNeg) < v3 then (px_L_contentBorrowers_b114 N r47 (px_L_contentBorrowers_b70 N r47 n) v1 a2 v3 v4 (28 + v4.toNatClampNeg) S) else (px_L_contentBorrowers_b115 N r47 (px_L_contentBorrowers_b70 N r47 n) v1 a2 v3 v4 (28 + v4.toNatClampNeg) (1 : Int32) S)) else none)) else none) else none)) S 70 [(0, .ref ((xw x).2.2 0)), (1, .int v1), (2, .ref ((xw x).2.2 a2)), (3, .int v3), (4, .int v4)] []
    refine sm_iload (pc := 70) 4 ok dx_L_contentBorrowers_70 rfl ?_
    refine sm_aload_n (pc := 72) 0 ok dx_L_contentBorrowers_72 rfl ?_
    refine sm_getR (pc := 73) (ci := 9) (k := 0) ok dx_L_contentBorrowers_73 rfl rfl zc_i9 (by decide) rfl wd_400 ?_
    refine sm_getI (pc := 76) (ci := 2) (k := 13) ok dx_L_contentBorrowers_76 rfl rfl zc_i2 (by decide) rfl wd_197 ?_
    refine sm_icmp_ge (pc := 79) 147 ok dx_L_contentBorrowers_79 (by decide) (fun _ => ?_) (fun _ => ?_)
    · refine sm_iinc (pc := 147) (i := 3) 3 (1 : Int32) ok dx_L_contentBorrowers_147 rfl zk_1 (by decide) (fun v => [(3, .int v), (0, .ref ((xw x).2.2 0)), (1, .int v1), (2, .ref ((xw x).2.2 a2)), (4, .int v4)]) (fun _ => rfl) (fun v3_8 => ?_)
      refine sm_goto (pc := 150) 47 ok dx_L_contentBorrowers_150 (by decide) ?_
      refine sm_lv [1, 2, 3, 0] rfl ?_
      exact h47 _ _ _ _ ha2
    · refine sm_aload_n (pc := 82) 0 ok dx_L_contentBorrowers_82 rfl ?_
      refine sm_getR (pc := 83) (ci := 9) (k := 0) ok dx_L_contentBorrowers_83 rfl rfl zc_i9 (by decide) rfl wd_400 ?_
      refine sm_getR (pc := 86) (ci := 2) (k := 8) ok dx_L_contentBorrowers_86 rfl rfl zc_i2 (by decide) rfl wd_184 ?_
      refine sm_iload (pc := 89) 4 ok dx_L_contentBorrowers_89 rfl ?_
      refine sm_aald5 (pc := 91) ok dx_L_contentBorrowers_91 rfl (fun hb_9 => ?_)
      refine sm_astore (pc := 92) (i := 5) ok dx_L_contentBorrowers_92 (by decide) [(5, .ref ((xw x).2.2 (28 + v4.toNatClampNeg))), (0, .ref ((xw x).2.2 0)), (1, .int v1), (2, .ref ((xw x).2.2 a2)), (3, .int v3), (4, .int v4)] rfl ?_
      refine sm_aload (pc := 94) 0 ok dx_L_contentBorrowers_94 rfl ?_
      refine sm_iconst (pc := 96) (1 : Int32) ok dx_L_contentBorrowers_96 zk_1 ?_
      refine sm_iald (pc := 97) ok dx_L_contentBorrowers_97 (zx_rows 27 6 4 (by decide) hb_9) ?_
      refine sm_iload_n (pc := 98) 4 ok dx_L_contentBorrowers_98 rfl ?_
      refine sm_icmp_gt (pc := 99) 114 ok dx_L_contentBorrowers_99 (by decide) (fun _ => ?_) (fun _ => ?_)
      · refine sm_lv [1, 2, 3, 4, 5, 0] rfl ?_
        exact tx_L_contentBorrowers_b114 ok hr N h47 ih _ _ _ _ _ _ ha2 (sm_tag (zx_rows 27 6 4 (by decide) hb_9))
      · refine sm_iload_n (pc := 102) 4 ok dx_L_contentBorrowers_102 rfl ?_
        refine sm_aload (pc := 103) 0 ok dx_L_contentBorrowers_103 rfl ?_
        refine sm_iconst (pc := 105) (2 : Int32) ok dx_L_contentBorrowers_105 zk_2 ?_
        refine sm_iald (pc := 106) ok dx_L_contentBorrowers_106 (zx_rows 27 6 4 (by decide) hb_9) ?_
        refine sm_icmp_gt (pc := 107) 114 ok dx_L_contentBorrowers_107 (by decide) (fun _ => ?_) (fun _ => ?_)
        · refine sm_lv [1, 2, 3, 4, 5, 0] rfl ?_
          exact tx_L_contentBorrowers_b114 ok hr N h47 ih _ _ _ _ _ _ ha2 (sm_tag (zx_rows 27 6 4 (by decide) hb_9))
        · refine sm_iconst (pc := 110) (1 : Int32) ok dx_L_contentBorrowers_110 zk_1 ?_
          refine sm_goto (pc := 111) 115 ok dx_L_contentBorrowers_111 (by decide) ?_
          refine sm_lv [1, 2, 3, 4, 5, 0] rfl ?_
          exact tx_L_contentBorrowers_b115 ok hr N h47 ih _ _ _ _ _ _ _ ha2 (sm_tag (zx_rows 27 6 4 (by decide) hb_9))
set_option maxHeartbeats 4000000 in
set_option maxRecDepth 20000 in
theorem tx_L_contentBorrowers_b67 {x : sm_Cx} (ok : sm_Ok x zx_sy prog_1_method_37_code "LentShades" 7 4 105) (hr : (xh x).sig.returnType = (some .int)) (N : Nat) {r47 : Int32 → Nat → Int32 → sm_St → Option (Int32 × sm_St)} (h47 : ∀ (v1 : Int32) (a2 : Nat) (v3 : Int32) (S : sm_St) (ha2 : zx_sy.1 a2 = (16, 0)), sm_Sm x zx_sy prog_1_method_37_code (sm_Q x zx_sy (sm_Pi zx_sy (xw x))) (r47 v1 a2 v3 S) S 47 [(0, .ref ((xw x).2.2 0)), (1, .int v1), (2, .ref ((xw x).2.2 a2)), (3, .int v3)] []) (v1 : Int32) (a2 : Nat) (v3 : Int32) (S : sm_St) (ha2 : zx_sy.1 a2 = (16, 0)) : sm_Sm x zx_sy prog_1_method_37_code (sm_Q x zx_sy (sm_Pi zx_sy (xw x))) (px_L_contentBorrowers_b67 N r47 v1 a2 v3 S) S 67 [(0, .ref ((xw x).2.2 0)), (1, .int v1), (2, .ref ((xw x).2.2 a2)), (3, .int v3)] [] := by
  unfold px_L_contentBorrowers_b67
  refine sm_iconst (pc := 67) (0 : Int32) ok dx_L_contentBorrowers_67 zk_0 ?_
  refine sm_istore (pc := 68) (i := 4) ok dx_L_contentBorrowers_68 (by decide) (fun v => [(4, .int v), (0, .ref ((xw x).2.2 0)), (1, .int v1), (2, .ref ((xw x).2.2 a2)), (3, .int v3)]) (fun _ => rfl) (fun v4_7 => ?_)
  refine sm_lv [1, 2, 3, 4, 0] rfl ?_
  exact tx_L_contentBorrowers_b70 ok hr N h47 N _ _ _ _ _ ha2
set_option maxHeartbeats 4000000 in
set_option maxRecDepth 20000 in
theorem tx_L_contentBorrowers_b47 {x : sm_Cx} (ok : sm_Ok x zx_sy prog_1_method_37_code "LentShades" 7 4 105) (hr : (xh x).sig.returnType = (some .int)) (N : Nat) : ∀ (n : Nat) (v1 : Int32) (a2 : Nat) (v3 : Int32) (S : sm_St) (ha2 : zx_sy.1 a2 = (16, 0)), sm_Sm x zx_sy prog_1_method_37_code (sm_Q x zx_sy (sm_Pi zx_sy (xw x))) (px_L_contentBorrowers_b47 N n v1 a2 v3 S) S 47 [(0, .ref ((xw x).2.2 0)), (1, .int v1), (2, .ref ((xw x).2.2 a2)), (3, .int v3)] [] := by
  intro n
  induction n with
  | zero =>
    intro v1 a2 v3 S ha2
    exact sm_none
  | succ n ih =>
    intro v1 a2 v3 S ha2
    show sm_Sm x zx_sy prog_1_method_37_code (sm_Q x zx_sy (sm_Pi zx_sy (xw x))) (if (12 : Int32) < v3 then (some (v1, S)) else (if v3 ≤ 0 then (px_L_contentBorrowers_b67 N (px_L_contentBorrowers_b47 N n) v1 a2 v3 S) else (sm_b2 (px_Takings_behind N S a2 (1 : Int32)) (fun (r_5 : Nat) (S_4 : sm_St) => if (decide (zx_sy.1 r_5 = (16, 0))) = true then (px_L_contentBorrowers_b67 N (px_L_contentBorrowers_b47 N n) v1 r_5 v3 S_4) else none)))) S 47 [(0, .ref ((xw x).2.2 0)), (1, .int v1), (2, .ref ((xw x).2.2 a2)), (3, .int v3)] []
    refine sm_iload_n (pc := 47) 3 ok dx_L_contentBorrowers_47 rfl ?_
    refine sm_bipush (pc := 48) (12 : Int32) ok dx_L_contentBorrowers_48 zb_12 ?_
    refine sm_icmp_gt (pc := 50) 153 ok dx_L_contentBorrowers_50 (by decide) (fun _ => ?_) (fun _ => ?_)
    · refine sm_iload_n (pc := 153) 1 ok dx_L_contentBorrowers_153 rfl ?_
      exact sm_iret (pc := 154) ok dx_L_contentBorrowers_154 hr
    · refine sm_iload_n (pc := 53) 3 ok dx_L_contentBorrowers_53 rfl ?_
      refine sm_if_le (pc := 54) 67 ok dx_L_contentBorrowers_54 (by decide) (fun _ => ?_) (fun _ => ?_)
      · exact tx_L_contentBorrowers_b67 ok hr N ih _ _ _ _ ha2
      · refine sm_aload_n (pc := 57) 0 ok dx_L_contentBorrowers_57 rfl ?_
        refine sm_getR (pc := 58) (ci := 9) (k := 6) ok dx_L_contentBorrowers_58 rfl rfl zc_i9 (by decide) rfl wd_406 ?_
        refine sm_aload_n (pc := 61) 2 ok dx_L_contentBorrowers_61 rfl ?_
        refine sm_iconst (pc := 62) (1 : Int32) ok dx_L_contentBorrowers_62 zk_1 ?_
        refine sm_callV_r (pc := 63) (ci := 8) [.ref ((xw x).2.2 a2), .int (1 : Int32)] ok dx_L_contentBorrowers_63 wd_650 mwx_Takings_behind rfl rfl (Nat.le_of_ble_eq_true rfl) (Nat.le_of_ble_eq_true rfl) rfl rfl (Nat.le_of_ble_eq_true rfl) (cx_Takings_behind (sm_okj ok) N S a2 (1 : Int32) ha2) (fun r_5 S_4 => ?_)
        refine sm_ck (fun hc_6 => ?_)
        refine sm_astore_n (pc := 66) (i := 2) ok dx_L_contentBorrowers_66 rfl (by decide) [(2, .ref ((xw x).2.2 r_5)), (0, .ref ((xw x).2.2 0)), (1, .int v1), (3, .int v3)] rfl ?_
        refine sm_lv [1, 2, 0, 3] rfl ?_
        exact tx_L_contentBorrowers_b67 ok hr N ih _ _ _ _ (of_decide_eq_true hc_6)
set_option maxHeartbeats 4000000 in
set_option maxRecDepth 20000 in
theorem tx_L_contentBorrowers {x : sm_Cx} (ok : sm_Ok x zx_sy prog_1_method_37_code "LentShades" 7 4 105) (hr : (xh x).sig.returnType = (some .int)) (N : Nat) (S : sm_St) : sm_Sm x zx_sy prog_1_method_37_code (sm_Q x zx_sy (sm_Pi zx_sy (xw x))) (px_L_contentBorrowers N S) S 0 [(0, .ref ((xw x).2.2 0))] [] := by
  unfold px_L_contentBorrowers
  refine sm_aload_n (pc := 0) 0 ok dx_L_contentBorrowers_0 rfl ?_
  refine sm_getR (pc := 1) (ci := 9) (k := 6) ok dx_L_contentBorrowers_1 rfl rfl zc_i9 (by decide) rfl wd_406 ?_
  refine sm_aload_n (pc := 4) 0 ok dx_L_contentBorrowers_4 rfl ?_
  refine sm_getR (pc := 5) (ci := 9) (k := 0) ok dx_L_contentBorrowers_5 rfl rfl zc_i9 (by decide) rfl wd_400 ?_
  refine sm_aload_n (pc := 8) 0 ok dx_L_contentBorrowers_8 rfl ?_
  refine sm_getR (pc := 9) (ci := 9) (k := 0) ok dx_L_contentBorrowers_9 rfl rfl zc_i9 (by decide) rfl wd_400 ?_
  refine sm_getR (pc := 12) (ci := 2) (k := 5) ok dx_L_contentBorrowers_12 rfl rfl zc_i2 (by decide) rfl wd_176 ?_
  refine sm_aload_n (pc := 15) 0 ok dx_L_contentBorrowers_15 rfl ?_
  refine sm_getR (pc := 16) (ci := 9) (k := 0) ok dx_L_contentBorrowers_16 rfl rfl zc_i9 (by decide) rfl wd_400 ?_
  refine sm_getR (pc := 19) (ci := 2) (k := 4) ok dx_L_contentBorrowers_19 rfl rfl zc_i2 (by decide) rfl wd_173 ?_
  refine sm_callV_v (pc := 22) (ci := 8) [.ref ((xw x).2.2 1), .ref ((xw x).2.2 7), .ref ((xw x).2.2 6)] ok dx_L_contentBorrowers_22 wd_631 mwx_Takings_reckon rfl rfl (Nat.le_of_ble_eq_true rfl) (Nat.le_of_ble_eq_true rfl) rfl rfl (Nat.le_of_ble_eq_true rfl) (cx_Takings_reckon (sm_okj ok) N S 1 7 6 rfl (sm_tag rfl) (sm_tag rfl)) (fun S_1 => ?_)
  refine sm_iconst (pc := 25) (1 : Int32) ok dx_L_contentBorrowers_25 zk_1 ?_
  refine sm_aload_n (pc := 26) 0 ok dx_L_contentBorrowers_26 rfl ?_
  refine sm_getR (pc := 27) (ci := 9) (k := 0) ok dx_L_contentBorrowers_27 rfl rfl zc_i9 (by decide) rfl wd_400 ?_
  refine sm_getI (pc := 30) (ci := 2) (k := 13) ok dx_L_contentBorrowers_30 rfl rfl zc_i2 (by decide) rfl wd_197 ?_
  refine sm_ishl (pc := 33) ok dx_L_contentBorrowers_33 ?_
  refine sm_iconst (pc := 34) (1 : Int32) ok dx_L_contentBorrowers_34 zk_1 ?_
  refine sm_isub (pc := 35) ok dx_L_contentBorrowers_35 ?_
  refine sm_istore_n (pc := 36) (i := 1) ok dx_L_contentBorrowers_36 rfl (by decide) (fun v => [(1, .int v), (0, .ref ((xw x).2.2 0))]) (fun _ => rfl) (fun v1_2 => ?_)
  refine sm_aload_n (pc := 37) 1 ok dx_L_contentBorrowers_37 rfl ?_
  refine sm_getR (pc := 38) (ci := 9) (k := 0) ok dx_L_contentBorrowers_38 rfl rfl zc_i9 (by decide) rfl wd_400 ?_
  refine sm_getR (pc := 41) (ci := 2) (k := 6) ok dx_L_contentBorrowers_41 rfl rfl zc_i2 (by decide) rfl wd_181 ?_
  refine sm_astore_n (pc := 44) (i := 2) ok dx_L_contentBorrowers_44 rfl (by decide) [(2, .ref ((xw x).2.2 12)), (1, .int v1_2), (0, .ref ((xw x).2.2 0))] rfl ?_
  refine sm_iconst (pc := 45) (0 : Int32) ok dx_L_contentBorrowers_45 zk_0 ?_
  refine sm_istore_n (pc := 46) (i := 3) ok dx_L_contentBorrowers_46 rfl (by decide) (fun v => [(3, .int v), (2, .ref ((xw x).2.2 12)), (1, .int v1_2), (0, .ref ((xw x).2.2 0))]) (fun _ => rfl) (fun v3_3 => ?_)
  refine sm_lv [3, 2, 1, 0] rfl ?_
  exact tx_L_contentBorrowers_b47 ok hr N N _ _ _ _ rfl
theorem cx_L_contentBorrowers {l : Launch} {wc : sm_Wc} (hj : sm_inj zx_sy wc) (N : Nat) (S : sm_St) : sm_Ct l zx_sy wc yx_L_contentBorrowers prog_1_method_37_code 7 (some .int) 4 105 [.ref (wc.2.2 0)] S (sm_Pi zx_sy wc) (px_L_contentBorrowers N S) :=
  sm_entry (Pq := fun wc => sm_Pi zx_sy wc) (fun wc => [.ref (wc.2.2 0)]) (lv := fun wc => [(0, .ref (wc.2.2 0))]) (by decide) hj zx_ok zx_stb (fun _ => Nat.le_of_ble_eq_true rfl) (fun _ => rfl) (fun x _ ok hr => tx_L_contentBorrowers ok hr N S)
set_option maxHeartbeats 4000000 in
set_option maxRecDepth 20000 in
theorem tx_House_overlap {x : sm_Cx} (ok : sm_Ok x zx_sy prog_4_method_15_code "LentShades$House" 2 0 0) (hr : (xh x).sig.returnType = (some .boolean)) (N : Nat) (S : sm_St) (q0 : Nat) (q1 : Nat) (hq0 : (zx_sy.1 q0).1 = 0) (hq1 : (zx_sy.1 q1).1 = 0) : sm_Sm x zx_sy prog_4_method_15_code (sm_Q x zx_sy (sm_Pi zx_sy (xw x))) (px_House_overlap N S q0 q1) S 0 [(0, .ref ((xw x).2.2 q0)), (1, .ref ((xw x).2.2 q1))] [] := by
  unfold px_House_overlap
  refine sm_aload_n (pc := 0) 0 ok dx_House_overlap_0 rfl ?_
  refine sm_iconst (pc := 1) (0 : Int32) ok dx_House_overlap_1 zk_0 ?_
  refine sm_iald (pc := 2) ok dx_House_overlap_2 (sm_sh0 hq0) ?_
  refine sm_aload_n (pc := 3) 1 ok dx_House_overlap_3 rfl ?_
  refine sm_iconst (pc := 4) (0 : Int32) ok dx_House_overlap_4 zk_0 ?_
  refine sm_iald (pc := 5) ok dx_House_overlap_5 (sm_sh0 hq1) ?_
  refine sm_icmp_ne (pc := 6) 31 ok dx_House_overlap_6 (by decide) (fun _ => ?_) (fun _ => ?_)
  · refine sm_iconst (pc := 31) (0 : Int32) ok dx_House_overlap_31 zk_0 ?_
    exact sm_zret (pc := 32) ok dx_House_overlap_32 hr rfl
  · refine sm_aload_n (pc := 9) 0 ok dx_House_overlap_9 rfl ?_
    refine sm_iconst (pc := 10) (1 : Int32) ok dx_House_overlap_10 zk_1 ?_
    refine sm_iald (pc := 11) ok dx_House_overlap_11 (sm_sh0 hq0) ?_
    refine sm_aload_n (pc := 12) 1 ok dx_House_overlap_12 rfl ?_
    refine sm_iconst (pc := 13) (2 : Int32) ok dx_House_overlap_13 zk_2 ?_
    refine sm_iald (pc := 14) ok dx_House_overlap_14 (sm_sh0 hq1) ?_
    refine sm_icmp_gt (pc := 15) 31 ok dx_House_overlap_15 (by decide) (fun _ => ?_) (fun _ => ?_)
    · refine sm_iconst (pc := 31) (0 : Int32) ok dx_House_overlap_31 zk_0 ?_
      exact sm_zret (pc := 32) ok dx_House_overlap_32 hr rfl
    · refine sm_aload_n (pc := 18) 1 ok dx_House_overlap_18 rfl ?_
      refine sm_iconst (pc := 19) (1 : Int32) ok dx_House_overlap_19 zk_1 ?_
      refine sm_iald (pc := 20) ok dx_House_overlap_20 (sm_sh0 hq1) ?_
      refine sm_aload_n (pc := 21) 0 ok dx_House_overlap_21 rfl ?_
      refine sm_iconst (pc := 22) (2 : Int32) ok dx_House_overlap_22 zk_2 ?_
      refine sm_iald (pc := 23) ok dx_House_overlap_23 (sm_sh0 hq0) ?_
      refine sm_icmp_gt (pc := 24) 31 ok dx_House_overlap_24 (by decide) (fun _ => ?_) (fun _ => ?_)
      · refine sm_iconst (pc := 31) (0 : Int32) ok dx_House_overlap_31 zk_0 ?_
        exact sm_zret (pc := 32) ok dx_House_overlap_32 hr rfl
      · refine sm_iconst (pc := 27) (1 : Int32) ok dx_House_overlap_27 zk_1 ?_
        refine sm_goto (pc := 28) 32 ok dx_House_overlap_28 (by decide) ?_
        exact sm_zret (pc := 32) ok dx_House_overlap_32 hr rfl
theorem cx_House_overlap {l : Launch} {wc : sm_Wc} (hj : sm_inj zx_sy wc) (N : Nat) (S : sm_St) (q0 : Nat) (q1 : Nat) (hq0 : (zx_sy.1 q0).1 = 0) (hq1 : (zx_sy.1 q1).1 = 0) : sm_Ct l zx_sy wc yx_House_overlap prog_4_method_15_code 2 (some .boolean) 0 0 [.ref (wc.2.2 q0), .ref (wc.2.2 q1)] S (sm_Pi zx_sy wc) (px_House_overlap N S q0 q1) :=
  sm_entry (Pq := fun wc => sm_Pi zx_sy wc) (fun wc => [.ref (wc.2.2 q0), .ref (wc.2.2 q1)]) (lv := fun wc => [(0, .ref (wc.2.2 q0)), (1, .ref (wc.2.2 q1))]) (by decide) hj zx_ok zx_stb (fun _ => Nat.le_of_ble_eq_true rfl) (fun _ => rfl) (fun x _ ok hr => tx_House_overlap ok hr N S q0 q1 hq0 hq1)
set_option maxHeartbeats 4000000 in
set_option maxRecDepth 20000 in
theorem tx_House_clash_b49 {x : sm_Cx} (ok : sm_Ok x zx_sy prog_4_method_14_code "LentShades$House" 4 1 21) (hr : (xh x).sig.returnType = (some .boolean)) (N : Nat) (p : Nat) (hp : zx_sy.1 p = (12, 0)) {r2 : Int32 → Int32 → sm_St → Option (Int32 × sm_St)} {r12 : Int32 → Int32 → Int32 → sm_St → Option (Int32 × sm_St)} (h2 : ∀ (v1 : Int32) (v2 : Int32) (S : sm_St), sm_Sm x zx_sy prog_4_method_14_code (sm_Q x zx_sy (sm_Pi zx_sy (xw x))) (r2 v1 v2 S) S 2 [(0, .ref ((xw x).2.2 p)), (1, .int v1), (2, .int v2)] []) (h12 : ∀ (v1 : Int32) (v2 : Int32) (v3 : Int32) (S : sm_St), sm_Sm x zx_sy prog_4_method_14_code (sm_Q x zx_sy (sm_Pi zx_sy (xw x))) (r12 v1 v2 v3 S) S 12 [(0, .ref ((xw x).2.2 p)), (1, .int v1), (2, .int v2), (3, .int v3)] []) (v1 : Int32) (v2 : Int32) (v3 : Int32) (S : sm_St) : sm_Sm x zx_sy prog_4_method_14_code (sm_Q x zx_sy (sm_Pi zx_sy (xw x))) (px_House_clash_b49 N p r2 r12 v1 v2 v3 S) S 49 [(0, .ref ((xw x).2.2 p)), (1, .int v1), (2, .int v2), (3, .int v3)] [] := by
  unfold px_House_clash_b49
  refine sm_iinc (pc := 49) (i := 3) 3 (1 : Int32) ok dx_House_clash_49 rfl zk_1 (by decide) (fun v => [(3, .int v), (0, .ref ((xw x).2.2 p)), (1, .int v1), (2, .int v2)]) (fun _ => rfl) (fun v3_8 => ?_)
  refine sm_goto (pc := 52) 12 ok dx_House_clash_52 (by decide) ?_
  refine sm_lv [1, 2, 3, 0] rfl ?_
  exact h12 _ _ _ _
set_option maxHeartbeats 4000000 in
set_option maxRecDepth 20000 in
theorem tx_House_clash_b12 {x : sm_Cx} (ok : sm_Ok x zx_sy prog_4_method_14_code "LentShades$House" 4 1 21) (hr : (xh x).sig.returnType = (some .boolean)) (N : Nat) (p : Nat) (hp : zx_sy.1 p = (12, 0)) {r2 : Int32 → Int32 → sm_St → Option (Int32 × sm_St)} (h2 : ∀ (v1 : Int32) (v2 : Int32) (S : sm_St), sm_Sm x zx_sy prog_4_method_14_code (sm_Q x zx_sy (sm_Pi zx_sy (xw x))) (r2 v1 v2 S) S 2 [(0, .ref ((xw x).2.2 p)), (1, .int v1), (2, .int v2)] []) : ∀ (n : Nat) (v1 : Int32) (v2 : Int32) (v3 : Int32) (S : sm_St), sm_Sm x zx_sy prog_4_method_14_code (sm_Q x zx_sy (sm_Pi zx_sy (xw x))) (px_House_clash_b12 N p r2 n v1 v2 v3 S) S 12 [(0, .ref ((xw x).2.2 p)), (1, .int v1), (2, .int v2), (3, .int v3)] [] := by
  intro n
  induction n with
  | zero =>
    intro v1 v2 v3 S
    exact sm_none
  | succ n ih =>
    intro v1 v2 v3 S
    show sm_Sm x zx_sy prog_4_method_14_code (sm_Q x zx_sy (sm_Pi zx_sy (xw x))) (if v2 ≤ v3 then (sm_lt (v2 + (1 : Int32)) (fun (v2_3 : Int32) => r2 v1 v2_3 S)) else (if (((v1 >>> (v2 &&& 31)) &&& (v1 >>> (v3 &&& 31))) &&& (1 : Int32)) = 0 then (px_House_clash_b49 N p r2 (px_House_clash_b12 N p r2 n) v1 v2 v3 S) else (if sm_in v2 6 = true then (if sm_in v3 6 = true then (sm_b2 (px_House_overlap N S (p + 27 + v2.toNatClampNeg) (p + 27 + v3.toNatClampNeg)) (fun (r_7 : Int32) (S_6 : sm_St) => if r_7 = 0 then (px_House_clash_b49 N p r2 (px_House_clash_b12 N p r2 n) v1 v2 v3 S_6) else (some ((1 : Int32), S_6)))) else none) else none))) S 12 [(0, .ref ((xw x).2.2 p)), (1, .int v1), (2, .int v2), (3, .int v3)] []
    refine sm_iload_n (pc := 12) 3 ok dx_House_clash_12 rfl ?_
    refine sm_iload_n (pc := 13) 2 ok dx_House_clash_13 rfl ?_
    refine sm_icmp_ge (pc := 14) 55 ok dx_House_clash_14 (by decide) (fun _ => ?_) (fun _ => ?_)
    · refine sm_iinc (pc := 55) (i := 2) 2 (1 : Int32) ok dx_House_clash_55 rfl zk_1 (by decide) (fun v => [(2, .int v), (0, .ref ((xw x).2.2 p)), (1, .int v1), (3, .int v3)]) (fun _ => rfl) (fun v2_3 => ?_)
      refine sm_goto (pc := 58) 2 ok dx_House_clash_58 (by decide) ?_
      refine sm_lv [1, 2, 0] rfl ?_
      exact h2 _ _ _
    · refine sm_iload_n (pc := 17) 1 ok dx_House_clash_17 rfl ?_
      refine sm_iload_n (pc := 18) 2 ok dx_House_clash_18 rfl ?_
      refine sm_ishr (pc := 19) ok dx_House_clash_19 ?_
      refine sm_iload_n (pc := 20) 1 ok dx_House_clash_20 rfl ?_
      refine sm_iload_n (pc := 21) 3 ok dx_House_clash_21 rfl ?_
      refine sm_ishr (pc := 22) ok dx_House_clash_22 ?_
      refine sm_iand (pc := 23) ok dx_House_clash_23 ?_
      refine sm_iconst (pc := 24) (1 : Int32) ok dx_House_clash_24 zk_1 ?_
      refine sm_iand (pc := 25) ok dx_House_clash_25 ?_
      refine sm_if_eq (pc := 26) 49 ok dx_House_clash_26 (by decide) (fun _ => ?_) (fun _ => ?_)
      · exact tx_House_clash_b49 ok hr N p hp h2 ih _ _ _ _
      · refine sm_aload_n (pc := 29) 0 ok dx_House_clash_29 rfl ?_
        refine sm_getR (pc := 30) (ci := 2) (k := 8) ok dx_House_clash_30 hp rfl zc_i2 (by decide) rfl wd_183 ?_
        refine sm_iload_n (pc := 33) 2 ok dx_House_clash_33 rfl ?_
        refine sm_aald5 (pc := 34) ok dx_House_clash_34 (zx_House_26 hp) (fun hb_4 => ?_)
        refine sm_aload_n (pc := 35) 0 ok dx_House_clash_35 rfl ?_
        refine sm_getR (pc := 36) (ci := 2) (k := 8) ok dx_House_clash_36 hp rfl zc_i2 (by decide) rfl wd_183 ?_
        refine sm_iload_n (pc := 39) 3 ok dx_House_clash_39 rfl ?_
        refine sm_aald5 (pc := 40) ok dx_House_clash_40 (zx_House_26 hp) (fun hb_5 => ?_)
        refine sm_callS_i (pc := 41) [.ref ((xw x).2.2 (p + 27 + v2.toNatClampNeg)), .ref ((xw x).2.2 (p + 27 + v3.toNatClampNeg))] ok dx_House_clash_41 wd_914 mwx_House_overlap (Nat.le_of_ble_eq_true rfl) (Nat.le_of_ble_eq_true rfl) rfl rfl (Nat.le_of_ble_eq_true rfl) (cx_House_overlap (sm_okj ok) N S (p + 27 + v2.toNatClampNeg) (p + 27 + v3.toNatClampNeg) (sm_tag (zx_hrow26 hp hb_4)) (sm_tag (zx_hrow26 hp hb_5))) (fun r_7 S_6 => ?_)
        refine sm_if_eq (pc := 44) 49 ok dx_House_clash_44 (by decide) (fun _ => ?_) (fun _ => ?_)
        · exact tx_House_clash_b49 ok hr N p hp h2 ih _ _ _ _
        · refine sm_iconst (pc := 47) (1 : Int32) ok dx_House_clash_47 zk_1 ?_
          exact sm_zret (pc := 48) ok dx_House_clash_48 hr rfl
set_option maxHeartbeats 4000000 in
set_option maxRecDepth 20000 in
theorem tx_House_clash_b2 {x : sm_Cx} (ok : sm_Ok x zx_sy prog_4_method_14_code "LentShades$House" 4 1 21) (hr : (xh x).sig.returnType = (some .boolean)) (N : Nat) (p : Nat) (hp : zx_sy.1 p = (12, 0)) : ∀ (n : Nat) (v1 : Int32) (v2 : Int32) (S : sm_St), sm_Sm x zx_sy prog_4_method_14_code (sm_Q x zx_sy (sm_Pi zx_sy (xw x))) (px_House_clash_b2 N p n v1 v2 S) S 2 [(0, .ref ((xw x).2.2 p)), (1, .int v1), (2, .int v2)] [] := by
  intro n
  induction n with
  | zero =>
    intro v1 v2 S
    exact sm_none
  | succ n ih =>
    intro v1 v2 S
    show sm_Sm x zx_sy prog_4_method_14_code (sm_Q x zx_sy (sm_Pi zx_sy (xw x))) (if (S.1 p 13) ≤ v2 then (some ((0 : Int32), S)) else (sm_lt (0 : Int32) (fun (v3_2 : Int32) => px_House_clash_b12 N p (px_House_clash_b2 N p n) N v1 v2 v3_2 S))) S 2 [(0, .ref ((xw x).2.2 p)), (1, .int v1), (2, .int v2)] []
    refine sm_iload_n (pc := 2) 2 ok dx_House_clash_2 rfl ?_
    refine sm_aload_n (pc := 3) 0 ok dx_House_clash_3 rfl ?_
    refine sm_getI (pc := 4) (ci := 2) (k := 13) ok dx_House_clash_4 hp rfl zc_i2 (by decide) rfl wd_196 ?_
    refine sm_icmp_ge (pc := 7) 61 ok dx_House_clash_7 (by decide) (fun _ => ?_) (fun _ => ?_)
    · refine sm_iconst (pc := 61) (0 : Int32) ok dx_House_clash_61 zk_0 ?_
      exact sm_zret (pc := 62) ok dx_House_clash_62 hr rfl
    · refine sm_iconst (pc := 10) (0 : Int32) ok dx_House_clash_10 zk_0 ?_
      refine sm_istore_n (pc := 11) (i := 3) ok dx_House_clash_11 rfl (by decide) (fun v => [(3, .int v), (0, .ref ((xw x).2.2 p)), (1, .int v1), (2, .int v2)]) (fun _ => rfl) (fun v3_2 => ?_)
      refine sm_lv [1, 2, 3, 0] rfl ?_
      exact tx_House_clash_b12 ok hr N p hp ih N _ _ _ _
set_option maxHeartbeats 4000000 in
set_option maxRecDepth 20000 in
theorem tx_House_clash {x : sm_Cx} (ok : sm_Ok x zx_sy prog_4_method_14_code "LentShades$House" 4 1 21) (hr : (xh x).sig.returnType = (some .boolean)) (N : Nat) (S : sm_St) (p : Nat) (v1 : Int32) (hp : zx_sy.1 p = (12, 0)) : sm_Sm x zx_sy prog_4_method_14_code (sm_Q x zx_sy (sm_Pi zx_sy (xw x))) (px_House_clash N S p v1) S 0 [(0, .ref ((xw x).2.2 p)), (1, .int v1)] [] := by
  unfold px_House_clash
  refine sm_iconst (pc := 0) (0 : Int32) ok dx_House_clash_0 zk_0 ?_
  refine sm_istore_n (pc := 1) (i := 2) ok dx_House_clash_1 rfl (by decide) (fun v => [(2, .int v), (0, .ref ((xw x).2.2 p)), (1, .int v1)]) (fun _ => rfl) (fun v2_1 => ?_)
  refine sm_lv [1, 2, 0] rfl ?_
  exact tx_House_clash_b2 ok hr N p hp N _ _ _
theorem cx_House_clash {l : Launch} {wc : sm_Wc} (hj : sm_inj zx_sy wc) (N : Nat) (S : sm_St) (p : Nat) (v1 : Int32) (hp : zx_sy.1 p = (12, 0)) : sm_Ct l zx_sy wc yx_House_clash prog_4_method_14_code 4 (some .boolean) 1 21 [.ref (wc.2.2 p), .int v1] S (sm_Pi zx_sy wc) (px_House_clash N S p v1) :=
  sm_entry (Pq := fun wc => sm_Pi zx_sy wc) (fun wc => [.ref (wc.2.2 p), .int v1]) (lv := fun wc => [(0, .ref (wc.2.2 p)), (1, .int v1)]) (by decide) hj zx_ok zx_stb (fun _ => Nat.le_of_ble_eq_true rfl) (fun _ => rfl) (fun x _ ok hr => tx_House_clash ok hr N S p v1 hp)
set_option maxHeartbeats 4000000 in
set_option maxRecDepth 20000 in
theorem tx_L_lent_b85 {x : sm_Cx} (ok : sm_Ok x zx_sy prog_1_method_21_code "LentShades" 6 5 131) (hr : (xh x).sig.returnType = (some .int)) (N : Nat) {r23 : Int32 → Int32 → Int32 → Int32 → sm_St → Option (Int32 × sm_St)} (h23 : ∀ (v1 : Int32) (v2 : Int32) (v3 : Int32) (v4 : Int32) (S : sm_St), sm_Sm x zx_sy prog_1_method_21_code (sm_Q x zx_sy (sm_Pi zx_sy (xw x))) (r23 v1 v2 v3 v4 S) S 23 [(0, .ref ((xw x).2.2 0)), (1, .int v1), (2, .int v2), (3, .int v3), (4, .int v4)] []) (v1 : Int32) (v2 : Int32) (v3 : Int32) (v4 : Int32) (S : sm_St) : sm_Sm x zx_sy prog_1_method_21_code (sm_Q x zx_sy (sm_Pi zx_sy (xw x))) (px_L_lent_b85 N r23 v1 v2 v3 v4 S) S 85 [(0, .ref ((xw x).2.2 0)), (1, .int v1), (2, .int v2), (3, .int v3), (4, .int v4)] [] := by
  unfold px_L_lent_b85
  refine sm_iinc (pc := 85) (i := 4) 4 (1 : Int32) ok dx_L_lent_85 rfl zk_1 (by decide) (fun v => [(4, .int v), (0, .ref ((xw x).2.2 0)), (1, .int v1), (2, .int v2), (3, .int v3)]) (fun _ => rfl) (fun v4_20 => ?_)
  refine sm_goto (pc := 88) 23 ok dx_L_lent_88 (by decide) ?_
  refine sm_lv [1, 2, 3, 4, 0] rfl ?_
  exact h23 _ _ _ _ _
set_option maxHeartbeats 4000000 in
set_option maxRecDepth 20000 in
theorem tx_L_lent_b54 {x : sm_Cx} (ok : sm_Ok x zx_sy prog_1_method_21_code "LentShades" 6 5 131) (hr : (xh x).sig.returnType = (some .int)) (N : Nat) {r23 : Int32 → Int32 → Int32 → Int32 → sm_St → Option (Int32 × sm_St)} (h23 : ∀ (v1 : Int32) (v2 : Int32) (v3 : Int32) (v4 : Int32) (S : sm_St), sm_Sm x zx_sy prog_1_method_21_code (sm_Q x zx_sy (sm_Pi zx_sy (xw x))) (r23 v1 v2 v3 v4 S) S 23 [(0, .ref ((xw x).2.2 0)), (1, .int v1), (2, .int v2), (3, .int v3), (4, .int v4)] []) (v1 : Int32) (v2 : Int32) (v3 : Int32) (v4 : Int32) (s0 : Int32) (S : sm_St) : sm_Sm x zx_sy prog_1_method_21_code (sm_Q x zx_sy (sm_Pi zx_sy (xw x))) (px_L_lent_b54 N r23 v1 v2 v3 v4 s0 S) S 54 [(0, .ref ((xw x).2.2 0)), (1, .int v1), (2, .int v2), (3, .int v3), (4, .int v4)] [.int s0] := by
  unfold px_L_lent_b54
  refine sm_istore (pc := 54) (i := 5) ok dx_L_lent_54 (by decide) (fun v => [(5, .int v), (0, .ref ((xw x).2.2 0)), (1, .int v1), (2, .int v2), (3, .int v3), (4, .int v4)]) (fun _ => rfl) (fun v5_16 => ?_)
  refine sm_iload (pc := 56) 0 ok dx_L_lent_56 rfl ?_
  refine sm_if_eq (pc := 58) 85 ok dx_L_lent_58 (by decide) (fun _ => ?_) (fun _ => ?_)
  · refine sm_lv [1, 2, 3, 4, 5] rfl ?_
    exact tx_L_lent_b85 ok hr N h23 _ _ _ _ _
  · refine sm_iload (pc := 61) 5 ok dx_L_lent_61 rfl ?_
    refine sm_iload_n (pc := 63) 3 ok dx_L_lent_63 rfl ?_
    refine sm_iconst (pc := 64) (-1 : Int32) ok dx_L_lent_64 zk_m1 ?_
    refine sm_ixor (pc := 65) ok dx_L_lent_65 ?_
    refine sm_iand (pc := 66) ok dx_L_lent_66 ?_
    refine sm_if_ne (pc := 67) 85 ok dx_L_lent_67 (by decide) (fun _ => ?_) (fun _ => ?_)
    · refine sm_lv [1, 2, 3, 4, 5] rfl ?_
      exact tx_L_lent_b85 ok hr N h23 _ _ _ _ _
    · refine sm_aload_n (pc := 70) 1 ok dx_L_lent_70 rfl ?_
      refine sm_getR (pc := 71) (ci := 9) (k := 0) ok dx_L_lent_71 rfl rfl zc_i9 (by decide) rfl wd_400 ?_
      refine sm_iload (pc := 74) 5 ok dx_L_lent_74 rfl ?_
      refine sm_callV_i (pc := 76) (ci := 2) [.int v4] ok dx_L_lent_76 wd_910 mwx_House_clash rfl rfl (Nat.le_of_ble_eq_true rfl) (Nat.le_of_ble_eq_true rfl) rfl rfl (Nat.le_of_ble_eq_true rfl) (cx_House_clash (sm_okj ok) N S 1 v4 rfl) (fun r_18 S_17 => ?_)
      refine sm_if_ne (pc := 79) 85 ok dx_L_lent_79 (by decide) (fun _ => ?_) (fun _ => ?_)
      · refine sm_lv [1, 2, 3, 4, 5] rfl ?_
        exact tx_L_lent_b85 ok hr N h23 _ _ _ _ _
      · refine sm_iload (pc := 82) 5 ok dx_L_lent_82 rfl ?_
        refine sm_istore_n (pc := 84) (i := 3) ok dx_L_lent_84 rfl (by decide) (fun v => [(3, .int v), (5, .int v5_16), (0, .ref ((xw x).2.2 0)), (1, .int v1), (2, .int v2), (4, .int v4)]) (fun _ => rfl) (fun v3_19 => ?_)
        refine sm_lv [2, 3, 4, 0, 5] rfl ?_
        exact tx_L_lent_b85 ok hr N h23 _ _ _ _ _
set_option maxHeartbeats 4000000 in
set_option maxRecDepth 20000 in
theorem tx_L_lent_b23 {x : sm_Cx} (ok : sm_Ok x zx_sy prog_1_method_21_code "LentShades" 6 5 131) (hr : (xh x).sig.returnType = (some .int)) (N : Nat) : ∀ (n : Nat) (v1 : Int32) (v2 : Int32) (v3 : Int32) (v4 : Int32) (S : sm_St), sm_Sm x zx_sy prog_1_method_21_code (sm_Q x zx_sy (sm_Pi zx_sy (xw x))) (px_L_lent_b23 N n v1 v2 v3 v4 S) S 23 [(0, .ref ((xw x).2.2 0)), (1, .int v1), (2, .int v2), (3, .int v3), (4, .int v4)] [] := by
  intro n
  induction n with
  | zero =>
    intro v1 v2 v3 v4 S
    exact sm_none
  | succ n ih =>
    intro v1 v2 v3 v4 S
    show sm_Sm x zx_sy prog_1_method_21_code (sm_Q x zx_sy (sm_Pi zx_sy (xw x))) (if ((1 : Int32) <<< ((S.1 1 13) &&& 31)) ≤ v4 then (if v1 = 0 then (sm_b2 (px_JInteger_bitCount N S v3) (fun (r_11 : Int32) (S_10 : sm_St) => some (r_11, S_10))) else (some (v3, S))) else (sm_b2 (px_JInteger_bitCount N S v4) (fun (r_13 : Int32) (S_12 : sm_St) => sm_b2 (px_JInteger_bitCount N S_12 v3) (fun (r_15 : Int32) (S_14 : sm_St) => if r_13 ≤ r_15 then (px_L_lent_b54 N (px_L_lent_b23 N n) v1 v2 v3 v4 (0 : Int32) S_14) else (px_L_lent_b54 N (px_L_lent_b23 N n) v1 v2 v3 v4 (1 : Int32) S_14))))) S 23 [(0, .ref ((xw x).2.2 0)), (1, .int v1), (2, .int v2), (3, .int v3), (4, .int v4)] []
    refine sm_iload (pc := 23) 4 ok dx_L_lent_23 rfl ?_
    refine sm_iconst (pc := 25) (1 : Int32) ok dx_L_lent_25 zk_1 ?_
    refine sm_aload_n (pc := 26) 0 ok dx_L_lent_26 rfl ?_
    refine sm_getR (pc := 27) (ci := 9) (k := 0) ok dx_L_lent_27 rfl rfl zc_i9 (by decide) rfl wd_400 ?_
    refine sm_getI (pc := 30) (ci := 2) (k := 13) ok dx_L_lent_30 rfl rfl zc_i2 (by decide) rfl wd_197 ?_
    refine sm_ishl (pc := 33) ok dx_L_lent_33 ?_
    refine sm_icmp_ge (pc := 34) 91 ok dx_L_lent_34 (by decide) (fun _ => ?_) (fun _ => ?_)
    · refine sm_iload_n (pc := 91) 1 ok dx_L_lent_91 rfl ?_
      refine sm_if_ne (pc := 92) 102 ok dx_L_lent_92 (by decide) (fun _ => ?_) (fun _ => ?_)
      · refine sm_iload_n (pc := 102) 3 ok dx_L_lent_102 rfl ?_
        exact sm_iret (pc := 103) ok dx_L_lent_103 hr
      · refine sm_iload_n (pc := 95) 3 ok dx_L_lent_95 rfl ?_
        refine sm_callS_i (pc := 96) [.int v3] ok dx_L_lent_96 wd_872 mwx_JInteger_bitCount (Nat.le_of_ble_eq_true rfl) (Nat.le_of_ble_eq_true rfl) rfl rfl (Nat.le_of_ble_eq_true rfl) (cx_JInteger_bitCount (sm_okj ok) N S v3) (fun r_11 S_10 => ?_)
        refine sm_goto (pc := 99) 103 ok dx_L_lent_99 (by decide) ?_
        exact sm_iret (pc := 103) ok dx_L_lent_103 hr
    · refine sm_iload (pc := 37) 4 ok dx_L_lent_37 rfl ?_
      refine sm_callS_i (pc := 39) [.int v4] ok dx_L_lent_39 wd_872 mwx_JInteger_bitCount (Nat.le_of_ble_eq_true rfl) (Nat.le_of_ble_eq_true rfl) rfl rfl (Nat.le_of_ble_eq_true rfl) (cx_JInteger_bitCount (sm_okj ok) N S v4) (fun r_13 S_12 => ?_)
      refine sm_iload_n (pc := 42) 3 ok dx_L_lent_42 rfl ?_
      refine sm_callS_i (pc := 43) [.int v3] ok dx_L_lent_43 wd_872 mwx_JInteger_bitCount (Nat.le_of_ble_eq_true rfl) (Nat.le_of_ble_eq_true rfl) rfl rfl (Nat.le_of_ble_eq_true rfl) (cx_JInteger_bitCount (sm_okj ok) N S_12 v3) (fun r_15 S_14 => ?_)
      refine sm_icmp_le (pc := 46) 53 ok dx_L_lent_46 (by decide) (fun _ => ?_) (fun _ => ?_)
      · refine sm_iconst (pc := 53) (0 : Int32) ok dx_L_lent_53 zk_0 ?_
        exact tx_L_lent_b54 ok hr N ih _ _ _ _ _ _
      · refine sm_iconst (pc := 49) (1 : Int32) ok dx_L_lent_49 zk_1 ?_
        refine sm_goto (pc := 50) 54 ok dx_L_lent_50 (by decide) ?_
        exact tx_L_lent_b54 ok hr N ih _ _ _ _ _ _
set_option maxHeartbeats 4000000 in
set_option maxRecDepth 20000 in
theorem tx_L_lent {x : sm_Cx} (ok : sm_Ok x zx_sy prog_1_method_21_code "LentShades" 6 5 131) (hr : (xh x).sig.returnType = (some .int)) (N : Nat) (S : sm_St) (v1 : Int32) : sm_Sm x zx_sy prog_1_method_21_code (sm_Q x zx_sy (sm_Pi zx_sy (xw x))) (px_L_lent N S v1) S 0 [(0, .ref ((xw x).2.2 0)), (1, .int v1)] [] := by
  unfold px_L_lent
  refine sm_iload_n (pc := 0) 1 ok dx_L_lent_0 rfl ?_
  refine sm_iconst (pc := 1) (1 : Int32) ok dx_L_lent_1 zk_1 ?_
  refine sm_callS_i (pc := 2) [.int v1, .int (1 : Int32)] ok dx_L_lent_2 wd_447 mwx_L_within (Nat.le_of_ble_eq_true rfl) (Nat.le_of_ble_eq_true rfl) rfl rfl (Nat.le_of_ble_eq_true rfl) (cx_L_within (sm_okj ok) N S v1 (1 : Int32)) (fun r_2 S_1 => ?_)
  refine sm_if_ne (pc := 5) 13 ok dx_L_lent_5 (by decide) (fun _ => ?_) (fun _ => ?_)
  · refine sm_aload_n (pc := 13) 0 ok dx_L_lent_13 rfl ?_
    refine sm_callV_i (pc := 14) (ci := 9) [] ok dx_L_lent_14 wd_902 mwx_L_contentBorrowers rfl rfl (Nat.le_of_ble_eq_true rfl) (Nat.le_of_ble_eq_true rfl) rfl rfl (Nat.le_of_ble_eq_true rfl) (cx_L_contentBorrowers (sm_okj ok) N S_1) (fun r_4 S_3 => ?_)
    refine sm_istore_n (pc := 17) (i := 2) ok dx_L_lent_17 rfl (by decide) (fun v => [(2, .int v), (0, .ref ((xw x).2.2 0)), (1, .int v1)]) (fun _ => rfl) (fun v2_5 => ?_)
    refine sm_iconst (pc := 18) (0 : Int32) ok dx_L_lent_18 zk_0 ?_
    refine sm_istore_n (pc := 19) (i := 3) ok dx_L_lent_19 rfl (by decide) (fun v => [(3, .int v), (2, .int v2_5), (0, .ref ((xw x).2.2 0)), (1, .int v1)]) (fun _ => rfl) (fun v3_6 => ?_)
    refine sm_iconst (pc := 20) (1 : Int32) ok dx_L_lent_20 zk_1 ?_
    refine sm_istore (pc := 21) (i := 4) ok dx_L_lent_21 (by decide) (fun v => [(4, .int v), (3, .int v3_6), (2, .int v2_5), (0, .ref ((xw x).2.2 0)), (1, .int v1)]) (fun _ => rfl) (fun v4_7 => ?_)
    refine sm_lv [3, 4, 2, 1, 0] rfl ?_
    exact tx_L_lent_b23 ok hr N N _ _ _ _ _
  · refine sm_aload_n (pc := 8) 0 ok dx_L_lent_8 rfl ?_
    refine sm_callV_i (pc := 9) (ci := 9) [] ok dx_L_lent_9 wd_450 mwx_L_refusedBad rfl rfl (Nat.le_of_ble_eq_true rfl) (Nat.le_of_ble_eq_true rfl) rfl rfl (Nat.le_of_ble_eq_true rfl) (cx_L_refusedBad (sm_okj ok) N S_1) (fun r_9 S_8 => ?_)
    exact sm_iret (pc := 12) ok dx_L_lent_12 hr
theorem cx_L_lent {l : Launch} {wc : sm_Wc} (hj : sm_inj zx_sy wc) (N : Nat) (S : sm_St) (v1 : Int32) : sm_Ct l zx_sy wc yx_L_lent prog_1_method_21_code 6 (some .int) 5 131 [.ref (wc.2.2 0), .int v1] S (sm_Pi zx_sy wc) (px_L_lent N S v1) :=
  sm_entry (Pq := fun wc => sm_Pi zx_sy wc) (fun wc => [.ref (wc.2.2 0), .int v1]) (lv := fun wc => [(0, .ref (wc.2.2 0)), (1, .int v1)]) (by decide) hj zx_ok zx_stb (fun _ => Nat.le_of_ble_eq_true rfl) (fun _ => rfl) (fun x _ ok hr => tx_L_lent ok hr N S v1)
set_option maxHeartbeats 4000000 in
set_option maxRecDepth 20000 in
theorem tx_L_isNewShade_b2 {x : sm_Cx} (ok : sm_Ok x zx_sy prog_1_method_39_code "LentShades" 3 1 31) (hr : (xh x).sig.returnType = (some .boolean)) (N : Nat) : ∀ (n : Nat) (v1 : Int32) (v2 : Int32) (S : sm_St), sm_Sm x zx_sy prog_1_method_39_code (sm_Q x zx_sy (sm_Pi zx_sy (xw x))) (px_L_isNewShade_b2 N n v1 v2 S) S 2 [(0, .ref ((xw x).2.2 0)), (1, .int v1), (2, .int v2)] [] := by
  intro n
  induction n with
  | zero =>
    intro v1 v2 S
    exact sm_none
  | succ n ih =>
    intro v1 v2 S
    show sm_Sm x zx_sy prog_1_method_39_code (sm_Q x zx_sy (sm_Pi zx_sy (xw x))) (if v1 ≤ v2 then (some ((1 : Int32), S)) else (sm_b2 (px_Shades_compare N S 12 v1 v2 (1 : Int32)) (fun (r_3 : Int32) (S_2 : sm_St) => if r_3 = 0 then (some ((0 : Int32), S_2)) else (sm_lt (v2 + (1 : Int32)) (fun (v2_4 : Int32) => (px_L_isNewShade_b2 N n) v1 v2_4 S_2))))) S 2 [(0, .ref ((xw x).2.2 0)), (1, .int v1), (2, .int v2)] []
    refine sm_iload_n (pc := 2) 2 ok dx_L_isNewShade_2 rfl ?_
    refine sm_iload_n (pc := 3) 1 ok dx_L_isNewShade_3 rfl ?_
    refine sm_icmp_ge (pc := 4) 31 ok dx_L_isNewShade_4 (by decide) (fun _ => ?_) (fun _ => ?_)
    · refine sm_iconst (pc := 31) (1 : Int32) ok dx_L_isNewShade_31 zk_1 ?_
      exact sm_zret (pc := 32) ok dx_L_isNewShade_32 hr rfl
    · refine sm_aload_n (pc := 7) 0 ok dx_L_isNewShade_7 rfl ?_
      refine sm_getR (pc := 8) (ci := 9) (k := 0) ok dx_L_isNewShade_8 rfl rfl zc_i9 (by decide) rfl wd_400 ?_
      refine sm_getR (pc := 11) (ci := 2) (k := 6) ok dx_L_isNewShade_11 rfl rfl zc_i2 (by decide) rfl wd_181 ?_
      refine sm_iload_n (pc := 14) 1 ok dx_L_isNewShade_14 rfl ?_
      refine sm_iload_n (pc := 15) 2 ok dx_L_isNewShade_15 rfl ?_
      refine sm_iconst (pc := 16) (1 : Int32) ok dx_L_isNewShade_16 zk_1 ?_
      refine sm_callV_i (pc := 17) (ci := 6) [.int v1, .int v2, .int (1 : Int32)] ok dx_L_isNewShade_17 wd_925 mwx_Shades_compare rfl rfl (Nat.le_of_ble_eq_true rfl) (Nat.le_of_ble_eq_true rfl) rfl rfl (Nat.le_of_ble_eq_true rfl) (cx_Shades_compare (sm_okj ok) N S 12 v1 v2 (1 : Int32) rfl) (fun r_3 S_2 => ?_)
      refine sm_if_ne (pc := 20) 25 ok dx_L_isNewShade_20 (by decide) (fun _ => ?_) (fun _ => ?_)
      · refine sm_iinc (pc := 25) (i := 2) 2 (1 : Int32) ok dx_L_isNewShade_25 rfl zk_1 (by decide) (fun v => [(2, .int v), (0, .ref ((xw x).2.2 0)), (1, .int v1)]) (fun _ => rfl) (fun v2_4 => ?_)
        refine sm_goto (pc := 28) 2 ok dx_L_isNewShade_28 (by decide) ?_
        refine sm_lv [1, 2, 0] rfl ?_
        exact ih _ _ _
      · refine sm_iconst (pc := 23) (0 : Int32) ok dx_L_isNewShade_23 zk_0 ?_
        exact sm_zret (pc := 24) ok dx_L_isNewShade_24 hr rfl
set_option maxHeartbeats 4000000 in
set_option maxRecDepth 20000 in
theorem tx_L_isNewShade {x : sm_Cx} (ok : sm_Ok x zx_sy prog_1_method_39_code "LentShades" 3 1 31) (hr : (xh x).sig.returnType = (some .boolean)) (N : Nat) (S : sm_St) (v1 : Int32) : sm_Sm x zx_sy prog_1_method_39_code (sm_Q x zx_sy (sm_Pi zx_sy (xw x))) (px_L_isNewShade N S v1) S 0 [(0, .ref ((xw x).2.2 0)), (1, .int v1)] [] := by
  unfold px_L_isNewShade
  refine sm_iconst (pc := 0) (0 : Int32) ok dx_L_isNewShade_0 zk_0 ?_
  refine sm_istore_n (pc := 1) (i := 2) ok dx_L_isNewShade_1 rfl (by decide) (fun v => [(2, .int v), (0, .ref ((xw x).2.2 0)), (1, .int v1)]) (fun _ => rfl) (fun v2_1 => ?_)
  refine sm_lv [1, 2, 0] rfl ?_
  exact tx_L_isNewShade_b2 ok hr N N _ _ _
theorem cx_L_isNewShade {l : Launch} {wc : sm_Wc} (hj : sm_inj zx_sy wc) (N : Nat) (S : sm_St) (v1 : Int32) : sm_Ct l zx_sy wc yx_L_isNewShade prog_1_method_39_code 3 (some .boolean) 1 31 [.ref (wc.2.2 0), .int v1] S (sm_Pi zx_sy wc) (px_L_isNewShade N S v1) :=
  sm_entry (Pq := fun wc => sm_Pi zx_sy wc) (fun wc => [.ref (wc.2.2 0), .int v1]) (lv := fun wc => [(0, .ref (wc.2.2 0)), (1, .int v1)]) (by decide) hj zx_ok zx_stb (fun _ => Nat.le_of_ble_eq_true rfl) (fun _ => rfl) (fun x _ ok hr => tx_L_isNewShade ok hr N S v1)
set_option maxHeartbeats 4000000 in
set_option maxRecDepth 20000 in
theorem tx_L_isNewColour_b38 {x : sm_Cx} (ok : sm_Ok x zx_sy prog_1_method_40_code "LentShades" 3 1 31) (hr : (xh x).sig.returnType = (some .boolean)) (N : Nat) : ∀ (n : Nat) (v1 : Int32) (v2 : Int32) (S : sm_St), sm_Sm x zx_sy prog_1_method_40_code (sm_Q x zx_sy (sm_Pi zx_sy (xw x))) (px_L_isNewColour_b38 N n v1 v2 S) S 38 [(0, .ref ((xw x).2.2 0)), (1, .int v1), (2, .int v2)] [] := by
  intro n
  induction n with
  | zero =>
    intro v1 v2 S
    exact sm_none
  | succ n ih =>
    intro v1 v2 S
    show sm_Sm x zx_sy prog_1_method_40_code (sm_Q x zx_sy (sm_Pi zx_sy (xw x))) (if (S.1 1 9) ≤ v2 then (some ((1 : Int32), S)) else (if sm_in v1 4 = true then (sm_b2 (px_Shades_compare N S 12 v2 (4 : Int32) (S.1 6 v1.toNatClampNeg)) (fun (r_5 : Int32) (S_4 : sm_St) => if r_5 = 0 then (some ((0 : Int32), S_4)) else (sm_lt (v2 + (1 : Int32)) (fun (v2_6 : Int32) => (px_L_isNewColour_b38 N n) v1 v2_6 S_4)))) else none)) S 38 [(0, .ref ((xw x).2.2 0)), (1, .int v1), (2, .int v2)] []
    refine sm_iload_n (pc := 38) 2 ok dx_L_isNewColour_38 rfl ?_
    refine sm_aload_n (pc := 39) 0 ok dx_L_isNewColour_39 rfl ?_
    refine sm_getR (pc := 40) (ci := 9) (k := 0) ok dx_L_isNewColour_40 rfl rfl zc_i9 (by decide) rfl wd_400 ?_
    refine sm_getI (pc := 43) (ci := 2) (k := 9) ok dx_L_isNewColour_43 rfl rfl zc_i2 (by decide) rfl wd_188 ?_
    refine sm_icmp_ge (pc := 46) 81 ok dx_L_isNewColour_46 (by decide) (fun _ => ?_) (fun _ => ?_)
    · refine sm_iconst (pc := 81) (1 : Int32) ok dx_L_isNewColour_81 zk_1 ?_
      exact sm_zret (pc := 82) ok dx_L_isNewColour_82 hr rfl
    · refine sm_aload_n (pc := 49) 0 ok dx_L_isNewColour_49 rfl ?_
      refine sm_getR (pc := 50) (ci := 9) (k := 0) ok dx_L_isNewColour_50 rfl rfl zc_i9 (by decide) rfl wd_400 ?_
      refine sm_getR (pc := 53) (ci := 2) (k := 6) ok dx_L_isNewColour_53 rfl rfl zc_i2 (by decide) rfl wd_181 ?_
      refine sm_iload_n (pc := 56) 2 ok dx_L_isNewColour_56 rfl ?_
      refine sm_iconst (pc := 57) (4 : Int32) ok dx_L_isNewColour_57 zk_4 ?_
      refine sm_aload_n (pc := 58) 0 ok dx_L_isNewColour_58 rfl ?_
      refine sm_getR (pc := 59) (ci := 9) (k := 0) ok dx_L_isNewColour_59 rfl rfl zc_i9 (by decide) rfl wd_400 ?_
      refine sm_getR (pc := 62) (ci := 2) (k := 4) ok dx_L_isNewColour_62 rfl rfl zc_i2 (by decide) rfl wd_173 ?_
      refine sm_iload_n (pc := 65) 1 ok dx_L_isNewColour_65 rfl ?_
      refine sm_iald (pc := 66) ok dx_L_isNewColour_66 rfl ?_
      refine sm_callV_i (pc := 67) (ci := 6) [.int v2, .int (4 : Int32), .int (S.1 6 v1.toNatClampNeg)] ok dx_L_isNewColour_67 wd_925 mwx_Shades_compare rfl rfl (Nat.le_of_ble_eq_true rfl) (Nat.le_of_ble_eq_true rfl) rfl rfl (Nat.le_of_ble_eq_true rfl) (cx_Shades_compare (sm_okj ok) N S 12 v2 (4 : Int32) (S.1 6 v1.toNatClampNeg) rfl) (fun r_5 S_4 => ?_)
      refine sm_if_ne (pc := 70) 75 ok dx_L_isNewColour_70 (by decide) (fun _ => ?_) (fun _ => ?_)
      · refine sm_iinc (pc := 75) (i := 2) 2 (1 : Int32) ok dx_L_isNewColour_75 rfl zk_1 (by decide) (fun v => [(2, .int v), (0, .ref ((xw x).2.2 0)), (1, .int v1)]) (fun _ => rfl) (fun v2_6 => ?_)
        refine sm_goto (pc := 78) 38 ok dx_L_isNewColour_78 (by decide) ?_
        refine sm_lv [1, 2, 0] rfl ?_
        exact ih _ _ _
      · refine sm_iconst (pc := 73) (0 : Int32) ok dx_L_isNewColour_73 zk_0 ?_
        exact sm_zret (pc := 74) ok dx_L_isNewColour_74 hr rfl
set_option maxHeartbeats 4000000 in
set_option maxRecDepth 20000 in
theorem tx_L_isNewColour_b2 {x : sm_Cx} (ok : sm_Ok x zx_sy prog_1_method_40_code "LentShades" 3 1 31) (hr : (xh x).sig.returnType = (some .boolean)) (N : Nat) : ∀ (n : Nat) (v1 : Int32) (v2 : Int32) (S : sm_St), sm_Sm x zx_sy prog_1_method_40_code (sm_Q x zx_sy (sm_Pi zx_sy (xw x))) (px_L_isNewColour_b2 N n v1 v2 S) S 2 [(0, .ref ((xw x).2.2 0)), (1, .int v1), (2, .int v2)] [] := by
  intro n
  induction n with
  | zero =>
    intro v1 v2 S
    exact sm_none
  | succ n ih =>
    intro v1 v2 S
    show sm_Sm x zx_sy prog_1_method_40_code (sm_Q x zx_sy (sm_Pi zx_sy (xw x))) (if v1 ≤ v2 then (sm_lt (0 : Int32) (fun (v2_2 : Int32) => px_L_isNewColour_b38 N N v1 v2_2 S)) else (if sm_in v2 4 = true then (if sm_in v1 4 = true then (if (S.1 6 v2.toNatClampNeg) = (S.1 6 v1.toNatClampNeg) then (some ((0 : Int32), S)) else (sm_lt (v2 + (1 : Int32)) (fun (v2_3 : Int32) => (px_L_isNewColour_b2 N n) v1 v2_3 S))) else none) else none)) S 2 [(0, .ref ((xw x).2.2 0)), (1, .int v1), (2, .int v2)] []
    refine sm_iload_n (pc := 2) 2 ok dx_L_isNewColour_2 rfl ?_
    refine sm_iload_n (pc := 3) 1 ok dx_L_isNewColour_3 rfl ?_
    refine sm_icmp_ge (pc := 4) 36 ok dx_L_isNewColour_4 (by decide) (fun _ => ?_) (fun _ => ?_)
    · refine sm_iconst (pc := 36) (0 : Int32) ok dx_L_isNewColour_36 zk_0 ?_
      refine sm_istore_n (pc := 37) (i := 2) ok dx_L_isNewColour_37 rfl (by decide) (fun v => [(2, .int v), (0, .ref ((xw x).2.2 0)), (1, .int v1)]) (fun _ => rfl) (fun v2_2 => ?_)
      refine sm_lv [1, 2, 0] rfl ?_
      exact tx_L_isNewColour_b38 ok hr N N _ _ _
    · refine sm_aload_n (pc := 7) 0 ok dx_L_isNewColour_7 rfl ?_
      refine sm_getR (pc := 8) (ci := 9) (k := 0) ok dx_L_isNewColour_8 rfl rfl zc_i9 (by decide) rfl wd_400 ?_
      refine sm_getR (pc := 11) (ci := 2) (k := 4) ok dx_L_isNewColour_11 rfl rfl zc_i2 (by decide) rfl wd_173 ?_
      refine sm_iload_n (pc := 14) 2 ok dx_L_isNewColour_14 rfl ?_
      refine sm_iald (pc := 15) ok dx_L_isNewColour_15 rfl ?_
      refine sm_aload_n (pc := 16) 0 ok dx_L_isNewColour_16 rfl ?_
      refine sm_getR (pc := 17) (ci := 9) (k := 0) ok dx_L_isNewColour_17 rfl rfl zc_i9 (by decide) rfl wd_400 ?_
      refine sm_getR (pc := 20) (ci := 2) (k := 4) ok dx_L_isNewColour_20 rfl rfl zc_i2 (by decide) rfl wd_173 ?_
      refine sm_iload_n (pc := 23) 1 ok dx_L_isNewColour_23 rfl ?_
      refine sm_iald (pc := 24) ok dx_L_isNewColour_24 rfl ?_
      refine sm_icmp_ne (pc := 25) 30 ok dx_L_isNewColour_25 (by decide) (fun _ => ?_) (fun _ => ?_)
      · refine sm_iinc (pc := 30) (i := 2) 2 (1 : Int32) ok dx_L_isNewColour_30 rfl zk_1 (by decide) (fun v => [(2, .int v), (0, .ref ((xw x).2.2 0)), (1, .int v1)]) (fun _ => rfl) (fun v2_3 => ?_)
        refine sm_goto (pc := 33) 2 ok dx_L_isNewColour_33 (by decide) ?_
        refine sm_lv [1, 2, 0] rfl ?_
        exact ih _ _ _
      · refine sm_iconst (pc := 28) (0 : Int32) ok dx_L_isNewColour_28 zk_0 ?_
        exact sm_zret (pc := 29) ok dx_L_isNewColour_29 hr rfl
set_option maxHeartbeats 4000000 in
set_option maxRecDepth 20000 in
theorem tx_L_isNewColour {x : sm_Cx} (ok : sm_Ok x zx_sy prog_1_method_40_code "LentShades" 3 1 31) (hr : (xh x).sig.returnType = (some .boolean)) (N : Nat) (S : sm_St) (v1 : Int32) : sm_Sm x zx_sy prog_1_method_40_code (sm_Q x zx_sy (sm_Pi zx_sy (xw x))) (px_L_isNewColour N S v1) S 0 [(0, .ref ((xw x).2.2 0)), (1, .int v1)] [] := by
  unfold px_L_isNewColour
  refine sm_iconst (pc := 0) (0 : Int32) ok dx_L_isNewColour_0 zk_0 ?_
  refine sm_istore_n (pc := 1) (i := 2) ok dx_L_isNewColour_1 rfl (by decide) (fun v => [(2, .int v), (0, .ref ((xw x).2.2 0)), (1, .int v1)]) (fun _ => rfl) (fun v2_1 => ?_)
  refine sm_lv [1, 2, 0] rfl ?_
  exact tx_L_isNewColour_b2 ok hr N N _ _ _
theorem cx_L_isNewColour {l : Launch} {wc : sm_Wc} (hj : sm_inj zx_sy wc) (N : Nat) (S : sm_St) (v1 : Int32) : sm_Ct l zx_sy wc yx_L_isNewColour prog_1_method_40_code 3 (some .boolean) 1 31 [.ref (wc.2.2 0), .int v1] S (sm_Pi zx_sy wc) (px_L_isNewColour N S v1) :=
  sm_entry (Pq := fun wc => sm_Pi zx_sy wc) (fun wc => [.ref (wc.2.2 0), .int v1]) (lv := fun wc => [(0, .ref (wc.2.2 0)), (1, .int v1)]) (by decide) hj zx_ok zx_stb (fun _ => Nat.le_of_ble_eq_true rfl) (fun _ => rfl) (fun x _ ok hr => tx_L_isNewColour ok hr N S v1)
set_option maxHeartbeats 4000000 in
set_option maxRecDepth 20000 in
theorem tx_L_colours_b64 {x : sm_Cx} (ok : sm_Ok x zx_sy prog_1_method_22_code "LentShades" 3 2 53) (hr : (xh x).sig.returnType = (some .int)) (N : Nat) {r39 : Int32 → Int32 → sm_St → Option (Int32 × sm_St)} (h39 : ∀ (v1 : Int32) (v2 : Int32) (S : sm_St), sm_Sm x zx_sy prog_1_method_22_code (sm_Q x zx_sy (sm_Pi zx_sy (xw x))) (r39 v1 v2 S) S 39 [(0, .ref ((xw x).2.2 0)), (1, .int v1), (2, .int v2)] []) (v2 : Int32) (s0 : Int32) (s1 : Int32) (S : sm_St) : sm_Sm x zx_sy prog_1_method_22_code (sm_Q x zx_sy (sm_Pi zx_sy (xw x))) (px_L_colours_b64 N r39 v2 s0 s1 S) S 64 [(0, .ref ((xw x).2.2 0)), (2, .int v2)] [.int s1, .int s0] := by
  unfold px_L_colours_b64
  refine sm_iadd (pc := 64) ok dx_L_colours_64 ?_
  refine sm_istore_n (pc := 65) (i := 1) ok dx_L_colours_65 rfl (by decide) (fun v => [(1, .int v), (0, .ref ((xw x).2.2 0)), (2, .int v2)]) (fun _ => rfl) (fun v1_10 => ?_)
  refine sm_iinc (pc := 66) (i := 2) 2 (1 : Int32) ok dx_L_colours_66 rfl zk_1 (by decide) (fun v => [(2, .int v), (1, .int v1_10), (0, .ref ((xw x).2.2 0))]) (fun _ => rfl) (fun v2_11 => ?_)
  refine sm_goto (pc := 69) 39 ok dx_L_colours_69 (by decide) ?_
  refine sm_lv [2, 1, 0] rfl ?_
  exact h39 _ _ _
set_option maxHeartbeats 4000000 in
set_option maxRecDepth 20000 in
theorem tx_L_colours_b39 {x : sm_Cx} (ok : sm_Ok x zx_sy prog_1_method_22_code "LentShades" 3 2 53) (hr : (xh x).sig.returnType = (some .int)) (N : Nat) : ∀ (n : Nat) (v1 : Int32) (v2 : Int32) (S : sm_St), sm_Sm x zx_sy prog_1_method_22_code (sm_Q x zx_sy (sm_Pi zx_sy (xw x))) (px_L_colours_b39 N n v1 v2 S) S 39 [(0, .ref ((xw x).2.2 0)), (1, .int v1), (2, .int v2)] [] := by
  intro n
  induction n with
  | zero =>
    intro v1 v2 S
    exact sm_none
  | succ n ih =>
    intro v1 v2 S
    show sm_Sm x zx_sy prog_1_method_22_code (sm_Q x zx_sy (sm_Pi zx_sy (xw x))) (if (S.1 1 10) ≤ v2 then (some (v1, S)) else (sm_b2 (px_L_isNewColour N S v2) (fun (r_9 : Int32) (S_8 : sm_St) => if r_9 = 0 then (px_L_colours_b64 N (px_L_colours_b39 N n) v2 v1 (0 : Int32) S_8) else (px_L_colours_b64 N (px_L_colours_b39 N n) v2 v1 (1 : Int32) S_8)))) S 39 [(0, .ref ((xw x).2.2 0)), (1, .int v1), (2, .int v2)] []
    refine sm_iload_n (pc := 39) 2 ok dx_L_colours_39 rfl ?_
    refine sm_aload_n (pc := 40) 0 ok dx_L_colours_40 rfl ?_
    refine sm_getR (pc := 41) (ci := 9) (k := 0) ok dx_L_colours_41 rfl rfl zc_i9 (by decide) rfl wd_400 ?_
    refine sm_getI (pc := 44) (ci := 2) (k := 10) ok dx_L_colours_44 rfl rfl zc_i2 (by decide) rfl wd_190 ?_
    refine sm_icmp_ge (pc := 47) 72 ok dx_L_colours_47 (by decide) (fun _ => ?_) (fun _ => ?_)
    · refine sm_iload_n (pc := 72) 1 ok dx_L_colours_72 rfl ?_
      exact sm_iret (pc := 73) ok dx_L_colours_73 hr
    · refine sm_iload_n (pc := 50) 1 ok dx_L_colours_50 rfl ?_
      refine sm_aload_n (pc := 51) 0 ok dx_L_colours_51 rfl ?_
      refine sm_iload_n (pc := 52) 2 ok dx_L_colours_52 rfl ?_
      refine sm_callV_i (pc := 53) (ci := 9) [.int v2] ok dx_L_colours_53 wd_926 mwx_L_isNewColour rfl rfl (Nat.le_of_ble_eq_true rfl) (Nat.le_of_ble_eq_true rfl) rfl rfl (Nat.le_of_ble_eq_true rfl) (cx_L_isNewColour (sm_okj ok) N S v2) (fun r_9 S_8 => ?_)
      refine sm_if_eq (pc := 56) 63 ok dx_L_colours_56 (by decide) (fun _ => ?_) (fun _ => ?_)
      · refine sm_iconst (pc := 63) (0 : Int32) ok dx_L_colours_63 zk_0 ?_
        refine sm_lv [0, 2] rfl ?_
        exact tx_L_colours_b64 ok hr N ih _ _ _ _
      · refine sm_iconst (pc := 59) (1 : Int32) ok dx_L_colours_59 zk_1 ?_
        refine sm_goto (pc := 60) 64 ok dx_L_colours_60 (by decide) ?_
        refine sm_lv [0, 2] rfl ?_
        exact tx_L_colours_b64 ok hr N ih _ _ _ _
set_option maxHeartbeats 4000000 in
set_option maxRecDepth 20000 in
theorem tx_L_colours_b29 {x : sm_Cx} (ok : sm_Ok x zx_sy prog_1_method_22_code "LentShades" 3 2 53) (hr : (xh x).sig.returnType = (some .int)) (N : Nat) {r4 : Int32 → Int32 → sm_St → Option (Int32 × sm_St)} (h4 : ∀ (v1 : Int32) (v2 : Int32) (S : sm_St), sm_Sm x zx_sy prog_1_method_22_code (sm_Q x zx_sy (sm_Pi zx_sy (xw x))) (r4 v1 v2 S) S 4 [(0, .ref ((xw x).2.2 0)), (1, .int v1), (2, .int v2)] []) (v2 : Int32) (s0 : Int32) (s1 : Int32) (S : sm_St) : sm_Sm x zx_sy prog_1_method_22_code (sm_Q x zx_sy (sm_Pi zx_sy (xw x))) (px_L_colours_b29 N r4 v2 s0 s1 S) S 29 [(0, .ref ((xw x).2.2 0)), (2, .int v2)] [.int s1, .int s0] := by
  unfold px_L_colours_b29
  refine sm_iadd (pc := 29) ok dx_L_colours_29 ?_
  refine sm_istore_n (pc := 30) (i := 1) ok dx_L_colours_30 rfl (by decide) (fun v => [(1, .int v), (0, .ref ((xw x).2.2 0)), (2, .int v2)]) (fun _ => rfl) (fun v1_6 => ?_)
  refine sm_iinc (pc := 31) (i := 2) 2 (1 : Int32) ok dx_L_colours_31 rfl zk_1 (by decide) (fun v => [(2, .int v), (1, .int v1_6), (0, .ref ((xw x).2.2 0))]) (fun _ => rfl) (fun v2_7 => ?_)
  refine sm_goto (pc := 34) 4 ok dx_L_colours_34 (by decide) ?_
  refine sm_lv [2, 1, 0] rfl ?_
  exact h4 _ _ _
set_option maxHeartbeats 4000000 in
set_option maxRecDepth 20000 in
theorem tx_L_colours_b4 {x : sm_Cx} (ok : sm_Ok x zx_sy prog_1_method_22_code "LentShades" 3 2 53) (hr : (xh x).sig.returnType = (some .int)) (N : Nat) : ∀ (n : Nat) (v1 : Int32) (v2 : Int32) (S : sm_St), sm_Sm x zx_sy prog_1_method_22_code (sm_Q x zx_sy (sm_Pi zx_sy (xw x))) (px_L_colours_b4 N n v1 v2 S) S 4 [(0, .ref ((xw x).2.2 0)), (1, .int v1), (2, .int v2)] [] := by
  intro n
  induction n with
  | zero =>
    intro v1 v2 S
    exact sm_none
  | succ n ih =>
    intro v1 v2 S
    show sm_Sm x zx_sy prog_1_method_22_code (sm_Q x zx_sy (sm_Pi zx_sy (xw x))) (if (S.1 1 9) ≤ v2 then (sm_lt (0 : Int32) (fun (v2_3 : Int32) => px_L_colours_b39 N N v1 v2_3 S)) else (sm_b2 (px_L_isNewShade N S v2) (fun (r_5 : Int32) (S_4 : sm_St) => if r_5 = 0 then (px_L_colours_b29 N (px_L_colours_b4 N n) v2 v1 (0 : Int32) S_4) else (px_L_colours_b29 N (px_L_colours_b4 N n) v2 v1 (1 : Int32) S_4)))) S 4 [(0, .ref ((xw x).2.2 0)), (1, .int v1), (2, .int v2)] []
    refine sm_iload_n (pc := 4) 2 ok dx_L_colours_4 rfl ?_
    refine sm_aload_n (pc := 5) 0 ok dx_L_colours_5 rfl ?_
    refine sm_getR (pc := 6) (ci := 9) (k := 0) ok dx_L_colours_6 rfl rfl zc_i9 (by decide) rfl wd_400 ?_
    refine sm_getI (pc := 9) (ci := 2) (k := 9) ok dx_L_colours_9 rfl rfl zc_i2 (by decide) rfl wd_188 ?_
    refine sm_icmp_ge (pc := 12) 37 ok dx_L_colours_12 (by decide) (fun _ => ?_) (fun _ => ?_)
    · refine sm_iconst (pc := 37) (0 : Int32) ok dx_L_colours_37 zk_0 ?_
      refine sm_istore_n (pc := 38) (i := 2) ok dx_L_colours_38 rfl (by decide) (fun v => [(2, .int v), (0, .ref ((xw x).2.2 0)), (1, .int v1)]) (fun _ => rfl) (fun v2_3 => ?_)
      refine sm_lv [1, 2, 0] rfl ?_
      exact tx_L_colours_b39 ok hr N N _ _ _
    · refine sm_iload_n (pc := 15) 1 ok dx_L_colours_15 rfl ?_
      refine sm_aload_n (pc := 16) 0 ok dx_L_colours_16 rfl ?_
      refine sm_iload_n (pc := 17) 2 ok dx_L_colours_17 rfl ?_
      refine sm_callV_i (pc := 18) (ci := 9) [.int v2] ok dx_L_colours_18 wd_921 mwx_L_isNewShade rfl rfl (Nat.le_of_ble_eq_true rfl) (Nat.le_of_ble_eq_true rfl) rfl rfl (Nat.le_of_ble_eq_true rfl) (cx_L_isNewShade (sm_okj ok) N S v2) (fun r_5 S_4 => ?_)
      refine sm_if_eq (pc := 21) 28 ok dx_L_colours_21 (by decide) (fun _ => ?_) (fun _ => ?_)
      · refine sm_iconst (pc := 28) (0 : Int32) ok dx_L_colours_28 zk_0 ?_
        refine sm_lv [0, 2] rfl ?_
        exact tx_L_colours_b29 ok hr N ih _ _ _ _
      · refine sm_iconst (pc := 24) (1 : Int32) ok dx_L_colours_24 zk_1 ?_
        refine sm_goto (pc := 25) 29 ok dx_L_colours_25 (by decide) ?_
        refine sm_lv [0, 2] rfl ?_
        exact tx_L_colours_b29 ok hr N ih _ _ _ _
set_option maxHeartbeats 4000000 in
set_option maxRecDepth 20000 in
theorem tx_L_colours {x : sm_Cx} (ok : sm_Ok x zx_sy prog_1_method_22_code "LentShades" 3 2 53) (hr : (xh x).sig.returnType = (some .int)) (N : Nat) (S : sm_St) : sm_Sm x zx_sy prog_1_method_22_code (sm_Q x zx_sy (sm_Pi zx_sy (xw x))) (px_L_colours N S) S 0 [(0, .ref ((xw x).2.2 0))] [] := by
  unfold px_L_colours
  refine sm_iconst (pc := 0) (0 : Int32) ok dx_L_colours_0 zk_0 ?_
  refine sm_istore_n (pc := 1) (i := 1) ok dx_L_colours_1 rfl (by decide) (fun v => [(1, .int v), (0, .ref ((xw x).2.2 0))]) (fun _ => rfl) (fun v1_1 => ?_)
  refine sm_iconst (pc := 2) (0 : Int32) ok dx_L_colours_2 zk_0 ?_
  refine sm_istore_n (pc := 3) (i := 2) ok dx_L_colours_3 rfl (by decide) (fun v => [(2, .int v), (1, .int v1_1), (0, .ref ((xw x).2.2 0))]) (fun _ => rfl) (fun v2_2 => ?_)
  refine sm_lv [2, 1, 0] rfl ?_
  exact tx_L_colours_b4 ok hr N N _ _ _
theorem cx_L_colours {l : Launch} {wc : sm_Wc} (hj : sm_inj zx_sy wc) (N : Nat) (S : sm_St) : sm_Ct l zx_sy wc yx_L_colours prog_1_method_22_code 3 (some .int) 2 53 [.ref (wc.2.2 0)] S (sm_Pi zx_sy wc) (px_L_colours N S) :=
  sm_entry (Pq := fun wc => sm_Pi zx_sy wc) (fun wc => [.ref (wc.2.2 0)]) (lv := fun wc => [(0, .ref (wc.2.2 0))]) (by decide) hj zx_ok zx_stb (fun _ => Nat.le_of_ble_eq_true rfl) (fun _ => rfl) (fun x _ ok hr => tx_L_colours ok hr N S)
set_option maxHeartbeats 4000000 in
set_option maxRecDepth 20000 in
theorem tx_L_least_b41 {x : sm_Cx} (ok : sm_Ok x zx_sy prog_1_method_23_code "LentShades" 7 4 105) (hr : (xh x).sig.returnType = (some .int)) (N : Nat) (S : sm_St) : sm_Sm x zx_sy prog_1_method_23_code (sm_Q x zx_sy (sm_Pi zx_sy (xw x))) (px_L_least_b41 N S) S 41 [(0, .ref ((xw x).2.2 0))] [] := by
  unfold px_L_least_b41
  refine sm_aload_n (pc := 41) 0 ok dx_L_least_41 rfl ?_
  refine sm_callV_i (pc := 42) (ci := 9) [] ok dx_L_least_42 wd_450 mwx_L_refusedBad rfl rfl (Nat.le_of_ble_eq_true rfl) (Nat.le_of_ble_eq_true rfl) rfl rfl (Nat.le_of_ble_eq_true rfl) (cx_L_refusedBad (sm_okj ok) N S) (fun r_22 S_21 => ?_)
  exact sm_iret (pc := 45) ok dx_L_least_45 hr
set_option maxHeartbeats 4000000 in
set_option maxRecDepth 20000 in
theorem tx_L_least_b81 {x : sm_Cx} (ok : sm_Ok x zx_sy prog_1_method_23_code "LentShades" 7 4 105) (hr : (xh x).sig.returnType = (some .int)) (N : Nat) : ∀ (n : Nat) (v1 : Int32) (v2 : Int32) (v3 : Int32) (v4 : Int32) (v5 : Int32) (S : sm_St), sm_Sm x zx_sy prog_1_method_23_code (sm_Q x zx_sy (sm_Pi zx_sy (xw x))) (px_L_least_b81 N n v1 v2 v3 v4 v5 S) S 81 [(0, .ref ((xw x).2.2 0)), (1, .int v1), (2, .int v2), (3, .int v3), (4, .int v4), (5, .int v5)] [] := by
  intro n
  induction n with
  | zero =>
    intro v1 v2 v3 v4 v5 S
    exact sm_none
  | succ n ih =>
    intro v1 v2 v3 v4 v5 S
    show sm_Sm x zx_sy prog_1_method_23_code (sm_Q x zx_sy (sm_Pi zx_sy (xw x))) (if (12 : Int32) < v5 then (some ((-1 : Int32), S)) else (if sm_in v1 4 = true then sm_lt (sm_sI S 146 v1.toNatClampNeg v5) (fun (S_13 : sm_St) => sm_b1 (px_Takings_reckon N S_13 1 7 146) (fun (S_14 : sm_St) => sm_b2 (px_Takings_behind N S_14 12 v3) (fun (r_16 : Nat) (S_15 : sm_St) => if (decide (zx_sy.1 r_16 = (16, 0))) = true then (sm_b2 (px_Shades_hasAtLeast N S_15 r_16 v2 v4) (fun (r_19 : Int32) (S_18 : sm_St) => if r_19 = 0 then (sm_lt (v5 + (1 : Int32)) (fun (v5_20 : Int32) => (px_L_least_b81 N n) v1 v2 v3 v4 v5_20 S_18)) else (some (v5, S_18)))) else none))) else none)) S 81 [(0, .ref ((xw x).2.2 0)), (1, .int v1), (2, .int v2), (3, .int v3), (4, .int v4), (5, .int v5)] []
    refine sm_iload (pc := 81) 5 ok dx_L_least_81 rfl ?_
    refine sm_bipush (pc := 83) (12 : Int32) ok dx_L_least_83 zb_12 ?_
    refine sm_icmp_gt (pc := 85) 155 ok dx_L_least_85 (by decide) (fun _ => ?_) (fun _ => ?_)
    · refine sm_iconst (pc := 155) (-1 : Int32) ok dx_L_least_155 zk_m1 ?_
      exact sm_iret (pc := 156) ok dx_L_least_156 hr
    · refine sm_aload_n (pc := 88) 0 ok dx_L_least_88 rfl ?_
      refine sm_getR (pc := 89) (ci := 9) (k := 10) ok dx_L_least_89 rfl rfl zc_i9 (by decide) rfl wd_410 ?_
      refine sm_iload_n (pc := 92) 1 ok dx_L_least_92 rfl ?_
      refine sm_iload (pc := 93) 5 ok dx_L_least_93 rfl ?_
      refine sm_iast (pc := 95) ok dx_L_least_95 rfl (fun S_13 => ?_)
      refine sm_aload_n (pc := 96) 0 ok dx_L_least_96 rfl ?_
      refine sm_getR (pc := 97) (ci := 9) (k := 6) ok dx_L_least_97 rfl rfl zc_i9 (by decide) rfl wd_406 ?_
      refine sm_aload_n (pc := 100) 0 ok dx_L_least_100 rfl ?_
      refine sm_getR (pc := 101) (ci := 9) (k := 0) ok dx_L_least_101 rfl rfl zc_i9 (by decide) rfl wd_400 ?_
      refine sm_aload_n (pc := 104) 0 ok dx_L_least_104 rfl ?_
      refine sm_getR (pc := 105) (ci := 9) (k := 0) ok dx_L_least_105 rfl rfl zc_i9 (by decide) rfl wd_400 ?_
      refine sm_getR (pc := 108) (ci := 2) (k := 5) ok dx_L_least_108 rfl rfl zc_i2 (by decide) rfl wd_176 ?_
      refine sm_aload_n (pc := 111) 0 ok dx_L_least_111 rfl ?_
      refine sm_getR (pc := 112) (ci := 9) (k := 10) ok dx_L_least_112 rfl rfl zc_i9 (by decide) rfl wd_410 ?_
      refine sm_callV_v (pc := 115) (ci := 8) [.ref ((xw x).2.2 1), .ref ((xw x).2.2 7), .ref ((xw x).2.2 146)] ok dx_L_least_115 wd_631 mwx_Takings_reckon rfl rfl (Nat.le_of_ble_eq_true rfl) (Nat.le_of_ble_eq_true rfl) rfl rfl (Nat.le_of_ble_eq_true rfl) (cx_Takings_reckon (sm_okj ok) N S_13 1 7 146 rfl (sm_tag rfl) (sm_tag rfl)) (fun S_14 => ?_)
      refine sm_aload_n (pc := 118) 0 ok dx_L_least_118 rfl ?_
      refine sm_getR (pc := 119) (ci := 9) (k := 6) ok dx_L_least_119 rfl rfl zc_i9 (by decide) rfl wd_406 ?_
      refine sm_aload_n (pc := 122) 0 ok dx_L_least_122 rfl ?_
      refine sm_getR (pc := 123) (ci := 9) (k := 0) ok dx_L_least_123 rfl rfl zc_i9 (by decide) rfl wd_400 ?_
      refine sm_getR (pc := 126) (ci := 2) (k := 6) ok dx_L_least_126 rfl rfl zc_i2 (by decide) rfl wd_181 ?_
      refine sm_iload_n (pc := 129) 3 ok dx_L_least_129 rfl ?_
      refine sm_callV_r (pc := 130) (ci := 8) [.ref ((xw x).2.2 12), .int v3] ok dx_L_least_130 wd_650 mwx_Takings_behind rfl rfl (Nat.le_of_ble_eq_true rfl) (Nat.le_of_ble_eq_true rfl) rfl rfl (Nat.le_of_ble_eq_true rfl) (cx_Takings_behind (sm_okj ok) N S_14 12 v3 rfl) (fun r_16 S_15 => ?_)
      refine sm_ck (fun hc_17 => ?_)
      refine sm_astore (pc := 133) (i := 6) ok dx_L_least_133 (by decide) [(6, .ref ((xw x).2.2 r_16)), (0, .ref ((xw x).2.2 0)), (1, .int v1), (2, .int v2), (3, .int v3), (4, .int v4), (5, .int v5)] rfl ?_
      refine sm_aload (pc := 135) 0 ok dx_L_least_135 rfl ?_
      refine sm_iload_n (pc := 137) 3 ok dx_L_least_137 rfl ?_
      refine sm_iload (pc := 138) 5 ok dx_L_least_138 rfl ?_
      refine sm_callV_i (pc := 140) (ci := 6) [.int v2, .int v4] ok dx_L_least_140 wd_747 mwx_Shades_hasAtLeast (of_decide_eq_true hc_17) rfl (Nat.le_of_ble_eq_true rfl) (Nat.le_of_ble_eq_true rfl) rfl rfl (Nat.le_of_ble_eq_true rfl) (cx_Shades_hasAtLeast (sm_okj ok) N S_15 r_16 v2 v4 (of_decide_eq_true hc_17)) (fun r_19 S_18 => ?_)
      refine sm_if_eq (pc := 143) 149 ok dx_L_least_143 (by decide) (fun _ => ?_) (fun _ => ?_)
      · refine sm_iinc (pc := 149) (i := 5) 6 (1 : Int32) ok dx_L_least_149 rfl zk_1 (by decide) (fun v => [(5, .int v), (6, .ref ((xw x).2.2 r_16)), (0, .ref ((xw x).2.2 0)), (1, .int v1), (2, .int v2), (3, .int v3), (4, .int v4)]) (fun _ => rfl) (fun v5_20 => ?_)
        refine sm_goto (pc := 152) 81 ok dx_L_least_152 (by decide) ?_
        refine sm_lv [2, 3, 4, 5, 6, 0] rfl ?_
        exact ih _ _ _ _ _ _
      · refine sm_iload (pc := 146) 6 ok dx_L_least_146 rfl ?_
        exact sm_iret (pc := 148) ok dx_L_least_148 hr
set_option maxHeartbeats 4000000 in
set_option maxRecDepth 20000 in
theorem tx_L_least_b49 {x : sm_Cx} (ok : sm_Ok x zx_sy prog_1_method_23_code "LentShades" 7 4 105) (hr : (xh x).sig.returnType = (some .int)) (N : Nat) : ∀ (n : Nat) (v1 : Int32) (v2 : Int32) (v3 : Int32) (v4 : Int32) (v5 : Int32) (S : sm_St), sm_Sm x zx_sy prog_1_method_23_code (sm_Q x zx_sy (sm_Pi zx_sy (xw x))) (px_L_least_b49 N n v1 v2 v3 v4 v5 S) S 49 [(0, .ref ((xw x).2.2 0)), (1, .int v1), (2, .int v2), (3, .int v3), (4, .int v4), (5, .int v5)] [] := by
  intro n
  induction n with
  | zero =>
    intro v1 v2 v3 v4 v5 S
    exact sm_none
  | succ n ih =>
    intro v1 v2 v3 v4 v5 S
    show sm_Sm x zx_sy prog_1_method_23_code (sm_Q x zx_sy (sm_Pi zx_sy (xw x))) (if (4 : Int32) ≤ v5 then (sm_lt (0 : Int32) (fun (v5_10 : Int32) => px_L_least_b81 N N v1 v2 v3 v4 v5_10 S)) else (if sm_in v5 4 = true then (if sm_in v5 4 = true then sm_lt (sm_sI S 146 v5.toNatClampNeg (S.1 6 v5.toNatClampNeg)) (fun (S_11 : sm_St) => sm_lt (v5 + (1 : Int32)) (fun (v5_12 : Int32) => (px_L_least_b49 N n) v1 v2 v3 v4 v5_12 S_11)) else none) else none)) S 49 [(0, .ref ((xw x).2.2 0)), (1, .int v1), (2, .int v2), (3, .int v3), (4, .int v4), (5, .int v5)] []
    refine sm_iload (pc := 49) 5 ok dx_L_least_49 rfl ?_
    refine sm_iconst (pc := 51) (4 : Int32) ok dx_L_least_51 zk_4 ?_
    refine sm_icmp_ge (pc := 52) 78 ok dx_L_least_52 (by decide) (fun _ => ?_) (fun _ => ?_)
    · refine sm_iconst (pc := 78) (0 : Int32) ok dx_L_least_78 zk_0 ?_
      refine sm_istore (pc := 79) (i := 5) ok dx_L_least_79 (by decide) (fun v => [(5, .int v), (0, .ref ((xw x).2.2 0)), (1, .int v1), (2, .int v2), (3, .int v3), (4, .int v4)]) (fun _ => rfl) (fun v5_10 => ?_)
      refine sm_lv [1, 2, 3, 4, 5, 0] rfl ?_
      exact tx_L_least_b81 ok hr N N _ _ _ _ _ _
    · refine sm_aload_n (pc := 55) 0 ok dx_L_least_55 rfl ?_
      refine sm_getR (pc := 56) (ci := 9) (k := 10) ok dx_L_least_56 rfl rfl zc_i9 (by decide) rfl wd_410 ?_
      refine sm_iload (pc := 59) 5 ok dx_L_least_59 rfl ?_
      refine sm_aload_n (pc := 61) 0 ok dx_L_least_61 rfl ?_
      refine sm_getR (pc := 62) (ci := 9) (k := 0) ok dx_L_least_62 rfl rfl zc_i9 (by decide) rfl wd_400 ?_
      refine sm_getR (pc := 65) (ci := 2) (k := 4) ok dx_L_least_65 rfl rfl zc_i2 (by decide) rfl wd_173 ?_
      refine sm_iload (pc := 68) 5 ok dx_L_least_68 rfl ?_
      refine sm_iald (pc := 70) ok dx_L_least_70 rfl ?_
      refine sm_iast (pc := 71) ok dx_L_least_71 rfl (fun S_11 => ?_)
      refine sm_iinc (pc := 72) (i := 5) 5 (1 : Int32) ok dx_L_least_72 rfl zk_1 (by decide) (fun v => [(5, .int v), (0, .ref ((xw x).2.2 0)), (1, .int v1), (2, .int v2), (3, .int v3), (4, .int v4)]) (fun _ => rfl) (fun v5_12 => ?_)
      refine sm_goto (pc := 75) 49 ok dx_L_least_75 (by decide) ?_
      refine sm_lv [1, 2, 3, 4, 5, 0] rfl ?_
      exact ih _ _ _ _ _ _
set_option maxHeartbeats 4000000 in
set_option maxRecDepth 20000 in
theorem tx_L_least {x : sm_Cx} (ok : sm_Ok x zx_sy prog_1_method_23_code "LentShades" 7 4 105) (hr : (xh x).sig.returnType = (some .int)) (N : Nat) (S : sm_St) (v1 : Int32) (v2 : Int32) (v3 : Int32) (v4 : Int32) : sm_Sm x zx_sy prog_1_method_23_code (sm_Q x zx_sy (sm_Pi zx_sy (xw x))) (px_L_least N S v1 v2 v3 v4) S 0 [(0, .ref ((xw x).2.2 0)), (1, .int v1), (2, .int v2), (3, .int v3), (4, .int v4)] [] := by
  unfold px_L_least
  refine sm_aload_n (pc := 0) 0 ok dx_L_least_0 rfl ?_
  refine sm_getR (pc := 1) (ci := 9) (k := 0) ok dx_L_least_1 rfl rfl zc_i9 (by decide) rfl wd_400 ?_
  refine sm_iload_n (pc := 4) 1 ok dx_L_least_4 rfl ?_
  refine sm_callV_i (pc := 5) (ci := 2) [.int v1] ok dx_L_least_5 wd_498 mwx_House_hasThing rfl rfl (Nat.le_of_ble_eq_true rfl) (Nat.le_of_ble_eq_true rfl) rfl rfl (Nat.le_of_ble_eq_true rfl) (cx_House_hasThing (sm_okj ok) N S 1 v1 rfl) (fun r_2 S_1 => ?_)
  refine sm_if_eq (pc := 8) 41 ok dx_L_least_8 (by decide) (fun _ => ?_) (fun _ => ?_)
  · refine sm_lv [0] rfl ?_
    exact tx_L_least_b41 ok hr N _
  · refine sm_aload_n (pc := 11) 0 ok dx_L_least_11 rfl ?_
    refine sm_getR (pc := 12) (ci := 9) (k := 0) ok dx_L_least_12 rfl rfl zc_i9 (by decide) rfl wd_400 ?_
    refine sm_iload_n (pc := 15) 2 ok dx_L_least_15 rfl ?_
    refine sm_callV_i (pc := 16) (ci := 2) [.int v2] ok dx_L_least_16 wd_630 mwx_House_hasCloth rfl rfl (Nat.le_of_ble_eq_true rfl) (Nat.le_of_ble_eq_true rfl) rfl rfl (Nat.le_of_ble_eq_true rfl) (cx_House_hasCloth (sm_okj ok) N S_1 1 v2 rfl) (fun r_4 S_3 => ?_)
    refine sm_if_eq (pc := 19) 41 ok dx_L_least_19 (by decide) (fun _ => ?_) (fun _ => ?_)
    · refine sm_lv [0] rfl ?_
      exact tx_L_least_b41 ok hr N _
    · refine sm_iload_n (pc := 22) 3 ok dx_L_least_22 rfl ?_
      refine sm_bipush (pc := 23) (12 : Int32) ok dx_L_least_23 zb_12 ?_
      refine sm_callS_i (pc := 25) [.int v3, .int (12 : Int32)] ok dx_L_least_25 wd_447 mwx_L_within (Nat.le_of_ble_eq_true rfl) (Nat.le_of_ble_eq_true rfl) rfl rfl (Nat.le_of_ble_eq_true rfl) (cx_L_within (sm_okj ok) N S_3 v3 (12 : Int32)) (fun r_6 S_5 => ?_)
      refine sm_if_eq (pc := 28) 41 ok dx_L_least_28 (by decide) (fun _ => ?_) (fun _ => ?_)
      · refine sm_lv [0] rfl ?_
        exact tx_L_least_b41 ok hr N _
      · refine sm_iload (pc := 31) 4 ok dx_L_least_31 rfl ?_
        refine sm_bipush (pc := 33) (12 : Int32) ok dx_L_least_33 zb_12 ?_
        refine sm_callS_i (pc := 35) [.int v4, .int (12 : Int32)] ok dx_L_least_35 wd_447 mwx_L_within (Nat.le_of_ble_eq_true rfl) (Nat.le_of_ble_eq_true rfl) rfl rfl (Nat.le_of_ble_eq_true rfl) (cx_L_within (sm_okj ok) N S_5 v4 (12 : Int32)) (fun r_8 S_7 => ?_)
        refine sm_if_ne (pc := 38) 46 ok dx_L_least_38 (by decide) (fun _ => ?_) (fun _ => ?_)
        · refine sm_iconst (pc := 46) (0 : Int32) ok dx_L_least_46 zk_0 ?_
          refine sm_istore (pc := 47) (i := 5) ok dx_L_least_47 (by decide) (fun v => [(5, .int v), (0, .ref ((xw x).2.2 0)), (1, .int v1), (2, .int v2), (3, .int v3), (4, .int v4)]) (fun _ => rfl) (fun v5_9 => ?_)
          refine sm_lv [1, 2, 3, 4, 5, 0] rfl ?_
          exact tx_L_least_b49 ok hr N N _ _ _ _ _ _
        · refine sm_lv [0] rfl ?_
          exact tx_L_least_b41 ok hr N _
theorem cx_L_least {l : Launch} {wc : sm_Wc} (hj : sm_inj zx_sy wc) (N : Nat) (S : sm_St) (v1 : Int32) (v2 : Int32) (v3 : Int32) (v4 : Int32) : sm_Ct l zx_sy wc yx_L_least prog_1_method_23_code 7 (some .int) 4 105 [.ref (wc.2.2 0), .int v1, .int v2, .int v3, .int v4] S (sm_Pi zx_sy wc) (px_L_least N S v1 v2 v3 v4) :=
  sm_entry (Pq := fun wc => sm_Pi zx_sy wc) (fun wc => [.ref (wc.2.2 0), .int v1, .int v2, .int v3, .int v4]) (lv := fun wc => [(0, .ref (wc.2.2 0)), (1, .int v1), (2, .int v2), (3, .int v3), (4, .int v4)]) (by decide) hj zx_ok zx_stb (fun _ => Nat.le_of_ble_eq_true rfl) (fun _ => rfl) (fun x _ ok hr => tx_L_least ok hr N S v1 v2 v3 v4)
set_option maxHeartbeats 4000000 in
set_option maxRecDepth 20000 in
theorem tx_Fraction_size {x : sm_Cx} (ok : sm_Ok x zx_sy prog_3_method_8_code "LentShades$Fraction" 2 0 0) (hr : (xh x).sig.returnType = (some .int)) (N : Nat) (S : sm_St) (v1 : Int32) : sm_Sm x zx_sy prog_3_method_8_code (sm_Q x zx_sy (sm_Pi zx_sy (xw x))) (px_Fraction_size N S v1) S 0 [(0, .ref ((xw x).2.2 104)), (1, .int v1)] [] := by
  unfold px_Fraction_size
  refine sm_iload_n (pc := 0) 1 ok dx_Fraction_size_0 rfl ?_
  refine sm_if_ne (pc := 1) 17 ok dx_Fraction_size_1 (by decide) (fun _ => ?_) (fun _ => ?_)
  · refine sm_iload_n (pc := 17) 1 ok dx_Fraction_size_17 rfl ?_
    refine sm_iconst (pc := 18) (1 : Int32) ok dx_Fraction_size_18 zk_1 ?_
    refine sm_icmp_ne (pc := 19) 29 ok dx_Fraction_size_19 (by decide) (fun _ => ?_) (fun _ => ?_)
    · refine sm_aload_n (pc := 29) 0 ok dx_Fraction_size_29 rfl ?_
      refine sm_getI (pc := 30) (ci := 1) (k := 3) ok dx_Fraction_size_30 rfl rfl zc_i1 (by decide) rfl wd_270 ?_
      exact sm_iret (pc := 33) ok dx_Fraction_size_33 hr
    · refine sm_aload_n (pc := 22) 0 ok dx_Fraction_size_22 rfl ?_
      refine sm_getI (pc := 23) (ci := 1) (k := 2) ok dx_Fraction_size_23 rfl rfl zc_i1 (by decide) rfl wd_269 ?_
      refine sm_goto (pc := 26) 33 ok dx_Fraction_size_26 (by decide) ?_
      exact sm_iret (pc := 33) ok dx_Fraction_size_33 hr
  · refine sm_aload_n (pc := 4) 0 ok dx_Fraction_size_4 rfl ?_
    refine sm_getI (pc := 5) (ci := 1) (k := 2) ok dx_Fraction_size_5 rfl rfl zc_i1 (by decide) rfl wd_269 ?_
    refine sm_if_le (pc := 8) 15 ok dx_Fraction_size_8 (by decide) (fun _ => ?_) (fun _ => ?_)
    · refine sm_iconst (pc := 15) (0 : Int32) ok dx_Fraction_size_15 zk_0 ?_
      exact sm_iret (pc := 16) ok dx_Fraction_size_16 hr
    · refine sm_iconst (pc := 11) (1 : Int32) ok dx_Fraction_size_11 zk_1 ?_
      refine sm_goto (pc := 12) 16 ok dx_Fraction_size_12 (by decide) ?_
      exact sm_iret (pc := 16) ok dx_Fraction_size_16 hr
theorem cx_Fraction_size {l : Launch} {wc : sm_Wc} (hj : sm_inj zx_sy wc) (N : Nat) (S : sm_St) (v1 : Int32) : sm_Ct l zx_sy wc yx_Fraction_size prog_3_method_8_code 2 (some .int) 0 0 [.ref (wc.2.2 104), .int v1] S (sm_Pi zx_sy wc) (px_Fraction_size N S v1) :=
  sm_entry (Pq := fun wc => sm_Pi zx_sy wc) (fun wc => [.ref (wc.2.2 104), .int v1]) (lv := fun wc => [(0, .ref (wc.2.2 104)), (1, .int v1)]) (by decide) hj zx_ok zx_stb (fun _ => Nat.le_of_ble_eq_true rfl) (fun _ => rfl) (fun x _ ok hr => tx_Fraction_size ok hr N S v1)
set_option maxHeartbeats 4000000 in
set_option maxRecDepth 20000 in
theorem tx_L_sign {x : sm_Cx} (ok : sm_Ok x zx_sy prog_1_method_24_code "LentShades" 2 1 21) (hr : (xh x).sig.returnType = (some .int)) (N : Nat) (S : sm_St) (v1 : Int32) : sm_Sm x zx_sy prog_1_method_24_code (sm_Q x zx_sy (sm_Pi zx_sy (xw x))) (px_L_sign N S v1) S 0 [(0, .ref ((xw x).2.2 0)), (1, .int v1)] [] := by
  unfold px_L_sign
  refine sm_iload_n (pc := 0) 1 ok dx_L_sign_0 rfl ?_
  refine sm_iconst (pc := 1) (2 : Int32) ok dx_L_sign_1 zk_2 ?_
  refine sm_callS_i (pc := 2) [.int v1, .int (2 : Int32)] ok dx_L_sign_2 wd_447 mwx_L_within (Nat.le_of_ble_eq_true rfl) (Nat.le_of_ble_eq_true rfl) rfl rfl (Nat.le_of_ble_eq_true rfl) (cx_L_within (sm_okj ok) N S v1 (2 : Int32)) (fun r_2 S_1 => ?_)
  refine sm_if_ne (pc := 5) 13 ok dx_L_sign_5 (by decide) (fun _ => ?_) (fun _ => ?_)
  · refine sm_aload_n (pc := 13) 0 ok dx_L_sign_13 rfl ?_
    refine sm_getR (pc := 14) (ci := 9) (k := 4) ok dx_L_sign_14 rfl rfl zc_i9 (by decide) rfl wd_404 ?_
    refine sm_iload_n (pc := 17) 1 ok dx_L_sign_17 rfl ?_
    refine sm_callV_i (pc := 18) (ci := 1) [.int v1] ok dx_L_sign_18 wd_938 mwx_Fraction_size rfl rfl (Nat.le_of_ble_eq_true rfl) (Nat.le_of_ble_eq_true rfl) rfl rfl (Nat.le_of_ble_eq_true rfl) (cx_Fraction_size (sm_okj ok) N S_1 v1) (fun r_4 S_3 => ?_)
    exact sm_iret (pc := 21) ok dx_L_sign_21 hr
  · refine sm_aload_n (pc := 8) 0 ok dx_L_sign_8 rfl ?_
    refine sm_callV_i (pc := 9) (ci := 9) [] ok dx_L_sign_9 wd_450 mwx_L_refusedBad rfl rfl (Nat.le_of_ble_eq_true rfl) (Nat.le_of_ble_eq_true rfl) rfl rfl (Nat.le_of_ble_eq_true rfl) (cx_L_refusedBad (sm_okj ok) N S_1) (fun r_6 S_5 => ?_)
    exact sm_iret (pc := 12) ok dx_L_sign_12 hr
theorem cx_L_sign {l : Launch} {wc : sm_Wc} (hj : sm_inj zx_sy wc) (N : Nat) (S : sm_St) (v1 : Int32) : sm_Ct l zx_sy wc yx_L_sign prog_1_method_24_code 2 (some .int) 1 21 [.ref (wc.2.2 0), .int v1] S (sm_Pi zx_sy wc) (px_L_sign N S v1) :=
  sm_entry (Pq := fun wc => sm_Pi zx_sy wc) (fun wc => [.ref (wc.2.2 0), .int v1]) (lv := fun wc => [(0, .ref (wc.2.2 0)), (1, .int v1)]) (by decide) hj zx_ok zx_stb (fun _ => Nat.le_of_ble_eq_true rfl) (fun _ => rfl) (fun x _ ok hr => tx_L_sign ok hr N S v1)
set_option maxHeartbeats 4000000 in
set_option maxRecDepth 20000 in
theorem tx_Fraction_digit_b16 {x : sm_Cx} (ok : sm_Ok x zx_sy prog_3_method_9_code "LentShades$Fraction" 3 0 0) (hr : (xh x).sig.returnType = (some .int)) (N : Nat) (v1 : Int32) (v2 : Int32) (s0 : Int32) (s1 : Int32) (S : sm_St) : sm_Sm x zx_sy prog_3_method_9_code (sm_Q x zx_sy (sm_Pi zx_sy (xw x))) (px_Fraction_digit_b16 N v1 v2 s0 s1 S) S 16 [(0, .ref ((xw x).2.2 104)), (1, .int v1), (2, .int v2)] [.int s1, .int s0] := by
  unfold px_Fraction_digit_b16
  refine sm_icmp_lt (pc := 16) 21 ok dx_Fraction_digit_16 (by decide) (fun _ => ?_) (fun _ => ?_)
  · refine sm_iload_n (pc := 21) 1 ok dx_Fraction_digit_21 rfl ?_
    refine sm_if_ne (pc := 22) 34 ok dx_Fraction_digit_22 (by decide) (fun _ => ?_) (fun _ => ?_)
    · refine sm_aload_n (pc := 34) 0 ok dx_Fraction_digit_34 rfl ?_
      refine sm_getR (pc := 35) (ci := 1) (k := 1) ok dx_Fraction_digit_35 rfl rfl zc_i1 (by decide) rfl wd_268 ?_
      refine sm_iload_n (pc := 38) 2 ok dx_Fraction_digit_38 rfl ?_
      refine sm_iald (pc := 39) ok dx_Fraction_digit_39 rfl ?_
      exact sm_iret (pc := 40) ok dx_Fraction_digit_40 hr
    · refine sm_aload_n (pc := 25) 0 ok dx_Fraction_digit_25 rfl ?_
      refine sm_getR (pc := 26) (ci := 1) (k := 0) ok dx_Fraction_digit_26 rfl rfl zc_i1 (by decide) rfl wd_267 ?_
      refine sm_iload_n (pc := 29) 2 ok dx_Fraction_digit_29 rfl ?_
      refine sm_iald (pc := 30) ok dx_Fraction_digit_30 rfl ?_
      refine sm_goto (pc := 31) 40 ok dx_Fraction_digit_31 (by decide) ?_
      exact sm_iret (pc := 40) ok dx_Fraction_digit_40 hr
  · refine sm_iconst (pc := 19) (-1 : Int32) ok dx_Fraction_digit_19 zk_m1 ?_
    exact sm_iret (pc := 20) ok dx_Fraction_digit_20 hr
set_option maxHeartbeats 4000000 in
set_option maxRecDepth 20000 in
theorem tx_Fraction_digit {x : sm_Cx} (ok : sm_Ok x zx_sy prog_3_method_9_code "LentShades$Fraction" 3 0 0) (hr : (xh x).sig.returnType = (some .int)) (N : Nat) (S : sm_St) (v1 : Int32) (v2 : Int32) : sm_Sm x zx_sy prog_3_method_9_code (sm_Q x zx_sy (sm_Pi zx_sy (xw x))) (px_Fraction_digit N S v1 v2) S 0 [(0, .ref ((xw x).2.2 104)), (1, .int v1), (2, .int v2)] [] := by
  unfold px_Fraction_digit
  refine sm_iload_n (pc := 0) 2 ok dx_Fraction_digit_0 rfl ?_
  refine sm_iload_n (pc := 1) 1 ok dx_Fraction_digit_1 rfl ?_
  refine sm_if_ne (pc := 2) 12 ok dx_Fraction_digit_2 (by decide) (fun _ => ?_) (fun _ => ?_)
  · refine sm_aload_n (pc := 12) 0 ok dx_Fraction_digit_12 rfl ?_
    refine sm_getI (pc := 13) (ci := 1) (k := 3) ok dx_Fraction_digit_13 rfl rfl zc_i1 (by decide) rfl wd_270 ?_
    exact tx_Fraction_digit_b16 ok hr N _ _ _ _ _
  · refine sm_aload_n (pc := 5) 0 ok dx_Fraction_digit_5 rfl ?_
    refine sm_getI (pc := 6) (ci := 1) (k := 2) ok dx_Fraction_digit_6 rfl rfl zc_i1 (by decide) rfl wd_269 ?_
    refine sm_goto (pc := 9) 16 ok dx_Fraction_digit_9 (by decide) ?_
    exact tx_Fraction_digit_b16 ok hr N _ _ _ _ _
theorem cx_Fraction_digit {l : Launch} {wc : sm_Wc} (hj : sm_inj zx_sy wc) (N : Nat) (S : sm_St) (v1 : Int32) (v2 : Int32) : sm_Ct l zx_sy wc yx_Fraction_digit prog_3_method_9_code 3 (some .int) 0 0 [.ref (wc.2.2 104), .int v1, .int v2] S (sm_Pi zx_sy wc) (px_Fraction_digit N S v1 v2) :=
  sm_entry (Pq := fun wc => sm_Pi zx_sy wc) (fun wc => [.ref (wc.2.2 104), .int v1, .int v2]) (lv := fun wc => [(0, .ref (wc.2.2 104)), (1, .int v1), (2, .int v2)]) (by decide) hj zx_ok zx_stb (fun _ => Nat.le_of_ble_eq_true rfl) (fun _ => rfl) (fun x _ ok hr => tx_Fraction_digit ok hr N S v1 v2)
set_option maxHeartbeats 4000000 in
set_option maxRecDepth 20000 in
theorem tx_L_limb_b12 {x : sm_Cx} (ok : sm_Ok x zx_sy prog_1_method_25_code "LentShades" 3 1 22) (hr : (xh x).sig.returnType = (some .int)) (N : Nat) (S : sm_St) : sm_Sm x zx_sy prog_1_method_25_code (sm_Q x zx_sy (sm_Pi zx_sy (xw x))) (px_L_limb_b12 N S) S 12 [(0, .ref ((xw x).2.2 0))] [] := by
  unfold px_L_limb_b12
  refine sm_aload_n (pc := 12) 0 ok dx_L_limb_12 rfl ?_
  refine sm_callV_i (pc := 13) (ci := 9) [] ok dx_L_limb_13 wd_450 mwx_L_refusedBad rfl rfl (Nat.le_of_ble_eq_true rfl) (Nat.le_of_ble_eq_true rfl) rfl rfl (Nat.le_of_ble_eq_true rfl) (cx_L_refusedBad (sm_okj ok) N S) (fun r_6 S_5 => ?_)
  exact sm_iret (pc := 16) ok dx_L_limb_16 hr
set_option maxHeartbeats 4000000 in
set_option maxRecDepth 20000 in
theorem tx_L_limb {x : sm_Cx} (ok : sm_Ok x zx_sy prog_1_method_25_code "LentShades" 3 1 22) (hr : (xh x).sig.returnType = (some .int)) (N : Nat) (S : sm_St) (v1 : Int32) (v2 : Int32) : sm_Sm x zx_sy prog_1_method_25_code (sm_Q x zx_sy (sm_Pi zx_sy (xw x))) (px_L_limb N S v1 v2) S 0 [(0, .ref ((xw x).2.2 0)), (1, .int v1), (2, .int v2)] [] := by
  unfold px_L_limb
  refine sm_iload_n (pc := 0) 1 ok dx_L_limb_0 rfl ?_
  refine sm_iconst (pc := 1) (1 : Int32) ok dx_L_limb_1 zk_1 ?_
  refine sm_callS_i (pc := 2) [.int v1, .int (1 : Int32)] ok dx_L_limb_2 wd_447 mwx_L_within (Nat.le_of_ble_eq_true rfl) (Nat.le_of_ble_eq_true rfl) rfl rfl (Nat.le_of_ble_eq_true rfl) (cx_L_within (sm_okj ok) N S v1 (1 : Int32)) (fun r_2 S_1 => ?_)
  refine sm_if_eq (pc := 5) 12 ok dx_L_limb_5 (by decide) (fun _ => ?_) (fun _ => ?_)
  · refine sm_lv [0] rfl ?_
    exact tx_L_limb_b12 ok hr N _
  · refine sm_iload_n (pc := 8) 2 ok dx_L_limb_8 rfl ?_
    refine sm_if_ge (pc := 9) 17 ok dx_L_limb_9 (by decide) (fun _ => ?_) (fun _ => ?_)
    · refine sm_aload_n (pc := 17) 0 ok dx_L_limb_17 rfl ?_
      refine sm_getR (pc := 18) (ci := 9) (k := 4) ok dx_L_limb_18 rfl rfl zc_i9 (by decide) rfl wd_404 ?_
      refine sm_iload_n (pc := 21) 1 ok dx_L_limb_21 rfl ?_
      refine sm_iload_n (pc := 22) 2 ok dx_L_limb_22 rfl ?_
      refine sm_callV_i (pc := 23) (ci := 1) [.int v1, .int v2] ok dx_L_limb_23 wd_946 mwx_Fraction_digit rfl rfl (Nat.le_of_ble_eq_true rfl) (Nat.le_of_ble_eq_true rfl) rfl rfl (Nat.le_of_ble_eq_true rfl) (cx_Fraction_digit (sm_okj ok) N S_1 v1 v2) (fun r_4 S_3 => ?_)
      exact sm_iret (pc := 26) ok dx_L_limb_26 hr
    · refine sm_lv [0] rfl ?_
      exact tx_L_limb_b12 ok hr N _
theorem cx_L_limb {l : Launch} {wc : sm_Wc} (hj : sm_inj zx_sy wc) (N : Nat) (S : sm_St) (v1 : Int32) (v2 : Int32) : sm_Ct l zx_sy wc yx_L_limb prog_1_method_25_code 3 (some .int) 1 22 [.ref (wc.2.2 0), .int v1, .int v2] S (sm_Pi zx_sy wc) (px_L_limb N S v1 v2) :=
  sm_entry (Pq := fun wc => sm_Pi zx_sy wc) (fun wc => [.ref (wc.2.2 0), .int v1, .int v2]) (lv := fun wc => [(0, .ref (wc.2.2 0)), (1, .int v1), (2, .int v2)]) (by decide) hj zx_ok zx_stb (fun _ => Nat.le_of_ble_eq_true rfl) (fun _ => rfl) (fun x _ ok hr => tx_L_limb ok hr N S v1 v2)
set_option maxHeartbeats 4000000 in
set_option maxRecDepth 20000 in
theorem tx_House_copyFrom_b116 {x : sm_Cx} (ok : sm_Ok x zx_sy prog_4_method_16_code "LentShades$House" 3 2 47) (hr : (xh x).sig.returnType = none) (N : Nat) (p : Nat) (q1 : Nat) (hp : zx_sy.1 p = (12, 0)) (hq1 : zx_sy.1 q1 = (12, 0)) : ∀ (n : Nat) (v2 : Int32) (S : sm_St), sm_Sm x zx_sy prog_4_method_16_code (sm_Q x zx_sy (sm_Pv zx_sy (xw x))) (px_House_copyFrom_b116 N p q1 n v2 S) S 116 [(0, .ref ((xw x).2.2 p)), (1, .ref ((xw x).2.2 q1)), (2, .int v2)] [] := by
  intro n
  induction n with
  | zero =>
    intro v2 S
    exact sm_none
  | succ n ih =>
    intro v2 S
    show sm_Sm x zx_sy prog_4_method_16_code (sm_Q x zx_sy (sm_Pv zx_sy (xw x))) (if (4 : Int32) ≤ v2 then (if sm_cpk (0 : Int32) (0 : Int32) (4 : Int32) 4 4 = true then sm_lt (sm_sF S (p + 5) (va_cpy (S.1 (q1 + 5)) (S.1 (p + 5)) (0 : Int32).toNatClampNeg (0 : Int32).toNatClampNeg (4 : Int32).toNatClampNeg)) (fun (S_20 : sm_St) => some S_20) else none) else (if sm_in v2 4 = true then (if sm_in v2 4 = true then sm_lt (sm_sI S (p + 1) v2.toNatClampNeg (S.1 (q1 + 1) v2.toNatClampNeg)) (fun (S_21 : sm_St) => if sm_in v2 4 = true then (if sm_in v2 4 = true then sm_lt (sm_sI S_21 (p + 2) v2.toNatClampNeg (S_21.1 (q1 + 2) v2.toNatClampNeg)) (fun (S_22 : sm_St) => if sm_in v2 4 = true then (if sm_in v2 4 = true then sm_lt (sm_sI S_22 (p + 3) v2.toNatClampNeg (S_22.1 (q1 + 3) v2.toNatClampNeg)) (fun (S_23 : sm_St) => if sm_in v2 4 = true then (if sm_in v2 4 = true then sm_lt (sm_sI S_23 (p + 4) v2.toNatClampNeg (S_23.1 (q1 + 4) v2.toNatClampNeg)) (fun (S_24 : sm_St) => if sm_in v2 4 = true then (if sm_in v2 4 = true then (if sm_cpk (0 : Int32) (0 : Int32) (8 : Int32) 8 8 = true then sm_lt (sm_sF S_24 (p + 7 + v2.toNatClampNeg) (va_cpy (S_24.1 (q1 + 7 + v2.toNatClampNeg)) (S_24.1 (p + 7 + v2.toNatClampNeg)) (0 : Int32).toNatClampNeg (0 : Int32).toNatClampNeg (8 : Int32).toNatClampNeg)) (fun (S_27 : sm_St) => sm_lt (v2 + (1 : Int32)) (fun (v2_28 : Int32) => (px_House_copyFrom_b116 N p q1 n) v2_28 S_27)) else none) else none) else none) else none) else none) else none) else none) else none) else none) else none) else none)) S 116 [(0, .ref ((xw x).2.2 p)), (1, .ref ((xw x).2.2 q1)), (2, .int v2)] []
    refine sm_iload_n (pc := 116) 2 ok dx_House_copyFrom_116 rfl ?_
    refine sm_iconst (pc := 117) (4 : Int32) ok dx_House_copyFrom_117 zk_4 ?_
    refine sm_icmp_ge (pc := 118) 194 ok dx_House_copyFrom_118 (by decide) (fun _ => ?_) (fun _ => ?_)
    · refine sm_aload_n (pc := 194) 1 ok dx_House_copyFrom_194 rfl ?_
      refine sm_getR (pc := 195) (ci := 2) (k := 4) ok dx_House_copyFrom_195 hq1 rfl zc_i2 (by decide) rfl wd_170 ?_
      refine sm_iconst (pc := 198) (0 : Int32) ok dx_House_copyFrom_198 zk_0 ?_
      refine sm_aload_n (pc := 199) 0 ok dx_House_copyFrom_199 rfl ?_
      refine sm_getR (pc := 200) (ci := 2) (k := 4) ok dx_House_copyFrom_200 hp rfl zc_i2 (by decide) rfl wd_170 ?_
      refine sm_iconst (pc := 203) (0 : Int32) ok dx_House_copyFrom_203 zk_0 ?_
      refine sm_iconst (pc := 204) (4 : Int32) ok dx_House_copyFrom_204 zk_4 ?_
      refine sm_acopy (pc := 205) ok dx_House_copyFrom_205 wd_958 wd_734 wd_733 wd_118 (zx_House_5 hq1) (zx_House_5 hp) (by decide) (by decide) (by decide) (fun S_20 => ?_)
      exact sm_vret (pc := 208) ok dx_House_copyFrom_208 hr
    · refine sm_aload_n (pc := 121) 0 ok dx_House_copyFrom_121 rfl ?_
      refine sm_getR (pc := 122) (ci := 2) (k := 0) ok dx_House_copyFrom_122 hp rfl zc_i2 (by decide) rfl wd_160 ?_
      refine sm_iload_n (pc := 125) 2 ok dx_House_copyFrom_125 rfl ?_
      refine sm_aload_n (pc := 126) 1 ok dx_House_copyFrom_126 rfl ?_
      refine sm_getR (pc := 127) (ci := 2) (k := 0) ok dx_House_copyFrom_127 hq1 rfl zc_i2 (by decide) rfl wd_160 ?_
      refine sm_iload_n (pc := 130) 2 ok dx_House_copyFrom_130 rfl ?_
      refine sm_iald (pc := 131) ok dx_House_copyFrom_131 (zx_House_1 hq1) ?_
      refine sm_iast (pc := 132) ok dx_House_copyFrom_132 (zx_House_1 hp) (fun S_21 => ?_)
      refine sm_aload_n (pc := 133) 0 ok dx_House_copyFrom_133 rfl ?_
      refine sm_getR (pc := 134) (ci := 2) (k := 1) ok dx_House_copyFrom_134 hp rfl zc_i2 (by decide) rfl wd_162 ?_
      refine sm_iload_n (pc := 137) 2 ok dx_House_copyFrom_137 rfl ?_
      refine sm_aload_n (pc := 138) 1 ok dx_House_copyFrom_138 rfl ?_
      refine sm_getR (pc := 139) (ci := 2) (k := 1) ok dx_House_copyFrom_139 hq1 rfl zc_i2 (by decide) rfl wd_162 ?_
      refine sm_iload_n (pc := 142) 2 ok dx_House_copyFrom_142 rfl ?_
      refine sm_iald (pc := 143) ok dx_House_copyFrom_143 (zx_House_2 hq1) ?_
      refine sm_iast (pc := 144) ok dx_House_copyFrom_144 (zx_House_2 hp) (fun S_22 => ?_)
      refine sm_aload_n (pc := 145) 0 ok dx_House_copyFrom_145 rfl ?_
      refine sm_getR (pc := 146) (ci := 2) (k := 2) ok dx_House_copyFrom_146 hp rfl zc_i2 (by decide) rfl wd_164 ?_
      refine sm_iload_n (pc := 149) 2 ok dx_House_copyFrom_149 rfl ?_
      refine sm_aload_n (pc := 150) 1 ok dx_House_copyFrom_150 rfl ?_
      refine sm_getR (pc := 151) (ci := 2) (k := 2) ok dx_House_copyFrom_151 hq1 rfl zc_i2 (by decide) rfl wd_164 ?_
      refine sm_iload_n (pc := 154) 2 ok dx_House_copyFrom_154 rfl ?_
      refine sm_iald (pc := 155) ok dx_House_copyFrom_155 (zx_House_3 hq1) ?_
      refine sm_iast (pc := 156) ok dx_House_copyFrom_156 (zx_House_3 hp) (fun S_23 => ?_)
      refine sm_aload_n (pc := 157) 0 ok dx_House_copyFrom_157 rfl ?_
      refine sm_getR (pc := 158) (ci := 2) (k := 3) ok dx_House_copyFrom_158 hp rfl zc_i2 (by decide) rfl wd_167 ?_
      refine sm_iload_n (pc := 161) 2 ok dx_House_copyFrom_161 rfl ?_
      refine sm_aload_n (pc := 162) 1 ok dx_House_copyFrom_162 rfl ?_
      refine sm_getR (pc := 163) (ci := 2) (k := 3) ok dx_House_copyFrom_163 hq1 rfl zc_i2 (by decide) rfl wd_167 ?_
      refine sm_iload_n (pc := 166) 2 ok dx_House_copyFrom_166 rfl ?_
      refine sm_iald (pc := 167) ok dx_House_copyFrom_167 (zx_House_4 hq1) ?_
      refine sm_iast (pc := 168) ok dx_House_copyFrom_168 (zx_House_4 hp) (fun S_24 => ?_)
      refine sm_aload_n (pc := 169) 1 ok dx_House_copyFrom_169 rfl ?_
      refine sm_getR (pc := 170) (ci := 2) (k := 5) ok dx_House_copyFrom_170 hq1 rfl zc_i2 (by decide) rfl wd_174 ?_
      refine sm_iload_n (pc := 173) 2 ok dx_House_copyFrom_173 rfl ?_
      refine sm_aald5 (pc := 174) ok dx_House_copyFrom_174 (zx_House_6 hq1) (fun hb_25 => ?_)
      refine sm_iconst (pc := 175) (0 : Int32) ok dx_House_copyFrom_175 zk_0 ?_
      refine sm_aload_n (pc := 176) 0 ok dx_House_copyFrom_176 rfl ?_
      refine sm_getR (pc := 177) (ci := 2) (k := 5) ok dx_House_copyFrom_177 hp rfl zc_i2 (by decide) rfl wd_174 ?_
      refine sm_iload_n (pc := 180) 2 ok dx_House_copyFrom_180 rfl ?_
      refine sm_aald5 (pc := 181) ok dx_House_copyFrom_181 (zx_House_6 hp) (fun hb_26 => ?_)
      refine sm_iconst (pc := 182) (0 : Int32) ok dx_House_copyFrom_182 zk_0 ?_
      refine sm_bipush (pc := 183) (8 : Int32) ok dx_House_copyFrom_183 zb_8 ?_
      refine sm_acopy (pc := 185) ok dx_House_copyFrom_185 wd_958 wd_734 wd_733 wd_118 (zx_hrow6 hq1 hb_25) (zx_hrow6 hp hb_26) (by decide) (by decide) (by decide) (fun S_27 => ?_)
      refine sm_iinc (pc := 188) (i := 2) 2 (1 : Int32) ok dx_House_copyFrom_188 rfl zk_1 (by decide) (fun v => [(2, .int v), (0, .ref ((xw x).2.2 p)), (1, .ref ((xw x).2.2 q1))]) (fun _ => rfl) (fun v2_28 => ?_)
      refine sm_goto (pc := 191) 116 ok dx_House_copyFrom_191 (by decide) ?_
      refine sm_lv [1, 2, 0] rfl ?_
      exact ih _ _
set_option maxHeartbeats 4000000 in
set_option maxRecDepth 20000 in
theorem tx_House_copyFrom_b84 {x : sm_Cx} (ok : sm_Ok x zx_sy prog_4_method_16_code "LentShades$House" 3 2 47) (hr : (xh x).sig.returnType = none) (N : Nat) (p : Nat) (q1 : Nat) (hp : zx_sy.1 p = (12, 0)) (hq1 : zx_sy.1 q1 = (12, 0)) : ∀ (n : Nat) (v2 : Int32) (S : sm_St), sm_Sm x zx_sy prog_4_method_16_code (sm_Q x zx_sy (sm_Pv zx_sy (xw x))) (px_House_copyFrom_b84 N p q1 n v2 S) S 84 [(0, .ref ((xw x).2.2 p)), (1, .ref ((xw x).2.2 q1)), (2, .int v2)] [] := by
  intro n
  induction n with
  | zero =>
    intro v2 S
    exact sm_none
  | succ n ih =>
    intro v2 S
    show sm_Sm x zx_sy prog_4_method_16_code (sm_Q x zx_sy (sm_Pv zx_sy (xw x))) (if (6 : Int32) ≤ v2 then (sm_lt (0 : Int32) (fun (v2_15 : Int32) => px_House_copyFrom_b116 N p q1 N v2_15 S)) else (if sm_in v2 6 = true then (if sm_in v2 6 = true then (if sm_cpk (0 : Int32) (0 : Int32) (4 : Int32) 4 4 = true then sm_lt (sm_sF S (p + 27 + v2.toNatClampNeg) (va_cpy (S.1 (q1 + 27 + v2.toNatClampNeg)) (S.1 (p + 27 + v2.toNatClampNeg)) (0 : Int32).toNatClampNeg (0 : Int32).toNatClampNeg (4 : Int32).toNatClampNeg)) (fun (S_18 : sm_St) => sm_lt (v2 + (1 : Int32)) (fun (v2_19 : Int32) => (px_House_copyFrom_b84 N p q1 n) v2_19 S_18)) else none) else none) else none)) S 84 [(0, .ref ((xw x).2.2 p)), (1, .ref ((xw x).2.2 q1)), (2, .int v2)] []
    refine sm_iload_n (pc := 84) 2 ok dx_House_copyFrom_84 rfl ?_
    refine sm_bipush (pc := 85) (6 : Int32) ok dx_House_copyFrom_85 zb_6 ?_
    refine sm_icmp_ge (pc := 87) 114 ok dx_House_copyFrom_87 (by decide) (fun _ => ?_) (fun _ => ?_)
    · refine sm_iconst (pc := 114) (0 : Int32) ok dx_House_copyFrom_114 zk_0 ?_
      refine sm_istore_n (pc := 115) (i := 2) ok dx_House_copyFrom_115 rfl (by decide) (fun v => [(2, .int v), (0, .ref ((xw x).2.2 p)), (1, .ref ((xw x).2.2 q1))]) (fun _ => rfl) (fun v2_15 => ?_)
      refine sm_lv [1, 2, 0] rfl ?_
      exact tx_House_copyFrom_b116 ok hr N p q1 hp hq1 N _ _
    · refine sm_aload_n (pc := 90) 1 ok dx_House_copyFrom_90 rfl ?_
      refine sm_getR (pc := 91) (ci := 2) (k := 8) ok dx_House_copyFrom_91 hq1 rfl zc_i2 (by decide) rfl wd_183 ?_
      refine sm_iload_n (pc := 94) 2 ok dx_House_copyFrom_94 rfl ?_
      refine sm_aald5 (pc := 95) ok dx_House_copyFrom_95 (zx_House_26 hq1) (fun hb_16 => ?_)
      refine sm_iconst (pc := 96) (0 : Int32) ok dx_House_copyFrom_96 zk_0 ?_
      refine sm_aload_n (pc := 97) 0 ok dx_House_copyFrom_97 rfl ?_
      refine sm_getR (pc := 98) (ci := 2) (k := 8) ok dx_House_copyFrom_98 hp rfl zc_i2 (by decide) rfl wd_183 ?_
      refine sm_iload_n (pc := 101) 2 ok dx_House_copyFrom_101 rfl ?_
      refine sm_aald5 (pc := 102) ok dx_House_copyFrom_102 (zx_House_26 hp) (fun hb_17 => ?_)
      refine sm_iconst (pc := 103) (0 : Int32) ok dx_House_copyFrom_103 zk_0 ?_
      refine sm_iconst (pc := 104) (4 : Int32) ok dx_House_copyFrom_104 zk_4 ?_
      refine sm_acopy (pc := 105) ok dx_House_copyFrom_105 wd_958 wd_734 wd_733 wd_118 (zx_hrow26 hq1 hb_16) (zx_hrow26 hp hb_17) (by decide) (by decide) (by decide) (fun S_18 => ?_)
      refine sm_iinc (pc := 108) (i := 2) 2 (1 : Int32) ok dx_House_copyFrom_108 rfl zk_1 (by decide) (fun v => [(2, .int v), (0, .ref ((xw x).2.2 p)), (1, .ref ((xw x).2.2 q1))]) (fun _ => rfl) (fun v2_19 => ?_)
      refine sm_goto (pc := 111) 84 ok dx_House_copyFrom_111 (by decide) ?_
      refine sm_lv [1, 2, 0] rfl ?_
      exact ih _ _
set_option maxHeartbeats 4000000 in
set_option maxRecDepth 20000 in
theorem tx_House_copyFrom_b53 {x : sm_Cx} (ok : sm_Ok x zx_sy prog_4_method_16_code "LentShades$House" 3 2 47) (hr : (xh x).sig.returnType = none) (N : Nat) (p : Nat) (q1 : Nat) (hp : zx_sy.1 p = (12, 0)) (hq1 : zx_sy.1 q1 = (12, 0)) : ∀ (n : Nat) (v2 : Int32) (S : sm_St), sm_Sm x zx_sy prog_4_method_16_code (sm_Q x zx_sy (sm_Pv zx_sy (xw x))) (px_House_copyFrom_b53 N p q1 n v2 S) S 53 [(0, .ref ((xw x).2.2 p)), (1, .ref ((xw x).2.2 q1)), (2, .int v2)] [] := by
  intro n
  induction n with
  | zero =>
    intro v2 S
    exact sm_none
  | succ n ih =>
    intro v2 S
    show sm_Sm x zx_sy prog_4_method_16_code (sm_Q x zx_sy (sm_Pv zx_sy (xw x))) (if (S.1 q1 12) ≤ v2 then (sm_lt (0 : Int32) (fun (v2_8 : Int32) => px_House_copyFrom_b84 N p q1 N v2_8 S)) else (if sm_in v2 6 = true then (sm_lt (S.2.2 (p + 13) v2.toNatClampNeg) (fun (a_10 : Nat) => if (decide (zx_sy.1 a_10 = (16, 0))) = true then (if sm_in v2 6 = true then (sm_lt (S.2.2 (q1 + 13) v2.toNatClampNeg) (fun (a_12 : Nat) => if (decide (zx_sy.1 a_12 = (16, 0))) = true then (sm_b1 (px_Shades_copyFrom N S a_10 a_12) (fun (S_13 : sm_St) => sm_lt (v2 + (1 : Int32)) (fun (v2_14 : Int32) => (px_House_copyFrom_b53 N p q1 n) v2_14 S_13))) else none)) else none) else none)) else none)) S 53 [(0, .ref ((xw x).2.2 p)), (1, .ref ((xw x).2.2 q1)), (2, .int v2)] []
    refine sm_iload_n (pc := 53) 2 ok dx_House_copyFrom_53 rfl ?_
    refine sm_aload_n (pc := 54) 1 ok dx_House_copyFrom_54 rfl ?_
    refine sm_getI (pc := 55) (ci := 2) (k := 12) ok dx_House_copyFrom_55 hq1 rfl zc_i2 (by decide) rfl wd_194 ?_
    refine sm_icmp_ge (pc := 58) 82 ok dx_House_copyFrom_58 (by decide) (fun _ => ?_) (fun _ => ?_)
    · refine sm_iconst (pc := 82) (0 : Int32) ok dx_House_copyFrom_82 zk_0 ?_
      refine sm_istore_n (pc := 83) (i := 2) ok dx_House_copyFrom_83 rfl (by decide) (fun v => [(2, .int v), (0, .ref ((xw x).2.2 p)), (1, .ref ((xw x).2.2 q1))]) (fun _ => rfl) (fun v2_8 => ?_)
      refine sm_lv [1, 2, 0] rfl ?_
      exact tx_House_copyFrom_b84 ok hr N p q1 hp hq1 N _ _
    · refine sm_aload_n (pc := 61) 0 ok dx_House_copyFrom_61 rfl ?_
      refine sm_getR (pc := 62) (ci := 2) (k := 7) ok dx_House_copyFrom_62 hp rfl zc_i2 (by decide) rfl wd_182 ?_
      refine sm_iload_n (pc := 65) 2 ok dx_House_copyFrom_65 rfl ?_
      refine sm_aald3 (pc := 66) ok dx_House_copyFrom_66 (zx_House_13 hp) ?_
      refine sm_topr (fun a_10 => ?_)
      refine sm_ck (fun hc_9 => ?_)
      refine sm_aload_n (pc := 67) 1 ok dx_House_copyFrom_67 rfl ?_
      refine sm_getR (pc := 68) (ci := 2) (k := 7) ok dx_House_copyFrom_68 hq1 rfl zc_i2 (by decide) rfl wd_182 ?_
      refine sm_iload_n (pc := 71) 2 ok dx_House_copyFrom_71 rfl ?_
      refine sm_aald3 (pc := 72) ok dx_House_copyFrom_72 (zx_House_13 hq1) ?_
      refine sm_topr (fun a_12 => ?_)
      refine sm_ck (fun hc_11 => ?_)
      refine sm_callV_v (pc := 73) (ci := 6) [.ref ((xw x).2.2 a_12)] ok dx_House_copyFrom_73 wd_728 mwx_Shades_copyFrom (of_decide_eq_true hc_9) rfl (Nat.le_of_ble_eq_true rfl) (Nat.le_of_ble_eq_true rfl) rfl rfl (Nat.le_of_ble_eq_true rfl) (cx_Shades_copyFrom (sm_okj ok) N S a_10 a_12 (of_decide_eq_true hc_9) (of_decide_eq_true hc_11)) (fun S_13 => ?_)
      refine sm_iinc (pc := 76) (i := 2) 2 (1 : Int32) ok dx_House_copyFrom_76 rfl zk_1 (by decide) (fun v => [(2, .int v), (0, .ref ((xw x).2.2 p)), (1, .ref ((xw x).2.2 q1))]) (fun _ => rfl) (fun v2_14 => ?_)
      refine sm_goto (pc := 79) 53 ok dx_House_copyFrom_79 (by decide) ?_
      refine sm_lv [1, 2, 0] rfl ?_
      exact ih _ _
set_option maxHeartbeats 4000000 in
set_option maxRecDepth 20000 in
theorem tx_House_copyFrom {x : sm_Cx} (ok : sm_Ok x zx_sy prog_4_method_16_code "LentShades$House" 3 2 47) (hr : (xh x).sig.returnType = none) (N : Nat) (S : sm_St) (p : Nat) (q1 : Nat) (hp : zx_sy.1 p = (12, 0)) (hq1 : zx_sy.1 q1 = (12, 0)) : sm_Sm x zx_sy prog_4_method_16_code (sm_Q x zx_sy (sm_Pv zx_sy (xw x))) (px_House_copyFrom N S p q1) S 0 [(0, .ref ((xw x).2.2 p)), (1, .ref ((xw x).2.2 q1))] [] := by
  unfold px_House_copyFrom
  refine sm_aload_n (pc := 0) 0 ok dx_House_copyFrom_0 rfl ?_
  refine sm_aload_n (pc := 1) 1 ok dx_House_copyFrom_1 rfl ?_
  refine sm_getI (pc := 2) (ci := 2) (k := 9) ok dx_House_copyFrom_2 hq1 rfl zc_i2 (by decide) rfl wd_186 ?_
  refine sm_putI (pc := 5) (ci := 2) (k := 9) ok dx_House_copyFrom_5 hp rfl zc_i2 zc_y2 zc_t2 zc_n2 (by decide) rfl rfl rfl wd_186 (fun S_1 => ?_)
  refine sm_aload_n (pc := 8) 0 ok dx_House_copyFrom_8 rfl ?_
  refine sm_aload_n (pc := 9) 1 ok dx_House_copyFrom_9 rfl ?_
  refine sm_getI (pc := 10) (ci := 2) (k := 10) ok dx_House_copyFrom_10 hq1 rfl zc_i2 (by decide) rfl wd_189 ?_
  refine sm_putI (pc := 13) (ci := 2) (k := 10) ok dx_House_copyFrom_13 hp rfl zc_i2 zc_y2 zc_t2 zc_n2 (by decide) rfl rfl rfl wd_189 (fun S_2 => ?_)
  refine sm_aload_n (pc := 16) 0 ok dx_House_copyFrom_16 rfl ?_
  refine sm_aload_n (pc := 17) 1 ok dx_House_copyFrom_17 rfl ?_
  refine sm_getI (pc := 18) (ci := 2) (k := 11) ok dx_House_copyFrom_18 hq1 rfl zc_i2 (by decide) rfl wd_193 ?_
  refine sm_putI (pc := 21) (ci := 2) (k := 11) ok dx_House_copyFrom_21 hp rfl zc_i2 zc_y2 zc_t2 zc_n2 (by decide) rfl rfl rfl wd_193 (fun S_3 => ?_)
  refine sm_aload_n (pc := 24) 0 ok dx_House_copyFrom_24 rfl ?_
  refine sm_aload_n (pc := 25) 1 ok dx_House_copyFrom_25 rfl ?_
  refine sm_getI (pc := 26) (ci := 2) (k := 12) ok dx_House_copyFrom_26 hq1 rfl zc_i2 (by decide) rfl wd_194 ?_
  refine sm_putI (pc := 29) (ci := 2) (k := 12) ok dx_House_copyFrom_29 hp rfl zc_i2 zc_y2 zc_t2 zc_n2 (by decide) rfl rfl rfl wd_194 (fun S_4 => ?_)
  refine sm_aload_n (pc := 32) 0 ok dx_House_copyFrom_32 rfl ?_
  refine sm_aload_n (pc := 33) 1 ok dx_House_copyFrom_33 rfl ?_
  refine sm_getI (pc := 34) (ci := 2) (k := 13) ok dx_House_copyFrom_34 hq1 rfl zc_i2 (by decide) rfl wd_196 ?_
  refine sm_putI (pc := 37) (ci := 2) (k := 13) ok dx_House_copyFrom_37 hp rfl zc_i2 zc_y2 zc_t2 zc_n2 (by decide) rfl rfl rfl wd_196 (fun S_5 => ?_)
  refine sm_aload_n (pc := 40) 0 ok dx_House_copyFrom_40 rfl ?_
  refine sm_getR (pc := 41) (ci := 2) (k := 6) ok dx_House_copyFrom_41 hp rfl zc_i2 (by decide) rfl wd_178 ?_
  refine sm_aload_n (pc := 44) 1 ok dx_House_copyFrom_44 rfl ?_
  refine sm_getR (pc := 45) (ci := 2) (k := 6) ok dx_House_copyFrom_45 hq1 rfl zc_i2 (by decide) rfl wd_178 ?_
  refine sm_callV_v (pc := 48) (ci := 6) [.ref ((xw x).2.2 (q1 + 11))] ok dx_House_copyFrom_48 wd_728 mwx_Shades_copyFrom (zx_House_11 hp) rfl (Nat.le_of_ble_eq_true rfl) (Nat.le_of_ble_eq_true rfl) rfl rfl (Nat.le_of_ble_eq_true rfl) (cx_Shades_copyFrom (sm_okj ok) N S_5 (p + 11) (q1 + 11) (zx_House_11 hp) (zx_House_11 hq1)) (fun S_6 => ?_)
  refine sm_iconst (pc := 51) (0 : Int32) ok dx_House_copyFrom_51 zk_0 ?_
  refine sm_istore_n (pc := 52) (i := 2) ok dx_House_copyFrom_52 rfl (by decide) (fun v => [(2, .int v), (0, .ref ((xw x).2.2 p)), (1, .ref ((xw x).2.2 q1))]) (fun _ => rfl) (fun v2_7 => ?_)
  refine sm_lv [1, 2, 0] rfl ?_
  exact tx_House_copyFrom_b53 ok hr N p q1 hp hq1 N _ _
theorem cx_House_copyFrom {l : Launch} {wc : sm_Wc} (hj : sm_inj zx_sy wc) (N : Nat) (S : sm_St) (p : Nat) (q1 : Nat) (hp : zx_sy.1 p = (12, 0)) (hq1 : zx_sy.1 q1 = (12, 0)) : sm_Ct l zx_sy wc yx_House_copyFrom prog_4_method_16_code 3 none 2 47 [.ref (wc.2.2 p), .ref (wc.2.2 q1)] S (sm_Pv zx_sy wc) (px_House_copyFrom N S p q1) :=
  sm_entry (Pq := fun wc => sm_Pv zx_sy wc) (fun wc => [.ref (wc.2.2 p), .ref (wc.2.2 q1)]) (lv := fun wc => [(0, .ref (wc.2.2 p)), (1, .ref (wc.2.2 q1))]) (by decide) hj zx_ok zx_stb (fun _ => Nat.le_of_ble_eq_true rfl) (fun _ => rfl) (fun x _ ok hr => tx_House_copyFrom ok hr N S p q1 hp hq1)
set_option maxHeartbeats 4000000 in
set_option maxRecDepth 20000 in
theorem tx_L_image {x : sm_Cx} (ok : sm_Ok x zx_sy prog_1_method_26_code "LentShades" 2 3 69) (hr : (xh x).sig.returnType = (some .int)) (N : Nat) (S : sm_St) (v1 : Int32) : sm_Sm x zx_sy prog_1_method_26_code (sm_Q x zx_sy (sm_Pi zx_sy (xw x))) (px_L_image N S v1) S 0 [(0, .ref ((xw x).2.2 0)), (1, .int v1)] [] := by
  unfold px_L_image
  refine sm_iload_n (pc := 0) 1 ok dx_L_image_0 rfl ?_
  refine sm_iconst (pc := 1) (1 : Int32) ok dx_L_image_1 zk_1 ?_
  refine sm_callS_i (pc := 2) [.int v1, .int (1 : Int32)] ok dx_L_image_2 wd_447 mwx_L_within (Nat.le_of_ble_eq_true rfl) (Nat.le_of_ble_eq_true rfl) rfl rfl (Nat.le_of_ble_eq_true rfl) (cx_L_within (sm_okj ok) N S v1 (1 : Int32)) (fun r_2 S_1 => ?_)
  refine sm_if_ne (pc := 5) 13 ok dx_L_image_5 (by decide) (fun _ => ?_) (fun _ => ?_)
  · refine sm_aload_n (pc := 13) 0 ok dx_L_image_13 rfl ?_
    refine sm_getR (pc := 14) (ci := 9) (k := 1) ok dx_L_image_14 rfl rfl zc_i9 (by decide) rfl wd_401 ?_
    refine sm_iload_n (pc := 17) 1 ok dx_L_image_17 rfl ?_
    refine sm_aald4 (pc := 18) ok dx_L_image_18 rfl (fun hb_3 => ?_)
    refine sm_aload_n (pc := 19) 0 ok dx_L_image_19 rfl ?_
    refine sm_getR (pc := 20) (ci := 9) (k := 0) ok dx_L_image_20 rfl rfl zc_i9 (by decide) rfl wd_400 ?_
    refine sm_callV_v (pc := 23) (ci := 2) [.ref ((xw x).2.2 1)] ok dx_L_image_23 wd_954 mwx_House_copyFrom (zx_img hb_3) rfl (Nat.le_of_ble_eq_true rfl) (Nat.le_of_ble_eq_true rfl) rfl rfl (Nat.le_of_ble_eq_true rfl) (cx_House_copyFrom (sm_okj ok) N S_1 (35 + 33 * v1.toNatClampNeg) 1 (zx_img hb_3) rfl) (fun S_4 => ?_)
    refine sm_aload_n (pc := 26) 0 ok dx_L_image_26 rfl ?_
    refine sm_getR (pc := 27) (ci := 9) (k := 2) ok dx_L_image_27 rfl rfl zc_i9 (by decide) rfl wd_402 ?_
    refine sm_iload_n (pc := 30) 1 ok dx_L_image_30 rfl ?_
    refine sm_iconst (pc := 31) (1 : Int32) ok dx_L_image_31 zk_1 ?_
    refine sm_zast (pc := 32) ok dx_L_image_32 rfl (fun S_5 => ?_)
    refine sm_iconst (pc := 33) (1 : Int32) ok dx_L_image_33 zk_1 ?_
    exact sm_iret (pc := 34) ok dx_L_image_34 hr
  · refine sm_aload_n (pc := 8) 0 ok dx_L_image_8 rfl ?_
    refine sm_callV_i (pc := 9) (ci := 9) [] ok dx_L_image_9 wd_450 mwx_L_refusedBad rfl rfl (Nat.le_of_ble_eq_true rfl) (Nat.le_of_ble_eq_true rfl) rfl rfl (Nat.le_of_ble_eq_true rfl) (cx_L_refusedBad (sm_okj ok) N S_1) (fun r_7 S_6 => ?_)
    exact sm_iret (pc := 12) ok dx_L_image_12 hr
theorem cx_L_image {l : Launch} {wc : sm_Wc} (hj : sm_inj zx_sy wc) (N : Nat) (S : sm_St) (v1 : Int32) : sm_Ct l zx_sy wc yx_L_image prog_1_method_26_code 2 (some .int) 3 69 [.ref (wc.2.2 0), .int v1] S (sm_Pi zx_sy wc) (px_L_image N S v1) :=
  sm_entry (Pq := fun wc => sm_Pi zx_sy wc) (fun wc => [.ref (wc.2.2 0), .int v1]) (lv := fun wc => [(0, .ref (wc.2.2 0)), (1, .int v1)]) (by decide) hj zx_ok zx_stb (fun _ => Nat.le_of_ble_eq_true rfl) (fun _ => rfl) (fun x _ ok hr => tx_L_image ok hr N S v1)
set_option maxHeartbeats 4000000 in
set_option maxRecDepth 20000 in
theorem tx_L_from {x : sm_Cx} (ok : sm_Ok x zx_sy prog_1_method_27_code "LentShades" 2 3 69) (hr : (xh x).sig.returnType = (some .int)) (N : Nat) (S : sm_St) (v1 : Int32) : sm_Sm x zx_sy prog_1_method_27_code (sm_Q x zx_sy (sm_Pi zx_sy (xw x))) (px_L_from N S v1) S 0 [(0, .ref ((xw x).2.2 0)), (1, .int v1)] [] := by
  unfold px_L_from
  refine sm_iload_n (pc := 0) 1 ok dx_L_from_0 rfl ?_
  refine sm_iconst (pc := 1) (1 : Int32) ok dx_L_from_1 zk_1 ?_
  refine sm_callS_i (pc := 2) [.int v1, .int (1 : Int32)] ok dx_L_from_2 wd_447 mwx_L_within (Nat.le_of_ble_eq_true rfl) (Nat.le_of_ble_eq_true rfl) rfl rfl (Nat.le_of_ble_eq_true rfl) (cx_L_within (sm_okj ok) N S v1 (1 : Int32)) (fun r_2 S_1 => ?_)
  refine sm_if_ne (pc := 5) 13 ok dx_L_from_5 (by decide) (fun _ => ?_) (fun _ => ?_)
  · refine sm_aload_n (pc := 13) 0 ok dx_L_from_13 rfl ?_
    refine sm_getR (pc := 14) (ci := 9) (k := 2) ok dx_L_from_14 rfl rfl zc_i9 (by decide) rfl wd_402 ?_
    refine sm_iload_n (pc := 17) 1 ok dx_L_from_17 rfl ?_
    refine sm_zald (pc := 18) ok dx_L_from_18 rfl ?_
    refine sm_if_ne (pc := 19) 27 ok dx_L_from_19 (by decide) (fun _ => ?_) (fun _ => ?_)
    · refine sm_aload_n (pc := 27) 0 ok dx_L_from_27 rfl ?_
      refine sm_getR (pc := 28) (ci := 9) (k := 0) ok dx_L_from_28 rfl rfl zc_i9 (by decide) rfl wd_400 ?_
      refine sm_aload_n (pc := 31) 0 ok dx_L_from_31 rfl ?_
      refine sm_getR (pc := 32) (ci := 9) (k := 1) ok dx_L_from_32 rfl rfl zc_i9 (by decide) rfl wd_401 ?_
      refine sm_iload_n (pc := 35) 1 ok dx_L_from_35 rfl ?_
      refine sm_aald4 (pc := 36) ok dx_L_from_36 rfl (fun hb_3 => ?_)
      refine sm_callV_v (pc := 37) (ci := 2) [.ref ((xw x).2.2 (35 + 33 * v1.toNatClampNeg))] ok dx_L_from_37 wd_954 mwx_House_copyFrom rfl rfl (Nat.le_of_ble_eq_true rfl) (Nat.le_of_ble_eq_true rfl) rfl rfl (Nat.le_of_ble_eq_true rfl) (cx_House_copyFrom (sm_okj ok) N S_1 1 (35 + 33 * v1.toNatClampNeg) rfl (zx_img hb_3)) (fun S_4 => ?_)
      refine sm_iconst (pc := 40) (1 : Int32) ok dx_L_from_40 zk_1 ?_
      exact sm_iret (pc := 41) ok dx_L_from_41 hr
    · refine sm_aload_n (pc := 22) 0 ok dx_L_from_22 rfl ?_
      refine sm_callV_i (pc := 23) (ci := 9) [] ok dx_L_from_23 wd_720 mwx_L_refusedNo rfl rfl (Nat.le_of_ble_eq_true rfl) (Nat.le_of_ble_eq_true rfl) rfl rfl (Nat.le_of_ble_eq_true rfl) (cx_L_refusedNo (sm_okj ok) N S_1) (fun r_6 S_5 => ?_)
      exact sm_iret (pc := 26) ok dx_L_from_26 hr
  · refine sm_aload_n (pc := 8) 0 ok dx_L_from_8 rfl ?_
    refine sm_callV_i (pc := 9) (ci := 9) [] ok dx_L_from_9 wd_450 mwx_L_refusedBad rfl rfl (Nat.le_of_ble_eq_true rfl) (Nat.le_of_ble_eq_true rfl) rfl rfl (Nat.le_of_ble_eq_true rfl) (cx_L_refusedBad (sm_okj ok) N S_1) (fun r_8 S_7 => ?_)
    exact sm_iret (pc := 12) ok dx_L_from_12 hr
theorem cx_L_from {l : Launch} {wc : sm_Wc} (hj : sm_inj zx_sy wc) (N : Nat) (S : sm_St) (v1 : Int32) : sm_Ct l zx_sy wc yx_L_from prog_1_method_27_code 2 (some .int) 3 69 [.ref (wc.2.2 0), .int v1] S (sm_Pi zx_sy wc) (px_L_from N S v1) :=
  sm_entry (Pq := fun wc => sm_Pi zx_sy wc) (fun wc => [.ref (wc.2.2 0), .int v1]) (lv := fun wc => [(0, .ref (wc.2.2 0)), (1, .int v1)]) (by decide) hj zx_ok zx_stb (fun _ => Nat.le_of_ble_eq_true rfl) (fun _ => rfl) (fun x _ ok hr => tx_L_from ok hr N S v1)
set_option maxHeartbeats 4000000 in
set_option maxRecDepth 20000 in
theorem tx_L_status {x : sm_Cx} (ok : sm_Ok x zx_sy prog_1_method_28_code "LentShades" 2 1 20) (hr : (xh x).sig.returnType = (some .int)) (N : Nat) (S : sm_St) (v1 : Int32) : sm_Sm x zx_sy prog_1_method_28_code (sm_Q x zx_sy (sm_Pi zx_sy (xw x))) (px_L_status N S v1) S 0 [(0, .ref ((xw x).2.2 0)), (1, .int v1)] [] := by
  unfold px_L_status
  refine sm_iload_n (pc := 0) 1 ok dx_L_status_0 rfl ?_
  refine sm_switch3 (pc := 1) (t0 := 28) (t1 := 33) (t2 := 38) (td := 43) ok dx_L_status_1 (by decide) (fun _ => ?_) (fun _ => ?_) (fun _ => ?_) (fun _ => ?_)
  · refine sm_aload_n (pc := 28) 0 ok dx_L_status_28 rfl ?_
    refine sm_getI (pc := 29) (ci := 9) (k := 11) ok dx_L_status_29 rfl rfl zc_i9 (by decide) rfl wd_411 ?_
    exact sm_iret (pc := 32) ok dx_L_status_32 hr
  · refine sm_aload_n (pc := 33) 0 ok dx_L_status_33 rfl ?_
    refine sm_getI (pc := 34) (ci := 9) (k := 12) ok dx_L_status_34 rfl rfl zc_i9 (by decide) rfl wd_412 ?_
    exact sm_iret (pc := 37) ok dx_L_status_37 hr
  · refine sm_aload_n (pc := 38) 0 ok dx_L_status_38 rfl ?_
    refine sm_getI (pc := 39) (ci := 9) (k := 13) ok dx_L_status_39 rfl rfl zc_i9 (by decide) rfl wd_413 ?_
    exact sm_iret (pc := 42) ok dx_L_status_42 hr
  · refine sm_aload_n (pc := 43) 0 ok dx_L_status_43 rfl ?_
    refine sm_callV_i (pc := 44) (ci := 9) [] ok dx_L_status_44 wd_450 mwx_L_refusedBad rfl rfl (Nat.le_of_ble_eq_true rfl) (Nat.le_of_ble_eq_true rfl) rfl rfl (Nat.le_of_ble_eq_true rfl) (cx_L_refusedBad (sm_okj ok) N S) (fun r_2 S_1 => ?_)
    refine sm_pop (pc := 47) ok dx_L_status_47 rfl ?_
    refine sm_iconst (pc := 48) (-1 : Int32) ok dx_L_status_48 zk_m1 ?_
    exact sm_iret (pc := 49) ok dx_L_status_49 hr
theorem cx_L_status {l : Launch} {wc : sm_Wc} (hj : sm_inj zx_sy wc) (N : Nat) (S : sm_St) (v1 : Int32) : sm_Ct l zx_sy wc yx_L_status prog_1_method_28_code 2 (some .int) 1 20 [.ref (wc.2.2 0), .int v1] S (sm_Pi zx_sy wc) (px_L_status N S v1) :=
  sm_entry (Pq := fun wc => sm_Pi zx_sy wc) (fun wc => [.ref (wc.2.2 0), .int v1]) (lv := fun wc => [(0, .ref (wc.2.2 0)), (1, .int v1)]) (by decide) hj zx_ok zx_stb (fun _ => Nat.le_of_ble_eq_true rfl) (fun _ => rfl) (fun x _ ok hr => tx_L_status ok hr N S v1)
set_option maxHeartbeats 4000000 in
set_option maxRecDepth 20000 in
theorem tx_L_howMany {x : sm_Cx} (ok : sm_Ok x zx_sy prog_1_method_31_code "LentShades" 2 0 0) (hr : (xh x).sig.returnType = (some .int)) (N : Nat) (S : sm_St) (v1 : Int32) : sm_Sm x zx_sy prog_1_method_31_code (sm_Q x zx_sy (sm_Pi zx_sy (xw x))) (px_L_howMany N S v1) S 0 [(0, .ref ((xw x).2.2 0)), (1, .int v1)] [] := by
  unfold px_L_howMany
  refine sm_iload_n (pc := 0) 1 ok dx_L_howMany_0 rfl ?_
  refine sm_switch5 (pc := 1) (t0 := 36) (t1 := 44) (t2 := 52) (t3 := 60) (t4 := 68) (td := 76) ok dx_L_howMany_1 (by decide) (fun _ => ?_) (fun _ => ?_) (fun _ => ?_) (fun _ => ?_) (fun _ => ?_) (fun _ => ?_)
  · refine sm_aload_n (pc := 36) 0 ok dx_L_howMany_36 rfl ?_
    refine sm_getR (pc := 37) (ci := 9) (k := 0) ok dx_L_howMany_37 rfl rfl zc_i9 (by decide) rfl wd_400 ?_
    refine sm_getI (pc := 40) (ci := 2) (k := 9) ok dx_L_howMany_40 rfl rfl zc_i2 (by decide) rfl wd_188 ?_
    exact sm_iret (pc := 43) ok dx_L_howMany_43 hr
  · refine sm_aload_n (pc := 44) 0 ok dx_L_howMany_44 rfl ?_
    refine sm_getR (pc := 45) (ci := 9) (k := 0) ok dx_L_howMany_45 rfl rfl zc_i9 (by decide) rfl wd_400 ?_
    refine sm_getI (pc := 48) (ci := 2) (k := 10) ok dx_L_howMany_48 rfl rfl zc_i2 (by decide) rfl wd_190 ?_
    exact sm_iret (pc := 51) ok dx_L_howMany_51 hr
  · refine sm_aload_n (pc := 52) 0 ok dx_L_howMany_52 rfl ?_
    refine sm_getR (pc := 53) (ci := 9) (k := 0) ok dx_L_howMany_53 rfl rfl zc_i9 (by decide) rfl wd_400 ?_
    refine sm_getI (pc := 56) (ci := 2) (k := 11) ok dx_L_howMany_56 rfl rfl zc_i2 (by decide) rfl wd_192 ?_
    exact sm_iret (pc := 59) ok dx_L_howMany_59 hr
  · refine sm_aload_n (pc := 60) 0 ok dx_L_howMany_60 rfl ?_
    refine sm_getR (pc := 61) (ci := 9) (k := 0) ok dx_L_howMany_61 rfl rfl zc_i9 (by decide) rfl wd_400 ?_
    refine sm_getI (pc := 64) (ci := 2) (k := 12) ok dx_L_howMany_64 rfl rfl zc_i2 (by decide) rfl wd_195 ?_
    exact sm_iret (pc := 67) ok dx_L_howMany_67 hr
  · refine sm_aload_n (pc := 68) 0 ok dx_L_howMany_68 rfl ?_
    refine sm_getR (pc := 69) (ci := 9) (k := 3) ok dx_L_howMany_69 rfl rfl zc_i9 (by decide) rfl wd_403 ?_
    refine sm_getI (pc := 72) (ci := 4) (k := 1) ok dx_L_howMany_72 rfl rfl zc_i4 (by decide) rfl wd_236 ?_
    exact sm_iret (pc := 75) ok dx_L_howMany_75 hr
  · refine sm_aload_n (pc := 76) 0 ok dx_L_howMany_76 rfl ?_
    refine sm_getR (pc := 77) (ci := 9) (k := 0) ok dx_L_howMany_77 rfl rfl zc_i9 (by decide) rfl wd_400 ?_
    refine sm_getI (pc := 80) (ci := 2) (k := 13) ok dx_L_howMany_80 rfl rfl zc_i2 (by decide) rfl wd_197 ?_
    exact sm_iret (pc := 83) ok dx_L_howMany_83 hr
theorem cx_L_howMany {l : Launch} {wc : sm_Wc} (hj : sm_inj zx_sy wc) (N : Nat) (S : sm_St) (v1 : Int32) : sm_Ct l zx_sy wc yx_L_howMany prog_1_method_31_code 2 (some .int) 0 0 [.ref (wc.2.2 0), .int v1] S (sm_Pi zx_sy wc) (px_L_howMany N S v1) :=
  sm_entry (Pq := fun wc => sm_Pi zx_sy wc) (fun wc => [.ref (wc.2.2 0), .int v1]) (lv := fun wc => [(0, .ref (wc.2.2 0)), (1, .int v1)]) (by decide) hj zx_ok zx_stb (fun _ => Nat.le_of_ble_eq_true rfl) (fun _ => rfl) (fun x _ ok hr => tx_L_howMany ok hr N S v1)
set_option maxHeartbeats 4000000 in
set_option maxRecDepth 20000 in
theorem tx_L_count {x : sm_Cx} (ok : sm_Ok x zx_sy prog_1_method_29_code "LentShades" 2 1 21) (hr : (xh x).sig.returnType = (some .int)) (N : Nat) (S : sm_St) (v1 : Int32) : sm_Sm x zx_sy prog_1_method_29_code (sm_Q x zx_sy (sm_Pi zx_sy (xw x))) (px_L_count N S v1) S 0 [(0, .ref ((xw x).2.2 0)), (1, .int v1)] [] := by
  unfold px_L_count
  refine sm_iload_n (pc := 0) 1 ok dx_L_count_0 rfl ?_
  refine sm_iconst (pc := 1) (5 : Int32) ok dx_L_count_1 zk_5 ?_
  refine sm_callS_i (pc := 2) [.int v1, .int (5 : Int32)] ok dx_L_count_2 wd_447 mwx_L_within (Nat.le_of_ble_eq_true rfl) (Nat.le_of_ble_eq_true rfl) rfl rfl (Nat.le_of_ble_eq_true rfl) (cx_L_within (sm_okj ok) N S v1 (5 : Int32)) (fun r_2 S_1 => ?_)
  refine sm_if_eq (pc := 5) 16 ok dx_L_count_5 (by decide) (fun _ => ?_) (fun _ => ?_)
  · refine sm_aload_n (pc := 16) 0 ok dx_L_count_16 rfl ?_
    refine sm_callV_i (pc := 17) (ci := 9) [] ok dx_L_count_17 wd_450 mwx_L_refusedBad rfl rfl (Nat.le_of_ble_eq_true rfl) (Nat.le_of_ble_eq_true rfl) rfl rfl (Nat.le_of_ble_eq_true rfl) (cx_L_refusedBad (sm_okj ok) N S_1) (fun r_4 S_3 => ?_)
    exact sm_iret (pc := 20) ok dx_L_count_20 hr
  · refine sm_aload_n (pc := 8) 0 ok dx_L_count_8 rfl ?_
    refine sm_iload_n (pc := 9) 1 ok dx_L_count_9 rfl ?_
    refine sm_callV_i (pc := 10) (ci := 9) [.int v1] ok dx_L_count_10 wd_971 mwx_L_howMany rfl rfl (Nat.le_of_ble_eq_true rfl) (Nat.le_of_ble_eq_true rfl) rfl rfl (Nat.le_of_ble_eq_true rfl) (cx_L_howMany (sm_okj ok) N S_1 v1) (fun r_6 S_5 => ?_)
    refine sm_goto (pc := 13) 20 ok dx_L_count_13 (by decide) ?_
    exact sm_iret (pc := 20) ok dx_L_count_20 hr
theorem cx_L_count {l : Launch} {wc : sm_Wc} (hj : sm_inj zx_sy wc) (N : Nat) (S : sm_St) (v1 : Int32) : sm_Ct l zx_sy wc yx_L_count prog_1_method_29_code 2 (some .int) 1 21 [.ref (wc.2.2 0), .int v1] S (sm_Pi zx_sy wc) (px_L_count N S v1) :=
  sm_entry (Pq := fun wc => sm_Pi zx_sy wc) (fun wc => [.ref (wc.2.2 0), .int v1]) (lv := fun wc => [(0, .ref (wc.2.2 0)), (1, .int v1)]) (by decide) hj zx_ok zx_stb (fun _ => Nat.le_of_ble_eq_true rfl) (fun _ => rfl) (fun x _ ok hr => tx_L_count ok hr N S v1)
set_option maxHeartbeats 4000000 in
set_option maxRecDepth 20000 in
theorem tx_House_mixInto_b162 {x : sm_Cx} (ok : sm_Ok x zx_sy prog_4_method_17_code "LentShades$House" 7 0 0) (hr : (xh x).sig.returnType = (some .long)) (N : Nat) (p : Nat) (hp : zx_sy.1 p = (12, 0)) {r150 : Int64 → Int32 → sm_St → Option (Int64 × sm_St)} (h150 : ∀ (v3 : Int64) (v5 : Int32) (S : sm_St), sm_Sm x zx_sy prog_4_method_17_code (sm_Q x zx_sy (sm_Pl zx_sy (xw x))) (r150 v3 v5 S) S 150 [(0, .ref ((xw x).2.2 p)), (3, .long v3), (5, .int v5)] []) : ∀ (n : Nat) (v3 : Int64) (v5 : Int32) (v6 : Int32) (S : sm_St), sm_Sm x zx_sy prog_4_method_17_code (sm_Q x zx_sy (sm_Pl zx_sy (xw x))) (px_House_mixInto_b162 N p r150 n v3 v5 v6 S) S 162 [(0, .ref ((xw x).2.2 p)), (3, .long v3), (5, .int v5), (6, .int v6)] [] := by
  intro n
  induction n with
  | zero =>
    intro v3 v5 v6 S
    exact sm_none
  | succ n ih =>
    intro v3 v5 v6 S
    show sm_Sm x zx_sy prog_4_method_17_code (sm_Q x zx_sy (sm_Pl zx_sy (xw x))) (if (4 : Int32) ≤ v6 then (sm_lt (v5 + (1 : Int32)) (fun (v5_17 : Int32) => r150 v3 v5_17 S)) else (if sm_in v5 6 = true then (if sm_in v6 4 = true then (sm_lt (((31 : Int64) * v3) + (S.1 (p + 27 + v5.toNatClampNeg) v6.toNatClampNeg).toInt64) (fun (v3_19 : Int64) => sm_lt (v6 + (1 : Int32)) (fun (v6_20 : Int32) => (px_House_mixInto_b162 N p r150 n) v3_19 v5 v6_20 S))) else none) else none)) S 162 [(0, .ref ((xw x).2.2 p)), (3, .long v3), (5, .int v5), (6, .int v6)] []
    refine sm_iload (pc := 162) 3 ok dx_House_mixInto_162 rfl ?_
    refine sm_iconst (pc := 164) (4 : Int32) ok dx_House_mixInto_164 zk_4 ?_
    refine sm_icmp_ge (pc := 165) 192 ok dx_House_mixInto_165 (by decide) (fun _ => ?_) (fun _ => ?_)
    · refine sm_iinc (pc := 192) (i := 5) 2 (1 : Int32) ok dx_House_mixInto_192 rfl zk_1 (by decide) (fun v => [(5, .int v), (0, .ref ((xw x).2.2 p)), (3, .long v3), (6, .int v6)]) (fun _ => rfl) (fun v5_17 => ?_)
      refine sm_goto (pc := 195) 150 ok dx_House_mixInto_195 (by decide) ?_
      refine sm_lv [1, 2, 0] rfl ?_
      exact h150 _ _ _
    · refine sm_ldc2 (pc := 168) ok dx_House_mixInto_168 wd_985 ?_
      refine sm_lload_n (pc := 171) 1 ok dx_House_mixInto_171 rfl ?_
      refine sm_lmul (pc := 172) ok dx_House_mixInto_172 ?_
      refine sm_aload_n (pc := 173) 0 ok dx_House_mixInto_173 rfl ?_
      refine sm_getR (pc := 174) (ci := 2) (k := 8) ok dx_House_mixInto_174 hp rfl zc_i2 (by decide) rfl wd_183 ?_
      refine sm_iload (pc := 177) 2 ok dx_House_mixInto_177 rfl ?_
      refine sm_aald5 (pc := 179) ok dx_House_mixInto_179 (zx_House_26 hp) (fun hb_18 => ?_)
      refine sm_iload (pc := 180) 3 ok dx_House_mixInto_180 rfl ?_
      refine sm_iald (pc := 182) ok dx_House_mixInto_182 (zx_hrow26 hp hb_18) ?_
      refine sm_i2l (pc := 183) ok dx_House_mixInto_183 ?_
      refine sm_ladd (pc := 184) ok dx_House_mixInto_184 ?_
      refine sm_lstore_n (pc := 185) (i := 3) ok dx_House_mixInto_185 rfl (by decide) (fun v => [(3, .long v), (0, .ref ((xw x).2.2 p)), (5, .int v5), (6, .int v6)]) (fun _ => rfl) (fun v3_19 => ?_)
      refine sm_iinc (pc := 186) (i := 6) 3 (1 : Int32) ok dx_House_mixInto_186 rfl zk_1 (by decide) (fun v => [(6, .int v), (3, .long v3_19), (0, .ref ((xw x).2.2 p)), (5, .int v5)]) (fun _ => rfl) (fun v6_20 => ?_)
      refine sm_goto (pc := 189) 162 ok dx_House_mixInto_189 (by decide) ?_
      refine sm_lv [2, 1, 3, 0] rfl ?_
      exact ih _ _ _ _
set_option maxHeartbeats 4000000 in
set_option maxRecDepth 20000 in
theorem tx_House_mixInto_b150 {x : sm_Cx} (ok : sm_Ok x zx_sy prog_4_method_17_code "LentShades$House" 7 0 0) (hr : (xh x).sig.returnType = (some .long)) (N : Nat) (p : Nat) (hp : zx_sy.1 p = (12, 0)) : ∀ (n : Nat) (v3 : Int64) (v5 : Int32) (S : sm_St), sm_Sm x zx_sy prog_4_method_17_code (sm_Q x zx_sy (sm_Pl zx_sy (xw x))) (px_House_mixInto_b150 N p n v3 v5 S) S 150 [(0, .ref ((xw x).2.2 p)), (3, .long v3), (5, .int v5)] [] := by
  intro n
  induction n with
  | zero =>
    intro v3 v5 S
    exact sm_none
  | succ n ih =>
    intro v3 v5 S
    show sm_Sm x zx_sy prog_4_method_17_code (sm_Q x zx_sy (sm_Pl zx_sy (xw x))) (if (S.1 p 13) ≤ v5 then (some (v3, S)) else (sm_lt (0 : Int32) (fun (v6_16 : Int32) => px_House_mixInto_b162 N p (px_House_mixInto_b150 N p n) N v3 v5 v6_16 S))) S 150 [(0, .ref ((xw x).2.2 p)), (3, .long v3), (5, .int v5)] []
    refine sm_iload (pc := 150) 2 ok dx_House_mixInto_150 rfl ?_
    refine sm_aload_n (pc := 152) 0 ok dx_House_mixInto_152 rfl ?_
    refine sm_getI (pc := 153) (ci := 2) (k := 13) ok dx_House_mixInto_153 hp rfl zc_i2 (by decide) rfl wd_196 ?_
    refine sm_icmp_ge (pc := 156) 198 ok dx_House_mixInto_156 (by decide) (fun _ => ?_) (fun _ => ?_)
    · refine sm_lload_n (pc := 198) 1 ok dx_House_mixInto_198 rfl ?_
      exact sm_lret (pc := 199) ok dx_House_mixInto_199 hr
    · refine sm_iconst (pc := 159) (0 : Int32) ok dx_House_mixInto_159 zk_0 ?_
      refine sm_istore (pc := 160) (i := 6) ok dx_House_mixInto_160 (by decide) (fun v => [(6, .int v), (0, .ref ((xw x).2.2 p)), (3, .long v3), (5, .int v5)]) (fun _ => rfl) (fun v6_16 => ?_)
      refine sm_lv [1, 2, 3, 0] rfl ?_
      exact tx_House_mixInto_b162 ok hr N p hp ih N _ _ _ _
set_option maxHeartbeats 4000000 in
set_option maxRecDepth 20000 in
theorem tx_House_mixInto_b117 {x : sm_Cx} (ok : sm_Ok x zx_sy prog_4_method_17_code "LentShades$House" 7 0 0) (hr : (xh x).sig.returnType = (some .long)) (N : Nat) (p : Nat) (hp : zx_sy.1 p = (12, 0)) : ∀ (n : Nat) (v3 : Int64) (v5 : Int32) (S : sm_St), sm_Sm x zx_sy prog_4_method_17_code (sm_Q x zx_sy (sm_Pl zx_sy (xw x))) (px_House_mixInto_b117 N p n v3 v5 S) S 117 [(0, .ref ((xw x).2.2 p)), (3, .long v3), (5, .int v5)] [] := by
  intro n
  induction n with
  | zero =>
    intro v3 v5 S
    exact sm_none
  | succ n ih =>
    intro v3 v5 S
    show sm_Sm x zx_sy prog_4_method_17_code (sm_Q x zx_sy (sm_Pl zx_sy (xw x))) (if (S.1 p 10) ≤ v5 then (sm_lt (0 : Int32) (fun (v5_13 : Int32) => px_House_mixInto_b150 N p N v3 v5_13 S)) else (if sm_in v5 4 = true then (sm_lt (((31 : Int64) * v3) + (S.1 (p + 5) v5.toNatClampNeg).toInt64) (fun (v3_14 : Int64) => sm_lt (v5 + (1 : Int32)) (fun (v5_15 : Int32) => (px_House_mixInto_b117 N p n) v3_14 v5_15 S))) else none)) S 117 [(0, .ref ((xw x).2.2 p)), (3, .long v3), (5, .int v5)] []
    refine sm_iload (pc := 117) 2 ok dx_House_mixInto_117 rfl ?_
    refine sm_aload_n (pc := 119) 0 ok dx_House_mixInto_119 rfl ?_
    refine sm_getI (pc := 120) (ci := 2) (k := 10) ok dx_House_mixInto_120 hp rfl zc_i2 (by decide) rfl wd_189 ?_
    refine sm_icmp_ge (pc := 123) 147 ok dx_House_mixInto_123 (by decide) (fun _ => ?_) (fun _ => ?_)
    · refine sm_iconst (pc := 147) (0 : Int32) ok dx_House_mixInto_147 zk_0 ?_
      refine sm_istore (pc := 148) (i := 5) ok dx_House_mixInto_148 (by decide) (fun v => [(5, .int v), (0, .ref ((xw x).2.2 p)), (3, .long v3)]) (fun _ => rfl) (fun v5_13 => ?_)
      refine sm_lv [1, 2, 0] rfl ?_
      exact tx_House_mixInto_b150 ok hr N p hp N _ _ _
    · refine sm_ldc2 (pc := 126) ok dx_House_mixInto_126 wd_985 ?_
      refine sm_lload_n (pc := 129) 1 ok dx_House_mixInto_129 rfl ?_
      refine sm_lmul (pc := 130) ok dx_House_mixInto_130 ?_
      refine sm_aload_n (pc := 131) 0 ok dx_House_mixInto_131 rfl ?_
      refine sm_getR (pc := 132) (ci := 2) (k := 4) ok dx_House_mixInto_132 hp rfl zc_i2 (by decide) rfl wd_170 ?_
      refine sm_iload (pc := 135) 2 ok dx_House_mixInto_135 rfl ?_
      refine sm_iald (pc := 137) ok dx_House_mixInto_137 (zx_House_5 hp) ?_
      refine sm_i2l (pc := 138) ok dx_House_mixInto_138 ?_
      refine sm_ladd (pc := 139) ok dx_House_mixInto_139 ?_
      refine sm_lstore_n (pc := 140) (i := 3) ok dx_House_mixInto_140 rfl (by decide) (fun v => [(3, .long v), (0, .ref ((xw x).2.2 p)), (5, .int v5)]) (fun _ => rfl) (fun v3_14 => ?_)
      refine sm_iinc (pc := 141) (i := 5) 2 (1 : Int32) ok dx_House_mixInto_141 rfl zk_1 (by decide) (fun v => [(5, .int v), (3, .long v3_14), (0, .ref ((xw x).2.2 p))]) (fun _ => rfl) (fun v5_15 => ?_)
      refine sm_goto (pc := 144) 117 ok dx_House_mixInto_144 (by decide) ?_
      refine sm_lv [2, 1, 0] rfl ?_
      exact ih _ _ _
set_option maxHeartbeats 4000000 in
set_option maxRecDepth 20000 in
theorem tx_House_mixInto_b77 {x : sm_Cx} (ok : sm_Ok x zx_sy prog_4_method_17_code "LentShades$House" 7 0 0) (hr : (xh x).sig.returnType = (some .long)) (N : Nat) (p : Nat) (hp : zx_sy.1 p = (12, 0)) {r5 : Int64 → Int32 → sm_St → Option (Int64 × sm_St)} (h5 : ∀ (v3 : Int64) (v5 : Int32) (S : sm_St), sm_Sm x zx_sy prog_4_method_17_code (sm_Q x zx_sy (sm_Pl zx_sy (xw x))) (r5 v3 v5 S) S 5 [(0, .ref ((xw x).2.2 p)), (3, .long v3), (5, .int v5)] []) : ∀ (n : Nat) (v3 : Int64) (v5 : Int32) (v6 : Int32) (S : sm_St), sm_Sm x zx_sy prog_4_method_17_code (sm_Q x zx_sy (sm_Pl zx_sy (xw x))) (px_House_mixInto_b77 N p r5 n v3 v5 v6 S) S 77 [(0, .ref ((xw x).2.2 p)), (3, .long v3), (5, .int v5), (6, .int v6)] [] := by
  intro n
  induction n with
  | zero =>
    intro v3 v5 v6 S
    exact sm_none
  | succ n ih =>
    intro v3 v5 v6 S
    show sm_Sm x zx_sy prog_4_method_17_code (sm_Q x zx_sy (sm_Pl zx_sy (xw x))) (if (8 : Int32) ≤ v6 then (sm_lt (v5 + (1 : Int32)) (fun (v5_9 : Int32) => r5 v3 v5_9 S)) else (if sm_in v5 4 = true then (if sm_in v6 8 = true then (sm_lt (((31 : Int64) * v3) + (S.1 (p + 7 + v5.toNatClampNeg) v6.toNatClampNeg).toInt64) (fun (v3_11 : Int64) => sm_lt (v6 + (1 : Int32)) (fun (v6_12 : Int32) => (px_House_mixInto_b77 N p r5 n) v3_11 v5 v6_12 S))) else none) else none)) S 77 [(0, .ref ((xw x).2.2 p)), (3, .long v3), (5, .int v5), (6, .int v6)] []
    refine sm_iload (pc := 77) 3 ok dx_House_mixInto_77 rfl ?_
    refine sm_bipush (pc := 79) (8 : Int32) ok dx_House_mixInto_79 zb_8 ?_
    refine sm_icmp_ge (pc := 81) 108 ok dx_House_mixInto_81 (by decide) (fun _ => ?_) (fun _ => ?_)
    · refine sm_iinc (pc := 108) (i := 5) 2 (1 : Int32) ok dx_House_mixInto_108 rfl zk_1 (by decide) (fun v => [(5, .int v), (0, .ref ((xw x).2.2 p)), (3, .long v3), (6, .int v6)]) (fun _ => rfl) (fun v5_9 => ?_)
      refine sm_goto (pc := 111) 5 ok dx_House_mixInto_111 (by decide) ?_
      refine sm_lv [1, 2, 0] rfl ?_
      exact h5 _ _ _
    · refine sm_ldc2 (pc := 84) ok dx_House_mixInto_84 wd_985 ?_
      refine sm_lload_n (pc := 87) 1 ok dx_House_mixInto_87 rfl ?_
      refine sm_lmul (pc := 88) ok dx_House_mixInto_88 ?_
      refine sm_aload_n (pc := 89) 0 ok dx_House_mixInto_89 rfl ?_
      refine sm_getR (pc := 90) (ci := 2) (k := 5) ok dx_House_mixInto_90 hp rfl zc_i2 (by decide) rfl wd_174 ?_
      refine sm_iload (pc := 93) 2 ok dx_House_mixInto_93 rfl ?_
      refine sm_aald5 (pc := 95) ok dx_House_mixInto_95 (zx_House_6 hp) (fun hb_10 => ?_)
      refine sm_iload (pc := 96) 3 ok dx_House_mixInto_96 rfl ?_
      refine sm_iald (pc := 98) ok dx_House_mixInto_98 (zx_hrow6 hp hb_10) ?_
      refine sm_i2l (pc := 99) ok dx_House_mixInto_99 ?_
      refine sm_ladd (pc := 100) ok dx_House_mixInto_100 ?_
      refine sm_lstore_n (pc := 101) (i := 3) ok dx_House_mixInto_101 rfl (by decide) (fun v => [(3, .long v), (0, .ref ((xw x).2.2 p)), (5, .int v5), (6, .int v6)]) (fun _ => rfl) (fun v3_11 => ?_)
      refine sm_iinc (pc := 102) (i := 6) 3 (1 : Int32) ok dx_House_mixInto_102 rfl zk_1 (by decide) (fun v => [(6, .int v), (3, .long v3_11), (0, .ref ((xw x).2.2 p)), (5, .int v5)]) (fun _ => rfl) (fun v6_12 => ?_)
      refine sm_goto (pc := 105) 77 ok dx_House_mixInto_105 (by decide) ?_
      refine sm_lv [2, 1, 3, 0] rfl ?_
      exact ih _ _ _ _
set_option maxHeartbeats 4000000 in
set_option maxRecDepth 20000 in
theorem tx_House_mixInto_b5 {x : sm_Cx} (ok : sm_Ok x zx_sy prog_4_method_17_code "LentShades$House" 7 0 0) (hr : (xh x).sig.returnType = (some .long)) (N : Nat) (p : Nat) (hp : zx_sy.1 p = (12, 0)) : ∀ (n : Nat) (v3 : Int64) (v5 : Int32) (S : sm_St), sm_Sm x zx_sy prog_4_method_17_code (sm_Q x zx_sy (sm_Pl zx_sy (xw x))) (px_House_mixInto_b5 N p n v3 v5 S) S 5 [(0, .ref ((xw x).2.2 p)), (3, .long v3), (5, .int v5)] [] := by
  intro n
  induction n with
  | zero =>
    intro v3 v5 S
    exact sm_none
  | succ n ih =>
    intro v3 v5 S
    show sm_Sm x zx_sy prog_4_method_17_code (sm_Q x zx_sy (sm_Pl zx_sy (xw x))) (if (S.1 p 9) ≤ v5 then (sm_lt (0 : Int32) (fun (v5_3 : Int32) => px_House_mixInto_b117 N p N v3 v5_3 S)) else (if sm_in v5 4 = true then (sm_lt (((31 : Int64) * v3) + (S.1 (p + 1) v5.toNatClampNeg).toInt64) (fun (v3_4 : Int64) => if sm_in v5 4 = true then (sm_lt (((31 : Int64) * v3_4) + (S.1 (p + 2) v5.toNatClampNeg).toInt64) (fun (v3_5 : Int64) => if sm_in v5 4 = true then (sm_lt (((31 : Int64) * v3_5) + (S.1 (p + 3) v5.toNatClampNeg).toInt64) (fun (v3_6 : Int64) => if sm_in v5 4 = true then (sm_lt (((31 : Int64) * v3_6) + (S.1 (p + 4) v5.toNatClampNeg).toInt64) (fun (v3_7 : Int64) => sm_lt (0 : Int32) (fun (v6_8 : Int32) => px_House_mixInto_b77 N p (px_House_mixInto_b5 N p n) N v3_7 v5 v6_8 S))) else none)) else none)) else none)) else none)) S 5 [(0, .ref ((xw x).2.2 p)), (3, .long v3), (5, .int v5)] []
    refine sm_iload (pc := 5) 2 ok dx_House_mixInto_5 rfl ?_
    refine sm_aload_n (pc := 7) 0 ok dx_House_mixInto_7 rfl ?_
    refine sm_getI (pc := 8) (ci := 2) (k := 9) ok dx_House_mixInto_8 hp rfl zc_i2 (by decide) rfl wd_186 ?_
    refine sm_icmp_ge (pc := 11) 114 ok dx_House_mixInto_11 (by decide) (fun _ => ?_) (fun _ => ?_)
    · refine sm_iconst (pc := 114) (0 : Int32) ok dx_House_mixInto_114 zk_0 ?_
      refine sm_istore (pc := 115) (i := 5) ok dx_House_mixInto_115 (by decide) (fun v => [(5, .int v), (0, .ref ((xw x).2.2 p)), (3, .long v3)]) (fun _ => rfl) (fun v5_3 => ?_)
      refine sm_lv [1, 2, 0] rfl ?_
      exact tx_House_mixInto_b117 ok hr N p hp N _ _ _
    · refine sm_ldc2 (pc := 14) ok dx_House_mixInto_14 wd_985 ?_
      refine sm_lload_n (pc := 17) 1 ok dx_House_mixInto_17 rfl ?_
      refine sm_lmul (pc := 18) ok dx_House_mixInto_18 ?_
      refine sm_aload_n (pc := 19) 0 ok dx_House_mixInto_19 rfl ?_
      refine sm_getR (pc := 20) (ci := 2) (k := 0) ok dx_House_mixInto_20 hp rfl zc_i2 (by decide) rfl wd_160 ?_
      refine sm_iload (pc := 23) 2 ok dx_House_mixInto_23 rfl ?_
      refine sm_iald (pc := 25) ok dx_House_mixInto_25 (zx_House_1 hp) ?_
      refine sm_i2l (pc := 26) ok dx_House_mixInto_26 ?_
      refine sm_ladd (pc := 27) ok dx_House_mixInto_27 ?_
      refine sm_lstore_n (pc := 28) (i := 3) ok dx_House_mixInto_28 rfl (by decide) (fun v => [(3, .long v), (0, .ref ((xw x).2.2 p)), (5, .int v5)]) (fun _ => rfl) (fun v3_4 => ?_)
      refine sm_ldc2 (pc := 29) ok dx_House_mixInto_29 wd_985 ?_
      refine sm_lload_n (pc := 32) 0 ok dx_House_mixInto_32 rfl ?_
      refine sm_lmul (pc := 33) ok dx_House_mixInto_33 ?_
      refine sm_aload_n (pc := 34) 1 ok dx_House_mixInto_34 rfl ?_
      refine sm_getR (pc := 35) (ci := 2) (k := 1) ok dx_House_mixInto_35 hp rfl zc_i2 (by decide) rfl wd_162 ?_
      refine sm_iload (pc := 38) 2 ok dx_House_mixInto_38 rfl ?_
      refine sm_iald (pc := 40) ok dx_House_mixInto_40 (zx_House_2 hp) ?_
      refine sm_i2l (pc := 41) ok dx_House_mixInto_41 ?_
      refine sm_ladd (pc := 42) ok dx_House_mixInto_42 ?_
      refine sm_lstore_n (pc := 43) (i := 3) ok dx_House_mixInto_43 rfl (by decide) (fun v => [(3, .long v), (0, .ref ((xw x).2.2 p)), (5, .int v5)]) (fun _ => rfl) (fun v3_5 => ?_)
      refine sm_ldc2 (pc := 44) ok dx_House_mixInto_44 wd_985 ?_
      refine sm_lload_n (pc := 47) 0 ok dx_House_mixInto_47 rfl ?_
      refine sm_lmul (pc := 48) ok dx_House_mixInto_48 ?_
      refine sm_aload_n (pc := 49) 1 ok dx_House_mixInto_49 rfl ?_
      refine sm_getR (pc := 50) (ci := 2) (k := 2) ok dx_House_mixInto_50 hp rfl zc_i2 (by decide) rfl wd_164 ?_
      refine sm_iload (pc := 53) 2 ok dx_House_mixInto_53 rfl ?_
      refine sm_iald (pc := 55) ok dx_House_mixInto_55 (zx_House_3 hp) ?_
      refine sm_i2l (pc := 56) ok dx_House_mixInto_56 ?_
      refine sm_ladd (pc := 57) ok dx_House_mixInto_57 ?_
      refine sm_lstore_n (pc := 58) (i := 3) ok dx_House_mixInto_58 rfl (by decide) (fun v => [(3, .long v), (0, .ref ((xw x).2.2 p)), (5, .int v5)]) (fun _ => rfl) (fun v3_6 => ?_)
      refine sm_ldc2 (pc := 59) ok dx_House_mixInto_59 wd_985 ?_
      refine sm_lload_n (pc := 62) 0 ok dx_House_mixInto_62 rfl ?_
      refine sm_lmul (pc := 63) ok dx_House_mixInto_63 ?_
      refine sm_aload_n (pc := 64) 1 ok dx_House_mixInto_64 rfl ?_
      refine sm_getR (pc := 65) (ci := 2) (k := 3) ok dx_House_mixInto_65 hp rfl zc_i2 (by decide) rfl wd_167 ?_
      refine sm_iload (pc := 68) 2 ok dx_House_mixInto_68 rfl ?_
      refine sm_iald (pc := 70) ok dx_House_mixInto_70 (zx_House_4 hp) ?_
      refine sm_i2l (pc := 71) ok dx_House_mixInto_71 ?_
      refine sm_ladd (pc := 72) ok dx_House_mixInto_72 ?_
      refine sm_lstore_n (pc := 73) (i := 3) ok dx_House_mixInto_73 rfl (by decide) (fun v => [(3, .long v), (0, .ref ((xw x).2.2 p)), (5, .int v5)]) (fun _ => rfl) (fun v3_7 => ?_)
      refine sm_iconst (pc := 74) (0 : Int32) ok dx_House_mixInto_74 zk_0 ?_
      refine sm_istore (pc := 75) (i := 6) ok dx_House_mixInto_75 (by decide) (fun v => [(6, .int v), (3, .long v3_7), (0, .ref ((xw x).2.2 p)), (5, .int v5)]) (fun _ => rfl) (fun v6_8 => ?_)
      refine sm_lv [2, 1, 3, 0] rfl ?_
      exact tx_House_mixInto_b77 ok hr N p hp ih N _ _ _ _
set_option maxHeartbeats 4000000 in
set_option maxRecDepth 20000 in
theorem tx_House_mixInto {x : sm_Cx} (ok : sm_Ok x zx_sy prog_4_method_17_code "LentShades$House" 7 0 0) (hr : (xh x).sig.returnType = (some .long)) (N : Nat) (S : sm_St) (p : Nat) (v1 : Int64) (hp : zx_sy.1 p = (12, 0)) : sm_Sm x zx_sy prog_4_method_17_code (sm_Q x zx_sy (sm_Pl zx_sy (xw x))) (px_House_mixInto N S p v1) S 0 [(0, .ref ((xw x).2.2 p)), (1, .long v1)] [] := by
  unfold px_House_mixInto
  refine sm_lload_n (pc := 0) 1 ok dx_House_mixInto_0 rfl ?_
  refine sm_lstore_n (pc := 1) (i := 3) ok dx_House_mixInto_1 rfl (by decide) (fun v => [(3, .long v), (0, .ref ((xw x).2.2 p)), (1, .long v1)]) (fun _ => rfl) (fun v3_1 => ?_)
  refine sm_iconst (pc := 2) (0 : Int32) ok dx_House_mixInto_2 zk_0 ?_
  refine sm_istore (pc := 3) (i := 5) ok dx_House_mixInto_3 (by decide) (fun v => [(5, .int v), (3, .long v3_1), (0, .ref ((xw x).2.2 p)), (1, .long v1)]) (fun _ => rfl) (fun v5_2 => ?_)
  refine sm_lv [2, 1, 0] rfl ?_
  exact tx_House_mixInto_b5 ok hr N p hp N _ _ _
theorem cx_House_mixInto {l : Launch} {wc : sm_Wc} (hj : sm_inj zx_sy wc) (N : Nat) (S : sm_St) (p : Nat) (v1 : Int64) (hp : zx_sy.1 p = (12, 0)) : sm_Ct l zx_sy wc yx_House_mixInto prog_4_method_17_code 7 (some .long) 0 0 [.ref (wc.2.2 p), .long v1] S (sm_Pl zx_sy wc) (px_House_mixInto N S p v1) :=
  sm_entry (Pq := fun wc => sm_Pl zx_sy wc) (fun wc => [.ref (wc.2.2 p), .long v1]) (lv := fun wc => [(0, .ref (wc.2.2 p)), (1, .long v1)]) (by decide) hj zx_ok zx_stb (fun _ => Nat.le_of_ble_eq_true rfl) (fun _ => rfl) (fun x _ ok hr => tx_House_mixInto ok hr N S p v1 hp)
set_option maxHeartbeats 4000000 in
set_option maxRecDepth 20000 in
theorem tx_Fraction_mixInto_b67 {x : sm_Cx} (ok : sm_Ok x zx_sy prog_3_method_10_code "LentShades$Fraction" 6 1 21) (hr : (xh x).sig.returnType = (some .long)) (N : Nat) : ∀ (n : Nat) (v3 : Int64) (v5 : Int32) (S : sm_St), sm_Sm x zx_sy prog_3_method_10_code (sm_Q x zx_sy (sm_Pl zx_sy (xw x))) (px_Fraction_mixInto_b67 N n v3 v5 S) S 67 [(0, .ref ((xw x).2.2 104)), (3, .long v3), (5, .int v5)] [] := by
  intro n
  induction n with
  | zero =>
    intro v3 v5 S
    exact sm_none
  | succ n ih =>
    intro v3 v5 S
    show sm_Sm x zx_sy prog_3_method_10_code (sm_Q x zx_sy (sm_Pl zx_sy (xw x))) (if (S.1 104 3) ≤ v5 then (some (v3, S)) else (if sm_in v5 20 = true then (sm_lt (((31 : Int64) * v3) + (S.1 106 v5.toNatClampNeg).toInt64) (fun (v3_11 : Int64) => sm_lt (v5 + (1 : Int32)) (fun (v5_12 : Int32) => (px_Fraction_mixInto_b67 N n) v3_11 v5_12 S))) else none)) S 67 [(0, .ref ((xw x).2.2 104)), (3, .long v3), (5, .int v5)] []
    refine sm_iload (pc := 67) 2 ok dx_Fraction_mixInto_67 rfl ?_
    refine sm_aload_n (pc := 69) 0 ok dx_Fraction_mixInto_69 rfl ?_
    refine sm_getI (pc := 70) (ci := 1) (k := 3) ok dx_Fraction_mixInto_70 rfl rfl zc_i1 (by decide) rfl wd_270 ?_
    refine sm_icmp_ge (pc := 73) 97 ok dx_Fraction_mixInto_73 (by decide) (fun _ => ?_) (fun _ => ?_)
    · refine sm_lload_n (pc := 97) 1 ok dx_Fraction_mixInto_97 rfl ?_
      exact sm_lret (pc := 98) ok dx_Fraction_mixInto_98 hr
    · refine sm_ldc2 (pc := 76) ok dx_Fraction_mixInto_76 wd_990 ?_
      refine sm_lload_n (pc := 79) 1 ok dx_Fraction_mixInto_79 rfl ?_
      refine sm_lmul (pc := 80) ok dx_Fraction_mixInto_80 ?_
      refine sm_aload_n (pc := 81) 0 ok dx_Fraction_mixInto_81 rfl ?_
      refine sm_getR (pc := 82) (ci := 1) (k := 1) ok dx_Fraction_mixInto_82 rfl rfl zc_i1 (by decide) rfl wd_268 ?_
      refine sm_iload (pc := 85) 2 ok dx_Fraction_mixInto_85 rfl ?_
      refine sm_iald (pc := 87) ok dx_Fraction_mixInto_87 rfl ?_
      refine sm_i2l (pc := 88) ok dx_Fraction_mixInto_88 ?_
      refine sm_ladd (pc := 89) ok dx_Fraction_mixInto_89 ?_
      refine sm_lstore_n (pc := 90) (i := 3) ok dx_Fraction_mixInto_90 rfl (by decide) (fun v => [(3, .long v), (0, .ref ((xw x).2.2 104)), (5, .int v5)]) (fun _ => rfl) (fun v3_11 => ?_)
      refine sm_iinc (pc := 91) (i := 5) 2 (1 : Int32) ok dx_Fraction_mixInto_91 rfl zk_1 (by decide) (fun v => [(5, .int v), (3, .long v3_11), (0, .ref ((xw x).2.2 104))]) (fun _ => rfl) (fun v5_12 => ?_)
      refine sm_goto (pc := 94) 67 ok dx_Fraction_mixInto_94 (by decide) ?_
      refine sm_lv [2, 1, 0] rfl ?_
      exact ih _ _ _
set_option maxHeartbeats 4000000 in
set_option maxRecDepth 20000 in
theorem tx_Fraction_mixInto_b34 {x : sm_Cx} (ok : sm_Ok x zx_sy prog_3_method_10_code "LentShades$Fraction" 6 1 21) (hr : (xh x).sig.returnType = (some .long)) (N : Nat) : ∀ (n : Nat) (v3 : Int64) (v5 : Int32) (S : sm_St), sm_Sm x zx_sy prog_3_method_10_code (sm_Q x zx_sy (sm_Pl zx_sy (xw x))) (px_Fraction_mixInto_b34 N n v3 v5 S) S 34 [(0, .ref ((xw x).2.2 104)), (3, .long v3), (5, .int v5)] [] := by
  intro n
  induction n with
  | zero =>
    intro v3 v5 S
    exact sm_none
  | succ n ih =>
    intro v3 v5 S
    show sm_Sm x zx_sy prog_3_method_10_code (sm_Q x zx_sy (sm_Pl zx_sy (xw x))) (if (S.1 104 2) ≤ v5 then (sm_lt (0 : Int32) (fun (v5_8 : Int32) => px_Fraction_mixInto_b67 N N v3 v5_8 S)) else (if sm_in v5 20 = true then (sm_lt (((31 : Int64) * v3) + (S.1 105 v5.toNatClampNeg).toInt64) (fun (v3_9 : Int64) => sm_lt (v5 + (1 : Int32)) (fun (v5_10 : Int32) => (px_Fraction_mixInto_b34 N n) v3_9 v5_10 S))) else none)) S 34 [(0, .ref ((xw x).2.2 104)), (3, .long v3), (5, .int v5)] []
    refine sm_iload (pc := 34) 2 ok dx_Fraction_mixInto_34 rfl ?_
    refine sm_aload_n (pc := 36) 0 ok dx_Fraction_mixInto_36 rfl ?_
    refine sm_getI (pc := 37) (ci := 1) (k := 2) ok dx_Fraction_mixInto_37 rfl rfl zc_i1 (by decide) rfl wd_269 ?_
    refine sm_icmp_ge (pc := 40) 64 ok dx_Fraction_mixInto_40 (by decide) (fun _ => ?_) (fun _ => ?_)
    · refine sm_iconst (pc := 64) (0 : Int32) ok dx_Fraction_mixInto_64 zk_0 ?_
      refine sm_istore (pc := 65) (i := 5) ok dx_Fraction_mixInto_65 (by decide) (fun v => [(5, .int v), (0, .ref ((xw x).2.2 104)), (3, .long v3)]) (fun _ => rfl) (fun v5_8 => ?_)
      refine sm_lv [1, 2, 0] rfl ?_
      exact tx_Fraction_mixInto_b67 ok hr N N _ _ _
    · refine sm_ldc2 (pc := 43) ok dx_Fraction_mixInto_43 wd_990 ?_
      refine sm_lload_n (pc := 46) 1 ok dx_Fraction_mixInto_46 rfl ?_
      refine sm_lmul (pc := 47) ok dx_Fraction_mixInto_47 ?_
      refine sm_aload_n (pc := 48) 0 ok dx_Fraction_mixInto_48 rfl ?_
      refine sm_getR (pc := 49) (ci := 1) (k := 0) ok dx_Fraction_mixInto_49 rfl rfl zc_i1 (by decide) rfl wd_267 ?_
      refine sm_iload (pc := 52) 2 ok dx_Fraction_mixInto_52 rfl ?_
      refine sm_iald (pc := 54) ok dx_Fraction_mixInto_54 rfl ?_
      refine sm_i2l (pc := 55) ok dx_Fraction_mixInto_55 ?_
      refine sm_ladd (pc := 56) ok dx_Fraction_mixInto_56 ?_
      refine sm_lstore_n (pc := 57) (i := 3) ok dx_Fraction_mixInto_57 rfl (by decide) (fun v => [(3, .long v), (0, .ref ((xw x).2.2 104)), (5, .int v5)]) (fun _ => rfl) (fun v3_9 => ?_)
      refine sm_iinc (pc := 58) (i := 5) 2 (1 : Int32) ok dx_Fraction_mixInto_58 rfl zk_1 (by decide) (fun v => [(5, .int v), (3, .long v3_9), (0, .ref ((xw x).2.2 104))]) (fun _ => rfl) (fun v5_10 => ?_)
      refine sm_goto (pc := 61) 34 ok dx_Fraction_mixInto_61 (by decide) ?_
      refine sm_lv [2, 1, 0] rfl ?_
      exact ih _ _ _
set_option maxHeartbeats 4000000 in
set_option maxRecDepth 20000 in
theorem tx_Fraction_mixInto_b5 {x : sm_Cx} (ok : sm_Ok x zx_sy prog_3_method_10_code "LentShades$Fraction" 6 1 21) (hr : (xh x).sig.returnType = (some .long)) (N : Nat) : ∀ (n : Nat) (v3 : Int64) (v5 : Int32) (S : sm_St), sm_Sm x zx_sy prog_3_method_10_code (sm_Q x zx_sy (sm_Pl zx_sy (xw x))) (px_Fraction_mixInto_b5 N n v3 v5 S) S 5 [(0, .ref ((xw x).2.2 104)), (3, .long v3), (5, .int v5)] [] := by
  intro n
  induction n with
  | zero =>
    intro v3 v5 S
    exact sm_none
  | succ n ih =>
    intro v3 v5 S
    show sm_Sm x zx_sy prog_3_method_10_code (sm_Q x zx_sy (sm_Pl zx_sy (xw x))) (if (2 : Int32) < v5 then (sm_lt (0 : Int32) (fun (v5_3 : Int32) => px_Fraction_mixInto_b34 N N v3 v5_3 S)) else (sm_b2 (px_Fraction_size N S v5) (fun (r_5 : Int32) (S_4 : sm_St) => sm_lt (((31 : Int64) * v3) + r_5.toInt64) (fun (v3_6 : Int64) => sm_lt (v5 + (1 : Int32)) (fun (v5_7 : Int32) => (px_Fraction_mixInto_b5 N n) v3_6 v5_7 S_4))))) S 5 [(0, .ref ((xw x).2.2 104)), (3, .long v3), (5, .int v5)] []
    refine sm_iload (pc := 5) 2 ok dx_Fraction_mixInto_5 rfl ?_
    refine sm_iconst (pc := 7) (2 : Int32) ok dx_Fraction_mixInto_7 zk_2 ?_
    refine sm_icmp_gt (pc := 8) 31 ok dx_Fraction_mixInto_8 (by decide) (fun _ => ?_) (fun _ => ?_)
    · refine sm_iconst (pc := 31) (0 : Int32) ok dx_Fraction_mixInto_31 zk_0 ?_
      refine sm_istore (pc := 32) (i := 5) ok dx_Fraction_mixInto_32 (by decide) (fun v => [(5, .int v), (0, .ref ((xw x).2.2 104)), (3, .long v3)]) (fun _ => rfl) (fun v5_3 => ?_)
      refine sm_lv [1, 2, 0] rfl ?_
      exact tx_Fraction_mixInto_b34 ok hr N N _ _ _
    · refine sm_ldc2 (pc := 11) ok dx_Fraction_mixInto_11 wd_990 ?_
      refine sm_lload_n (pc := 14) 1 ok dx_Fraction_mixInto_14 rfl ?_
      refine sm_lmul (pc := 15) ok dx_Fraction_mixInto_15 ?_
      refine sm_aload_n (pc := 16) 0 ok dx_Fraction_mixInto_16 rfl ?_
      refine sm_iload (pc := 17) 2 ok dx_Fraction_mixInto_17 rfl ?_
      refine sm_callV_i (pc := 19) (ci := 1) [.int v5] ok dx_Fraction_mixInto_19 wd_991 mwx_Fraction_size rfl rfl (Nat.le_of_ble_eq_true rfl) (Nat.le_of_ble_eq_true rfl) rfl rfl (Nat.le_of_ble_eq_true rfl) (cx_Fraction_size (sm_okj ok) N S v5) (fun r_5 S_4 => ?_)
      refine sm_i2l (pc := 22) ok dx_Fraction_mixInto_22 ?_
      refine sm_ladd (pc := 23) ok dx_Fraction_mixInto_23 ?_
      refine sm_lstore_n (pc := 24) (i := 3) ok dx_Fraction_mixInto_24 rfl (by decide) (fun v => [(3, .long v), (0, .ref ((xw x).2.2 104)), (5, .int v5)]) (fun _ => rfl) (fun v3_6 => ?_)
      refine sm_iinc (pc := 25) (i := 5) 2 (1 : Int32) ok dx_Fraction_mixInto_25 rfl zk_1 (by decide) (fun v => [(5, .int v), (3, .long v3_6), (0, .ref ((xw x).2.2 104))]) (fun _ => rfl) (fun v5_7 => ?_)
      refine sm_goto (pc := 28) 5 ok dx_Fraction_mixInto_28 (by decide) ?_
      refine sm_lv [2, 1, 0] rfl ?_
      exact ih _ _ _
set_option maxHeartbeats 4000000 in
set_option maxRecDepth 20000 in
theorem tx_Fraction_mixInto {x : sm_Cx} (ok : sm_Ok x zx_sy prog_3_method_10_code "LentShades$Fraction" 6 1 21) (hr : (xh x).sig.returnType = (some .long)) (N : Nat) (S : sm_St) (v1 : Int64) : sm_Sm x zx_sy prog_3_method_10_code (sm_Q x zx_sy (sm_Pl zx_sy (xw x))) (px_Fraction_mixInto N S v1) S 0 [(0, .ref ((xw x).2.2 104)), (1, .long v1)] [] := by
  unfold px_Fraction_mixInto
  refine sm_lload_n (pc := 0) 1 ok dx_Fraction_mixInto_0 rfl ?_
  refine sm_lstore_n (pc := 1) (i := 3) ok dx_Fraction_mixInto_1 rfl (by decide) (fun v => [(3, .long v), (0, .ref ((xw x).2.2 104)), (1, .long v1)]) (fun _ => rfl) (fun v3_1 => ?_)
  refine sm_iconst (pc := 2) (0 : Int32) ok dx_Fraction_mixInto_2 zk_0 ?_
  refine sm_istore (pc := 3) (i := 5) ok dx_Fraction_mixInto_3 (by decide) (fun v => [(5, .int v), (3, .long v3_1), (0, .ref ((xw x).2.2 104)), (1, .long v1)]) (fun _ => rfl) (fun v5_2 => ?_)
  refine sm_lv [2, 1, 0] rfl ?_
  exact tx_Fraction_mixInto_b5 ok hr N N _ _ _
theorem cx_Fraction_mixInto {l : Launch} {wc : sm_Wc} (hj : sm_inj zx_sy wc) (N : Nat) (S : sm_St) (v1 : Int64) : sm_Ct l zx_sy wc yx_Fraction_mixInto prog_3_method_10_code 6 (some .long) 1 21 [.ref (wc.2.2 104), .long v1] S (sm_Pl zx_sy wc) (px_Fraction_mixInto N S v1) :=
  sm_entry (Pq := fun wc => sm_Pl zx_sy wc) (fun wc => [.ref (wc.2.2 104), .long v1]) (lv := fun wc => [(0, .ref (wc.2.2 104)), (1, .long v1)]) (by decide) hj zx_ok zx_stb (fun _ => Nat.le_of_ble_eq_true rfl) (fun _ => rfl) (fun x _ ok hr => tx_Fraction_mixInto ok hr N S v1)
set_option maxHeartbeats 4000000 in
set_option maxRecDepth 20000 in
theorem tx_L_digest_b6 {x : sm_Cx} (ok : sm_Ok x zx_sy prog_1_method_30_code "LentShades" 4 2 46) (hr : (xh x).sig.returnType = (some .long)) (N : Nat) : ∀ (n : Nat) (v1 : Int64) (v3 : Int32) (S : sm_St), sm_Sm x zx_sy prog_1_method_30_code (sm_Q x zx_sy (sm_Pl zx_sy (xw x))) (px_L_digest_b6 N n v1 v3 S) S 6 [(0, .ref ((xw x).2.2 0)), (1, .long v1), (3, .int v3)] [] := by
  intro n
  induction n with
  | zero =>
    intro v1 v3 S
    exact sm_none
  | succ n ih =>
    intro v1 v3 S
    show sm_Sm x zx_sy prog_1_method_30_code (sm_Q x zx_sy (sm_Pl zx_sy (xw x))) (if (5 : Int32) < v3 then (sm_b2 (px_House_mixInto N S 1 v1) (fun (r_4 : Int64) (S_3 : sm_St) => sm_b2 (px_Fraction_mixInto N S_3 r_4) (fun (r_6 : Int64) (S_5 : sm_St) => some (r_6, S_5)))) else (sm_b2 (px_L_howMany N S v3) (fun (r_8 : Int32) (S_7 : sm_St) => sm_lt (((31 : Int64) * v1) + r_8.toInt64) (fun (v1_9 : Int64) => sm_lt (v3 + (1 : Int32)) (fun (v3_10 : Int32) => (px_L_digest_b6 N n) v1_9 v3_10 S_7))))) S 6 [(0, .ref ((xw x).2.2 0)), (1, .long v1), (3, .int v3)] []
    refine sm_iload_n (pc := 6) 2 ok dx_L_digest_6 rfl ?_
    refine sm_iconst (pc := 7) (5 : Int32) ok dx_L_digest_7 zk_5 ?_
    refine sm_icmp_gt (pc := 8) 30 ok dx_L_digest_8 (by decide) (fun _ => ?_) (fun _ => ?_)
    · refine sm_aload_n (pc := 30) 0 ok dx_L_digest_30 rfl ?_
      refine sm_getR (pc := 31) (ci := 9) (k := 4) ok dx_L_digest_31 rfl rfl zc_i9 (by decide) rfl wd_404 ?_
      refine sm_aload_n (pc := 34) 0 ok dx_L_digest_34 rfl ?_
      refine sm_getR (pc := 35) (ci := 9) (k := 0) ok dx_L_digest_35 rfl rfl zc_i9 (by decide) rfl wd_400 ?_
      refine sm_lload_n (pc := 38) 1 ok dx_L_digest_38 rfl ?_
      refine sm_callV_l (pc := 39) (ci := 2) [.long v1] ok dx_L_digest_39 wd_981 mwx_House_mixInto rfl rfl (Nat.le_of_ble_eq_true rfl) (Nat.le_of_ble_eq_true rfl) rfl rfl (Nat.le_of_ble_eq_true rfl) (cx_House_mixInto (sm_okj ok) N S 1 v1 rfl) (fun r_4 S_3 => ?_)
      refine sm_callV_l (pc := 42) (ci := 1) [.long r_4] ok dx_L_digest_42 wd_986 mwx_Fraction_mixInto rfl rfl (Nat.le_of_ble_eq_true rfl) (Nat.le_of_ble_eq_true rfl) rfl rfl (Nat.le_of_ble_eq_true rfl) (cx_Fraction_mixInto (sm_okj ok) N S_3 r_4) (fun r_6 S_5 => ?_)
      exact sm_lret (pc := 45) ok dx_L_digest_45 hr
    · refine sm_ldc2 (pc := 11) ok dx_L_digest_11 wd_980 ?_
      refine sm_lload_n (pc := 14) 1 ok dx_L_digest_14 rfl ?_
      refine sm_lmul (pc := 15) ok dx_L_digest_15 ?_
      refine sm_aload_n (pc := 16) 0 ok dx_L_digest_16 rfl ?_
      refine sm_iload_n (pc := 17) 2 ok dx_L_digest_17 rfl ?_
      refine sm_callV_i (pc := 18) (ci := 9) [.int v3] ok dx_L_digest_18 wd_971 mwx_L_howMany rfl rfl (Nat.le_of_ble_eq_true rfl) (Nat.le_of_ble_eq_true rfl) rfl rfl (Nat.le_of_ble_eq_true rfl) (cx_L_howMany (sm_okj ok) N S v3) (fun r_8 S_7 => ?_)
      refine sm_i2l (pc := 21) ok dx_L_digest_21 ?_
      refine sm_ladd (pc := 22) ok dx_L_digest_22 ?_
      refine sm_lstore_n (pc := 23) (i := 1) ok dx_L_digest_23 rfl (by decide) (fun v => [(1, .long v), (0, .ref ((xw x).2.2 0)), (3, .int v3)]) (fun _ => rfl) (fun v1_9 => ?_)
      refine sm_iinc (pc := 24) (i := 3) 2 (1 : Int32) ok dx_L_digest_24 rfl zk_1 (by decide) (fun v => [(3, .int v), (1, .long v1_9), (0, .ref ((xw x).2.2 0))]) (fun _ => rfl) (fun v3_10 => ?_)
      refine sm_goto (pc := 27) 6 ok dx_L_digest_27 (by decide) ?_
      refine sm_lv [2, 1, 0] rfl ?_
      exact ih _ _ _
set_option maxHeartbeats 4000000 in
set_option maxRecDepth 20000 in
theorem tx_L_digest {x : sm_Cx} (ok : sm_Ok x zx_sy prog_1_method_30_code "LentShades" 4 2 46) (hr : (xh x).sig.returnType = (some .long)) (N : Nat) (S : sm_St) : sm_Sm x zx_sy prog_1_method_30_code (sm_Q x zx_sy (sm_Pl zx_sy (xw x))) (px_L_digest N S) S 0 [(0, .ref ((xw x).2.2 0))] [] := by
  unfold px_L_digest
  refine sm_ldc2 (pc := 0) ok dx_L_digest_0 wd_979 ?_
  refine sm_lstore_n (pc := 3) (i := 1) ok dx_L_digest_3 rfl (by decide) (fun v => [(1, .long v), (0, .ref ((xw x).2.2 0))]) (fun _ => rfl) (fun v1_1 => ?_)
  refine sm_iconst (pc := 4) (0 : Int32) ok dx_L_digest_4 zk_0 ?_
  refine sm_istore_n (pc := 5) (i := 3) ok dx_L_digest_5 rfl (by decide) (fun v => [(3, .int v), (1, .long v1_1), (0, .ref ((xw x).2.2 0))]) (fun _ => rfl) (fun v3_2 => ?_)
  refine sm_lv [2, 1, 0] rfl ?_
  exact tx_L_digest_b6 ok hr N N _ _ _
theorem cx_L_digest {l : Launch} {wc : sm_Wc} (hj : sm_inj zx_sy wc) (N : Nat) (S : sm_St) : sm_Ct l zx_sy wc yx_L_digest prog_1_method_30_code 4 (some .long) 2 46 [.ref (wc.2.2 0)] S (sm_Pl zx_sy wc) (px_L_digest N S) :=
  sm_entry (Pq := fun wc => sm_Pl zx_sy wc) (fun wc => [.ref (wc.2.2 0)]) (lv := fun wc => [(0, .ref (wc.2.2 0))]) (by decide) hj zx_ok zx_stb (fun _ => Nat.le_of_ble_eq_true rfl) (fun _ => rfl) (fun x _ ok hr => tx_L_digest ok hr N S)
