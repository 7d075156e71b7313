set_option maxHeartbeats 4000000 in
set_option maxRecDepth 20000 in
theorem tx_Takings_behind_b30 {x : sm_Cx} (ok : sm_Ok x zx_sy prog_10_method_5_code "LentShades$Takings" 6 3 80) (hr : (xh x).sig.returnType = (some (.object "LentShades$Shades"))) (N : Nat) (q1 : Nat) (hq1 : zx_sy.1 q1 = (16, 0)) {r5 : Int32 → Nat → Int32 → sm_St → Option (Nat × sm_St)} (h5 : ∀ (v2 : Int32) (a3 : Nat) (v4 : Int32) (S : sm_St) (ha3 : zx_sy.1 a3 = (16, 0)), sm_Sm x zx_sy prog_10_method_5_code (sm_Q x zx_sy (sm_Pr zx_sy (xw x))) (r5 v2 a3 v4 S) S 5 [(0, .ref ((xw x).2.2 110)), (2, .int v2), (3, .ref ((xw x).2.2 a3)), (4, .int v4)] []) (v2 : Int32) (a3 : Nat) (v4 : Int32) (b0 : Nat) (S : sm_St) (ha3 : zx_sy.1 a3 = (16, 0)) (hb0 : zx_sy.1 b0 = (16, 0)) : sm_Sm x zx_sy prog_10_method_5_code (sm_Q x zx_sy (sm_Pr zx_sy (xw x))) (px_Takings_behind_b30 N q1 r5 v2 a3 v4 b0 S) S 30 [(0, .ref ((xw x).2.2 110)), (2, .int v2), (3, .ref ((xw x).2.2 a3)), (4, .int v4)] [.ref ((xw x).2.2 b0)] := by
  unfold px_Takings_behind_b30
  refine sm_astore (pc := 30) (i := 5) ok dx_Takings_behind_30 (by decide) [(5, .ref ((xw x).2.2 b0)), (0, .ref ((xw x).2.2 110)), (2, .int v2), (3, .ref ((xw x).2.2 a3)), (4, .int v4)] rfl ?_
  refine sm_aload_n (pc := 32) 1 ok dx_Takings_behind_32 rfl ?_
  refine sm_aload_n (pc := 33) 3 ok dx_Takings_behind_33 rfl ?_
  refine sm_aload (pc := 34) 0 ok dx_Takings_behind_34 rfl ?_
  refine sm_callV_v (pc := 36) (ci := 8) [.ref ((xw x).2.2 a3), .ref ((xw x).2.2 b0)] ok dx_Takings_behind_36 wd_654 mwx_Takings_night rfl rfl (Nat.le_of_ble_eq_true rfl) (Nat.le_of_ble_eq_true rfl) rfl rfl (Nat.le_of_ble_eq_true rfl) (cx_Takings_night (sm_okj ok) N S a3 b0 ha3 hb0) (fun S_2 => ?_)
  refine sm_aload (pc := 39) 0 ok dx_Takings_behind_39 rfl ?_
  refine sm_astore_n (pc := 41) (i := 3) ok dx_Takings_behind_41 rfl (by decide) [(3, .ref ((xw x).2.2 b0)), (5, .ref ((xw x).2.2 b0)), (0, .ref ((xw x).2.2 110)), (2, .int v2), (4, .int v4)] rfl ?_
  refine sm_iinc (pc := 42) (i := 4) 4 (1 : Int32) ok dx_Takings_behind_42 rfl zk_1 (by decide) (fun v => [(4, .int v), (3, .ref ((xw x).2.2 b0)), (5, .ref ((xw x).2.2 b0)), (0, .ref ((xw x).2.2 110)), (2, .int v2)]) (fun _ => rfl) (fun v4_3 => ?_)
  refine sm_goto (pc := 45) 5 ok dx_Takings_behind_45 (by decide) ?_
  refine sm_lv [3, 4, 1, 0] rfl ?_
  exact h5 _ _ _ _ hb0
set_option maxHeartbeats 4000000 in
set_option maxRecDepth 20000 in
theorem tx_Takings_behind_b5 {x : sm_Cx} (ok : sm_Ok x zx_sy prog_10_method_5_code "LentShades$Takings" 6 3 80) (hr : (xh x).sig.returnType = (some (.object "LentShades$Shades"))) (N : Nat) (q1 : Nat) (hq1 : zx_sy.1 q1 = (16, 0)) : ∀ (n : Nat) (v2 : Int32) (a3 : Nat) (v4 : Int32) (S : sm_St) (ha3 : zx_sy.1 a3 = (16, 0)), sm_Sm x zx_sy prog_10_method_5_code (sm_Q x zx_sy (sm_Pr zx_sy (xw x))) (px_Takings_behind_b5 N q1 n v2 a3 v4 S) S 5 [(0, .ref ((xw x).2.2 110)), (2, .int v2), (3, .ref ((xw x).2.2 a3)), (4, .int v4)] [] := by
  intro n
  induction n with
  | zero =>
    intro v2 a3 v4 S ha3
    exact sm_none
  | succ n ih =>
    intro v2 a3 v4 S ha3
    show sm_Sm x zx_sy prog_10_method_5_code (sm_Q x zx_sy (sm_Pr zx_sy (xw x))) (if v2 ≤ v4 then (some (a3, S)) else (if a3 = 122 then (px_Takings_behind_b30 N q1 (px_Takings_behind_b5 N q1 n) v2 a3 v4 124 S) else (px_Takings_behind_b30 N q1 (px_Takings_behind_b5 N q1 n) v2 a3 v4 122 S))) S 5 [(0, .ref ((xw x).2.2 110)), (2, .int v2), (3, .ref ((xw x).2.2 a3)), (4, .int v4)] []
    refine sm_iload (pc := 5) 3 ok dx_Takings_behind_5 rfl ?_
    refine sm_iload_n (pc := 7) 1 ok dx_Takings_behind_7 rfl ?_
    refine sm_icmp_ge (pc := 8) 48 ok dx_Takings_behind_8 (by decide) (fun _ => ?_) (fun _ => ?_)
    · refine sm_aload_n (pc := 48) 2 ok dx_Takings_behind_48 rfl ?_
      exact sm_aret (pc := 49) ok dx_Takings_behind_49 hr
    · refine sm_aload_n (pc := 11) 2 ok dx_Takings_behind_11 rfl ?_
      refine sm_aload_n (pc := 12) 0 ok dx_Takings_behind_12 rfl ?_
      refine sm_getR (pc := 13) (ci := 8) (k := 7) ok dx_Takings_behind_13 rfl rfl zc_i8 (by decide) rfl wd_319 ?_
      refine sm_acmp_ne (pc := 16) (t1 := 6) (t2 := 6) 26 ok dx_Takings_behind_16 (by decide) ha3 rfl (fun _ => ?_) (fun _ => ?_)
      · refine sm_aload_n (pc := 26) 0 ok dx_Takings_behind_26 rfl ?_
        refine sm_getR (pc := 27) (ci := 8) (k := 7) ok dx_Takings_behind_27 rfl rfl zc_i8 (by decide) rfl wd_319 ?_
        exact tx_Takings_behind_b30 ok hr N q1 hq1 ih _ _ _ _ _ ha3 rfl
      · refine sm_aload_n (pc := 19) 0 ok dx_Takings_behind_19 rfl ?_
        refine sm_getR (pc := 20) (ci := 8) (k := 8) ok dx_Takings_behind_20 rfl rfl zc_i8 (by decide) rfl wd_320 ?_
        refine sm_goto (pc := 23) 30 ok dx_Takings_behind_23 (by decide) ?_
        exact tx_Takings_behind_b30 ok hr N q1 hq1 ih _ _ _ _ _ ha3 rfl
set_option maxHeartbeats 4000000 in
set_option maxRecDepth 20000 in
theorem tx_Takings_behind {x : sm_Cx} (ok : sm_Ok x zx_sy prog_10_method_5_code "LentShades$Takings" 6 3 80) (hr : (xh x).sig.returnType = (some (.object "LentShades$Shades"))) (N : Nat) (S : sm_St) (q1 : Nat) (v2 : Int32) (hq1 : zx_sy.1 q1 = (16, 0)) : sm_Sm x zx_sy prog_10_method_5_code (sm_Q x zx_sy (sm_Pr zx_sy (xw x))) (px_Takings_behind N S q1 v2) S 0 [(0, .ref ((xw x).2.2 110)), (1, .ref ((xw x).2.2 q1)), (2, .int v2)] [] := by
  unfold px_Takings_behind
  refine sm_aload_n (pc := 0) 1 ok dx_Takings_behind_0 rfl ?_
  refine sm_astore_n (pc := 1) (i := 3) ok dx_Takings_behind_1 rfl (by decide) [(3, .ref ((xw x).2.2 q1)), (0, .ref ((xw x).2.2 110)), (1, .ref ((xw x).2.2 q1)), (2, .int v2)] rfl ?_
  refine sm_iconst (pc := 2) (0 : Int32) ok dx_Takings_behind_2 zk_0 ?_
  refine sm_istore (pc := 3) (i := 4) ok dx_Takings_behind_3 (by decide) (fun v => [(4, .int v), (3, .ref ((xw x).2.2 q1)), (0, .ref ((xw x).2.2 110)), (1, .ref ((xw x).2.2 q1)), (2, .int v2)]) (fun _ => rfl) (fun v4_1 => ?_)
  refine sm_lv [2, 4, 1, 0] rfl ?_
  exact tx_Takings_behind_b5 ok hr N q1 hq1 N _ _ _ _ hq1
theorem cx_Takings_behind {l : Launch} {wc : sm_Wc} (hj : sm_inj zx_sy wc) (N : Nat) (S : sm_St) (q1 : Nat) (v2 : Int32) (hq1 : zx_sy.1 q1 = (16, 0)) : sm_Ct l zx_sy wc yx_Takings_behind prog_10_method_5_code 6 (some (.object "LentShades$Shades")) 3 80 [.ref (wc.2.2 110), .ref (wc.2.2 q1), .int v2] S (sm_Pr zx_sy wc) (px_Takings_behind N S q1 v2) :=
  sm_entry (Pq := fun wc => sm_Pr zx_sy wc) (fun wc => [.ref (wc.2.2 110), .ref (wc.2.2 q1), .int v2]) (lv := fun wc => [(0, .ref (wc.2.2 110)), (1, .ref (wc.2.2 q1)), (2, .int v2)]) (by decide) hj zx_ok zx_stb (fun _ => Nat.le_of_ble_eq_true rfl) (fun _ => rfl) (fun x _ ok hr => tx_Takings_behind ok hr N S q1 v2 hq1)
set_option maxHeartbeats 4000000 in
set_option maxRecDepth 20000 in
theorem tx_Fraction_trimmed_b2 {x : sm_Cx} (ok : sm_Ok x zx_sy prog_3_method_7_code "LentShades$Fraction" 3 0 0) (hr : (xh x).sig.returnType = (some .int)) (N : Nat) (q0 : Nat) (hq0 : (zx_sy.1 q0).1 = 0) : ∀ (n : Nat) (v2 : Int32) (S : sm_St), sm_Sm x zx_sy prog_3_method_7_code (sm_Q x zx_sy (sm_Pi zx_sy (xw x))) (px_Fraction_trimmed_b2 N q0 n v2 S) S 2 [(0, .ref ((xw x).2.2 q0)), (2, .int v2)] [] := by
  intro n
  induction n with
  | zero =>
    intro v2 S
    exact sm_none
  | succ n ih =>
    intro v2 S
    show sm_Sm x zx_sy prog_3_method_7_code (sm_Q x zx_sy (sm_Pi zx_sy (xw x))) (if v2 ≤ 0 then (some (v2, S)) else (if sm_in (v2 - (1 : Int32)) (zx_sy.1 q0).2 = true then (if (S.1 q0 (v2 - (1 : Int32)).toNatClampNeg) = 0 then (sm_lt (v2 + (-1 : Int32)) (fun (v2_2 : Int32) => (px_Fraction_trimmed_b2 N q0 n) v2_2 S)) else (some (v2, S))) else none)) S 2 [(0, .ref ((xw x).2.2 q0)), (2, .int v2)] []
    refine sm_iload_n (pc := 2) 1 ok dx_Fraction_trimmed_2 rfl ?_
    refine sm_if_le (pc := 3) 20 ok dx_Fraction_trimmed_3 (by decide) (fun _ => ?_) (fun _ => ?_)
    · refine sm_iload_n (pc := 20) 1 ok dx_Fraction_trimmed_20 rfl ?_
      exact sm_iret (pc := 21) ok dx_Fraction_trimmed_21 hr
    · refine sm_aload_n (pc := 6) 0 ok dx_Fraction_trimmed_6 rfl ?_
      refine sm_iload_n (pc := 7) 1 ok dx_Fraction_trimmed_7 rfl ?_
      refine sm_iconst (pc := 8) (1 : Int32) ok dx_Fraction_trimmed_8 zk_1 ?_
      refine sm_isub (pc := 9) ok dx_Fraction_trimmed_9 ?_
      refine sm_iald (pc := 10) ok dx_Fraction_trimmed_10 (sm_sh0 hq0) ?_
      refine sm_if_ne (pc := 11) 20 ok dx_Fraction_trimmed_11 (by decide) (fun _ => ?_) (fun _ => ?_)
      · refine sm_iload_n (pc := 20) 1 ok dx_Fraction_trimmed_20 rfl ?_
        exact sm_iret (pc := 21) ok dx_Fraction_trimmed_21 hr
      · refine sm_iinc (pc := 14) (i := 2) 1 (-1 : Int32) ok dx_Fraction_trimmed_14 rfl zk_m1 (by decide) (fun v => [(2, .int v), (0, .ref ((xw x).2.2 q0))]) (fun _ => rfl) (fun v2_2 => ?_)
        refine sm_goto (pc := 17) 2 ok dx_Fraction_trimmed_17 (by decide) ?_
        refine sm_lv [1, 0] rfl ?_
        exact ih _ _
set_option maxHeartbeats 4000000 in
set_option maxRecDepth 20000 in
theorem tx_Fraction_trimmed {x : sm_Cx} (ok : sm_Ok x zx_sy prog_3_method_7_code "LentShades$Fraction" 3 0 0) (hr : (xh x).sig.returnType = (some .int)) (N : Nat) (S : sm_St) (q0 : Nat) (v1 : Int32) (hq0 : (zx_sy.1 q0).1 = 0) : sm_Sm x zx_sy prog_3_method_7_code (sm_Q x zx_sy (sm_Pi zx_sy (xw x))) (px_Fraction_trimmed N S q0 v1) S 0 [(0, .ref ((xw x).2.2 q0)), (1, .int v1)] [] := by
  unfold px_Fraction_trimmed
  refine sm_iload_n (pc := 0) 1 ok dx_Fraction_trimmed_0 rfl ?_
  refine sm_istore_n (pc := 1) (i := 2) ok dx_Fraction_trimmed_1 rfl (by decide) (fun v => [(2, .int v), (0, .ref ((xw x).2.2 q0)), (1, .int v1)]) (fun _ => rfl) (fun v2_1 => ?_)
  refine sm_lv [1, 0] rfl ?_
  exact tx_Fraction_trimmed_b2 ok hr N q0 hq0 N _ _
theorem cx_Fraction_trimmed {l : Launch} {wc : sm_Wc} (hj : sm_inj zx_sy wc) (N : Nat) (S : sm_St) (q0 : Nat) (v1 : Int32) (hq0 : (zx_sy.1 q0).1 = 0) : sm_Ct l zx_sy wc yx_Fraction_trimmed prog_3_method_7_code 3 (some .int) 0 0 [.ref (wc.2.2 q0), .int v1] S (sm_Pi zx_sy wc) (px_Fraction_trimmed N S q0 v1) :=
  sm_entry (Pq := fun wc => sm_Pi zx_sy wc) (fun wc => [.ref (wc.2.2 q0), .int v1]) (lv := fun wc => [(0, .ref (wc.2.2 q0)), (1, .int v1)]) (by decide) hj zx_ok zx_stb (fun _ => Nat.le_of_ble_eq_true rfl) (fun _ => rfl) (fun x _ ok hr => tx_Fraction_trimmed ok hr N S q0 v1 hq0)
set_option maxHeartbeats 4000000 in
set_option maxRecDepth 20000 in
theorem tx_Fraction_remainder_b36 {x : sm_Cx} (ok : sm_Ok x zx_sy prog_3_method_5_code "LentShades$Fraction" 6 0 0) (hr : (xh x).sig.returnType = (some .int)) (N : Nat) (q0 : Nat) (hq0 : (zx_sy.1 q0).1 = 0) (v3 : Int64) (S : sm_St) : sm_Sm x zx_sy prog_3_method_5_code (sm_Q x zx_sy (sm_Pi zx_sy (xw x))) (px_Fraction_remainder_b36 N q0 v3 S) S 36 [(3, .long v3)] [] := by
  unfold px_Fraction_remainder_b36
  refine sm_lload_n (pc := 36) 0 ok dx_Fraction_remainder_36 rfl ?_
  refine sm_l2i (pc := 37) ok dx_Fraction_remainder_37 ?_
  exact sm_iret (pc := 38) ok dx_Fraction_remainder_38 hr
set_option maxHeartbeats 4000000 in
set_option maxRecDepth 20000 in
theorem tx_Fraction_remainder_b7 {x : sm_Cx} (ok : sm_Ok x zx_sy prog_3_method_5_code "LentShades$Fraction" 6 0 0) (hr : (xh x).sig.returnType = (some .int)) (N : Nat) (q0 : Nat) (hq0 : (zx_sy.1 q0).1 = 0) : ∀ (n : Nat) (v2 : Int32) (v3 : Int64) (v5 : Int32) (S : sm_St), sm_Sm x zx_sy prog_3_method_5_code (sm_Q x zx_sy (sm_Pi zx_sy (xw x))) (px_Fraction_remainder_b7 N q0 n v2 v3 v5 S) S 7 [(0, .ref ((xw x).2.2 q0)), (2, .int v2), (3, .long v3), (5, .int v5)] [] := by
  intro n
  induction n with
  | zero =>
    intro v2 v3 v5 S
    exact sm_none
  | succ n ih =>
    intro v2 v3 v5 S
    show sm_Sm x zx_sy prog_3_method_5_code (sm_Q x zx_sy (sm_Pi zx_sy (xw x))) (if v5 < 0 then (px_Fraction_remainder_b36 N q0 v3 S) else (if v2 ≤ 0 then (px_Fraction_remainder_b36 N q0 v3 S) else (if sm_in v5 (zx_sy.1 q0).2 = true then (if v2.toInt64 = 0 then none else (sm_lt (((v3 <<< ((30 : Int32).toInt64 &&& 63)) + (S.1 q0 v5.toNatClampNeg).toInt64) - ((v3 <<< ((30 : Int32).toInt64 &&& 63)) + (S.1 q0 v5.toNatClampNeg).toInt64) / v2.toInt64 * v2.toInt64) (fun (v3_3 : Int64) => sm_lt (v5 + (-1 : Int32)) (fun (v5_4 : Int32) => (px_Fraction_remainder_b7 N q0 n) v2 v3_3 v5_4 S)))) else none))) S 7 [(0, .ref ((xw x).2.2 q0)), (2, .int v2), (3, .long v3), (5, .int v5)] []
    refine sm_iload (pc := 7) 3 ok dx_Fraction_remainder_7 rfl ?_
    refine sm_if_lt (pc := 9) 36 ok dx_Fraction_remainder_9 (by decide) (fun _ => ?_) (fun _ => ?_)
    · refine sm_lv [2] rfl ?_
      exact tx_Fraction_remainder_b36 ok hr N q0 hq0 _ _
    · refine sm_iload_n (pc := 12) 1 ok dx_Fraction_remainder_12 rfl ?_
      refine sm_if_le (pc := 13) 36 ok dx_Fraction_remainder_13 (by decide) (fun _ => ?_) (fun _ => ?_)
      · refine sm_lv [2] rfl ?_
        exact tx_Fraction_remainder_b36 ok hr N q0 hq0 _ _
      · refine sm_lload_n (pc := 16) 2 ok dx_Fraction_remainder_16 rfl ?_
        refine sm_bipush (pc := 17) (30 : Int32) ok dx_Fraction_remainder_17 zb_30 ?_
        refine sm_lshl (pc := 19) ok dx_Fraction_remainder_19 ?_
        refine sm_aload_n (pc := 20) 0 ok dx_Fraction_remainder_20 rfl ?_
        refine sm_iload (pc := 21) 3 ok dx_Fraction_remainder_21 rfl ?_
        refine sm_iald (pc := 23) ok dx_Fraction_remainder_23 (sm_sh0 hq0) ?_
        refine sm_i2l (pc := 24) ok dx_Fraction_remainder_24 ?_
        refine sm_ladd (pc := 25) ok dx_Fraction_remainder_25 ?_
        refine sm_iload_n (pc := 26) 1 ok dx_Fraction_remainder_26 rfl ?_
        refine sm_i2l (pc := 27) ok dx_Fraction_remainder_27 ?_
        refine sm_lrem (pc := 28) ok dx_Fraction_remainder_28 ?_
        refine sm_lstore_n (pc := 29) (i := 3) ok dx_Fraction_remainder_29 rfl (by decide) (fun v => [(3, .long v), (0, .ref ((xw x).2.2 q0)), (2, .int v2), (5, .int v5)]) (fun _ => rfl) (fun v3_3 => ?_)
        refine sm_iinc (pc := 30) (i := 5) 3 (-1 : Int32) ok dx_Fraction_remainder_30 rfl zk_m1 (by decide) (fun v => [(5, .int v), (3, .long v3_3), (0, .ref ((xw x).2.2 q0)), (2, .int v2)]) (fun _ => rfl) (fun v5_4 => ?_)
        refine sm_goto (pc := 33) 7 ok dx_Fraction_remainder_33 (by decide) ?_
        refine sm_lv [2, 3, 1, 0] rfl ?_
        exact ih _ _ _ _
set_option maxHeartbeats 4000000 in
set_option maxRecDepth 20000 in
theorem tx_Fraction_remainder {x : sm_Cx} (ok : sm_Ok x zx_sy prog_3_method_5_code "LentShades$Fraction" 6 0 0) (hr : (xh x).sig.returnType = (some .int)) (N : Nat) (S : sm_St) (q0 : Nat) (v1 : Int32) (v2 : Int32) (hq0 : (zx_sy.1 q0).1 = 0) : sm_Sm x zx_sy prog_3_method_5_code (sm_Q x zx_sy (sm_Pi zx_sy (xw x))) (px_Fraction_remainder N S q0 v1 v2) S 0 [(0, .ref ((xw x).2.2 q0)), (1, .int v1), (2, .int v2)] [] := by
  unfold px_Fraction_remainder
  refine sm_lconst (pc := 0) (0 : Int64) ok dx_Fraction_remainder_0 zl_0 ?_
  refine sm_lstore_n (pc := 1) (i := 3) ok dx_Fraction_remainder_1 rfl (by decide) (fun v => [(3, .long v), (0, .ref ((xw x).2.2 q0)), (1, .int v1), (2, .int v2)]) (fun _ => rfl) (fun v3_1 => ?_)
  refine sm_iload_n (pc := 2) 2 ok dx_Fraction_remainder_2 rfl ?_
  refine sm_iconst (pc := 3) (1 : Int32) ok dx_Fraction_remainder_3 zk_1 ?_
  refine sm_isub (pc := 4) ok dx_Fraction_remainder_4 ?_
  refine sm_istore (pc := 5) (i := 5) ok dx_Fraction_remainder_5 (by decide) (fun v => [(5, .int v), (3, .long v3_1), (0, .ref ((xw x).2.2 q0)), (1, .int v1), (2, .int v2)]) (fun _ => rfl) (fun v5_2 => ?_)
  refine sm_lv [2, 4, 1, 0] rfl ?_
  exact tx_Fraction_remainder_b7 ok hr N q0 hq0 N _ _ _ _
theorem cx_Fraction_remainder {l : Launch} {wc : sm_Wc} (hj : sm_inj zx_sy wc) (N : Nat) (S : sm_St) (q0 : Nat) (v1 : Int32) (v2 : Int32) (hq0 : (zx_sy.1 q0).1 = 0) : sm_Ct l zx_sy wc yx_Fraction_remainder prog_3_method_5_code 6 (some .int) 0 0 [.ref (wc.2.2 q0), .int v1, .int v2] S (sm_Pi zx_sy wc) (px_Fraction_remainder N S q0 v1 v2) :=
  sm_entry (Pq := fun wc => sm_Pi zx_sy wc) (fun wc => [.ref (wc.2.2 q0), .int v1, .int v2]) (lv := fun wc => [(0, .ref (wc.2.2 q0)), (1, .int v1), (2, .int v2)]) (by decide) hj zx_ok zx_stb (fun _ => Nat.le_of_ble_eq_true rfl) (fun _ => rfl) (fun x _ ok hr => tx_Fraction_remainder ok hr N S q0 v1 v2 hq0)
set_option maxHeartbeats 4000000 in
set_option maxRecDepth 20000 in
theorem tx_Fraction_divide_b7 {x : sm_Cx} (ok : sm_Ok x zx_sy prog_3_method_6_code "LentShades$Fraction" 8 0 0) (hr : (xh x).sig.returnType = none) (N : Nat) (q0 : Nat) (hq0 : (zx_sy.1 q0).1 = 0) : ∀ (n : Nat) (v2 : Int32) (v3 : Int64) (v5 : Int32) (S : sm_St), sm_Sm x zx_sy prog_3_method_6_code (sm_Q x zx_sy (sm_Pv zx_sy (xw x))) (px_Fraction_divide_b7 N q0 n v2 v3 v5 S) S 7 [(0, .ref ((xw x).2.2 q0)), (2, .int v2), (3, .long v3), (5, .int v5)] [] := by
  intro n
  induction n with
  | zero =>
    intro v2 v3 v5 S
    exact sm_none
  | succ n ih =>
    intro v2 v3 v5 S
    show sm_Sm x zx_sy prog_3_method_6_code (sm_Q x zx_sy (sm_Pv zx_sy (xw x))) (if v5 < 0 then (some S) else (if v2 ≤ (1 : Int32) then (some S) else (if sm_in v5 (zx_sy.1 q0).2 = true then (sm_lt ((v3 <<< ((30 : Int32).toInt64 &&& 63)) + (S.1 q0 v5.toNatClampNeg).toInt64) (fun (v6_3 : Int64) => if v2.toInt64 = 0 then none else (if sm_in v5 (zx_sy.1 q0).2 = true then sm_lt (sm_sI S q0 v5.toNatClampNeg ((v6_3 / v2.toInt64).toInt32)) (fun (S_4 : sm_St) => if v2.toInt64 = 0 then none else (sm_lt (v6_3 - v6_3 / v2.toInt64 * v2.toInt64) (fun (v3_5 : Int64) => sm_lt (v5 + (-1 : Int32)) (fun (v5_6 : Int32) => (px_Fraction_divide_b7 N q0 n) v2 v3_5 v5_6 S_4)))) else none))) else none))) S 7 [(0, .ref ((xw x).2.2 q0)), (2, .int v2), (3, .long v3), (5, .int v5)] []
    refine sm_iload (pc := 7) 3 ok dx_Fraction_divide_7 rfl ?_
    refine sm_if_lt (pc := 9) 51 ok dx_Fraction_divide_9 (by decide) (fun _ => ?_) (fun _ => ?_)
    · exact sm_vret (pc := 51) ok dx_Fraction_divide_51 hr
    · refine sm_iload_n (pc := 12) 1 ok dx_Fraction_divide_12 rfl ?_
      refine sm_iconst (pc := 13) (1 : Int32) ok dx_Fraction_divide_13 zk_1 ?_
      refine sm_icmp_le (pc := 14) 51 ok dx_Fraction_divide_14 (by decide) (fun _ => ?_) (fun _ => ?_)
      · exact sm_vret (pc := 51) ok dx_Fraction_divide_51 hr
      · refine sm_lload_n (pc := 17) 2 ok dx_Fraction_divide_17 rfl ?_
        refine sm_bipush (pc := 18) (30 : Int32) ok dx_Fraction_divide_18 zb_30 ?_
        refine sm_lshl (pc := 20) ok dx_Fraction_divide_20 ?_
        refine sm_aload_n (pc := 21) 0 ok dx_Fraction_divide_21 rfl ?_
        refine sm_iload (pc := 22) 3 ok dx_Fraction_divide_22 rfl ?_
        refine sm_iald (pc := 24) ok dx_Fraction_divide_24 (sm_sh0 hq0) ?_
        refine sm_i2l (pc := 25) ok dx_Fraction_divide_25 ?_
        refine sm_ladd (pc := 26) ok dx_Fraction_divide_26 ?_
        refine sm_lstore (pc := 27) (i := 6) ok dx_Fraction_divide_27 (by decide) (fun v => [(6, .long v), (0, .ref ((xw x).2.2 q0)), (2, .int v2), (3, .long v3), (5, .int v5)]) (fun _ => rfl) (fun v6_3 => ?_)
        refine sm_aload_n (pc := 29) 1 ok dx_Fraction_divide_29 rfl ?_
        refine sm_iload (pc := 30) 4 ok dx_Fraction_divide_30 rfl ?_
        refine sm_lload (pc := 32) 0 ok dx_Fraction_divide_32 rfl ?_
        refine sm_iload_n (pc := 34) 2 ok dx_Fraction_divide_34 rfl ?_
        refine sm_i2l (pc := 35) ok dx_Fraction_divide_35 ?_
        refine sm_ldiv (pc := 36) ok dx_Fraction_divide_36 ?_
        refine sm_l2i (pc := 37) ok dx_Fraction_divide_37 ?_
        refine sm_iast (pc := 38) ok dx_Fraction_divide_38 (sm_sh0 hq0) (fun S_4 => ?_)
        refine sm_lload (pc := 39) 0 ok dx_Fraction_divide_39 rfl ?_
        refine sm_iload_n (pc := 41) 2 ok dx_Fraction_divide_41 rfl ?_
        refine sm_i2l (pc := 42) ok dx_Fraction_divide_42 ?_
        refine sm_lrem (pc := 43) ok dx_Fraction_divide_43 ?_
        refine sm_lstore_n (pc := 44) (i := 3) ok dx_Fraction_divide_44 rfl (by decide) (fun v => [(3, .long v), (6, .long v6_3), (0, .ref ((xw x).2.2 q0)), (2, .int v2), (5, .int v5)]) (fun _ => rfl) (fun v3_5 => ?_)
        refine sm_iinc (pc := 45) (i := 5) 4 (-1 : Int32) ok dx_Fraction_divide_45 rfl zk_m1 (by decide) (fun v => [(5, .int v), (3, .long v3_5), (6, .long v6_3), (0, .ref ((xw x).2.2 q0)), (2, .int v2)]) (fun _ => rfl) (fun v5_6 => ?_)
        refine sm_goto (pc := 48) 7 ok dx_Fraction_divide_48 (by decide) ?_
        refine sm_lv [3, 4, 1, 0] rfl ?_
        exact ih _ _ _ _
set_option maxHeartbeats 4000000 in
set_option maxRecDepth 20000 in
theorem tx_Fraction_divide {x : sm_Cx} (ok : sm_Ok x zx_sy prog_3_method_6_code "LentShades$Fraction" 8 0 0) (hr : (xh x).sig.returnType = none) (N : Nat) (S : sm_St) (q0 : Nat) (v1 : Int32) (v2 : Int32) (hq0 : (zx_sy.1 q0).1 = 0) : sm_Sm x zx_sy prog_3_method_6_code (sm_Q x zx_sy (sm_Pv zx_sy (xw x))) (px_Fraction_divide N S q0 v1 v2) S 0 [(0, .ref ((xw x).2.2 q0)), (1, .int v1), (2, .int v2)] [] := by
  unfold px_Fraction_divide
  refine sm_lconst (pc := 0) (0 : Int64) ok dx_Fraction_divide_0 zl_0 ?_
  refine sm_lstore_n (pc := 1) (i := 3) ok dx_Fraction_divide_1 rfl (by decide) (fun v => [(3, .long v), (0, .ref ((xw x).2.2 q0)), (1, .int v1), (2, .int v2)]) (fun _ => rfl) (fun v3_1 => ?_)
  refine sm_iload_n (pc := 2) 2 ok dx_Fraction_divide_2 rfl ?_
  refine sm_iconst (pc := 3) (1 : Int32) ok dx_Fraction_divide_3 zk_1 ?_
  refine sm_isub (pc := 4) ok dx_Fraction_divide_4 ?_
  refine sm_istore (pc := 5) (i := 5) ok dx_Fraction_divide_5 (by decide) (fun v => [(5, .int v), (3, .long v3_1), (0, .ref ((xw x).2.2 q0)), (1, .int v1), (2, .int v2)]) (fun _ => rfl) (fun v5_2 => ?_)
  refine sm_lv [2, 4, 1, 0] rfl ?_
  exact tx_Fraction_divide_b7 ok hr N q0 hq0 N _ _ _ _
theorem cx_Fraction_divide {l : Launch} {wc : sm_Wc} (hj : sm_inj zx_sy wc) (N : Nat) (S : sm_St) (q0 : Nat) (v1 : Int32) (v2 : Int32) (hq0 : (zx_sy.1 q0).1 = 0) : sm_Ct l zx_sy wc yx_Fraction_divide prog_3_method_6_code 8 none 0 0 [.ref (wc.2.2 q0), .int v1, .int v2] S (sm_Pv zx_sy wc) (px_Fraction_divide N S q0 v1 v2) :=
  sm_entry (Pq := fun wc => sm_Pv zx_sy wc) (fun wc => [.ref (wc.2.2 q0), .int v1, .int v2]) (lv := fun wc => [(0, .ref (wc.2.2 q0)), (1, .int v1), (2, .int v2)]) (by decide) hj zx_ok zx_stb (fun _ => Nat.le_of_ble_eq_true rfl) (fun _ => rfl) (fun x _ ok hr => tx_Fraction_divide ok hr N S q0 v1 v2 hq0)
set_option maxHeartbeats 4000000 in
set_option maxRecDepth 20000 in
theorem tx_Fraction_bothDivide {x : sm_Cx} (ok : sm_Ok x zx_sy prog_3_method_4_code "LentShades$Fraction" 2 1 25) (hr : (xh x).sig.returnType = (some .boolean)) (N : Nat) (S : sm_St) (v1 : Int32) : sm_Sm x zx_sy prog_3_method_4_code (sm_Q x zx_sy (sm_Pi zx_sy (xw x))) (px_Fraction_bothDivide N S v1) S 0 [(0, .ref ((xw x).2.2 104)), (1, .int v1)] [] := by
  unfold px_Fraction_bothDivide
  refine sm_aload_n (pc := 0) 0 ok dx_Fraction_bothDivide_0 rfl ?_
  refine sm_getR (pc := 1) (ci := 1) (k := 0) ok dx_Fraction_bothDivide_1 rfl rfl zc_i1 (by decide) rfl wd_267 ?_
  refine sm_aload_n (pc := 4) 0 ok dx_Fraction_bothDivide_4 rfl ?_
  refine sm_getI (pc := 5) (ci := 1) (k := 2) ok dx_Fraction_bothDivide_5 rfl rfl zc_i1 (by decide) rfl wd_269 ?_
  refine sm_iload_n (pc := 8) 1 ok dx_Fraction_bothDivide_8 rfl ?_
  refine sm_callS_i (pc := 9) [.ref ((xw x).2.2 105), .int (S.1 104 2), .int v1] ok dx_Fraction_bothDivide_9 wd_694 mwx_Fraction_remainder (Nat.le_of_ble_eq_true rfl) (Nat.le_of_ble_eq_true rfl) rfl rfl (Nat.le_of_ble_eq_true rfl) (cx_Fraction_remainder (sm_okj ok) N S 105 (S.1 104 2) v1 (sm_tag rfl)) (fun r_2 S_1 => ?_)
  refine sm_if_ne (pc := 12) 34 ok dx_Fraction_bothDivide_12 (by decide) (fun _ => ?_) (fun _ => ?_)
  · refine sm_iconst (pc := 34) (0 : Int32) ok dx_Fraction_bothDivide_34 zk_0 ?_
    exact sm_zret (pc := 35) ok dx_Fraction_bothDivide_35 hr rfl
  · refine sm_aload_n (pc := 15) 0 ok dx_Fraction_bothDivide_15 rfl ?_
    refine sm_getR (pc := 16) (ci := 1) (k := 1) ok dx_Fraction_bothDivide_16 rfl rfl zc_i1 (by decide) rfl wd_268 ?_
    refine sm_aload_n (pc := 19) 0 ok dx_Fraction_bothDivide_19 rfl ?_
    refine sm_getI (pc := 20) (ci := 1) (k := 3) ok dx_Fraction_bothDivide_20 rfl rfl zc_i1 (by decide) rfl wd_270 ?_
    refine sm_iload_n (pc := 23) 1 ok dx_Fraction_bothDivide_23 rfl ?_
    refine sm_callS_i (pc := 24) [.ref ((xw x).2.2 106), .int (S_1.1 104 3), .int v1] ok dx_Fraction_bothDivide_24 wd_694 mwx_Fraction_remainder (Nat.le_of_ble_eq_true rfl) (Nat.le_of_ble_eq_true rfl) rfl rfl (Nat.le_of_ble_eq_true rfl) (cx_Fraction_remainder (sm_okj ok) N S_1 106 (S_1.1 104 3) v1 (sm_tag rfl)) (fun r_4 S_3 => ?_)
    refine sm_if_ne (pc := 27) 34 ok dx_Fraction_bothDivide_27 (by decide) (fun _ => ?_) (fun _ => ?_)
    · refine sm_iconst (pc := 34) (0 : Int32) ok dx_Fraction_bothDivide_34 zk_0 ?_
      exact sm_zret (pc := 35) ok dx_Fraction_bothDivide_35 hr rfl
    · refine sm_iconst (pc := 30) (1 : Int32) ok dx_Fraction_bothDivide_30 zk_1 ?_
      refine sm_goto (pc := 31) 35 ok dx_Fraction_bothDivide_31 (by decide) ?_
      exact sm_zret (pc := 35) ok dx_Fraction_bothDivide_35 hr rfl
theorem cx_Fraction_bothDivide {l : Launch} {wc : sm_Wc} (hj : sm_inj zx_sy wc) (N : Nat) (S : sm_St) (v1 : Int32) : sm_Ct l zx_sy wc yx_Fraction_bothDivide prog_3_method_4_code 2 (some .boolean) 1 25 [.ref (wc.2.2 104), .int v1] S (sm_Pi zx_sy wc) (px_Fraction_bothDivide N S v1) :=
  sm_entry (Pq := fun wc => sm_Pi zx_sy wc) (fun wc => [.ref (wc.2.2 104), .int v1]) (lv := fun wc => [(0, .ref (wc.2.2 104)), (1, .int v1)]) (by decide) hj zx_ok zx_stb (fun _ => Nat.le_of_ble_eq_true rfl) (fun _ => rfl) (fun x _ ok hr => tx_Fraction_bothDivide ok hr N S v1)
set_option maxHeartbeats 4000000 in
set_option maxRecDepth 20000 in
theorem tx_Fraction_reduce_b101 {x : sm_Cx} (ok : sm_Ok x zx_sy prog_3_method_3_code "LentShades$Fraction" 6 2 46) (hr : (xh x).sig.returnType = none) (N : Nat) {r9 : Int32 → Int32 → sm_St → Option (sm_St)} (h9 : ∀ (v2 : Int32) (v3 : Int32) (S : sm_St), sm_Sm x zx_sy prog_3_method_3_code (sm_Q x zx_sy (sm_Pv zx_sy (xw x))) (r9 v2 v3 S) S 9 [(0, .ref ((xw x).2.2 104)), (1, .ref ((xw x).2.2 1000)), (2, .int v2), (3, .int v3)] []) (v2 : Int32) (v3 : Int32) (S : sm_St) : sm_Sm x zx_sy prog_3_method_3_code (sm_Q x zx_sy (sm_Pv zx_sy (xw x))) (px_Fraction_reduce_b101 N r9 v2 v3 S) S 101 [(0, .ref ((xw x).2.2 104)), (1, .ref ((xw x).2.2 1000)), (2, .int v2), (3, .int v3)] [] := by
  unfold px_Fraction_reduce_b101
  refine sm_iinc (pc := 101) (i := 3) 3 (1 : Int32) ok dx_Fraction_reduce_101 rfl zk_1 (by decide) (fun v => [(3, .int v), (0, .ref ((xw x).2.2 104)), (1, .ref ((xw x).2.2 1000)), (2, .int v2)]) (fun _ => rfl) (fun v3_16 => ?_)
  refine sm_goto (pc := 104) 9 ok dx_Fraction_reduce_104 (by decide) ?_
  refine sm_lv [1, 2, 3, 0] rfl ?_
  exact h9 _ _ _
set_option maxHeartbeats 4000000 in
set_option maxRecDepth 20000 in
theorem tx_Fraction_reduce_b22 {x : sm_Cx} (ok : sm_Ok x zx_sy prog_3_method_3_code "LentShades$Fraction" 6 2 46) (hr : (xh x).sig.returnType = none) (N : Nat) {r9 : Int32 → Int32 → sm_St → Option (sm_St)} (h9 : ∀ (v2 : Int32) (v3 : Int32) (S : sm_St), sm_Sm x zx_sy prog_3_method_3_code (sm_Q x zx_sy (sm_Pv zx_sy (xw x))) (r9 v2 v3 S) S 9 [(0, .ref ((xw x).2.2 104)), (1, .ref ((xw x).2.2 1000)), (2, .int v2), (3, .int v3)] []) : ∀ (n : Nat) (v2 : Int32) (v3 : Int32) (v4 : Int32) (v5 : Int32) (S : sm_St), sm_Sm x zx_sy prog_3_method_3_code (sm_Q x zx_sy (sm_Pv zx_sy (xw x))) (px_Fraction_reduce_b22 N r9 n v2 v3 v4 v5 S) S 22 [(0, .ref ((xw x).2.2 104)), (1, .ref ((xw x).2.2 1000)), (2, .int v2), (3, .int v3), (4, .int v4), (5, .int v5)] [] := by
  intro n
  induction n with
  | zero =>
    intro v2 v3 v4 v5 S
    exact sm_none
  | succ n ih =>
    intro v2 v3 v4 v5 S
    show sm_Sm x zx_sy prog_3_method_3_code (sm_Q x zx_sy (sm_Pv zx_sy (xw x))) (if (1000 : Int32) ≤ v5 then (px_Fraction_reduce_b101 N r9 v2 v3 S) else (sm_b2 (px_Fraction_bothDivide N S v4) (fun (r_6 : Int32) (S_5 : sm_St) => if r_6 = 0 then (px_Fraction_reduce_b101 N r9 v2 v3 S_5) else (sm_b1 (px_Fraction_divide N S_5 105 (S_5.1 104 2) v4) (fun (S_7 : sm_St) => sm_b1 (px_Fraction_divide N S_7 106 (S_7.1 104 3) v4) (fun (S_8 : sm_St) => sm_b2 (px_Fraction_trimmed N S_8 105 (S_8.1 104 2)) (fun (r_10 : Int32) (S_9 : sm_St) => sm_lt (sm_sI S_9 104 2 r_10) (fun (S_11 : sm_St) => sm_b2 (px_Fraction_trimmed N S_11 106 (S_11.1 104 3)) (fun (r_13 : Int32) (S_12 : sm_St) => sm_lt (sm_sI S_12 104 3 r_13) (fun (S_14 : sm_St) => sm_lt (v5 + (1 : Int32)) (fun (v5_15 : Int32) => (px_Fraction_reduce_b22 N r9 n) v2 v3 v4 v5_15 S_14))))))))))) S 22 [(0, .ref ((xw x).2.2 104)), (1, .ref ((xw x).2.2 1000)), (2, .int v2), (3, .int v3), (4, .int v4), (5, .int v5)] []
    refine sm_iload (pc := 22) 5 ok dx_Fraction_reduce_22 rfl ?_
    refine sm_sipush (pc := 24) (1000 : Int32) ok dx_Fraction_reduce_24 zs_1000 ?_
    refine sm_icmp_ge (pc := 27) 101 ok dx_Fraction_reduce_27 (by decide) (fun _ => ?_) (fun _ => ?_)
    · refine sm_lv [0, 1, 2, 3] rfl ?_
      exact tx_Fraction_reduce_b101 ok hr N h9 _ _ _
    · refine sm_aload_n (pc := 30) 0 ok dx_Fraction_reduce_30 rfl ?_
      refine sm_iload (pc := 31) 4 ok dx_Fraction_reduce_31 rfl ?_
      refine sm_callV_i (pc := 33) (ci := 1) [.int v4] ok dx_Fraction_reduce_33 wd_712 mwx_Fraction_bothDivide rfl rfl (Nat.le_of_ble_eq_true rfl) (Nat.le_of_ble_eq_true rfl) rfl rfl (Nat.le_of_ble_eq_true rfl) (cx_Fraction_bothDivide (sm_okj ok) N S v4) (fun r_6 S_5 => ?_)
      refine sm_if_eq (pc := 36) 101 ok dx_Fraction_reduce_36 (by decide) (fun _ => ?_) (fun _ => ?_)
      · refine sm_lv [0, 1, 2, 3] rfl ?_
        exact tx_Fraction_reduce_b101 ok hr N h9 _ _ _
      · refine sm_aload_n (pc := 39) 0 ok dx_Fraction_reduce_39 rfl ?_
        refine sm_getR (pc := 40) (ci := 1) (k := 0) ok dx_Fraction_reduce_40 rfl rfl zc_i1 (by decide) rfl wd_267 ?_
        refine sm_aload_n (pc := 43) 0 ok dx_Fraction_reduce_43 rfl ?_
        refine sm_getI (pc := 44) (ci := 1) (k := 2) ok dx_Fraction_reduce_44 rfl rfl zc_i1 (by decide) rfl wd_269 ?_
        refine sm_iload (pc := 47) 4 ok dx_Fraction_reduce_47 rfl ?_
        refine sm_callS_v (pc := 49) [.ref ((xw x).2.2 105), .int (S_5.1 104 2), .int v4] ok dx_Fraction_reduce_49 wd_701 mwx_Fraction_divide (Nat.le_of_ble_eq_true rfl) (Nat.le_of_ble_eq_true rfl) rfl rfl (Nat.le_of_ble_eq_true rfl) (cx_Fraction_divide (sm_okj ok) N S_5 105 (S_5.1 104 2) v4 (sm_tag rfl)) (fun S_7 => ?_)
        refine sm_aload_n (pc := 52) 0 ok dx_Fraction_reduce_52 rfl ?_
        refine sm_getR (pc := 53) (ci := 1) (k := 1) ok dx_Fraction_reduce_53 rfl rfl zc_i1 (by decide) rfl wd_268 ?_
        refine sm_aload_n (pc := 56) 0 ok dx_Fraction_reduce_56 rfl ?_
        refine sm_getI (pc := 57) (ci := 1) (k := 3) ok dx_Fraction_reduce_57 rfl rfl zc_i1 (by decide) rfl wd_270 ?_
        refine sm_iload (pc := 60) 4 ok dx_Fraction_reduce_60 rfl ?_
        refine sm_callS_v (pc := 62) [.ref ((xw x).2.2 106), .int (S_7.1 104 3), .int v4] ok dx_Fraction_reduce_62 wd_701 mwx_Fraction_divide (Nat.le_of_ble_eq_true rfl) (Nat.le_of_ble_eq_true rfl) rfl rfl (Nat.le_of_ble_eq_true rfl) (cx_Fraction_divide (sm_okj ok) N S_7 106 (S_7.1 104 3) v4 (sm_tag rfl)) (fun S_8 => ?_)
        refine sm_aload_n (pc := 65) 0 ok dx_Fraction_reduce_65 rfl ?_
        refine sm_aload_n (pc := 66) 0 ok dx_Fraction_reduce_66 rfl ?_
        refine sm_getR (pc := 67) (ci := 1) (k := 0) ok dx_Fraction_reduce_67 rfl rfl zc_i1 (by decide) rfl wd_267 ?_
        refine sm_aload_n (pc := 70) 0 ok dx_Fraction_reduce_70 rfl ?_
        refine sm_getI (pc := 71) (ci := 1) (k := 2) ok dx_Fraction_reduce_71 rfl rfl zc_i1 (by decide) rfl wd_269 ?_
        refine sm_callS_i (pc := 74) [.ref ((xw x).2.2 105), .int (S_8.1 104 2)] ok dx_Fraction_reduce_74 wd_691 mwx_Fraction_trimmed (Nat.le_of_ble_eq_true rfl) (Nat.le_of_ble_eq_true rfl) rfl rfl (Nat.le_of_ble_eq_true rfl) (cx_Fraction_trimmed (sm_okj ok) N S_8 105 (S_8.1 104 2) (sm_tag rfl)) (fun r_10 S_9 => ?_)
        refine sm_putI (pc := 77) (ci := 1) (k := 2) ok dx_Fraction_reduce_77 rfl rfl zc_i1 zc_y1 zc_t1 zc_n1 (by decide) rfl rfl rfl wd_269 (fun S_11 => ?_)
        refine sm_aload_n (pc := 80) 0 ok dx_Fraction_reduce_80 rfl ?_
        refine sm_aload_n (pc := 81) 0 ok dx_Fraction_reduce_81 rfl ?_
        refine sm_getR (pc := 82) (ci := 1) (k := 1) ok dx_Fraction_reduce_82 rfl rfl zc_i1 (by decide) rfl wd_268 ?_
        refine sm_aload_n (pc := 85) 0 ok dx_Fraction_reduce_85 rfl ?_
        refine sm_getI (pc := 86) (ci := 1) (k := 3) ok dx_Fraction_reduce_86 rfl rfl zc_i1 (by decide) rfl wd_270 ?_
        refine sm_callS_i (pc := 89) [.ref ((xw x).2.2 106), .int (S_11.1 104 3)] ok dx_Fraction_reduce_89 wd_691 mwx_Fraction_trimmed (Nat.le_of_ble_eq_true rfl) (Nat.le_of_ble_eq_true rfl) rfl rfl (Nat.le_of_ble_eq_true rfl) (cx_Fraction_trimmed (sm_okj ok) N S_11 106 (S_11.1 104 3) (sm_tag rfl)) (fun r_13 S_12 => ?_)
        refine sm_putI (pc := 92) (ci := 1) (k := 3) ok dx_Fraction_reduce_92 rfl rfl zc_i1 zc_y1 zc_t1 zc_n1 (by decide) rfl rfl rfl wd_270 (fun S_14 => ?_)
        refine sm_iinc (pc := 95) (i := 5) 5 (1 : Int32) ok dx_Fraction_reduce_95 rfl zk_1 (by decide) (fun v => [(5, .int v), (0, .ref ((xw x).2.2 104)), (1, .ref ((xw x).2.2 1000)), (2, .int v2), (3, .int v3), (4, .int v4)]) (fun _ => rfl) (fun v5_15 => ?_)
        refine sm_goto (pc := 98) 22 ok dx_Fraction_reduce_98 (by decide) ?_
        refine sm_lv [1, 2, 3, 4, 5, 0] rfl ?_
        exact ih _ _ _ _ _
set_option maxHeartbeats 4000000 in
set_option maxRecDepth 20000 in
theorem tx_Fraction_reduce_b9 {x : sm_Cx} (ok : sm_Ok x zx_sy prog_3_method_3_code "LentShades$Fraction" 6 2 46) (hr : (xh x).sig.returnType = none) (N : Nat) : ∀ (n : Nat) (v2 : Int32) (v3 : Int32) (S : sm_St), sm_Sm x zx_sy prog_3_method_3_code (sm_Q x zx_sy (sm_Pv zx_sy (xw x))) (px_Fraction_reduce_b9 N n v2 v3 S) S 9 [(0, .ref ((xw x).2.2 104)), (1, .ref ((xw x).2.2 1000)), (2, .int v2), (3, .int v3)] [] := by
  intro n
  induction n with
  | zero =>
    intro v2 v3 S
    exact sm_none
  | succ n ih =>
    intro v2 v3 S
    show sm_Sm x zx_sy prog_3_method_3_code (sm_Q x zx_sy (sm_Pv zx_sy (xw x))) (if v2 ≤ v3 then (some S) else (if sm_in v3 12 = true then (sm_lt (zx_pr.getD v3.toNatClampNeg 0) (fun (v4_3 : Int32) => sm_lt (0 : Int32) (fun (v5_4 : Int32) => px_Fraction_reduce_b22 N (px_Fraction_reduce_b9 N n) N v2 v3 v4_3 v5_4 S))) else none)) S 9 [(0, .ref ((xw x).2.2 104)), (1, .ref ((xw x).2.2 1000)), (2, .int v2), (3, .int v3)] []
    refine sm_iload_n (pc := 9) 3 ok dx_Fraction_reduce_9 rfl ?_
    refine sm_iload_n (pc := 10) 2 ok dx_Fraction_reduce_10 rfl ?_
    refine sm_icmp_ge (pc := 11) 107 ok dx_Fraction_reduce_11 (by decide) (fun _ => ?_) (fun _ => ?_)
    · exact sm_vret (pc := 107) ok dx_Fraction_reduce_107 hr
    · refine sm_aload_n (pc := 14) 1 ok dx_Fraction_reduce_14 rfl ?_
      refine sm_iload_n (pc := 15) 3 ok dx_Fraction_reduce_15 rfl ?_
      refine sm_iaP (pc := 16) ok dx_Fraction_reduce_16 ?_
      refine sm_istore (pc := 17) (i := 4) ok dx_Fraction_reduce_17 (by decide) (fun v => [(4, .int v), (0, .ref ((xw x).2.2 104)), (1, .ref ((xw x).2.2 1000)), (2, .int v2), (3, .int v3)]) (fun _ => rfl) (fun v4_3 => ?_)
      refine sm_iconst (pc := 19) (0 : Int32) ok dx_Fraction_reduce_19 zk_0 ?_
      refine sm_istore (pc := 20) (i := 5) ok dx_Fraction_reduce_20 (by decide) (fun v => [(5, .int v), (4, .int v4_3), (0, .ref ((xw x).2.2 104)), (1, .ref ((xw x).2.2 1000)), (2, .int v2), (3, .int v3)]) (fun _ => rfl) (fun v5_4 => ?_)
      refine sm_lv [2, 3, 4, 5, 1, 0] rfl ?_
      exact tx_Fraction_reduce_b22 ok hr N ih N _ _ _ _ _
set_option maxHeartbeats 4000000 in
set_option maxRecDepth 20000 in
theorem tx_Fraction_reduce {x : sm_Cx} (ok : sm_Ok x zx_sy prog_3_method_3_code "LentShades$Fraction" 6 2 46) (hr : (xh x).sig.returnType = none) (N : Nat) (S : sm_St) : sm_Sm x zx_sy prog_3_method_3_code (sm_Q x zx_sy (sm_Pv zx_sy (xw x))) (px_Fraction_reduce N S) S 0 [(0, .ref ((xw x).2.2 104))] [] := by
  unfold px_Fraction_reduce
  refine sm_gsP (pc := 0) ok dx_Fraction_reduce_0 wd_710 ?_
  refine sm_astore_n (pc := 3) (i := 1) ok dx_Fraction_reduce_3 rfl (by decide) [(1, .ref ((xw x).2.2 1000)), (0, .ref ((xw x).2.2 104))] rfl ?_
  refine sm_aload_n (pc := 4) 0 ok dx_Fraction_reduce_4 rfl ?_
  refine sm_alP (pc := 5) ok dx_Fraction_reduce_5 ?_
  refine sm_istore_n (pc := 6) (i := 2) ok dx_Fraction_reduce_6 rfl (by decide) (fun v => [(2, .int v), (1, .ref ((xw x).2.2 1000)), (0, .ref ((xw x).2.2 104))]) (fun _ => rfl) (fun v2_1 => ?_)
  refine sm_iconst (pc := 7) (0 : Int32) ok dx_Fraction_reduce_7 zk_0 ?_
  refine sm_istore_n (pc := 8) (i := 3) ok dx_Fraction_reduce_8 rfl (by decide) (fun v => [(3, .int v), (2, .int v2_1), (1, .ref ((xw x).2.2 1000)), (0, .ref ((xw x).2.2 104))]) (fun _ => rfl) (fun v3_2 => ?_)
  refine sm_lv [3, 2, 1, 0] rfl ?_
  exact tx_Fraction_reduce_b9 ok hr N N _ _ _
theorem cx_Fraction_reduce {l : Launch} {wc : sm_Wc} (hj : sm_inj zx_sy wc) (N : Nat) (S : sm_St) : sm_Ct l zx_sy wc yx_Fraction_reduce prog_3_method_3_code 6 none 2 46 [.ref (wc.2.2 104)] S (sm_Pv zx_sy wc) (px_Fraction_reduce N S) :=
  sm_entry (Pq := fun wc => sm_Pv zx_sy wc) (fun wc => [.ref (wc.2.2 104)]) (lv := fun wc => [(0, .ref (wc.2.2 104))]) (by decide) hj zx_ok zx_stb (fun _ => Nat.le_of_ble_eq_true rfl) (fun _ => rfl) (fun x _ ok hr => tx_Fraction_reduce ok hr N S)
set_option maxHeartbeats 4000000 in
set_option maxRecDepth 20000 in
theorem tx_Fraction_put {x : sm_Cx} (ok : sm_Ok x zx_sy prog_3_method_2_code "LentShades$Fraction" 5 3 71) (hr : (xh x).sig.returnType = none) (N : Nat) (S : sm_St) (q1 : Nat) (q2 : Nat) (v3 : Int32) (hq1 : zx_sy.1 q1 = (17, 0)) (hq2 : zx_sy.1 q2 = (16, 0)) : sm_Sm x zx_sy prog_3_method_2_code (sm_Q x zx_sy (sm_Pv zx_sy (xw x))) (px_Fraction_put N S q1 q2 v3) S 0 [(0, .ref ((xw x).2.2 104)), (1, .ref ((xw x).2.2 q1)), (2, .ref ((xw x).2.2 q2)), (3, .int v3)] [] := by
  unfold px_Fraction_put
  refine sm_aload_n (pc := 0) 1 ok dx_Fraction_put_0 rfl ?_
  refine sm_aload_n (pc := 1) 2 ok dx_Fraction_put_1 rfl ?_
  refine sm_aload_n (pc := 2) 0 ok dx_Fraction_put_2 rfl ?_
  refine sm_getR (pc := 3) (ci := 1) (k := 0) ok dx_Fraction_put_3 rfl rfl zc_i1 (by decide) rfl wd_267 ?_
  refine sm_iconst (pc := 6) (0 : Int32) ok dx_Fraction_put_6 zk_0 ?_
  refine sm_callV_v (pc := 7) (ci := 7) [.ref ((xw x).2.2 q2), .ref ((xw x).2.2 105), .int (0 : Int32)] ok dx_Fraction_put_7 wd_690 mwx_Sum_write hq1 rfl (Nat.le_of_ble_eq_true rfl) (Nat.le_of_ble_eq_true rfl) rfl rfl (Nat.le_of_ble_eq_true rfl) (cx_Sum_write (sm_okj ok) N S q1 q2 105 (0 : Int32) hq1 hq2 (sm_tag rfl)) (fun S_1 => ?_)
  refine sm_aload_n (pc := 10) 0 ok dx_Fraction_put_10 rfl ?_
  refine sm_aload_n (pc := 11) 0 ok dx_Fraction_put_11 rfl ?_
  refine sm_getR (pc := 12) (ci := 1) (k := 0) ok dx_Fraction_put_12 rfl rfl zc_i1 (by decide) rfl wd_267 ?_
  refine sm_aload_n (pc := 15) 2 ok dx_Fraction_put_15 rfl ?_
  refine sm_getI (pc := 16) (ci := 6) (k := 1) ok dx_Fraction_put_16 hq2 rfl zc_i6 (by decide) rfl wd_150 ?_
  refine sm_iconst (pc := 19) (1 : Int32) ok dx_Fraction_put_19 zk_1 ?_
  refine sm_iadd (pc := 20) ok dx_Fraction_put_20 ?_
  refine sm_callS_i (pc := 21) [.ref ((xw x).2.2 105), .int ((S_1.1 q2 1) + (1 : Int32))] ok dx_Fraction_put_21 wd_691 mwx_Fraction_trimmed (Nat.le_of_ble_eq_true rfl) (Nat.le_of_ble_eq_true rfl) rfl rfl (Nat.le_of_ble_eq_true rfl) (cx_Fraction_trimmed (sm_okj ok) N S_1 105 ((S_1.1 q2 1) + (1 : Int32)) (sm_tag rfl)) (fun r_3 S_2 => ?_)
  refine sm_putI (pc := 24) (ci := 1) (k := 2) ok dx_Fraction_put_24 rfl rfl zc_i1 zc_y1 zc_t1 zc_n1 (by decide) rfl rfl rfl wd_269 (fun S_4 => ?_)
  refine sm_aload_n (pc := 27) 0 ok dx_Fraction_put_27 rfl ?_
  refine sm_getI (pc := 28) (ci := 1) (k := 2) ok dx_Fraction_put_28 rfl rfl zc_i1 (by decide) rfl wd_269 ?_
  refine sm_if_ne (pc := 31) 47 ok dx_Fraction_put_31 (by decide) (fun _ => ?_) (fun _ => ?_)
  · refine sm_iconst (pc := 47) (1 : Int32) ok dx_Fraction_put_47 zk_1 ?_
    refine sm_iload_n (pc := 48) 3 ok dx_Fraction_put_48 rfl ?_
    refine sm_aload_n (pc := 49) 0 ok dx_Fraction_put_49 rfl ?_
    refine sm_getR (pc := 50) (ci := 1) (k := 0) ok dx_Fraction_put_50 rfl rfl zc_i1 (by decide) rfl wd_267 ?_
    refine sm_aload_n (pc := 53) 0 ok dx_Fraction_put_53 rfl ?_
    refine sm_getI (pc := 54) (ci := 1) (k := 2) ok dx_Fraction_put_54 rfl rfl zc_i1 (by decide) rfl wd_269 ?_
    refine sm_iload_n (pc := 57) 3 ok dx_Fraction_put_57 rfl ?_
    refine sm_callS_i (pc := 58) [.ref ((xw x).2.2 105), .int (S_4.1 104 2), .int v3] ok dx_Fraction_put_58 wd_694 mwx_Fraction_remainder (Nat.le_of_ble_eq_true rfl) (Nat.le_of_ble_eq_true rfl) rfl rfl (Nat.le_of_ble_eq_true rfl) (cx_Fraction_remainder (sm_okj ok) N S_4 105 (S_4.1 104 2) v3 (sm_tag rfl)) (fun r_6 S_5 => ?_)
    refine sm_callSN_i (pc := 61) [.int v3, .int r_6] ok dx_Fraction_put_61 (zx_nw ok 2 rfl) mwx_L_greatestDivisor (Nat.le_of_ble_eq_true rfl) (Nat.le_of_ble_eq_true rfl) rfl rfl (Nat.le_of_ble_eq_true rfl) (cx_L_greatestDivisor (sm_okj ok) N S_5 v3 r_6) (fun r_8 S_7 => ?_)
    refine sm_mmax (pc := 64) ok dx_Fraction_put_64 wd_698 wd_699 wd_117 wd_700 (by decide) (by decide) ?_
    refine sm_istore (pc := 67) (i := 4) ok dx_Fraction_put_67 (by decide) (fun v => [(4, .int v), (0, .ref ((xw x).2.2 104)), (1, .ref ((xw x).2.2 q1)), (2, .ref ((xw x).2.2 q2)), (3, .int v3)]) (fun _ => rfl) (fun v4_9 => ?_)
    refine sm_aload_n (pc := 69) 1 ok dx_Fraction_put_69 rfl ?_
    refine sm_getR (pc := 70) (ci := 1) (k := 0) ok dx_Fraction_put_70 rfl rfl zc_i1 (by decide) rfl wd_267 ?_
    refine sm_aload_n (pc := 73) 1 ok dx_Fraction_put_73 rfl ?_
    refine sm_getI (pc := 74) (ci := 1) (k := 2) ok dx_Fraction_put_74 rfl rfl zc_i1 (by decide) rfl wd_269 ?_
    refine sm_iload (pc := 77) 0 ok dx_Fraction_put_77 rfl ?_
    refine sm_callS_v (pc := 79) [.ref ((xw x).2.2 105), .int (S_7.1 104 2), .int v4_9] ok dx_Fraction_put_79 wd_701 mwx_Fraction_divide (Nat.le_of_ble_eq_true rfl) (Nat.le_of_ble_eq_true rfl) rfl rfl (Nat.le_of_ble_eq_true rfl) (cx_Fraction_divide (sm_okj ok) N S_7 105 (S_7.1 104 2) v4_9 (sm_tag rfl)) (fun S_10 => ?_)
    refine sm_aload_n (pc := 82) 1 ok dx_Fraction_put_82 rfl ?_
    refine sm_aload_n (pc := 83) 1 ok dx_Fraction_put_83 rfl ?_
    refine sm_getR (pc := 84) (ci := 1) (k := 0) ok dx_Fraction_put_84 rfl rfl zc_i1 (by decide) rfl wd_267 ?_
    refine sm_aload_n (pc := 87) 1 ok dx_Fraction_put_87 rfl ?_
    refine sm_getI (pc := 88) (ci := 1) (k := 2) ok dx_Fraction_put_88 rfl rfl zc_i1 (by decide) rfl wd_269 ?_
    refine sm_callS_i (pc := 91) [.ref ((xw x).2.2 105), .int (S_10.1 104 2)] ok dx_Fraction_put_91 wd_691 mwx_Fraction_trimmed (Nat.le_of_ble_eq_true rfl) (Nat.le_of_ble_eq_true rfl) rfl rfl (Nat.le_of_ble_eq_true rfl) (cx_Fraction_trimmed (sm_okj ok) N S_10 105 (S_10.1 104 2) (sm_tag rfl)) (fun r_12 S_11 => ?_)
    refine sm_putI (pc := 94) (ci := 1) (k := 2) ok dx_Fraction_put_94 rfl rfl zc_i1 zc_y1 zc_t1 zc_n1 (by decide) rfl rfl rfl wd_269 (fun S_13 => ?_)
    refine sm_aload_n (pc := 97) 2 ok dx_Fraction_put_97 rfl ?_
    refine sm_callV_v (pc := 98) (ci := 7) [] ok dx_Fraction_put_98 wd_704 mwx_Sum_begin hq1 rfl (Nat.le_of_ble_eq_true rfl) (Nat.le_of_ble_eq_true rfl) rfl rfl (Nat.le_of_ble_eq_true rfl) (cx_Sum_begin (sm_okj ok) N S_13 q1 hq1) (fun S_14 => ?_)
    refine sm_aload_n (pc := 101) 2 ok dx_Fraction_put_101 rfl ?_
    refine sm_getR (pc := 102) (ci := 7) (k := 0) ok dx_Fraction_put_102 hq1 rfl zc_i7 (by decide) rfl wd_288 ?_
    refine sm_iconst (pc := 105) (4 : Int32) ok dx_Fraction_put_105 zk_4 ?_
    refine sm_ldc2 (pc := 106) ok dx_Fraction_put_106 wd_705 ?_
    refine sm_iload_n (pc := 109) 4 ok dx_Fraction_put_109 rfl ?_
    refine sm_iload (pc := 110) 0 ok dx_Fraction_put_110 rfl ?_
    refine sm_idiv (pc := 112) ok dx_Fraction_put_112 ?_
    refine sm_i2l (pc := 113) ok dx_Fraction_put_113 ?_
    refine sm_lmul (pc := 114) ok dx_Fraction_put_114 ?_
    refine sm_last (pc := 115) ok dx_Fraction_put_115 (zx_Sum_1 hq1) (fun S_15 => ?_)
    refine sm_aload_n (pc := 116) 2 ok dx_Fraction_put_116 rfl ?_
    refine sm_aload_n (pc := 117) 3 ok dx_Fraction_put_117 rfl ?_
    refine sm_aload_n (pc := 118) 1 ok dx_Fraction_put_118 rfl ?_
    refine sm_getR (pc := 119) (ci := 1) (k := 1) ok dx_Fraction_put_119 rfl rfl zc_i1 (by decide) rfl wd_268 ?_
    refine sm_iconst (pc := 122) (0 : Int32) ok dx_Fraction_put_122 zk_0 ?_
    refine sm_callV_v (pc := 123) (ci := 7) [.ref ((xw x).2.2 q2), .ref ((xw x).2.2 106), .int (0 : Int32)] ok dx_Fraction_put_123 wd_690 mwx_Sum_write hq1 rfl (Nat.le_of_ble_eq_true rfl) (Nat.le_of_ble_eq_true rfl) rfl rfl (Nat.le_of_ble_eq_true rfl) (cx_Sum_write (sm_okj ok) N S_15 q1 q2 106 (0 : Int32) hq1 hq2 (sm_tag rfl)) (fun S_16 => ?_)
    refine sm_aload_n (pc := 126) 1 ok dx_Fraction_put_126 rfl ?_
    refine sm_aload_n (pc := 127) 1 ok dx_Fraction_put_127 rfl ?_
    refine sm_getR (pc := 128) (ci := 1) (k := 1) ok dx_Fraction_put_128 rfl rfl zc_i1 (by decide) rfl wd_268 ?_
    refine sm_aload_n (pc := 131) 3 ok dx_Fraction_put_131 rfl ?_
    refine sm_getI (pc := 132) (ci := 6) (k := 1) ok dx_Fraction_put_132 hq2 rfl zc_i6 (by decide) rfl wd_150 ?_
    refine sm_iconst (pc := 135) (1 : Int32) ok dx_Fraction_put_135 zk_1 ?_
    refine sm_iadd (pc := 136) ok dx_Fraction_put_136 ?_
    refine sm_callS_i (pc := 137) [.ref ((xw x).2.2 106), .int ((S_16.1 q2 1) + (1 : Int32))] ok dx_Fraction_put_137 wd_691 mwx_Fraction_trimmed (Nat.le_of_ble_eq_true rfl) (Nat.le_of_ble_eq_true rfl) rfl rfl (Nat.le_of_ble_eq_true rfl) (cx_Fraction_trimmed (sm_okj ok) N S_16 106 ((S_16.1 q2 1) + (1 : Int32)) (sm_tag rfl)) (fun r_18 S_17 => ?_)
    refine sm_putI (pc := 140) (ci := 1) (k := 3) ok dx_Fraction_put_140 rfl rfl zc_i1 zc_y1 zc_t1 zc_n1 (by decide) rfl rfl rfl wd_270 (fun S_19 => ?_)
    refine sm_aload_n (pc := 143) 1 ok dx_Fraction_put_143 rfl ?_
    refine sm_callV_v (pc := 144) (ci := 1) [] ok dx_Fraction_put_144 wd_706 mwx_Fraction_reduce rfl rfl (Nat.le_of_ble_eq_true rfl) (Nat.le_of_ble_eq_true rfl) rfl rfl (Nat.le_of_ble_eq_true rfl) (cx_Fraction_reduce (sm_okj ok) N S_19) (fun S_20 => ?_)
    exact sm_vret (pc := 147) ok dx_Fraction_put_147 hr
  · refine sm_aload_n (pc := 34) 0 ok dx_Fraction_put_34 rfl ?_
    refine sm_getR (pc := 35) (ci := 1) (k := 1) ok dx_Fraction_put_35 rfl rfl zc_i1 (by decide) rfl wd_268 ?_
    refine sm_iconst (pc := 38) (0 : Int32) ok dx_Fraction_put_38 zk_0 ?_
    refine sm_iconst (pc := 39) (1 : Int32) ok dx_Fraction_put_39 zk_1 ?_
    refine sm_iast (pc := 40) ok dx_Fraction_put_40 rfl (fun S_21 => ?_)
    refine sm_aload_n (pc := 41) 0 ok dx_Fraction_put_41 rfl ?_
    refine sm_iconst (pc := 42) (1 : Int32) ok dx_Fraction_put_42 zk_1 ?_
    refine sm_putI (pc := 43) (ci := 1) (k := 3) ok dx_Fraction_put_43 rfl rfl zc_i1 zc_y1 zc_t1 zc_n1 (by decide) rfl rfl rfl wd_270 (fun S_22 => ?_)
    exact sm_vret (pc := 46) ok dx_Fraction_put_46 hr
theorem cx_Fraction_put {l : Launch} {wc : sm_Wc} (hj : sm_inj zx_sy wc) (N : Nat) (S : sm_St) (q1 : Nat) (q2 : Nat) (v3 : Int32) (hq1 : zx_sy.1 q1 = (17, 0)) (hq2 : zx_sy.1 q2 = (16, 0)) : sm_Ct l zx_sy wc yx_Fraction_put prog_3_method_2_code 5 none 3 71 [.ref (wc.2.2 104), .ref (wc.2.2 q1), .ref (wc.2.2 q2), .int v3] S (sm_Pv zx_sy wc) (px_Fraction_put N S q1 q2 v3) :=
  sm_entry (Pq := fun wc => sm_Pv zx_sy wc) (fun wc => [.ref (wc.2.2 104), .ref (wc.2.2 q1), .ref (wc.2.2 q2), .int v3]) (lv := fun wc => [(0, .ref (wc.2.2 104)), (1, .ref (wc.2.2 q1)), (2, .ref (wc.2.2 q2)), (3, .int v3)]) (by decide) hj zx_ok zx_stb (fun _ => Nat.le_of_ble_eq_true rfl) (fun _ => rfl) (fun x _ ok hr => tx_Fraction_put ok hr N S q1 q2 v3 hq1 hq2)
set_option maxHeartbeats 4000000 in
set_option maxRecDepth 20000 in
theorem tx_L_shade_b20 {x : sm_Cx} (ok : sm_Ok x zx_sy prog_1_method_9_code "LentShades" 4 4 105) (hr : (xh x).sig.returnType = (some .int)) (N : Nat) (S : sm_St) : sm_Sm x zx_sy prog_1_method_9_code (sm_Q x zx_sy (sm_Pi zx_sy (xw x))) (px_L_shade_b20 N S) S 20 [(0, .ref ((xw x).2.2 0))] [] := by
  unfold px_L_shade_b20
  refine sm_aload_n (pc := 20) 0 ok dx_L_shade_20 rfl ?_
  refine sm_callV_i (pc := 21) (ci := 9) [] ok dx_L_shade_21 wd_450 mwx_L_refusedBad rfl rfl (Nat.le_of_ble_eq_true rfl) (Nat.le_of_ble_eq_true rfl) rfl rfl (Nat.le_of_ble_eq_true rfl) (cx_L_refusedBad (sm_okj ok) N S) (fun r_13 S_12 => ?_)
  exact sm_iret (pc := 24) ok dx_L_shade_24 hr
set_option maxHeartbeats 4000000 in
set_option maxRecDepth 20000 in
theorem tx_L_shade {x : sm_Cx} (ok : sm_Ok x zx_sy prog_1_method_9_code "LentShades" 4 4 105) (hr : (xh x).sig.returnType = (some .int)) (N : Nat) (S : sm_St) (v1 : Int32) (v2 : Int32) : sm_Sm x zx_sy prog_1_method_9_code (sm_Q x zx_sy (sm_Pi zx_sy (xw x))) (px_L_shade N S v1 v2) S 0 [(0, .ref ((xw x).2.2 0)), (1, .int v1), (2, .int v2)] [] := by
  unfold px_L_shade
  refine sm_aload_n (pc := 0) 0 ok dx_L_shade_0 rfl ?_
  refine sm_getR (pc := 1) (ci := 9) (k := 0) ok dx_L_shade_1 rfl rfl zc_i9 (by decide) rfl wd_400 ?_
  refine sm_iload_n (pc := 4) 1 ok dx_L_shade_4 rfl ?_
  refine sm_callV_i (pc := 5) (ci := 2) [.int v1] ok dx_L_shade_5 wd_630 mwx_House_hasCloth rfl rfl (Nat.le_of_ble_eq_true rfl) (Nat.le_of_ble_eq_true rfl) rfl rfl (Nat.le_of_ble_eq_true rfl) (cx_House_hasCloth (sm_okj ok) N S 1 v1 rfl) (fun r_2 S_1 => ?_)
  refine sm_if_eq (pc := 8) 20 ok dx_L_shade_8 (by decide) (fun _ => ?_) (fun _ => ?_)
  · refine sm_lv [0] rfl ?_
    exact tx_L_shade_b20 ok hr N _
  · refine sm_iload_n (pc := 11) 2 ok dx_L_shade_11 rfl ?_
    refine sm_bipush (pc := 12) (12 : Int32) ok dx_L_shade_12 zb_12 ?_
    refine sm_callS_i (pc := 14) [.int v2, .int (12 : Int32)] ok dx_L_shade_14 wd_447 mwx_L_within (Nat.le_of_ble_eq_true rfl) (Nat.le_of_ble_eq_true rfl) rfl rfl (Nat.le_of_ble_eq_true rfl) (cx_L_within (sm_okj ok) N S_1 v2 (12 : Int32)) (fun r_4 S_3 => ?_)
    refine sm_if_ne (pc := 17) 25 ok dx_L_shade_17 (by decide) (fun _ => ?_) (fun _ => ?_)
    · refine sm_aload_n (pc := 25) 0 ok dx_L_shade_25 rfl ?_
      refine sm_getR (pc := 26) (ci := 9) (k := 6) ok dx_L_shade_26 rfl rfl zc_i9 (by decide) rfl wd_406 ?_
      refine sm_aload_n (pc := 29) 0 ok dx_L_shade_29 rfl ?_
      refine sm_getR (pc := 30) (ci := 9) (k := 0) ok dx_L_shade_30 rfl rfl zc_i9 (by decide) rfl wd_400 ?_
      refine sm_aload_n (pc := 33) 0 ok dx_L_shade_33 rfl ?_
      refine sm_getR (pc := 34) (ci := 9) (k := 0) ok dx_L_shade_34 rfl rfl zc_i9 (by decide) rfl wd_400 ?_
      refine sm_getR (pc := 37) (ci := 2) (k := 5) ok dx_L_shade_37 rfl rfl zc_i2 (by decide) rfl wd_176 ?_
      refine sm_aload_n (pc := 40) 0 ok dx_L_shade_40 rfl ?_
      refine sm_getR (pc := 41) (ci := 9) (k := 0) ok dx_L_shade_41 rfl rfl zc_i9 (by decide) rfl wd_400 ?_
      refine sm_getR (pc := 44) (ci := 2) (k := 4) ok dx_L_shade_44 rfl rfl zc_i2 (by decide) rfl wd_173 ?_
      refine sm_callV_v (pc := 47) (ci := 8) [.ref ((xw x).2.2 1), .ref ((xw x).2.2 7), .ref ((xw x).2.2 6)] ok dx_L_shade_47 wd_631 mwx_Takings_reckon rfl rfl (Nat.le_of_ble_eq_true rfl) (Nat.le_of_ble_eq_true rfl) rfl rfl (Nat.le_of_ble_eq_true rfl) (cx_Takings_reckon (sm_okj ok) N S_3 1 7 6 rfl (sm_tag rfl) (sm_tag rfl)) (fun S_5 => ?_)
      refine sm_aload_n (pc := 50) 0 ok dx_L_shade_50 rfl ?_
      refine sm_getR (pc := 51) (ci := 9) (k := 6) ok dx_L_shade_51 rfl rfl zc_i9 (by decide) rfl wd_406 ?_
      refine sm_aload_n (pc := 54) 0 ok dx_L_shade_54 rfl ?_
      refine sm_getR (pc := 55) (ci := 9) (k := 0) ok dx_L_shade_55 rfl rfl zc_i9 (by decide) rfl wd_400 ?_
      refine sm_getR (pc := 58) (ci := 2) (k := 6) ok dx_L_shade_58 rfl rfl zc_i2 (by decide) rfl wd_181 ?_
      refine sm_iload_n (pc := 61) 2 ok dx_L_shade_61 rfl ?_
      refine sm_callV_r (pc := 62) (ci := 8) [.ref ((xw x).2.2 12), .int v2] ok dx_L_shade_62 wd_650 mwx_Takings_behind rfl rfl (Nat.le_of_ble_eq_true rfl) (Nat.le_of_ble_eq_true rfl) rfl rfl (Nat.le_of_ble_eq_true rfl) (cx_Takings_behind (sm_okj ok) N S_5 12 v2 rfl) (fun r_7 S_6 => ?_)
      refine sm_ck (fun hc_8 => ?_)
      refine sm_astore_n (pc := 65) (i := 3) ok dx_L_shade_65 rfl (by decide) [(3, .ref ((xw x).2.2 r_7)), (0, .ref ((xw x).2.2 0)), (1, .int v1), (2, .int v2)] rfl ?_
      refine sm_aload_n (pc := 66) 1 ok dx_L_shade_66 rfl ?_
      refine sm_getR (pc := 67) (ci := 9) (k := 5) ok dx_L_shade_67 rfl rfl zc_i9 (by decide) rfl wd_405 ?_
      refine sm_callV_v (pc := 70) (ci := 7) [] ok dx_L_shade_70 wd_685 mwx_Sum_begin rfl rfl (Nat.le_of_ble_eq_true rfl) (Nat.le_of_ble_eq_true rfl) rfl rfl (Nat.le_of_ble_eq_true rfl) (cx_Sum_begin (sm_okj ok) N S_6 107 rfl) (fun S_9 => ?_)
      refine sm_aload_n (pc := 73) 1 ok dx_L_shade_73 rfl ?_
      refine sm_getR (pc := 74) (ci := 9) (k := 5) ok dx_L_shade_74 rfl rfl zc_i9 (by decide) rfl wd_405 ?_
      refine sm_getR (pc := 77) (ci := 7) (k := 0) ok dx_L_shade_77 rfl rfl zc_i7 (by decide) rfl wd_290 ?_
      refine sm_iload_n (pc := 80) 2 ok dx_L_shade_80 rfl ?_
      refine sm_lconst (pc := 81) (1 : Int64) ok dx_L_shade_81 zl_1 ?_
      refine sm_last (pc := 82) ok dx_L_shade_82 rfl (fun S_10 => ?_)
      refine sm_aload_n (pc := 83) 1 ok dx_L_shade_83 rfl ?_
      refine sm_getR (pc := 84) (ci := 9) (k := 4) ok dx_L_shade_84 rfl rfl zc_i9 (by decide) rfl wd_404 ?_
      refine sm_aload_n (pc := 87) 1 ok dx_L_shade_87 rfl ?_
      refine sm_getR (pc := 88) (ci := 9) (k := 5) ok dx_L_shade_88 rfl rfl zc_i9 (by decide) rfl wd_405 ?_
      refine sm_aload_n (pc := 91) 0 ok dx_L_shade_91 rfl ?_
      refine sm_iconst (pc := 92) (1 : Int32) ok dx_L_shade_92 zk_1 ?_
      refine sm_callV_v (pc := 93) (ci := 1) [.ref ((xw x).2.2 107), .ref ((xw x).2.2 r_7), .int (1 : Int32)] ok dx_L_shade_93 wd_686 mwx_Fraction_put rfl rfl (Nat.le_of_ble_eq_true rfl) (Nat.le_of_ble_eq_true rfl) rfl rfl (Nat.le_of_ble_eq_true rfl) (cx_Fraction_put (sm_okj ok) N S_10 107 r_7 (1 : Int32) rfl (of_decide_eq_true hc_8)) (fun S_11 => ?_)
      refine sm_iconst (pc := 96) (1 : Int32) ok dx_L_shade_96 zk_1 ?_
      exact sm_iret (pc := 97) ok dx_L_shade_97 hr
    · refine sm_lv [0] rfl ?_
      exact tx_L_shade_b20 ok hr N _
theorem cx_L_shade {l : Launch} {wc : sm_Wc} (hj : sm_inj zx_sy wc) (N : Nat) (S : sm_St) (v1 : Int32) (v2 : Int32) : sm_Ct l zx_sy wc yx_L_shade prog_1_method_9_code 4 (some .int) 4 105 [.ref (wc.2.2 0), .int v1, .int v2] S (sm_Pi zx_sy wc) (px_L_shade N S v1 v2) :=
  sm_entry (Pq := fun wc => sm_Pi zx_sy wc) (fun wc => [.ref (wc.2.2 0), .int v1, .int v2]) (lv := fun wc => [(0, .ref (wc.2.2 0)), (1, .int v1), (2, .int v2)]) (by decide) hj zx_ok zx_stb (fun _ => Nat.le_of_ble_eq_true rfl) (fun _ => rfl) (fun x _ ok hr => tx_L_shade ok hr N S v1 v2)
set_option maxHeartbeats 4000000 in
set_option maxRecDepth 20000 in
theorem tx_Shades_copyFrom {x : sm_Cx} (ok : sm_Ok x zx_sy prog_8_method_3_code "LentShades$Shades" 2 1 26) (hr : (xh x).sig.returnType = none) (N : Nat) (S : sm_St) (p : Nat) (q1 : Nat) (hp : zx_sy.1 p = (16, 0)) (hq1 : zx_sy.1 q1 = (16, 0)) : sm_Sm x zx_sy prog_8_method_3_code (sm_Q x zx_sy (sm_Pv zx_sy (xw x))) (px_Shades_copyFrom N S p q1) S 0 [(0, .ref ((xw x).2.2 p)), (1, .ref ((xw x).2.2 q1))] [] := by
  unfold px_Shades_copyFrom
  refine sm_aload_n (pc := 0) 1 ok dx_Shades_copyFrom_0 rfl ?_
  refine sm_getR (pc := 1) (ci := 6) (k := 0) ok dx_Shades_copyFrom_1 hq1 rfl zc_i6 (by decide) rfl wd_146 ?_
  refine sm_iconst (pc := 4) (0 : Int32) ok dx_Shades_copyFrom_4 zk_0 ?_
  refine sm_aload_n (pc := 5) 0 ok dx_Shades_copyFrom_5 rfl ?_
  refine sm_getR (pc := 6) (ci := 6) (k := 0) ok dx_Shades_copyFrom_6 hp rfl zc_i6 (by decide) rfl wd_146 ?_
  refine sm_iconst (pc := 9) (0 : Int32) ok dx_Shades_copyFrom_9 zk_0 ?_
  refine sm_bipush (pc := 10) (100 : Int32) ok dx_Shades_copyFrom_10 zb_100 ?_
  refine sm_acopy (pc := 12) ok dx_Shades_copyFrom_12 wd_732 wd_734 wd_733 wd_118 (zx_Shades_1 hq1) (zx_Shades_1 hp) (by decide) (by decide) (by decide) (fun S_1 => ?_)
  refine sm_aload_n (pc := 15) 0 ok dx_Shades_copyFrom_15 rfl ?_
  refine sm_aload_n (pc := 16) 1 ok dx_Shades_copyFrom_16 rfl ?_
  refine sm_getI (pc := 17) (ci := 6) (k := 1) ok dx_Shades_copyFrom_17 hq1 rfl zc_i6 (by decide) rfl wd_149 ?_
  refine sm_putI (pc := 20) (ci := 6) (k := 1) ok dx_Shades_copyFrom_20 hp rfl zc_i6 zc_y6 zc_t6 zc_n6 (by decide) rfl rfl rfl wd_149 (fun S_2 => ?_)
  exact sm_vret (pc := 23) ok dx_Shades_copyFrom_23 hr
theorem cx_Shades_copyFrom {l : Launch} {wc : sm_Wc} (hj : sm_inj zx_sy wc) (N : Nat) (S : sm_St) (p : Nat) (q1 : Nat) (hp : zx_sy.1 p = (16, 0)) (hq1 : zx_sy.1 q1 = (16, 0)) : sm_Ct l zx_sy wc yx_Shades_copyFrom prog_8_method_3_code 2 none 1 26 [.ref (wc.2.2 p), .ref (wc.2.2 q1)] S (sm_Pv zx_sy wc) (px_Shades_copyFrom N S p q1) :=
  sm_entry (Pq := fun wc => sm_Pv zx_sy wc) (fun wc => [.ref (wc.2.2 p), .ref (wc.2.2 q1)]) (lv := fun wc => [(0, .ref (wc.2.2 p)), (1, .ref (wc.2.2 q1))]) (by decide) hj zx_ok zx_stb (fun _ => Nat.le_of_ble_eq_true rfl) (fun _ => rfl) (fun x _ ok hr => tx_Shades_copyFrom ok hr N S p q1 hp hq1)
set_option maxHeartbeats 4000000 in
set_option maxRecDepth 20000 in
theorem tx_House_wakeUpWith_b61 {x : sm_Cx} (ok : sm_Ok x zx_sy prog_4_method_12_code "LentShades$House" 4 2 47) (hr : (xh x).sig.returnType = none) (N : Nat) (p : Nat) (q1 : Nat) (hp : zx_sy.1 p = (12, 0)) (hq1 : zx_sy.1 q1 = (16, 0)) (S : sm_St) : sm_Sm x zx_sy prog_4_method_12_code (sm_Q x zx_sy (sm_Pv zx_sy (xw x))) (px_House_wakeUpWith_b61 N p q1 S) S 61 [(0, .ref ((xw x).2.2 p)), (1, .ref ((xw x).2.2 q1))] [] := by
  unfold px_House_wakeUpWith_b61
  refine sm_aload_n (pc := 61) 0 ok dx_House_wakeUpWith_61 rfl ?_
  refine sm_getR (pc := 62) (ci := 2) (k := 7) ok dx_House_wakeUpWith_62 hp rfl zc_i2 (by decide) rfl wd_182 ?_
  refine sm_aload_n (pc := 65) 0 ok dx_House_wakeUpWith_65 rfl ?_
  refine sm_getI (pc := 66) (ci := 2) (k := 12) ok dx_House_wakeUpWith_66 hp rfl zc_i2 (by decide) rfl wd_194 ?_
  refine sm_aald3 (pc := 69) ok dx_House_wakeUpWith_69 (zx_House_13 hp) ?_
  refine sm_topr (fun a_11 => ?_)
  refine sm_ck (fun hc_10 => ?_)
  refine sm_aload_n (pc := 70) 0 ok dx_House_wakeUpWith_70 rfl ?_
  refine sm_getR (pc := 71) (ci := 2) (k := 6) ok dx_House_wakeUpWith_71 hp rfl zc_i2 (by decide) rfl wd_178 ?_
  refine sm_callV_v (pc := 74) (ci := 6) [.ref ((xw x).2.2 (p + 11))] ok dx_House_wakeUpWith_74 wd_728 mwx_Shades_copyFrom (of_decide_eq_true hc_10) rfl (Nat.le_of_ble_eq_true rfl) (Nat.le_of_ble_eq_true rfl) rfl rfl (Nat.le_of_ble_eq_true rfl) (cx_Shades_copyFrom (sm_okj ok) N S a_11 (p + 11) (of_decide_eq_true hc_10) (zx_House_11 hp)) (fun S_12 => ?_)
  refine sm_aload_n (pc := 77) 0 ok dx_House_wakeUpWith_77 rfl ?_
  refine sm_dup (pc := 78) ok dx_House_wakeUpWith_78 rfl ?_
  refine sm_getI (pc := 79) (ci := 2) (k := 12) ok dx_House_wakeUpWith_79 hp rfl zc_i2 (by decide) rfl wd_194 ?_
  refine sm_iconst (pc := 82) (1 : Int32) ok dx_House_wakeUpWith_82 zk_1 ?_
  refine sm_iadd (pc := 83) ok dx_House_wakeUpWith_83 ?_
  refine sm_putI (pc := 84) (ci := 2) (k := 12) ok dx_House_wakeUpWith_84 hp rfl zc_i2 zc_y2 zc_t2 zc_n2 (by decide) rfl rfl rfl wd_194 (fun S_13 => ?_)
  refine sm_aload_n (pc := 87) 0 ok dx_House_wakeUpWith_87 rfl ?_
  refine sm_getR (pc := 88) (ci := 2) (k := 6) ok dx_House_wakeUpWith_88 hp rfl zc_i2 (by decide) rfl wd_178 ?_
  refine sm_aload_n (pc := 91) 1 ok dx_House_wakeUpWith_91 rfl ?_
  refine sm_callV_v (pc := 92) (ci := 6) [.ref ((xw x).2.2 q1)] ok dx_House_wakeUpWith_92 wd_728 mwx_Shades_copyFrom (zx_House_11 hp) rfl (Nat.le_of_ble_eq_true rfl) (Nat.le_of_ble_eq_true rfl) rfl rfl (Nat.le_of_ble_eq_true rfl) (cx_Shades_copyFrom (sm_okj ok) N S_13 (p + 11) q1 (zx_House_11 hp) hq1) (fun S_14 => ?_)
  refine sm_aload_n (pc := 95) 0 ok dx_House_wakeUpWith_95 rfl ?_
  refine sm_dup (pc := 96) ok dx_House_wakeUpWith_96 rfl ?_
  refine sm_getI (pc := 97) (ci := 2) (k := 11) ok dx_House_wakeUpWith_97 hp rfl zc_i2 (by decide) rfl wd_193 ?_
  refine sm_iconst (pc := 100) (1 : Int32) ok dx_House_wakeUpWith_100 zk_1 ?_
  refine sm_iadd (pc := 101) ok dx_House_wakeUpWith_101 ?_
  refine sm_putI (pc := 102) (ci := 2) (k := 11) ok dx_House_wakeUpWith_102 hp rfl zc_i2 zc_y2 zc_t2 zc_n2 (by decide) rfl rfl rfl wd_193 (fun S_15 => ?_)
  exact sm_vret (pc := 105) ok dx_House_wakeUpWith_105 hr
set_option maxHeartbeats 4000000 in
set_option maxRecDepth 20000 in
theorem tx_House_wakeUpWith_b18 {x : sm_Cx} (ok : sm_Ok x zx_sy prog_4_method_12_code "LentShades$House" 4 2 47) (hr : (xh x).sig.returnType = none) (N : Nat) (p : Nat) (q1 : Nat) (hp : zx_sy.1 p = (12, 0)) (hq1 : zx_sy.1 q1 = (16, 0)) : ∀ (n : Nat) (a2 : Nat) (v3 : Int32) (S : sm_St) (ha2 : zx_sy.1 a2 = (16, 0)), sm_Sm x zx_sy prog_4_method_12_code (sm_Q x zx_sy (sm_Pv zx_sy (xw x))) (px_House_wakeUpWith_b18 N p q1 n a2 v3 S) S 18 [(0, .ref ((xw x).2.2 p)), (1, .ref ((xw x).2.2 q1)), (2, .ref ((xw x).2.2 a2)), (3, .int v3)] [] := by
  intro n
  induction n with
  | zero =>
    intro a2 v3 S ha2
    exact sm_none
  | succ n ih =>
    intro a2 v3 S ha2
    show sm_Sm x zx_sy prog_4_method_12_code (sm_Q x zx_sy (sm_Pv zx_sy (xw x))) (if (6 : Int32) ≤ v3 then (if sm_in (5 : Int32) 6 = true then sm_lt (sm_sR S (p + 13) (5 : Int32).toNatClampNeg a2) (fun (S_4 : sm_St) => sm_lt (sm_sI S_4 p 12 ((S_4.1 p 12) - (1 : Int32))) (fun (S_5 : sm_St) => px_House_wakeUpWith_b61 N p q1 S_5)) else none) else (if sm_in v3 6 = true then (sm_lt (S.2.2 (p + 13) v3.toNatClampNeg) (fun (a_7 : Nat) => if (decide (zx_sy.1 a_7 = (16, 0))) = true then (if sm_in (v3 - (1 : Int32)) 6 = true then sm_lt (sm_sR S (p + 13) (v3 - (1 : Int32)).toNatClampNeg a_7) (fun (S_8 : sm_St) => sm_lt (v3 + (1 : Int32)) (fun (v3_9 : Int32) => (px_House_wakeUpWith_b18 N p q1 n) a2 v3_9 S_8)) else none) else none)) else none)) S 18 [(0, .ref ((xw x).2.2 p)), (1, .ref ((xw x).2.2 q1)), (2, .ref ((xw x).2.2 a2)), (3, .int v3)] []
    refine sm_iload_n (pc := 18) 3 ok dx_House_wakeUpWith_18 rfl ?_
    refine sm_bipush (pc := 19) (6 : Int32) ok dx_House_wakeUpWith_19 zb_6 ?_
    refine sm_icmp_ge (pc := 21) 44 ok dx_House_wakeUpWith_21 (by decide) (fun _ => ?_) (fun _ => ?_)
    · refine sm_aload_n (pc := 44) 0 ok dx_House_wakeUpWith_44 rfl ?_
      refine sm_getR (pc := 45) (ci := 2) (k := 7) ok dx_House_wakeUpWith_45 hp rfl zc_i2 (by decide) rfl wd_182 ?_
      refine sm_iconst (pc := 48) (5 : Int32) ok dx_House_wakeUpWith_48 zk_5 ?_
      refine sm_aload_n (pc := 49) 2 ok dx_House_wakeUpWith_49 rfl ?_
      refine sm_aast3 (pc := 50) ok dx_House_wakeUpWith_50 (zx_House_13 hp) ha2 (fun S_4 => ?_)
      refine sm_aload_n (pc := 51) 0 ok dx_House_wakeUpWith_51 rfl ?_
      refine sm_dup (pc := 52) ok dx_House_wakeUpWith_52 rfl ?_
      refine sm_getI (pc := 53) (ci := 2) (k := 12) ok dx_House_wakeUpWith_53 hp rfl zc_i2 (by decide) rfl wd_194 ?_
      refine sm_iconst (pc := 56) (1 : Int32) ok dx_House_wakeUpWith_56 zk_1 ?_
      refine sm_isub (pc := 57) ok dx_House_wakeUpWith_57 ?_
      refine sm_putI (pc := 58) (ci := 2) (k := 12) ok dx_House_wakeUpWith_58 hp rfl zc_i2 zc_y2 zc_t2 zc_n2 (by decide) rfl rfl rfl wd_194 (fun S_5 => ?_)
      refine sm_lv [0, 1] rfl ?_
      exact tx_House_wakeUpWith_b61 ok hr N p q1 hp hq1 _
    · refine sm_aload_n (pc := 24) 0 ok dx_House_wakeUpWith_24 rfl ?_
      refine sm_getR (pc := 25) (ci := 2) (k := 7) ok dx_House_wakeUpWith_25 hp rfl zc_i2 (by decide) rfl wd_182 ?_
      refine sm_iload_n (pc := 28) 3 ok dx_House_wakeUpWith_28 rfl ?_
      refine sm_iconst (pc := 29) (1 : Int32) ok dx_House_wakeUpWith_29 zk_1 ?_
      refine sm_isub (pc := 30) ok dx_House_wakeUpWith_30 ?_
      refine sm_aload_n (pc := 31) 0 ok dx_House_wakeUpWith_31 rfl ?_
      refine sm_getR (pc := 32) (ci := 2) (k := 7) ok dx_House_wakeUpWith_32 hp rfl zc_i2 (by decide) rfl wd_182 ?_
      refine sm_iload_n (pc := 35) 3 ok dx_House_wakeUpWith_35 rfl ?_
      refine sm_aald3 (pc := 36) ok dx_House_wakeUpWith_36 (zx_House_13 hp) ?_
      refine sm_topr (fun a_7 => ?_)
      refine sm_ck (fun hc_6 => ?_)
      refine sm_aast3 (pc := 37) ok dx_House_wakeUpWith_37 (zx_House_13 hp) (of_decide_eq_true hc_6) (fun S_8 => ?_)
      refine sm_iinc (pc := 38) (i := 3) 3 (1 : Int32) ok dx_House_wakeUpWith_38 rfl zk_1 (by decide) (fun v => [(3, .int v), (0, .ref ((xw x).2.2 p)), (1, .ref ((xw x).2.2 q1)), (2, .ref ((xw x).2.2 a2))]) (fun _ => rfl) (fun v3_9 => ?_)
      refine sm_goto (pc := 41) 18 ok dx_House_wakeUpWith_41 (by decide) ?_
      refine sm_lv [1, 2, 3, 0] rfl ?_
      exact ih _ _ _ ha2
set_option maxHeartbeats 4000000 in
set_option maxRecDepth 20000 in
theorem tx_House_wakeUpWith {x : sm_Cx} (ok : sm_Ok x zx_sy prog_4_method_12_code "LentShades$House" 4 2 47) (hr : (xh x).sig.returnType = none) (N : Nat) (S : sm_St) (p : Nat) (q1 : Nat) (hp : zx_sy.1 p = (12, 0)) (hq1 : zx_sy.1 q1 = (16, 0)) : sm_Sm x zx_sy prog_4_method_12_code (sm_Q x zx_sy (sm_Pv zx_sy (xw x))) (px_House_wakeUpWith N S p q1) S 0 [(0, .ref ((xw x).2.2 p)), (1, .ref ((xw x).2.2 q1))] [] := by
  unfold px_House_wakeUpWith
  refine sm_aload_n (pc := 0) 0 ok dx_House_wakeUpWith_0 rfl ?_
  refine sm_getI (pc := 1) (ci := 2) (k := 12) ok dx_House_wakeUpWith_1 hp rfl zc_i2 (by decide) rfl wd_194 ?_
  refine sm_bipush (pc := 4) (6 : Int32) ok dx_House_wakeUpWith_4 zb_6 ?_
  refine sm_icmp_ne (pc := 6) 61 ok dx_House_wakeUpWith_6 (by decide) (fun _ => ?_) (fun _ => ?_)
  · exact tx_House_wakeUpWith_b61 ok hr N p q1 hp hq1 _
  · refine sm_aload_n (pc := 9) 0 ok dx_House_wakeUpWith_9 rfl ?_
    refine sm_getR (pc := 10) (ci := 2) (k := 7) ok dx_House_wakeUpWith_10 hp rfl zc_i2 (by decide) rfl wd_182 ?_
    refine sm_iconst (pc := 13) (0 : Int32) ok dx_House_wakeUpWith_13 zk_0 ?_
    refine sm_aald3 (pc := 14) ok dx_House_wakeUpWith_14 (zx_House_13 hp) ?_
    refine sm_topr (fun a_2 => ?_)
    refine sm_ck (fun hc_1 => ?_)
    refine sm_astore_n (pc := 15) (i := 2) ok dx_House_wakeUpWith_15 rfl (by decide) [(2, .ref ((xw x).2.2 a_2)), (0, .ref ((xw x).2.2 p)), (1, .ref ((xw x).2.2 q1))] rfl ?_
    refine sm_iconst (pc := 16) (1 : Int32) ok dx_House_wakeUpWith_16 zk_1 ?_
    refine sm_istore_n (pc := 17) (i := 3) ok dx_House_wakeUpWith_17 rfl (by decide) (fun v => [(3, .int v), (2, .ref ((xw x).2.2 a_2)), (0, .ref ((xw x).2.2 p)), (1, .ref ((xw x).2.2 q1))]) (fun _ => rfl) (fun v3_3 => ?_)
    refine sm_lv [2, 3, 1, 0] rfl ?_
    exact tx_House_wakeUpWith_b18 ok hr N p q1 hp hq1 N _ _ _ (of_decide_eq_true hc_1)
theorem cx_House_wakeUpWith {l : Launch} {wc : sm_Wc} (hj : sm_inj zx_sy wc) (N : Nat) (S : sm_St) (p : Nat) (q1 : Nat) (hp : zx_sy.1 p = (12, 0)) (hq1 : zx_sy.1 q1 = (16, 0)) : sm_Ct l zx_sy wc yx_House_wakeUpWith prog_4_method_12_code 4 none 2 47 [.ref (wc.2.2 p), .ref (wc.2.2 q1)] S (sm_Pv zx_sy wc) (px_House_wakeUpWith N S p q1) :=
  sm_entry (Pq := fun wc => sm_Pv zx_sy wc) (fun wc => [.ref (wc.2.2 p), .ref (wc.2.2 q1)]) (lv := fun wc => [(0, .ref (wc.2.2 p)), (1, .ref (wc.2.2 q1))]) (by decide) hj zx_ok zx_stb (fun _ => Nat.le_of_ble_eq_true rfl) (fun _ => rfl) (fun x _ ok hr => tx_House_wakeUpWith ok hr N S p q1 hp hq1)
set_option maxHeartbeats 4000000 in
set_option maxRecDepth 20000 in
theorem tx_L_refusedNo {x : sm_Cx} (ok : sm_Ok x zx_sy prog_1_method_33_code "LentShades" 1 0 0) (hr : (xh x).sig.returnType = (some .int)) (N : Nat) (S : sm_St) : sm_Sm x zx_sy prog_1_method_33_code (sm_Q x zx_sy (sm_Pi zx_sy (xw x))) (px_L_refusedNo N S) S 0 [(0, .ref ((xw x).2.2 0))] [] := by
  unfold px_L_refusedNo
  refine sm_aload_n (pc := 0) 0 ok dx_L_refusedNo_0 rfl ?_
  refine sm_dup (pc := 1) ok dx_L_refusedNo_1 rfl ?_
  refine sm_getI (pc := 2) (ci := 9) (k := 12) ok dx_L_refusedNo_2 rfl rfl zc_i9 (by decide) rfl wd_412 ?_
  refine sm_iconst (pc := 5) (1 : Int32) ok dx_L_refusedNo_5 zk_1 ?_
  refine sm_iadd (pc := 6) ok dx_L_refusedNo_6 ?_
  refine sm_putI (pc := 7) (ci := 9) (k := 12) ok dx_L_refusedNo_7 rfl rfl zc_i9 zc_y9 zc_t9 zc_n9 (by decide) rfl rfl rfl wd_412 (fun S_1 => ?_)
  refine sm_bipush (pc := 10) (-3 : Int32) ok dx_L_refusedNo_10 zb_m3 ?_
  exact sm_iret (pc := 12) ok dx_L_refusedNo_12 hr
theorem cx_L_refusedNo {l : Launch} {wc : sm_Wc} (hj : sm_inj zx_sy wc) (N : Nat) (S : sm_St) : sm_Ct l zx_sy wc yx_L_refusedNo prog_1_method_33_code 1 (some .int) 0 0 [.ref (wc.2.2 0)] S (sm_Pi zx_sy wc) (px_L_refusedNo N S) :=
  sm_entry (Pq := fun wc => sm_Pi zx_sy wc) (fun wc => [.ref (wc.2.2 0)]) (lv := fun wc => [(0, .ref (wc.2.2 0))]) (by decide) hj zx_ok zx_stb (fun _ => Nat.le_of_ble_eq_true rfl) (fun _ => rfl) (fun x _ ok hr => tx_L_refusedNo ok hr N S)
set_option maxHeartbeats 4000000 in
set_option maxRecDepth 20000 in
theorem tx_L_sleep {x : sm_Cx} (ok : sm_Ok x zx_sy prog_1_method_10_code "LentShades" 1 4 105) (hr : (xh x).sig.returnType = (some .int)) (N : Nat) (S : sm_St) : sm_Sm x zx_sy prog_1_method_10_code (sm_Q x zx_sy (sm_Pi zx_sy (xw x))) (px_L_sleep N S) S 0 [(0, .ref ((xw x).2.2 0))] [] := by
  unfold px_L_sleep
  refine sm_aload_n (pc := 0) 0 ok dx_L_sleep_0 rfl ?_
  refine sm_getR (pc := 1) (ci := 9) (k := 0) ok dx_L_sleep_1 rfl rfl zc_i9 (by decide) rfl wd_400 ?_
  refine sm_getI (pc := 4) (ci := 2) (k := 11) ok dx_L_sleep_4 rfl rfl zc_i2 (by decide) rfl wd_192 ?_
  refine sm_bipush (pc := 7) (12 : Int32) ok dx_L_sleep_7 zb_12 ?_
  refine sm_icmp_lt (pc := 9) 17 ok dx_L_sleep_9 (by decide) (fun _ => ?_) (fun _ => ?_)
  · refine sm_aload_n (pc := 17) 0 ok dx_L_sleep_17 rfl ?_
    refine sm_getR (pc := 18) (ci := 9) (k := 6) ok dx_L_sleep_18 rfl rfl zc_i9 (by decide) rfl wd_406 ?_
    refine sm_aload_n (pc := 21) 0 ok dx_L_sleep_21 rfl ?_
    refine sm_getR (pc := 22) (ci := 9) (k := 0) ok dx_L_sleep_22 rfl rfl zc_i9 (by decide) rfl wd_400 ?_
    refine sm_aload_n (pc := 25) 0 ok dx_L_sleep_25 rfl ?_
    refine sm_getR (pc := 26) (ci := 9) (k := 0) ok dx_L_sleep_26 rfl rfl zc_i9 (by decide) rfl wd_400 ?_
    refine sm_getR (pc := 29) (ci := 2) (k := 5) ok dx_L_sleep_29 rfl rfl zc_i2 (by decide) rfl wd_176 ?_
    refine sm_aload_n (pc := 32) 0 ok dx_L_sleep_32 rfl ?_
    refine sm_getR (pc := 33) (ci := 9) (k := 0) ok dx_L_sleep_33 rfl rfl zc_i9 (by decide) rfl wd_400 ?_
    refine sm_getR (pc := 36) (ci := 2) (k := 4) ok dx_L_sleep_36 rfl rfl zc_i2 (by decide) rfl wd_173 ?_
    refine sm_callV_v (pc := 39) (ci := 8) [.ref ((xw x).2.2 1), .ref ((xw x).2.2 7), .ref ((xw x).2.2 6)] ok dx_L_sleep_39 wd_631 mwx_Takings_reckon rfl rfl (Nat.le_of_ble_eq_true rfl) (Nat.le_of_ble_eq_true rfl) rfl rfl (Nat.le_of_ble_eq_true rfl) (cx_Takings_reckon (sm_okj ok) N S 1 7 6 rfl (sm_tag rfl) (sm_tag rfl)) (fun S_1 => ?_)
    refine sm_aload_n (pc := 42) 0 ok dx_L_sleep_42 rfl ?_
    refine sm_getR (pc := 43) (ci := 9) (k := 0) ok dx_L_sleep_43 rfl rfl zc_i9 (by decide) rfl wd_400 ?_
    refine sm_aload_n (pc := 46) 0 ok dx_L_sleep_46 rfl ?_
    refine sm_getR (pc := 47) (ci := 9) (k := 6) ok dx_L_sleep_47 rfl rfl zc_i9 (by decide) rfl wd_406 ?_
    refine sm_aload_n (pc := 50) 0 ok dx_L_sleep_50 rfl ?_
    refine sm_getR (pc := 51) (ci := 9) (k := 0) ok dx_L_sleep_51 rfl rfl zc_i9 (by decide) rfl wd_400 ?_
    refine sm_getR (pc := 54) (ci := 2) (k := 6) ok dx_L_sleep_54 rfl rfl zc_i2 (by decide) rfl wd_181 ?_
    refine sm_iconst (pc := 57) (1 : Int32) ok dx_L_sleep_57 zk_1 ?_
    refine sm_callV_r (pc := 58) (ci := 8) [.ref ((xw x).2.2 12), .int (1 : Int32)] ok dx_L_sleep_58 wd_650 mwx_Takings_behind rfl rfl (Nat.le_of_ble_eq_true rfl) (Nat.le_of_ble_eq_true rfl) rfl rfl (Nat.le_of_ble_eq_true rfl) (cx_Takings_behind (sm_okj ok) N S_1 12 (1 : Int32) rfl) (fun r_3 S_2 => ?_)
    refine sm_ck (fun hc_4 => ?_)
    refine sm_callV_v (pc := 61) (ci := 2) [.ref ((xw x).2.2 r_3)] ok dx_L_sleep_61 wd_724 mwx_House_wakeUpWith rfl rfl (Nat.le_of_ble_eq_true rfl) (Nat.le_of_ble_eq_true rfl) rfl rfl (Nat.le_of_ble_eq_true rfl) (cx_House_wakeUpWith (sm_okj ok) N S_2 1 r_3 rfl (of_decide_eq_true hc_4)) (fun S_5 => ?_)
    refine sm_aload_n (pc := 64) 0 ok dx_L_sleep_64 rfl ?_
    refine sm_getR (pc := 65) (ci := 9) (k := 0) ok dx_L_sleep_65 rfl rfl zc_i9 (by decide) rfl wd_400 ?_
    refine sm_getI (pc := 68) (ci := 2) (k := 11) ok dx_L_sleep_68 rfl rfl zc_i2 (by decide) rfl wd_192 ?_
    exact sm_iret (pc := 71) ok dx_L_sleep_71 hr
  · refine sm_aload_n (pc := 12) 0 ok dx_L_sleep_12 rfl ?_
    refine sm_callV_i (pc := 13) (ci := 9) [] ok dx_L_sleep_13 wd_720 mwx_L_refusedNo rfl rfl (Nat.le_of_ble_eq_true rfl) (Nat.le_of_ble_eq_true rfl) rfl rfl (Nat.le_of_ble_eq_true rfl) (cx_L_refusedNo (sm_okj ok) N S) (fun r_7 S_6 => ?_)
    exact sm_iret (pc := 16) ok dx_L_sleep_16 hr
theorem cx_L_sleep {l : Launch} {wc : sm_Wc} (hj : sm_inj zx_sy wc) (N : Nat) (S : sm_St) : sm_Ct l zx_sy wc yx_L_sleep prog_1_method_10_code 1 (some .int) 4 105 [.ref (wc.2.2 0)] S (sm_Pi zx_sy wc) (px_L_sleep N S) :=
  sm_entry (Pq := fun wc => sm_Pi zx_sy wc) (fun wc => [.ref (wc.2.2 0)]) (lv := fun wc => [(0, .ref (wc.2.2 0))]) (by decide) hj zx_ok zx_stb (fun _ => Nat.le_of_ble_eq_true rfl) (fun _ => rfl) (fun x _ ok hr => tx_L_sleep ok hr N S)
set_option maxHeartbeats 4000000 in
set_option maxRecDepth 20000 in
theorem tx_House_goBack {x : sm_Cx} (ok : sm_Ok x zx_sy prog_4_method_13_code "LentShades$House" 1 2 47) (hr : (xh x).sig.returnType = (some .boolean)) (N : Nat) (S : sm_St) (p : Nat) (hp : zx_sy.1 p = (12, 0)) : sm_Sm x zx_sy prog_4_method_13_code (sm_Q x zx_sy (sm_Pi zx_sy (xw x))) (px_House_goBack N S p) S 0 [(0, .ref ((xw x).2.2 p))] [] := by
  unfold px_House_goBack
  refine sm_aload_n (pc := 0) 0 ok dx_House_goBack_0 rfl ?_
  refine sm_getI (pc := 1) (ci := 2) (k := 12) ok dx_House_goBack_1 hp rfl zc_i2 (by decide) rfl wd_194 ?_
  refine sm_if_gt (pc := 4) 9 ok dx_House_goBack_4 (by decide) (fun _ => ?_) (fun _ => ?_)
  · refine sm_aload_n (pc := 9) 0 ok dx_House_goBack_9 rfl ?_
    refine sm_dup (pc := 10) ok dx_House_goBack_10 rfl ?_
    refine sm_getI (pc := 11) (ci := 2) (k := 12) ok dx_House_goBack_11 hp rfl zc_i2 (by decide) rfl wd_194 ?_
    refine sm_iconst (pc := 14) (1 : Int32) ok dx_House_goBack_14 zk_1 ?_
    refine sm_isub (pc := 15) ok dx_House_goBack_15 ?_
    refine sm_putI (pc := 16) (ci := 2) (k := 12) ok dx_House_goBack_16 hp rfl zc_i2 zc_y2 zc_t2 zc_n2 (by decide) rfl rfl rfl wd_194 (fun S_1 => ?_)
    refine sm_aload_n (pc := 19) 0 ok dx_House_goBack_19 rfl ?_
    refine sm_dup (pc := 20) ok dx_House_goBack_20 rfl ?_
    refine sm_getI (pc := 21) (ci := 2) (k := 11) ok dx_House_goBack_21 hp rfl zc_i2 (by decide) rfl wd_193 ?_
    refine sm_iconst (pc := 24) (1 : Int32) ok dx_House_goBack_24 zk_1 ?_
    refine sm_isub (pc := 25) ok dx_House_goBack_25 ?_
    refine sm_putI (pc := 26) (ci := 2) (k := 11) ok dx_House_goBack_26 hp rfl zc_i2 zc_y2 zc_t2 zc_n2 (by decide) rfl rfl rfl wd_193 (fun S_2 => ?_)
    refine sm_aload_n (pc := 29) 0 ok dx_House_goBack_29 rfl ?_
    refine sm_getR (pc := 30) (ci := 2) (k := 6) ok dx_House_goBack_30 hp rfl zc_i2 (by decide) rfl wd_178 ?_
    refine sm_aload_n (pc := 33) 0 ok dx_House_goBack_33 rfl ?_
    refine sm_getR (pc := 34) (ci := 2) (k := 7) ok dx_House_goBack_34 hp rfl zc_i2 (by decide) rfl wd_182 ?_
    refine sm_aload_n (pc := 37) 0 ok dx_House_goBack_37 rfl ?_
    refine sm_getI (pc := 38) (ci := 2) (k := 12) ok dx_House_goBack_38 hp rfl zc_i2 (by decide) rfl wd_194 ?_
    refine sm_aald3 (pc := 41) ok dx_House_goBack_41 (zx_House_13 hp) ?_
    refine sm_topr (fun a_4 => ?_)
    refine sm_ck (fun hc_3 => ?_)
    refine sm_callV_v (pc := 42) (ci := 6) [.ref ((xw x).2.2 a_4)] ok dx_House_goBack_42 wd_728 mwx_Shades_copyFrom (zx_House_11 hp) rfl (Nat.le_of_ble_eq_true rfl) (Nat.le_of_ble_eq_true rfl) rfl rfl (Nat.le_of_ble_eq_true rfl) (cx_Shades_copyFrom (sm_okj ok) N S_2 (p + 11) a_4 (zx_House_11 hp) (of_decide_eq_true hc_3)) (fun S_5 => ?_)
    refine sm_iconst (pc := 45) (1 : Int32) ok dx_House_goBack_45 zk_1 ?_
    exact sm_zret (pc := 46) ok dx_House_goBack_46 hr rfl
  · refine sm_iconst (pc := 7) (0 : Int32) ok dx_House_goBack_7 zk_0 ?_
    exact sm_zret (pc := 8) ok dx_House_goBack_8 hr rfl
theorem cx_House_goBack {l : Launch} {wc : sm_Wc} (hj : sm_inj zx_sy wc) (N : Nat) (S : sm_St) (p : Nat) (hp : zx_sy.1 p = (12, 0)) : sm_Ct l zx_sy wc yx_House_goBack prog_4_method_13_code 1 (some .boolean) 2 47 [.ref (wc.2.2 p)] S (sm_Pi zx_sy wc) (px_House_goBack N S p) :=
  sm_entry (Pq := fun wc => sm_Pi zx_sy wc) (fun wc => [.ref (wc.2.2 p)]) (lv := fun wc => [(0, .ref (wc.2.2 p))]) (by decide) hj zx_ok zx_stb (fun _ => Nat.le_of_ble_eq_true rfl) (fun _ => rfl) (fun x _ ok hr => tx_House_goBack ok hr N S p hp)
set_option maxHeartbeats 4000000 in
set_option maxRecDepth 20000 in
theorem tx_L_undo {x : sm_Cx} (ok : sm_Ok x zx_sy prog_1_method_11_code "LentShades" 1 3 67) (hr : (xh x).sig.returnType = (some .int)) (N : Nat) (S : sm_St) : sm_Sm x zx_sy prog_1_method_11_code (sm_Q x zx_sy (sm_Pi zx_sy (xw x))) (px_L_undo N S) S 0 [(0, .ref ((xw x).2.2 0))] [] := by
  unfold px_L_undo
  refine sm_aload_n (pc := 0) 0 ok dx_L_undo_0 rfl ?_
  refine sm_getR (pc := 1) (ci := 9) (k := 0) ok dx_L_undo_1 rfl rfl zc_i9 (by decide) rfl wd_400 ?_
  refine sm_callV_i (pc := 4) (ci := 2) [] ok dx_L_undo_4 wd_739 mwx_House_goBack rfl rfl (Nat.le_of_ble_eq_true rfl) (Nat.le_of_ble_eq_true rfl) rfl rfl (Nat.le_of_ble_eq_true rfl) (cx_House_goBack (sm_okj ok) N S 1 rfl) (fun r_2 S_1 => ?_)
  refine sm_if_eq (pc := 7) 14 ok dx_L_undo_7 (by decide) (fun _ => ?_) (fun _ => ?_)
  · refine sm_aload_n (pc := 14) 0 ok dx_L_undo_14 rfl ?_
    refine sm_callV_i (pc := 15) (ci := 9) [] ok dx_L_undo_15 wd_720 mwx_L_refusedNo rfl rfl (Nat.le_of_ble_eq_true rfl) (Nat.le_of_ble_eq_true rfl) rfl rfl (Nat.le_of_ble_eq_true rfl) (cx_L_refusedNo (sm_okj ok) N S_1) (fun r_4 S_3 => ?_)
    exact sm_iret (pc := 18) ok dx_L_undo_18 hr
  · refine sm_iconst (pc := 10) (1 : Int32) ok dx_L_undo_10 zk_1 ?_
    refine sm_goto (pc := 11) 18 ok dx_L_undo_11 (by decide) ?_
    exact sm_iret (pc := 18) ok dx_L_undo_18 hr
theorem cx_L_undo {l : Launch} {wc : sm_Wc} (hj : sm_inj zx_sy wc) (N : Nat) (S : sm_St) : sm_Ct l zx_sy wc yx_L_undo prog_1_method_11_code 1 (some .int) 3 67 [.ref (wc.2.2 0)] S (sm_Pi zx_sy wc) (px_L_undo N S) :=
  sm_entry (Pq := fun wc => sm_Pi zx_sy wc) (fun wc => [.ref (wc.2.2 0)]) (lv := fun wc => [(0, .ref (wc.2.2 0))]) (by decide) hj zx_ok zx_stb (fun _ => Nat.le_of_ble_eq_true rfl) (fun _ => rfl) (fun x _ ok hr => tx_L_undo ok hr N S)
set_option maxHeartbeats 4000000 in
set_option maxRecDepth 20000 in
theorem tx_Shades_hasAtLeast {x : sm_Cx} (ok : sm_Ok x zx_sy prog_8_method_6_code "LentShades$Shades" 3 1 31) (hr : (xh x).sig.returnType = (some .boolean)) (N : Nat) (S : sm_St) (p : Nat) (v1 : Int32) (v2 : Int32) (hp : zx_sy.1 p = (16, 0)) : sm_Sm x zx_sy prog_8_method_6_code (sm_Q x zx_sy (sm_Pi zx_sy (xw x))) (px_Shades_hasAtLeast N S p v1 v2) S 0 [(0, .ref ((xw x).2.2 p)), (1, .int v1), (2, .int v2)] [] := by
  unfold px_Shades_hasAtLeast
  refine sm_aload_n (pc := 0) 0 ok dx_Shades_hasAtLeast_0 rfl ?_
  refine sm_iload_n (pc := 1) 1 ok dx_Shades_hasAtLeast_1 rfl ?_
  refine sm_iconst (pc := 2) (4 : Int32) ok dx_Shades_hasAtLeast_2 zk_4 ?_
  refine sm_iload_n (pc := 3) 2 ok dx_Shades_hasAtLeast_3 rfl ?_
  refine sm_callV_i (pc := 4) (ci := 6) [.int v1, .int (4 : Int32), .int v2] ok dx_Shades_hasAtLeast_4 wd_751 mwx_Shades_compare hp rfl (Nat.le_of_ble_eq_true rfl) (Nat.le_of_ble_eq_true rfl) rfl rfl (Nat.le_of_ble_eq_true rfl) (cx_Shades_compare (sm_okj ok) N S p v1 (4 : Int32) v2 hp) (fun r_2 S_1 => ?_)
  refine sm_if_lt (pc := 7) 14 ok dx_Shades_hasAtLeast_7 (by decide) (fun _ => ?_) (fun _ => ?_)
  · refine sm_iconst (pc := 14) (0 : Int32) ok dx_Shades_hasAtLeast_14 zk_0 ?_
    exact sm_zret (pc := 15) ok dx_Shades_hasAtLeast_15 hr rfl
  · refine sm_iconst (pc := 10) (1 : Int32) ok dx_Shades_hasAtLeast_10 zk_1 ?_
    refine sm_goto (pc := 11) 15 ok dx_Shades_hasAtLeast_11 (by decide) ?_
    exact sm_zret (pc := 15) ok dx_Shades_hasAtLeast_15 hr rfl
theorem cx_Shades_hasAtLeast {l : Launch} {wc : sm_Wc} (hj : sm_inj zx_sy wc) (N : Nat) (S : sm_St) (p : Nat) (v1 : Int32) (v2 : Int32) (hp : zx_sy.1 p = (16, 0)) : sm_Ct l zx_sy wc yx_Shades_hasAtLeast prog_8_method_6_code 3 (some .boolean) 1 31 [.ref (wc.2.2 p), .int v1, .int v2] S (sm_Pi zx_sy wc) (px_Shades_hasAtLeast N S p v1 v2) :=
  sm_entry (Pq := fun wc => sm_Pi zx_sy wc) (fun wc => [.ref (wc.2.2 p), .int v1, .int v2]) (lv := fun wc => [(0, .ref (wc.2.2 p)), (1, .int v1), (2, .int v2)]) (by decide) hj zx_ok zx_stb (fun _ => Nat.le_of_ble_eq_true rfl) (fun _ => rfl) (fun x _ ok hr => tx_Shades_hasAtLeast ok hr N S p v1 v2 hp)
set_option maxHeartbeats 4000000 in
set_option maxRecDepth 20000 in
theorem tx_L_soRed_b20 {x : sm_Cx} (ok : sm_Ok x zx_sy prog_1_method_12_code "LentShades" 5 4 105) (hr : (xh x).sig.returnType = (some .int)) (N : Nat) (S : sm_St) : sm_Sm x zx_sy prog_1_method_12_code (sm_Q x zx_sy (sm_Pi zx_sy (xw x))) (px_L_soRed_b20 N S) S 20 [(0, .ref ((xw x).2.2 0))] [] := by
  unfold px_L_soRed_b20
  refine sm_aload_n (pc := 20) 0 ok dx_L_soRed_20 rfl ?_
  refine sm_callV_i (pc := 21) (ci := 9) [] ok dx_L_soRed_21 wd_450 mwx_L_refusedBad rfl rfl (Nat.le_of_ble_eq_true rfl) (Nat.le_of_ble_eq_true rfl) rfl rfl (Nat.le_of_ble_eq_true rfl) (cx_L_refusedBad (sm_okj ok) N S) (fun r_14 S_13 => ?_)
  exact sm_iret (pc := 24) ok dx_L_soRed_24 hr
set_option maxHeartbeats 4000000 in
set_option maxRecDepth 20000 in
theorem tx_L_soRed_b83 {x : sm_Cx} (ok : sm_Ok x zx_sy prog_1_method_12_code "LentShades" 5 4 105) (hr : (xh x).sig.returnType = (some .int)) (N : Nat) {r61 : Int32 → Int32 → Nat → Int32 → sm_St → Option (Int32 × sm_St)} (h61 : ∀ (v1 : Int32) (v2 : Int32) (a3 : Nat) (v4 : Int32) (S : sm_St) (ha3 : zx_sy.1 a3 = (16, 0)), sm_Sm x zx_sy prog_1_method_12_code (sm_Q x zx_sy (sm_Pi zx_sy (xw x))) (r61 v1 v2 a3 v4 S) S 61 [(0, .ref ((xw x).2.2 0)), (1, .int v1), (2, .int v2), (3, .ref ((xw x).2.2 a3)), (4, .int v4)] []) (v1 : Int32) (v2 : Int32) (a3 : Nat) (v4 : Int32) (S : sm_St) (ha3 : zx_sy.1 a3 = (16, 0)) : sm_Sm x zx_sy prog_1_method_12_code (sm_Q x zx_sy (sm_Pi zx_sy (xw x))) (px_L_soRed_b83 N r61 v1 v2 a3 v4 S) S 83 [(0, .ref ((xw x).2.2 0)), (1, .int v1), (2, .int v2), (3, .ref ((xw x).2.2 a3)), (4, .int v4)] [] := by
  unfold px_L_soRed_b83
  refine sm_aload_n (pc := 83) 3 ok dx_L_soRed_83 rfl ?_
  refine sm_iload_n (pc := 84) 1 ok dx_L_soRed_84 rfl ?_
  refine sm_iload_n (pc := 85) 2 ok dx_L_soRed_85 rfl ?_
  refine sm_callV_i (pc := 86) (ci := 6) [.int v1, .int v2] ok dx_L_soRed_86 wd_747 mwx_Shades_hasAtLeast ha3 rfl (Nat.le_of_ble_eq_true rfl) (Nat.le_of_ble_eq_true rfl) rfl rfl (Nat.le_of_ble_eq_true rfl) (cx_Shades_hasAtLeast (sm_okj ok) N S a3 v1 v2 ha3) (fun r_11 S_10 => ?_)
  refine sm_if_eq (pc := 89) 95 ok dx_L_soRed_89 (by decide) (fun _ => ?_) (fun _ => ?_)
  · refine sm_iinc (pc := 95) (i := 4) 4 (1 : Int32) ok dx_L_soRed_95 rfl zk_1 (by decide) (fun v => [(4, .int v), (0, .ref ((xw x).2.2 0)), (1, .int v1), (2, .int v2), (3, .ref ((xw x).2.2 a3))]) (fun _ => rfl) (fun v4_12 => ?_)
    refine sm_goto (pc := 98) 61 ok dx_L_soRed_98 (by decide) ?_
    refine sm_lv [1, 2, 3, 4, 0] rfl ?_
    exact h61 _ _ _ _ _ ha3
  · refine sm_iload (pc := 92) 4 ok dx_L_soRed_92 rfl ?_
    exact sm_iret (pc := 94) ok dx_L_soRed_94 hr
set_option maxHeartbeats 4000000 in
set_option maxRecDepth 20000 in
theorem tx_L_soRed_b61 {x : sm_Cx} (ok : sm_Ok x zx_sy prog_1_method_12_code "LentShades" 5 4 105) (hr : (xh x).sig.returnType = (some .int)) (N : Nat) : ∀ (n : Nat) (v1 : Int32) (v2 : Int32) (a3 : Nat) (v4 : Int32) (S : sm_St) (ha3 : zx_sy.1 a3 = (16, 0)), sm_Sm x zx_sy prog_1_method_12_code (sm_Q x zx_sy (sm_Pi zx_sy (xw x))) (px_L_soRed_b61 N n v1 v2 a3 v4 S) S 61 [(0, .ref ((xw x).2.2 0)), (1, .int v1), (2, .int v2), (3, .ref ((xw x).2.2 a3)), (4, .int v4)] [] := by
  intro n
  induction n with
  | zero =>
    intro v1 v2 a3 v4 S ha3
    exact sm_none
  | succ n ih =>
    intro v1 v2 a3 v4 S ha3
    show sm_Sm x zx_sy prog_1_method_12_code (sm_Q x zx_sy (sm_Pi zx_sy (xw x))) (if (12 : Int32) < v4 then (some ((-1 : Int32), S)) else (if v4 ≤ 0 then (px_L_soRed_b83 N (px_L_soRed_b61 N n) v1 v2 a3 v4 S) else (sm_b2 (px_Takings_behind N S a3 (1 : Int32)) (fun (r_8 : Nat) (S_7 : sm_St) => if (decide (zx_sy.1 r_8 = (16, 0))) = true then (px_L_soRed_b83 N (px_L_soRed_b61 N n) v1 v2 r_8 v4 S_7) else none)))) S 61 [(0, .ref ((xw x).2.2 0)), (1, .int v1), (2, .int v2), (3, .ref ((xw x).2.2 a3)), (4, .int v4)] []
    refine sm_iload (pc := 61) 4 ok dx_L_soRed_61 rfl ?_
    refine sm_bipush (pc := 63) (12 : Int32) ok dx_L_soRed_63 zb_12 ?_
    refine sm_icmp_gt (pc := 65) 101 ok dx_L_soRed_65 (by decide) (fun _ => ?_) (fun _ => ?_)
    · refine sm_iconst (pc := 101) (-1 : Int32) ok dx_L_soRed_101 zk_m1 ?_
      exact sm_iret (pc := 102) ok dx_L_soRed_102 hr
    · refine sm_iload (pc := 68) 4 ok dx_L_soRed_68 rfl ?_
      refine sm_if_le (pc := 70) 83 ok dx_L_soRed_70 (by decide) (fun _ => ?_) (fun _ => ?_)
      · exact tx_L_soRed_b83 ok hr N ih _ _ _ _ _ ha3
      · refine sm_aload_n (pc := 73) 0 ok dx_L_soRed_73 rfl ?_
        refine sm_getR (pc := 74) (ci := 9) (k := 6) ok dx_L_soRed_74 rfl rfl zc_i9 (by decide) rfl wd_406 ?_
        refine sm_aload_n (pc := 77) 3 ok dx_L_soRed_77 rfl ?_
        refine sm_iconst (pc := 78) (1 : Int32) ok dx_L_soRed_78 zk_1 ?_
        refine sm_callV_r (pc := 79) (ci := 8) [.ref ((xw x).2.2 a3), .int (1 : Int32)] ok dx_L_soRed_79 wd_650 mwx_Takings_behind rfl rfl (Nat.le_of_ble_eq_true rfl) (Nat.le_of_ble_eq_true rfl) rfl rfl (Nat.le_of_ble_eq_true rfl) (cx_Takings_behind (sm_okj ok) N S a3 (1 : Int32) ha3) (fun r_8 S_7 => ?_)
        refine sm_ck (fun hc_9 => ?_)
        refine sm_astore_n (pc := 82) (i := 3) ok dx_L_soRed_82 rfl (by decide) [(3, .ref ((xw x).2.2 r_8)), (0, .ref ((xw x).2.2 0)), (1, .int v1), (2, .int v2), (4, .int v4)] rfl ?_
        refine sm_lv [1, 2, 3, 0, 4] rfl ?_
        exact tx_L_soRed_b83 ok hr N ih _ _ _ _ _ (of_decide_eq_true hc_9)
set_option maxHeartbeats 4000000 in
set_option maxRecDepth 20000 in
theorem tx_L_soRed {x : sm_Cx} (ok : sm_Ok x zx_sy prog_1_method_12_code "LentShades" 5 4 105) (hr : (xh x).sig.returnType = (some .int)) (N : Nat) (S : sm_St) (v1 : Int32) (v2 : Int32) : sm_Sm x zx_sy prog_1_method_12_code (sm_Q x zx_sy (sm_Pi zx_sy (xw x))) (px_L_soRed N S v1 v2) S 0 [(0, .ref ((xw x).2.2 0)), (1, .int v1), (2, .int v2)] [] := by
  unfold px_L_soRed
  refine sm_aload_n (pc := 0) 0 ok dx_L_soRed_0 rfl ?_
  refine sm_getR (pc := 1) (ci := 9) (k := 0) ok dx_L_soRed_1 rfl rfl zc_i9 (by decide) rfl wd_400 ?_
  refine sm_iload_n (pc := 4) 1 ok dx_L_soRed_4 rfl ?_
  refine sm_callV_i (pc := 5) (ci := 2) [.int v1] ok dx_L_soRed_5 wd_630 mwx_House_hasCloth rfl rfl (Nat.le_of_ble_eq_true rfl) (Nat.le_of_ble_eq_true rfl) rfl rfl (Nat.le_of_ble_eq_true rfl) (cx_House_hasCloth (sm_okj ok) N S 1 v1 rfl) (fun r_2 S_1 => ?_)
  refine sm_if_eq (pc := 8) 20 ok dx_L_soRed_8 (by decide) (fun _ => ?_) (fun _ => ?_)
  · refine sm_lv [0] rfl ?_
    exact tx_L_soRed_b20 ok hr N _
  · refine sm_iload_n (pc := 11) 2 ok dx_L_soRed_11 rfl ?_
    refine sm_bipush (pc := 12) (12 : Int32) ok dx_L_soRed_12 zb_12 ?_
    refine sm_callS_i (pc := 14) [.int v2, .int (12 : Int32)] ok dx_L_soRed_14 wd_447 mwx_L_within (Nat.le_of_ble_eq_true rfl) (Nat.le_of_ble_eq_true rfl) rfl rfl (Nat.le_of_ble_eq_true rfl) (cx_L_within (sm_okj ok) N S_1 v2 (12 : Int32)) (fun r_4 S_3 => ?_)
    refine sm_if_ne (pc := 17) 25 ok dx_L_soRed_17 (by decide) (fun _ => ?_) (fun _ => ?_)
    · refine sm_aload_n (pc := 25) 0 ok dx_L_soRed_25 rfl ?_
      refine sm_getR (pc := 26) (ci := 9) (k := 6) ok dx_L_soRed_26 rfl rfl zc_i9 (by decide) rfl wd_406 ?_
      refine sm_aload_n (pc := 29) 0 ok dx_L_soRed_29 rfl ?_
      refine sm_getR (pc := 30) (ci := 9) (k := 0) ok dx_L_soRed_30 rfl rfl zc_i9 (by decide) rfl wd_400 ?_
      refine sm_aload_n (pc := 33) 0 ok dx_L_soRed_33 rfl ?_
      refine sm_getR (pc := 34) (ci := 9) (k := 0) ok dx_L_soRed_34 rfl rfl zc_i9 (by decide) rfl wd_400 ?_
      refine sm_getR (pc := 37) (ci := 2) (k := 5) ok dx_L_soRed_37 rfl rfl zc_i2 (by decide) rfl wd_176 ?_
      refine sm_aload_n (pc := 40) 0 ok dx_L_soRed_40 rfl ?_
      refine sm_getR (pc := 41) (ci := 9) (k := 0) ok dx_L_soRed_41 rfl rfl zc_i9 (by decide) rfl wd_400 ?_
      refine sm_getR (pc := 44) (ci := 2) (k := 4) ok dx_L_soRed_44 rfl rfl zc_i2 (by decide) rfl wd_173 ?_
      refine sm_callV_v (pc := 47) (ci := 8) [.ref ((xw x).2.2 1), .ref ((xw x).2.2 7), .ref ((xw x).2.2 6)] ok dx_L_soRed_47 wd_631 mwx_Takings_reckon rfl rfl (Nat.le_of_ble_eq_true rfl) (Nat.le_of_ble_eq_true rfl) rfl rfl (Nat.le_of_ble_eq_true rfl) (cx_Takings_reckon (sm_okj ok) N S_3 1 7 6 rfl (sm_tag rfl) (sm_tag rfl)) (fun S_5 => ?_)
      refine sm_aload_n (pc := 50) 0 ok dx_L_soRed_50 rfl ?_
      refine sm_getR (pc := 51) (ci := 9) (k := 0) ok dx_L_soRed_51 rfl rfl zc_i9 (by decide) rfl wd_400 ?_
      refine sm_getR (pc := 54) (ci := 2) (k := 6) ok dx_L_soRed_54 rfl rfl zc_i2 (by decide) rfl wd_181 ?_
      refine sm_astore_n (pc := 57) (i := 3) ok dx_L_soRed_57 rfl (by decide) [(3, .ref ((xw x).2.2 12)), (0, .ref ((xw x).2.2 0)), (1, .int v1), (2, .int v2)] rfl ?_
      refine sm_iconst (pc := 58) (0 : Int32) ok dx_L_soRed_58 zk_0 ?_
      refine sm_istore (pc := 59) (i := 4) ok dx_L_soRed_59 (by decide) (fun v => [(4, .int v), (3, .ref ((xw x).2.2 12)), (0, .ref ((xw x).2.2 0)), (1, .int v1), (2, .int v2)]) (fun _ => rfl) (fun v4_6 => ?_)
      refine sm_lv [2, 3, 4, 1, 0] rfl ?_
      exact tx_L_soRed_b61 ok hr N N _ _ _ _ _ rfl
    · refine sm_lv [0] rfl ?_
      exact tx_L_soRed_b20 ok hr N _
theorem cx_L_soRed {l : Launch} {wc : sm_Wc} (hj : sm_inj zx_sy wc) (N : Nat) (S : sm_St) (v1 : Int32) (v2 : Int32) : sm_Ct l zx_sy wc yx_L_soRed prog_1_method_12_code 5 (some .int) 4 105 [.ref (wc.2.2 0), .int v1, .int v2] S (sm_Pi zx_sy wc) (px_L_soRed N S v1 v2) :=
  sm_entry (Pq := fun wc => sm_Pi zx_sy wc) (fun wc => [.ref (wc.2.2 0), .int v1, .int v2]) (lv := fun wc => [(0, .ref (wc.2.2 0)), (1, .int v1), (2, .int v2)]) (by decide) hj zx_ok zx_stb (fun _ => Nat.le_of_ble_eq_true rfl) (fun _ => rfl) (fun x _ ok hr => tx_L_soRed ok hr N S v1 v2)
set_option maxHeartbeats 4000000 in
set_option maxRecDepth 20000 in
theorem tx_House_hasVain_b2 {x : sm_Cx} (ok : sm_Ok x zx_sy prog_4_method_6_code "LentShades$House" 2 0 0) (hr : (xh x).sig.returnType = (some .boolean)) (N : Nat) (p : Nat) (hp : zx_sy.1 p = (12, 0)) : ∀ (n : Nat) (v1 : Int32) (S : sm_St), sm_Sm x zx_sy prog_4_method_6_code (sm_Q x zx_sy (sm_Pi zx_sy (xw x))) (px_House_hasVain_b2 N p n v1 S) S 2 [(0, .ref ((xw x).2.2 p)), (1, .int v1)] [] := by
  intro n
  induction n with
  | zero =>
    intro v1 S
    exact sm_none
  | succ n ih =>
    intro v1 S
    show sm_Sm x zx_sy prog_4_method_6_code (sm_Q x zx_sy (sm_Pi zx_sy (xw x))) (if (S.1 p 9) ≤ v1 then (some ((0 : Int32), S)) else (if sm_in v1 4 = true then (if (S.1 (p + 1) v1.toNatClampNeg) = (4 : Int32) then (some ((1 : Int32), S)) else (sm_lt (v1 + (1 : Int32)) (fun (v1_2 : Int32) => (px_House_hasVain_b2 N p n) v1_2 S))) else none)) S 2 [(0, .ref ((xw x).2.2 p)), (1, .int v1)] []
    refine sm_iload_n (pc := 2) 1 ok dx_House_hasVain_2 rfl ?_
    refine sm_aload_n (pc := 3) 0 ok dx_House_hasVain_3 rfl ?_
    refine sm_getI (pc := 4) (ci := 2) (k := 9) ok dx_House_hasVain_4 hp rfl zc_i2 (by decide) rfl wd_186 ?_
    refine sm_icmp_ge (pc := 7) 28 ok dx_House_hasVain_7 (by decide) (fun _ => ?_) (fun _ => ?_)
    · refine sm_iconst (pc := 28) (0 : Int32) ok dx_House_hasVain_28 zk_0 ?_
      exact sm_zret (pc := 29) ok dx_House_hasVain_29 hr rfl
    · refine sm_aload_n (pc := 10) 0 ok dx_House_hasVain_10 rfl ?_
      refine sm_getR (pc := 11) (ci := 2) (k := 0) ok dx_House_hasVain_11 hp rfl zc_i2 (by decide) rfl wd_160 ?_
      refine sm_iload_n (pc := 14) 1 ok dx_House_hasVain_14 rfl ?_
      refine sm_iald (pc := 15) ok dx_House_hasVain_15 (zx_House_1 hp) ?_
      refine sm_iconst (pc := 16) (4 : Int32) ok dx_House_hasVain_16 zk_4 ?_
      refine sm_icmp_ne (pc := 17) 22 ok dx_House_hasVain_17 (by decide) (fun _ => ?_) (fun _ => ?_)
      · refine sm_iinc (pc := 22) (i := 1) 1 (1 : Int32) ok dx_House_hasVain_22 rfl zk_1 (by decide) (fun v => [(1, .int v), (0, .ref ((xw x).2.2 p))]) (fun _ => rfl) (fun v1_2 => ?_)
        refine sm_goto (pc := 25) 2 ok dx_House_hasVain_25 (by decide) ?_
        refine sm_lv [1, 0] rfl ?_
        exact ih _ _
      · refine sm_iconst (pc := 20) (1 : Int32) ok dx_House_hasVain_20 zk_1 ?_
        exact sm_zret (pc := 21) ok dx_House_hasVain_21 hr rfl
set_option maxHeartbeats 4000000 in
set_option maxRecDepth 20000 in
theorem tx_House_hasVain {x : sm_Cx} (ok : sm_Ok x zx_sy prog_4_method_6_code "LentShades$House" 2 0 0) (hr : (xh x).sig.returnType = (some .boolean)) (N : Nat) (S : sm_St) (p : Nat) (hp : zx_sy.1 p = (12, 0)) : sm_Sm x zx_sy prog_4_method_6_code (sm_Q x zx_sy (sm_Pi zx_sy (xw x))) (px_House_hasVain N S p) S 0 [(0, .ref ((xw x).2.2 p))] [] := by
  unfold px_House_hasVain
  refine sm_iconst (pc := 0) (0 : Int32) ok dx_House_hasVain_0 zk_0 ?_
  refine sm_istore_n (pc := 1) (i := 1) ok dx_House_hasVain_1 rfl (by decide) (fun v => [(1, .int v), (0, .ref ((xw x).2.2 p))]) (fun _ => rfl) (fun v1_1 => ?_)
  refine sm_lv [1, 0] rfl ?_
  exact tx_House_hasVain_b2 ok hr N p hp N _ _
theorem cx_House_hasVain {l : Launch} {wc : sm_Wc} (hj : sm_inj zx_sy wc) (N : Nat) (S : sm_St) (p : Nat) (hp : zx_sy.1 p = (12, 0)) : sm_Ct l zx_sy wc yx_House_hasVain prog_4_method_6_code 2 (some .boolean) 0 0 [.ref (wc.2.2 p)] S (sm_Pi zx_sy wc) (px_House_hasVain N S p) :=
  sm_entry (Pq := fun wc => sm_Pi zx_sy wc) (fun wc => [.ref (wc.2.2 p)]) (lv := fun wc => [(0, .ref (wc.2.2 p))]) (by decide) hj zx_ok zx_stb (fun _ => Nat.le_of_ble_eq_true rfl) (fun _ => rfl) (fun x _ ok hr => tx_House_hasVain ok hr N S p hp)
set_option maxHeartbeats 4000000 in
set_option maxRecDepth 20000 in
theorem tx_Resting_fill_b129 {x : sm_Cx} (ok : sm_Ok x zx_sy prog_7_method_3_code "LentShades$Resting" 6 0 0) (hr : (xh x).sig.returnType = none) (N : Nat) {r2 : Int32 → sm_St → Option (sm_St)} (h2 : ∀ (v2 : Int32) (S : sm_St), sm_Sm x zx_sy prog_7_method_3_code (sm_Q x zx_sy (sm_Pv zx_sy (xw x))) (r2 v2 S) S 2 [(0, .ref ((xw x).2.2 126)), (1, .ref ((xw x).2.2 110)), (2, .int v2)] []) (v2 : Int32) (b0 : Nat) (s1 : Int32) (s2 : Int32) (S : sm_St) (hb0 : (zx_sy.1 b0).1 = 0) : sm_Sm x zx_sy prog_7_method_3_code (sm_Q x zx_sy (sm_Pv zx_sy (xw x))) (px_Resting_fill_b129 N r2 v2 b0 s1 s2 S) S 129 [(0, .ref ((xw x).2.2 126)), (1, .ref ((xw x).2.2 110)), (2, .int v2)] [.int s2, .int s1, .ref ((xw x).2.2 b0)] := by
  unfold px_Resting_fill_b129
  refine sm_iast (pc := 129) ok dx_Resting_fill_129 (sm_sh0 hb0) (fun S_11 => ?_)
  refine sm_iinc (pc := 130) (i := 2) 2 (1 : Int32) ok dx_Resting_fill_130 rfl zk_1 (by decide) (fun v => [(2, .int v), (0, .ref ((xw x).2.2 126)), (1, .ref ((xw x).2.2 110))]) (fun _ => rfl) (fun v2_12 => ?_)
  refine sm_goto (pc := 133) 2 ok dx_Resting_fill_133 (by decide) ?_
  refine sm_lv [1, 2, 0] rfl ?_
  exact h2 _ _
set_option maxHeartbeats 4000000 in
set_option maxRecDepth 20000 in
theorem tx_Resting_fill_b92 {x : sm_Cx} (ok : sm_Ok x zx_sy prog_7_method_3_code "LentShades$Resting" 6 0 0) (hr : (xh x).sig.returnType = none) (N : Nat) {r2 : Int32 → sm_St → Option (sm_St)} {r33 : Int32 → Int32 → Int32 → sm_St → Option (sm_St)} (h2 : ∀ (v2 : Int32) (S : sm_St), sm_Sm x zx_sy prog_7_method_3_code (sm_Q x zx_sy (sm_Pv zx_sy (xw x))) (r2 v2 S) S 2 [(0, .ref ((xw x).2.2 126)), (1, .ref ((xw x).2.2 110)), (2, .int v2)] []) (h33 : ∀ (v2 : Int32) (v3 : Int32) (v4 : Int32) (S : sm_St), sm_Sm x zx_sy prog_7_method_3_code (sm_Q x zx_sy (sm_Pv zx_sy (xw x))) (r33 v2 v3 v4 S) S 33 [(0, .ref ((xw x).2.2 126)), (1, .ref ((xw x).2.2 110)), (2, .int v2), (3, .int v3), (4, .int v4)] []) (v2 : Int32) (v3 : Int32) (v4 : Int32) (b0 : Nat) (s1 : Int32) (s2 : Int32) (S : sm_St) (hb0 : (zx_sy.1 b0).1 = 0) : sm_Sm x zx_sy prog_7_method_3_code (sm_Q x zx_sy (sm_Pv zx_sy (xw x))) (px_Resting_fill_b92 N r2 r33 v2 v3 v4 b0 s1 s2 S) S 92 [(0, .ref ((xw x).2.2 126)), (1, .ref ((xw x).2.2 110)), (2, .int v2), (3, .int v3), (4, .int v4)] [.int s2, .int s1, .ref ((xw x).2.2 b0)] := by
  unfold px_Resting_fill_b92
  refine sm_iast (pc := 92) ok dx_Resting_fill_92 (sm_sh0 hb0) (fun S_9 => ?_)
  refine sm_iinc (pc := 93) (i := 4) 4 (1 : Int32) ok dx_Resting_fill_93 rfl zk_1 (by decide) (fun v => [(4, .int v), (0, .ref ((xw x).2.2 126)), (1, .ref ((xw x).2.2 110)), (2, .int v2), (3, .int v3)]) (fun _ => rfl) (fun v4_10 => ?_)
  refine sm_goto (pc := 96) 33 ok dx_Resting_fill_96 (by decide) ?_
  refine sm_lv [1, 2, 3, 4, 0] rfl ?_
  exact h33 _ _ _ _
set_option maxHeartbeats 4000000 in
set_option maxRecDepth 20000 in
theorem tx_Resting_fill_b63 {x : sm_Cx} (ok : sm_Ok x zx_sy prog_7_method_3_code "LentShades$Resting" 6 0 0) (hr : (xh x).sig.returnType = none) (N : Nat) {r2 : Int32 → sm_St → Option (sm_St)} {r33 : Int32 → Int32 → Int32 → sm_St → Option (sm_St)} (h2 : ∀ (v2 : Int32) (S : sm_St), sm_Sm x zx_sy prog_7_method_3_code (sm_Q x zx_sy (sm_Pv zx_sy (xw x))) (r2 v2 S) S 2 [(0, .ref ((xw x).2.2 126)), (1, .ref ((xw x).2.2 110)), (2, .int v2)] []) (h33 : ∀ (v2 : Int32) (v3 : Int32) (v4 : Int32) (S : sm_St), sm_Sm x zx_sy prog_7_method_3_code (sm_Q x zx_sy (sm_Pv zx_sy (xw x))) (r33 v2 v3 v4 S) S 33 [(0, .ref ((xw x).2.2 126)), (1, .ref ((xw x).2.2 110)), (2, .int v2), (3, .int v3), (4, .int v4)] []) (v2 : Int32) (v3 : Int32) (v4 : Int32) (s0 : Int32) (S : sm_St) : sm_Sm x zx_sy prog_7_method_3_code (sm_Q x zx_sy (sm_Pv zx_sy (xw x))) (px_Resting_fill_b63 N r2 r33 v2 v3 v4 s0 S) S 63 [(0, .ref ((xw x).2.2 126)), (1, .ref ((xw x).2.2 110)), (2, .int v2), (3, .int v3), (4, .int v4)] [.int s0] := by
  unfold px_Resting_fill_b63
  refine sm_istore (pc := 63) (i := 5) ok dx_Resting_fill_63 (by decide) (fun v => [(5, .int v), (0, .ref ((xw x).2.2 126)), (1, .ref ((xw x).2.2 110)), (2, .int v2), (3, .int v3), (4, .int v4)]) (fun _ => rfl) (fun v5_6 => ?_)
  refine sm_aload_n (pc := 65) 1 ok dx_Resting_fill_65 rfl ?_
  refine sm_getR (pc := 66) (ci := 5) (k := 0) ok dx_Resting_fill_66 rfl rfl zc_i5 (by decide) rfl wd_347 ?_
  refine sm_iload_n (pc := 69) 3 ok dx_Resting_fill_69 rfl ?_
  refine sm_aald5 (pc := 70) ok dx_Resting_fill_70 rfl (fun hb_7 => ?_)
  refine sm_iload (pc := 71) 5 ok dx_Resting_fill_71 rfl ?_
  refine sm_iload (pc := 73) 0 ok dx_Resting_fill_73 rfl ?_
  refine sm_if_eq (pc := 75) 91 ok dx_Resting_fill_75 (by decide) (fun _ => ?_) (fun _ => ?_)
  · refine sm_iconst (pc := 91) (0 : Int32) ok dx_Resting_fill_91 zk_0 ?_
    refine sm_lv [1, 2, 3, 4, 5] rfl ?_
    exact tx_Resting_fill_b92 ok hr N h2 h33 _ _ _ _ _ _ _ (sm_tag (zx_rows 127 4 4 (by decide) hb_7))
  · refine sm_aload_n (pc := 78) 2 ok dx_Resting_fill_78 rfl ?_
    refine sm_getR (pc := 79) (ci := 8) (k := 1) ok dx_Resting_fill_79 rfl rfl zc_i8 (by decide) rfl wd_311 ?_
    refine sm_iload_n (pc := 82) 3 ok dx_Resting_fill_82 rfl ?_
    refine sm_aald5 (pc := 83) ok dx_Resting_fill_83 rfl (fun hb_8 => ?_)
    refine sm_iload (pc := 84) 5 ok dx_Resting_fill_84 rfl ?_
    refine sm_iald (pc := 86) ok dx_Resting_fill_86 (zx_rows 114 4 5 (by decide) hb_8) ?_
    refine sm_ineg (pc := 87) ok dx_Resting_fill_87 ?_
    refine sm_goto (pc := 88) 92 ok dx_Resting_fill_88 (by decide) ?_
    refine sm_lv [1, 2, 3, 4, 5] rfl ?_
    exact tx_Resting_fill_b92 ok hr N h2 h33 _ _ _ _ _ _ _ (sm_tag (zx_rows 127 4 4 (by decide) hb_7))
set_option maxHeartbeats 4000000 in
set_option maxRecDepth 20000 in
theorem tx_Resting_fill_b62 {x : sm_Cx} (ok : sm_Ok x zx_sy prog_7_method_3_code "LentShades$Resting" 6 0 0) (hr : (xh x).sig.returnType = none) (N : Nat) {r2 : Int32 → sm_St → Option (sm_St)} {r33 : Int32 → Int32 → Int32 → sm_St → Option (sm_St)} (h2 : ∀ (v2 : Int32) (S : sm_St), sm_Sm x zx_sy prog_7_method_3_code (sm_Q x zx_sy (sm_Pv zx_sy (xw x))) (r2 v2 S) S 2 [(0, .ref ((xw x).2.2 126)), (1, .ref ((xw x).2.2 110)), (2, .int v2)] []) (h33 : ∀ (v2 : Int32) (v3 : Int32) (v4 : Int32) (S : sm_St), sm_Sm x zx_sy prog_7_method_3_code (sm_Q x zx_sy (sm_Pv zx_sy (xw x))) (r33 v2 v3 v4 S) S 33 [(0, .ref ((xw x).2.2 126)), (1, .ref ((xw x).2.2 110)), (2, .int v2), (3, .int v3), (4, .int v4)] []) (v2 : Int32) (v3 : Int32) (v4 : Int32) (S : sm_St) : sm_Sm x zx_sy prog_7_method_3_code (sm_Q x zx_sy (sm_Pv zx_sy (xw x))) (px_Resting_fill_b62 N r2 r33 v2 v3 v4 S) S 62 [(0, .ref ((xw x).2.2 126)), (1, .ref ((xw x).2.2 110)), (2, .int v2), (3, .int v3), (4, .int v4)] [] := by
  unfold px_Resting_fill_b62
  refine sm_iconst (pc := 62) (0 : Int32) ok dx_Resting_fill_62 zk_0 ?_
  exact tx_Resting_fill_b63 ok hr N h2 h33 _ _ _ _ _
set_option maxHeartbeats 4000000 in
set_option maxRecDepth 20000 in
theorem tx_Resting_fill_b33 {x : sm_Cx} (ok : sm_Ok x zx_sy prog_7_method_3_code "LentShades$Resting" 6 0 0) (hr : (xh x).sig.returnType = none) (N : Nat) {r2 : Int32 → sm_St → Option (sm_St)} (h2 : ∀ (v2 : Int32) (S : sm_St), sm_Sm x zx_sy prog_7_method_3_code (sm_Q x zx_sy (sm_Pv zx_sy (xw x))) (r2 v2 S) S 2 [(0, .ref ((xw x).2.2 126)), (1, .ref ((xw x).2.2 110)), (2, .int v2)] []) : ∀ (n : Nat) (v2 : Int32) (v3 : Int32) (v4 : Int32) (S : sm_St), sm_Sm x zx_sy prog_7_method_3_code (sm_Q x zx_sy (sm_Pv zx_sy (xw x))) (px_Resting_fill_b33 N r2 n v2 v3 v4 S) S 33 [(0, .ref ((xw x).2.2 126)), (1, .ref ((xw x).2.2 110)), (2, .int v2), (3, .int v3), (4, .int v4)] [] := by
  intro n
  induction n with
  | zero =>
    intro v2 v3 v4 S
    exact sm_none
  | succ n ih =>
    intro v2 v3 v4 S
    show sm_Sm x zx_sy prog_7_method_3_code (sm_Q x zx_sy (sm_Pv zx_sy (xw x))) (if (4 : Int32) ≤ v4 then (if sm_in v2 4 = true then (if v3 = 0 then (if sm_in v2 4 = true then (if sm_in v2 4 = true then (if sm_in v2 5 = true then (px_Resting_fill_b129 N r2 v2 (128 + v2.toNatClampNeg) v2 ((S.1 119 v2.toNatClampNeg) - (S.1 (115 + v2.toNatClampNeg) v2.toNatClampNeg)) S) else none) else none) else none) else (px_Resting_fill_b129 N r2 v2 (128 + v2.toNatClampNeg) v2 (1 : Int32) S)) else none) else (if v3 = 0 then (if v4 = v2 then (px_Resting_fill_b62 N r2 (px_Resting_fill_b33 N r2 n) v2 v3 v4 S) else (if (S.1 110 5) ≤ v4 then (px_Resting_fill_b62 N r2 (px_Resting_fill_b33 N r2 n) v2 v3 v4 S) else (px_Resting_fill_b63 N r2 (px_Resting_fill_b33 N r2 n) v2 v3 v4 (1 : Int32) S))) else (px_Resting_fill_b62 N r2 (px_Resting_fill_b33 N r2 n) v2 v3 v4 S))) S 33 [(0, .ref ((xw x).2.2 126)), (1, .ref ((xw x).2.2 110)), (2, .int v2), (3, .int v3), (4, .int v4)] []
    refine sm_iload (pc := 33) 4 ok dx_Resting_fill_33 rfl ?_
    refine sm_iconst (pc := 35) (4 : Int32) ok dx_Resting_fill_35 zk_4 ?_
    refine sm_icmp_ge (pc := 36) 99 ok dx_Resting_fill_36 (by decide) (fun _ => ?_) (fun _ => ?_)
    · refine sm_aload_n (pc := 99) 0 ok dx_Resting_fill_99 rfl ?_
      refine sm_getR (pc := 100) (ci := 5) (k := 0) ok dx_Resting_fill_100 rfl rfl zc_i5 (by decide) rfl wd_347 ?_
      refine sm_iload_n (pc := 103) 2 ok dx_Resting_fill_103 rfl ?_
      refine sm_aald5 (pc := 104) ok dx_Resting_fill_104 rfl (fun hb_4 => ?_)
      refine sm_iload_n (pc := 105) 2 ok dx_Resting_fill_105 rfl ?_
      refine sm_iload_n (pc := 106) 3 ok dx_Resting_fill_106 rfl ?_
      refine sm_if_eq (pc := 107) 114 ok dx_Resting_fill_107 (by decide) (fun _ => ?_) (fun _ => ?_)
      · refine sm_aload_n (pc := 114) 1 ok dx_Resting_fill_114 rfl ?_
        refine sm_getR (pc := 115) (ci := 8) (k := 2) ok dx_Resting_fill_115 rfl rfl zc_i8 (by decide) rfl wd_313 ?_
        refine sm_iload_n (pc := 118) 2 ok dx_Resting_fill_118 rfl ?_
        refine sm_iald (pc := 119) ok dx_Resting_fill_119 rfl ?_
        refine sm_aload_n (pc := 120) 1 ok dx_Resting_fill_120 rfl ?_
        refine sm_getR (pc := 121) (ci := 8) (k := 1) ok dx_Resting_fill_121 rfl rfl zc_i8 (by decide) rfl wd_311 ?_
        refine sm_iload_n (pc := 124) 2 ok dx_Resting_fill_124 rfl ?_
        refine sm_aald5 (pc := 125) ok dx_Resting_fill_125 rfl (fun hb_5 => ?_)
        refine sm_iload_n (pc := 126) 2 ok dx_Resting_fill_126 rfl ?_
        refine sm_iald (pc := 127) ok dx_Resting_fill_127 (zx_rows 114 4 5 (by decide) hb_5) ?_
        refine sm_isub (pc := 128) ok dx_Resting_fill_128 ?_
        refine sm_lv [0, 1, 2] rfl ?_
        exact tx_Resting_fill_b129 ok hr N h2 _ _ _ _ _ (sm_tag (zx_rows 127 4 4 (by decide) hb_4))
      · refine sm_iconst (pc := 110) (1 : Int32) ok dx_Resting_fill_110 zk_1 ?_
        refine sm_goto (pc := 111) 129 ok dx_Resting_fill_111 (by decide) ?_
        refine sm_lv [0, 1, 2] rfl ?_
        exact tx_Resting_fill_b129 ok hr N h2 _ _ _ _ _ (sm_tag (zx_rows 127 4 4 (by decide) hb_4))
    · refine sm_iload_n (pc := 39) 3 ok dx_Resting_fill_39 rfl ?_
      refine sm_if_ne (pc := 40) 62 ok dx_Resting_fill_40 (by decide) (fun _ => ?_) (fun _ => ?_)
      · exact tx_Resting_fill_b62 ok hr N h2 ih _ _ _ _
      · refine sm_iload (pc := 43) 4 ok dx_Resting_fill_43 rfl ?_
        refine sm_iload_n (pc := 45) 2 ok dx_Resting_fill_45 rfl ?_
        refine sm_icmp_eq (pc := 46) 62 ok dx_Resting_fill_46 (by decide) (fun _ => ?_) (fun _ => ?_)
        · exact tx_Resting_fill_b62 ok hr N h2 ih _ _ _ _
        · refine sm_iload (pc := 49) 4 ok dx_Resting_fill_49 rfl ?_
          refine sm_aload_n (pc := 51) 1 ok dx_Resting_fill_51 rfl ?_
          refine sm_getI (pc := 52) (ci := 8) (k := 5) ok dx_Resting_fill_52 rfl rfl zc_i8 (by decide) rfl wd_317 ?_
          refine sm_icmp_ge (pc := 55) 62 ok dx_Resting_fill_55 (by decide) (fun _ => ?_) (fun _ => ?_)
          · exact tx_Resting_fill_b62 ok hr N h2 ih _ _ _ _
          · refine sm_iconst (pc := 58) (1 : Int32) ok dx_Resting_fill_58 zk_1 ?_
            refine sm_goto (pc := 59) 63 ok dx_Resting_fill_59 (by decide) ?_
            exact tx_Resting_fill_b63 ok hr N h2 ih _ _ _ _ _
set_option maxHeartbeats 4000000 in
set_option maxRecDepth 20000 in
theorem tx_Resting_fill_b29 {x : sm_Cx} (ok : sm_Ok x zx_sy prog_7_method_3_code "LentShades$Resting" 6 0 0) (hr : (xh x).sig.returnType = none) (N : Nat) {r2 : Int32 → sm_St → Option (sm_St)} (h2 : ∀ (v2 : Int32) (S : sm_St), sm_Sm x zx_sy prog_7_method_3_code (sm_Q x zx_sy (sm_Pv zx_sy (xw x))) (r2 v2 S) S 2 [(0, .ref ((xw x).2.2 126)), (1, .ref ((xw x).2.2 110)), (2, .int v2)] []) (v2 : Int32) (s0 : Int32) (S : sm_St) : sm_Sm x zx_sy prog_7_method_3_code (sm_Q x zx_sy (sm_Pv zx_sy (xw x))) (px_Resting_fill_b29 N r2 v2 s0 S) S 29 [(0, .ref ((xw x).2.2 126)), (1, .ref ((xw x).2.2 110)), (2, .int v2)] [.int s0] := by
  unfold px_Resting_fill_b29
  refine sm_istore_n (pc := 29) (i := 3) ok dx_Resting_fill_29 rfl (by decide) (fun v => [(3, .int v), (0, .ref ((xw x).2.2 126)), (1, .ref ((xw x).2.2 110)), (2, .int v2)]) (fun _ => rfl) (fun v3_2 => ?_)
  refine sm_iconst (pc := 30) (0 : Int32) ok dx_Resting_fill_30 zk_0 ?_
  refine sm_istore (pc := 31) (i := 4) ok dx_Resting_fill_31 (by decide) (fun v => [(4, .int v), (3, .int v3_2), (0, .ref ((xw x).2.2 126)), (1, .ref ((xw x).2.2 110)), (2, .int v2)]) (fun _ => rfl) (fun v4_3 => ?_)
  refine sm_lv [2, 3, 4, 1, 0] rfl ?_
  exact tx_Resting_fill_b33 ok hr N h2 N _ _ _ _
set_option maxHeartbeats 4000000 in
set_option maxRecDepth 20000 in
theorem tx_Resting_fill_b24 {x : sm_Cx} (ok : sm_Ok x zx_sy prog_7_method_3_code "LentShades$Resting" 6 0 0) (hr : (xh x).sig.returnType = none) (N : Nat) {r2 : Int32 → sm_St → Option (sm_St)} (h2 : ∀ (v2 : Int32) (S : sm_St), sm_Sm x zx_sy prog_7_method_3_code (sm_Q x zx_sy (sm_Pv zx_sy (xw x))) (r2 v2 S) S 2 [(0, .ref ((xw x).2.2 126)), (1, .ref ((xw x).2.2 110)), (2, .int v2)] []) (v2 : Int32) (S : sm_St) : sm_Sm x zx_sy prog_7_method_3_code (sm_Q x zx_sy (sm_Pv zx_sy (xw x))) (px_Resting_fill_b24 N r2 v2 S) S 24 [(0, .ref ((xw x).2.2 126)), (1, .ref ((xw x).2.2 110)), (2, .int v2)] [] := by
  unfold px_Resting_fill_b24
  refine sm_iconst (pc := 24) (1 : Int32) ok dx_Resting_fill_24 zk_1 ?_
  refine sm_goto (pc := 25) 29 ok dx_Resting_fill_25 (by decide) ?_
  exact tx_Resting_fill_b29 ok hr N h2 _ _ _
set_option maxHeartbeats 4000000 in
set_option maxRecDepth 20000 in
theorem tx_Resting_fill_b2 {x : sm_Cx} (ok : sm_Ok x zx_sy prog_7_method_3_code "LentShades$Resting" 6 0 0) (hr : (xh x).sig.returnType = none) (N : Nat) : ∀ (n : Nat) (v2 : Int32) (S : sm_St), sm_Sm x zx_sy prog_7_method_3_code (sm_Q x zx_sy (sm_Pv zx_sy (xw x))) (px_Resting_fill_b2 N n v2 S) S 2 [(0, .ref ((xw x).2.2 126)), (1, .ref ((xw x).2.2 110)), (2, .int v2)] [] := by
  intro n
  induction n with
  | zero =>
    intro v2 S
    exact sm_none
  | succ n ih =>
    intro v2 S
    show sm_Sm x zx_sy prog_7_method_3_code (sm_Q x zx_sy (sm_Pv zx_sy (xw x))) (if (4 : Int32) ≤ v2 then (some S) else (if (S.1 110 5) ≤ v2 then (px_Resting_fill_b24 N (px_Resting_fill_b2 N n) v2 S) else (if sm_in v2 4 = true then (if (S.1 119 v2.toNatClampNeg) = 0 then (px_Resting_fill_b24 N (px_Resting_fill_b2 N n) v2 S) else (px_Resting_fill_b29 N (px_Resting_fill_b2 N n) v2 (0 : Int32) S)) else none))) S 2 [(0, .ref ((xw x).2.2 126)), (1, .ref ((xw x).2.2 110)), (2, .int v2)] []
    refine sm_iload_n (pc := 2) 2 ok dx_Resting_fill_2 rfl ?_
    refine sm_iconst (pc := 3) (4 : Int32) ok dx_Resting_fill_3 zk_4 ?_
    refine sm_icmp_ge (pc := 4) 136 ok dx_Resting_fill_4 (by decide) (fun _ => ?_) (fun _ => ?_)
    · exact sm_vret (pc := 136) ok dx_Resting_fill_136 hr
    · refine sm_iload_n (pc := 7) 2 ok dx_Resting_fill_7 rfl ?_
      refine sm_aload_n (pc := 8) 1 ok dx_Resting_fill_8 rfl ?_
      refine sm_getI (pc := 9) (ci := 8) (k := 5) ok dx_Resting_fill_9 rfl rfl zc_i8 (by decide) rfl wd_317 ?_
      refine sm_icmp_ge (pc := 12) 24 ok dx_Resting_fill_12 (by decide) (fun _ => ?_) (fun _ => ?_)
      · exact tx_Resting_fill_b24 ok hr N ih _ _
      · refine sm_aload_n (pc := 15) 1 ok dx_Resting_fill_15 rfl ?_
        refine sm_getR (pc := 16) (ci := 8) (k := 2) ok dx_Resting_fill_16 rfl rfl zc_i8 (by decide) rfl wd_313 ?_
        refine sm_iload_n (pc := 19) 2 ok dx_Resting_fill_19 rfl ?_
        refine sm_iald (pc := 20) ok dx_Resting_fill_20 rfl ?_
        refine sm_if_ne (pc := 21) 28 ok dx_Resting_fill_21 (by decide) (fun _ => ?_) (fun _ => ?_)
        · refine sm_iconst (pc := 28) (0 : Int32) ok dx_Resting_fill_28 zk_0 ?_
          exact tx_Resting_fill_b29 ok hr N ih _ _ _
        · exact tx_Resting_fill_b24 ok hr N ih _ _
set_option maxHeartbeats 4000000 in
set_option maxRecDepth 20000 in
theorem tx_Resting_fill {x : sm_Cx} (ok : sm_Ok x zx_sy prog_7_method_3_code "LentShades$Resting" 6 0 0) (hr : (xh x).sig.returnType = none) (N : Nat) (S : sm_St) : sm_Sm x zx_sy prog_7_method_3_code (sm_Q x zx_sy (sm_Pv zx_sy (xw x))) (px_Resting_fill N S) S 0 [(0, .ref ((xw x).2.2 126)), (1, .ref ((xw x).2.2 110))] [] := by
  unfold px_Resting_fill
  refine sm_iconst (pc := 0) (0 : Int32) ok dx_Resting_fill_0 zk_0 ?_
  refine sm_istore_n (pc := 1) (i := 2) ok dx_Resting_fill_1 rfl (by decide) (fun v => [(2, .int v), (0, .ref ((xw x).2.2 126)), (1, .ref ((xw x).2.2 110))]) (fun _ => rfl) (fun v2_1 => ?_)
  refine sm_lv [1, 2, 0] rfl ?_
  exact tx_Resting_fill_b2 ok hr N N _ _
theorem cx_Resting_fill {l : Launch} {wc : sm_Wc} (hj : sm_inj zx_sy wc) (N : Nat) (S : sm_St) : sm_Ct l zx_sy wc yx_Resting_fill prog_7_method_3_code 6 none 0 0 [.ref (wc.2.2 126), .ref (wc.2.2 110)] S (sm_Pv zx_sy wc) (px_Resting_fill N S) :=
  sm_entry (Pq := fun wc => sm_Pv zx_sy wc) (fun wc => [.ref (wc.2.2 126), .ref (wc.2.2 110)]) (lv := fun wc => [(0, .ref (wc.2.2 126)), (1, .ref (wc.2.2 110))]) (by decide) hj zx_ok zx_stb (fun _ => Nat.le_of_ble_eq_true rfl) (fun _ => rfl) (fun x _ ok hr => tx_Resting_fill ok hr N S)
set_option maxHeartbeats 4000000 in
set_option maxRecDepth 20000 in
theorem tx_Resting_minor_b82 {x : sm_Cx} (ok : sm_Ok x zx_sy prog_7_method_4_code "LentShades$Resting" 9 0 0) (hr : (xh x).sig.returnType = (some .int)) (N : Nat) (a3 : Nat) (a4 : Nat) (a5 : Nat) (v6 : Int32) (v7 : Int32) (s0 : Int32) (S : sm_St) (ha3 : (zx_sy.1 a3).1 = 0) (ha4 : (zx_sy.1 a4).1 = 0) (ha5 : (zx_sy.1 a5).1 = 0) : sm_Sm x zx_sy prog_7_method_4_code (sm_Q x zx_sy (sm_Pi zx_sy (xw x))) (px_Resting_minor_b82 N a3 a4 a5 v6 v7 s0 S) S 82 [(3, .ref ((xw x).2.2 a3)), (4, .ref ((xw x).2.2 a4)), (5, .ref ((xw x).2.2 a5)), (6, .int v6), (7, .int v7)] [.int s0] := by
  unfold px_Resting_minor_b82
  refine sm_istore (pc := 82) (i := 8) ok dx_Resting_minor_82 (by decide) (fun v => [(8, .int v), (3, .ref ((xw x).2.2 a3)), (4, .ref ((xw x).2.2 a4)), (5, .ref ((xw x).2.2 a5)), (6, .int v6), (7, .int v7)]) (fun _ => rfl) (fun v8_6 => ?_)
  refine sm_aload_n (pc := 84) 1 ok dx_Resting_minor_84 rfl ?_
  refine sm_iload (pc := 85) 4 ok dx_Resting_minor_85 rfl ?_
  refine sm_iald (pc := 87) ok dx_Resting_minor_87 (sm_sh0 ha3) ?_
  refine sm_aload (pc := 88) 2 ok dx_Resting_minor_88 rfl ?_
  refine sm_iload (pc := 90) 5 ok dx_Resting_minor_90 rfl ?_
  refine sm_iald (pc := 92) ok dx_Resting_minor_92 (sm_sh0 ha4) ?_
  refine sm_aload (pc := 93) 3 ok dx_Resting_minor_93 rfl ?_
  refine sm_iload (pc := 95) 0 ok dx_Resting_minor_95 rfl ?_
  refine sm_iald (pc := 97) ok dx_Resting_minor_97 (sm_sh0 ha5) ?_
  refine sm_imul (pc := 98) ok dx_Resting_minor_98 ?_
  refine sm_aload (pc := 99) 2 ok dx_Resting_minor_99 rfl ?_
  refine sm_iload (pc := 101) 0 ok dx_Resting_minor_101 rfl ?_
  refine sm_iald (pc := 103) ok dx_Resting_minor_103 (sm_sh0 ha4) ?_
  refine sm_aload (pc := 104) 3 ok dx_Resting_minor_104 rfl ?_
  refine sm_iload (pc := 106) 5 ok dx_Resting_minor_106 rfl ?_
  refine sm_iald (pc := 108) ok dx_Resting_minor_108 (sm_sh0 ha5) ?_
  refine sm_imul (pc := 109) ok dx_Resting_minor_109 ?_
  refine sm_isub (pc := 110) ok dx_Resting_minor_110 ?_
  refine sm_imul (pc := 111) ok dx_Resting_minor_111 ?_
  refine sm_aload_n (pc := 112) 1 ok dx_Resting_minor_112 rfl ?_
  refine sm_iload (pc := 113) 5 ok dx_Resting_minor_113 rfl ?_
  refine sm_iald (pc := 115) ok dx_Resting_minor_115 (sm_sh0 ha3) ?_
  refine sm_aload (pc := 116) 2 ok dx_Resting_minor_116 rfl ?_
  refine sm_iload (pc := 118) 4 ok dx_Resting_minor_118 rfl ?_
  refine sm_iald (pc := 120) ok dx_Resting_minor_120 (sm_sh0 ha4) ?_
  refine sm_aload (pc := 121) 3 ok dx_Resting_minor_121 rfl ?_
  refine sm_iload (pc := 123) 0 ok dx_Resting_minor_123 rfl ?_
  refine sm_iald (pc := 125) ok dx_Resting_minor_125 (sm_sh0 ha5) ?_
  refine sm_imul (pc := 126) ok dx_Resting_minor_126 ?_
  refine sm_aload (pc := 127) 2 ok dx_Resting_minor_127 rfl ?_
  refine sm_iload (pc := 129) 0 ok dx_Resting_minor_129 rfl ?_
  refine sm_iald (pc := 131) ok dx_Resting_minor_131 (sm_sh0 ha4) ?_
  refine sm_aload (pc := 132) 3 ok dx_Resting_minor_132 rfl ?_
  refine sm_iload (pc := 134) 4 ok dx_Resting_minor_134 rfl ?_
  refine sm_iald (pc := 136) ok dx_Resting_minor_136 (sm_sh0 ha5) ?_
  refine sm_imul (pc := 137) ok dx_Resting_minor_137 ?_
  refine sm_isub (pc := 138) ok dx_Resting_minor_138 ?_
  refine sm_imul (pc := 139) ok dx_Resting_minor_139 ?_
  refine sm_isub (pc := 140) ok dx_Resting_minor_140 ?_
  refine sm_aload_n (pc := 141) 1 ok dx_Resting_minor_141 rfl ?_
  refine sm_iload (pc := 142) 0 ok dx_Resting_minor_142 rfl ?_
  refine sm_iald (pc := 144) ok dx_Resting_minor_144 (sm_sh0 ha3) ?_
  refine sm_aload (pc := 145) 2 ok dx_Resting_minor_145 rfl ?_
  refine sm_iload (pc := 147) 4 ok dx_Resting_minor_147 rfl ?_
  refine sm_iald (pc := 149) ok dx_Resting_minor_149 (sm_sh0 ha4) ?_
  refine sm_aload (pc := 150) 3 ok dx_Resting_minor_150 rfl ?_
  refine sm_iload (pc := 152) 5 ok dx_Resting_minor_152 rfl ?_
  refine sm_iald (pc := 154) ok dx_Resting_minor_154 (sm_sh0 ha5) ?_
  refine sm_imul (pc := 155) ok dx_Resting_minor_155 ?_
  refine sm_aload (pc := 156) 2 ok dx_Resting_minor_156 rfl ?_
  refine sm_iload (pc := 158) 5 ok dx_Resting_minor_158 rfl ?_
  refine sm_iald (pc := 160) ok dx_Resting_minor_160 (sm_sh0 ha4) ?_
  refine sm_aload (pc := 161) 3 ok dx_Resting_minor_161 rfl ?_
  refine sm_iload (pc := 163) 4 ok dx_Resting_minor_163 rfl ?_
  refine sm_iald (pc := 165) ok dx_Resting_minor_165 (sm_sh0 ha5) ?_
  refine sm_imul (pc := 166) ok dx_Resting_minor_166 ?_
  refine sm_isub (pc := 167) ok dx_Resting_minor_167 ?_
  refine sm_imul (pc := 168) ok dx_Resting_minor_168 ?_
  refine sm_iadd (pc := 169) ok dx_Resting_minor_169 ?_
  exact sm_iret (pc := 170) ok dx_Resting_minor_170 hr
set_option maxHeartbeats 4000000 in
set_option maxRecDepth 20000 in
theorem tx_Resting_minor_b70 {x : sm_Cx} (ok : sm_Ok x zx_sy prog_7_method_4_code "LentShades$Resting" 9 0 0) (hr : (xh x).sig.returnType = (some .int)) (N : Nat) (v2 : Int32) (a3 : Nat) (a4 : Nat) (a5 : Nat) (v6 : Int32) (s0 : Int32) (S : sm_St) (ha3 : (zx_sy.1 a3).1 = 0) (ha4 : (zx_sy.1 a4).1 = 0) (ha5 : (zx_sy.1 a5).1 = 0) : sm_Sm x zx_sy prog_7_method_4_code (sm_Q x zx_sy (sm_Pi zx_sy (xw x))) (px_Resting_minor_b70 N v2 a3 a4 a5 v6 s0 S) S 70 [(2, .int v2), (3, .ref ((xw x).2.2 a3)), (4, .ref ((xw x).2.2 a4)), (5, .ref ((xw x).2.2 a5)), (6, .int v6)] [.int s0] := by
  unfold px_Resting_minor_b70
  refine sm_istore (pc := 70) (i := 7) ok dx_Resting_minor_70 (by decide) (fun v => [(7, .int v), (2, .int v2), (3, .ref ((xw x).2.2 a3)), (4, .ref ((xw x).2.2 a4)), (5, .ref ((xw x).2.2 a5)), (6, .int v6)]) (fun _ => rfl) (fun v7_5 => ?_)
  refine sm_iload_n (pc := 72) 1 ok dx_Resting_minor_72 rfl ?_
  refine sm_iconst (pc := 73) (2 : Int32) ok dx_Resting_minor_73 zk_2 ?_
  refine sm_icmp_gt (pc := 74) 81 ok dx_Resting_minor_74 (by decide) (fun _ => ?_) (fun _ => ?_)
  · refine sm_iconst (pc := 81) (2 : Int32) ok dx_Resting_minor_81 zk_2 ?_
    refine sm_lv [2, 3, 4, 5, 0] rfl ?_
    exact tx_Resting_minor_b82 ok hr N _ _ _ _ _ _ _ (sm_tag (sm_sh0 ha3)) (sm_tag (sm_sh0 ha4)) (sm_tag (sm_sh0 ha5))
  · refine sm_iconst (pc := 77) (3 : Int32) ok dx_Resting_minor_77 zk_3 ?_
    refine sm_goto (pc := 78) 82 ok dx_Resting_minor_78 (by decide) ?_
    refine sm_lv [2, 3, 4, 5, 0] rfl ?_
    exact tx_Resting_minor_b82 ok hr N _ _ _ _ _ _ _ (sm_tag (sm_sh0 ha3)) (sm_tag (sm_sh0 ha4)) (sm_tag (sm_sh0 ha5))
set_option maxHeartbeats 4000000 in
set_option maxRecDepth 20000 in
theorem tx_Resting_minor_b58 {x : sm_Cx} (ok : sm_Ok x zx_sy prog_7_method_4_code "LentShades$Resting" 9 0 0) (hr : (xh x).sig.returnType = (some .int)) (N : Nat) (v2 : Int32) (a3 : Nat) (a4 : Nat) (a5 : Nat) (s0 : Int32) (S : sm_St) (ha3 : (zx_sy.1 a3).1 = 0) (ha4 : (zx_sy.1 a4).1 = 0) (ha5 : (zx_sy.1 a5).1 = 0) : sm_Sm x zx_sy prog_7_method_4_code (sm_Q x zx_sy (sm_Pi zx_sy (xw x))) (px_Resting_minor_b58 N v2 a3 a4 a5 s0 S) S 58 [(2, .int v2), (3, .ref ((xw x).2.2 a3)), (4, .ref ((xw x).2.2 a4)), (5, .ref ((xw x).2.2 a5))] [.int s0] := by
  unfold px_Resting_minor_b58
  refine sm_istore (pc := 58) (i := 6) ok dx_Resting_minor_58 (by decide) (fun v => [(6, .int v), (2, .int v2), (3, .ref ((xw x).2.2 a3)), (4, .ref ((xw x).2.2 a4)), (5, .ref ((xw x).2.2 a5))]) (fun _ => rfl) (fun v6_4 => ?_)
  refine sm_iload_n (pc := 60) 1 ok dx_Resting_minor_60 rfl ?_
  refine sm_iconst (pc := 61) (1 : Int32) ok dx_Resting_minor_61 zk_1 ?_
  refine sm_icmp_gt (pc := 62) 69 ok dx_Resting_minor_62 (by decide) (fun _ => ?_) (fun _ => ?_)
  · refine sm_iconst (pc := 69) (1 : Int32) ok dx_Resting_minor_69 zk_1 ?_
    refine sm_lv [1, 2, 3, 4, 0] rfl ?_
    exact tx_Resting_minor_b70 ok hr N _ _ _ _ _ _ _ (sm_tag (sm_sh0 ha3)) (sm_tag (sm_sh0 ha4)) (sm_tag (sm_sh0 ha5))
  · refine sm_iconst (pc := 65) (2 : Int32) ok dx_Resting_minor_65 zk_2 ?_
    refine sm_goto (pc := 66) 70 ok dx_Resting_minor_66 (by decide) ?_
    refine sm_lv [1, 2, 3, 4, 0] rfl ?_
    exact tx_Resting_minor_b70 ok hr N _ _ _ _ _ _ _ (sm_tag (sm_sh0 ha3)) (sm_tag (sm_sh0 ha4)) (sm_tag (sm_sh0 ha5))
set_option maxHeartbeats 4000000 in
set_option maxRecDepth 20000 in
theorem tx_Resting_minor_b46 {x : sm_Cx} (ok : sm_Ok x zx_sy prog_7_method_4_code "LentShades$Resting" 9 0 0) (hr : (xh x).sig.returnType = (some .int)) (N : Nat) (v2 : Int32) (a3 : Nat) (a4 : Nat) (s1 : Int32) (S : sm_St) (ha3 : (zx_sy.1 a3).1 = 0) (ha4 : (zx_sy.1 a4).1 = 0) : sm_Sm x zx_sy prog_7_method_4_code (sm_Q x zx_sy (sm_Pi zx_sy (xw x))) (px_Resting_minor_b46 N v2 a3 a4 s1 S) S 46 [(2, .int v2), (3, .ref ((xw x).2.2 a3)), (4, .ref ((xw x).2.2 a4))] [.int s1, .ref ((xw x).2.2 127)] := by
  unfold px_Resting_minor_b46
  refine sm_aald5 (pc := 46) ok dx_Resting_minor_46 rfl (fun hb_3 => ?_)
  refine sm_astore (pc := 47) (i := 5) ok dx_Resting_minor_47 (by decide) [(5, .ref ((xw x).2.2 (128 + s1.toNatClampNeg))), (2, .int v2), (3, .ref ((xw x).2.2 a3)), (4, .ref ((xw x).2.2 a4))] rfl ?_
  refine sm_iload_n (pc := 49) 1 ok dx_Resting_minor_49 rfl ?_
  refine sm_if_ne (pc := 50) 57 ok dx_Resting_minor_50 (by decide) (fun _ => ?_) (fun _ => ?_)
  · refine sm_iconst (pc := 57) (0 : Int32) ok dx_Resting_minor_57 zk_0 ?_
    refine sm_lv [1, 2, 3, 0] rfl ?_
    exact tx_Resting_minor_b58 ok hr N _ _ _ _ _ _ (sm_tag (sm_sh0 ha3)) (sm_tag (sm_sh0 ha4)) (sm_tag (zx_rows 127 4 4 (by decide) hb_3))
  · refine sm_iconst (pc := 53) (1 : Int32) ok dx_Resting_minor_53 zk_1 ?_
    refine sm_goto (pc := 54) 58 ok dx_Resting_minor_54 (by decide) ?_
    refine sm_lv [1, 2, 3, 0] rfl ?_
    exact tx_Resting_minor_b58 ok hr N _ _ _ _ _ _ (sm_tag (sm_sh0 ha3)) (sm_tag (sm_sh0 ha4)) (sm_tag (zx_rows 127 4 4 (by decide) hb_3))
set_option maxHeartbeats 4000000 in
set_option maxRecDepth 20000 in
theorem tx_Resting_minor_b29 {x : sm_Cx} (ok : sm_Ok x zx_sy prog_7_method_4_code "LentShades$Resting" 9 0 0) (hr : (xh x).sig.returnType = (some .int)) (N : Nat) (v1 : Int32) (v2 : Int32) (a3 : Nat) (s1 : Int32) (S : sm_St) (ha3 : (zx_sy.1 a3).1 = 0) : sm_Sm x zx_sy prog_7_method_4_code (sm_Q x zx_sy (sm_Pi zx_sy (xw x))) (px_Resting_minor_b29 N v1 v2 a3 s1 S) S 29 [(0, .ref ((xw x).2.2 126)), (1, .int v1), (2, .int v2), (3, .ref ((xw x).2.2 a3))] [.int s1, .ref ((xw x).2.2 127)] := by
  unfold px_Resting_minor_b29
  refine sm_aald5 (pc := 29) ok dx_Resting_minor_29 rfl (fun hb_2 => ?_)
  refine sm_astore (pc := 30) (i := 4) ok dx_Resting_minor_30 (by decide) [(4, .ref ((xw x).2.2 (128 + s1.toNatClampNeg))), (0, .ref ((xw x).2.2 126)), (1, .int v1), (2, .int v2), (3, .ref ((xw x).2.2 a3))] rfl ?_
  refine sm_aload_n (pc := 32) 1 ok dx_Resting_minor_32 rfl ?_
  refine sm_getR (pc := 33) (ci := 5) (k := 0) ok dx_Resting_minor_33 rfl rfl zc_i5 (by decide) rfl wd_347 ?_
  refine sm_iload_n (pc := 36) 2 ok dx_Resting_minor_36 rfl ?_
  refine sm_iconst (pc := 37) (2 : Int32) ok dx_Resting_minor_37 zk_2 ?_
  refine sm_icmp_gt (pc := 38) 45 ok dx_Resting_minor_38 (by decide) (fun _ => ?_) (fun _ => ?_)
  · refine sm_iconst (pc := 45) (2 : Int32) ok dx_Resting_minor_45 zk_2 ?_
    refine sm_lv [3, 4, 0] rfl ?_
    exact tx_Resting_minor_b46 ok hr N _ _ _ _ _ (sm_tag (sm_sh0 ha3)) (sm_tag (zx_rows 127 4 4 (by decide) hb_2))
  · refine sm_iconst (pc := 41) (3 : Int32) ok dx_Resting_minor_41 zk_3 ?_
    refine sm_goto (pc := 42) 46 ok dx_Resting_minor_42 (by decide) ?_
    refine sm_lv [3, 4, 0] rfl ?_
    exact tx_Resting_minor_b46 ok hr N _ _ _ _ _ (sm_tag (sm_sh0 ha3)) (sm_tag (zx_rows 127 4 4 (by decide) hb_2))
set_option maxHeartbeats 4000000 in
set_option maxRecDepth 20000 in
theorem tx_Resting_minor_b13 {x : sm_Cx} (ok : sm_Ok x zx_sy prog_7_method_4_code "LentShades$Resting" 9 0 0) (hr : (xh x).sig.returnType = (some .int)) (N : Nat) (v1 : Int32) (v2 : Int32) (s1 : Int32) (S : sm_St) : sm_Sm x zx_sy prog_7_method_4_code (sm_Q x zx_sy (sm_Pi zx_sy (xw x))) (px_Resting_minor_b13 N v1 v2 s1 S) S 13 [(0, .ref ((xw x).2.2 126)), (1, .int v1), (2, .int v2)] [.int s1, .ref ((xw x).2.2 127)] := by
  unfold px_Resting_minor_b13
  refine sm_aald5 (pc := 13) ok dx_Resting_minor_13 rfl (fun hb_1 => ?_)
  refine sm_astore_n (pc := 14) (i := 3) ok dx_Resting_minor_14 rfl (by decide) [(3, .ref ((xw x).2.2 (128 + s1.toNatClampNeg))), (0, .ref ((xw x).2.2 126)), (1, .int v1), (2, .int v2)] rfl ?_
  refine sm_aload_n (pc := 15) 1 ok dx_Resting_minor_15 rfl ?_
  refine sm_getR (pc := 16) (ci := 5) (k := 0) ok dx_Resting_minor_16 rfl rfl zc_i5 (by decide) rfl wd_347 ?_
  refine sm_iload_n (pc := 19) 2 ok dx_Resting_minor_19 rfl ?_
  refine sm_iconst (pc := 20) (1 : Int32) ok dx_Resting_minor_20 zk_1 ?_
  refine sm_icmp_gt (pc := 21) 28 ok dx_Resting_minor_21 (by decide) (fun _ => ?_) (fun _ => ?_)
  · refine sm_iconst (pc := 28) (1 : Int32) ok dx_Resting_minor_28 zk_1 ?_
    refine sm_lv [1, 2, 3, 0] rfl ?_
    exact tx_Resting_minor_b29 ok hr N _ _ _ _ _ (sm_tag (zx_rows 127 4 4 (by decide) hb_1))
  · refine sm_iconst (pc := 24) (2 : Int32) ok dx_Resting_minor_24 zk_2 ?_
    refine sm_goto (pc := 25) 29 ok dx_Resting_minor_25 (by decide) ?_
    refine sm_lv [1, 2, 3, 0] rfl ?_
    exact tx_Resting_minor_b29 ok hr N _ _ _ _ _ (sm_tag (zx_rows 127 4 4 (by decide) hb_1))
set_option maxHeartbeats 4000000 in
set_option maxRecDepth 20000 in
theorem tx_Resting_minor {x : sm_Cx} (ok : sm_Ok x zx_sy prog_7_method_4_code "LentShades$Resting" 9 0 0) (hr : (xh x).sig.returnType = (some .int)) (N : Nat) (S : sm_St) (v1 : Int32) (v2 : Int32) : sm_Sm x zx_sy prog_7_method_4_code (sm_Q x zx_sy (sm_Pi zx_sy (xw x))) (px_Resting_minor N S v1 v2) S 0 [(0, .ref ((xw x).2.2 126)), (1, .int v1), (2, .int v2)] [] := by
  unfold px_Resting_minor
  refine sm_aload_n (pc := 0) 0 ok dx_Resting_minor_0 rfl ?_
  refine sm_getR (pc := 1) (ci := 5) (k := 0) ok dx_Resting_minor_1 rfl rfl zc_i5 (by decide) rfl wd_347 ?_
  refine sm_iload_n (pc := 4) 1 ok dx_Resting_minor_4 rfl ?_
  refine sm_if_ne (pc := 5) 12 ok dx_Resting_minor_5 (by decide) (fun _ => ?_) (fun _ => ?_)
  · refine sm_iconst (pc := 12) (0 : Int32) ok dx_Resting_minor_12 zk_0 ?_
    exact tx_Resting_minor_b13 ok hr N _ _ _ _
  · refine sm_iconst (pc := 8) (1 : Int32) ok dx_Resting_minor_8 zk_1 ?_
    refine sm_goto (pc := 9) 13 ok dx_Resting_minor_9 (by decide) ?_
    exact tx_Resting_minor_b13 ok hr N _ _ _ _
theorem cx_Resting_minor {l : Launch} {wc : sm_Wc} (hj : sm_inj zx_sy wc) (N : Nat) (S : sm_St) (v1 : Int32) (v2 : Int32) : sm_Ct l zx_sy wc yx_Resting_minor prog_7_method_4_code 9 (some .int) 0 0 [.ref (wc.2.2 126), .int v1, .int v2] S (sm_Pi zx_sy wc) (px_Resting_minor N S v1 v2) :=
  sm_entry (Pq := fun wc => sm_Pi zx_sy wc) (fun wc => [.ref (wc.2.2 126), .int v1, .int v2]) (lv := fun wc => [(0, .ref (wc.2.2 126)), (1, .int v1), (2, .int v2)]) (by decide) hj zx_ok zx_stb (fun _ => Nat.le_of_ble_eq_true rfl) (fun _ => rfl) (fun x _ ok hr => tx_Resting_minor ok hr N S v1 v2)
set_option maxHeartbeats 4000000 in
set_option maxRecDepth 20000 in
theorem tx_Resting_solve_b128 {x : sm_Cx} (ok : sm_Ok x zx_sy prog_7_method_2_code "LentShades$Resting" 7 1 28) (hr : (xh x).sig.returnType = (some .int)) (N : Nat) (q3 : Nat) (hq3 : zx_sy.1 q3 = (17, 0)) {r15 : Int32 → Int32 → Int32 → sm_St → Option (Int32 × sm_St)} (h15 : ∀ (v2 : Int32) (v4 : Int32) (v5 : Int32) (S : sm_St), sm_Sm x zx_sy prog_7_method_2_code (sm_Q x zx_sy (sm_Pi zx_sy (xw x))) (r15 v2 v4 v5 S) S 15 [(0, .ref ((xw x).2.2 126)), (1, .ref ((xw x).2.2 110)), (2, .int v2), (3, .ref ((xw x).2.2 q3)), (4, .int v4), (5, .int v5)] []) (v2 : Int32) (v4 : Int32) (v5 : Int32) (S : sm_St) : sm_Sm x zx_sy prog_7_method_2_code (sm_Q x zx_sy (sm_Pi zx_sy (xw x))) (px_Resting_solve_b128 N q3 r15 v2 v4 v5 S) S 128 [(0, .ref ((xw x).2.2 126)), (1, .ref ((xw x).2.2 110)), (2, .int v2), (3, .ref ((xw x).2.2 q3)), (4, .int v4), (5, .int v5)] [] := by
  unfold px_Resting_solve_b128
  refine sm_iinc (pc := 128) (i := 5) 5 (1 : Int32) ok dx_Resting_solve_128 rfl zk_1 (by decide) (fun v => [(5, .int v), (0, .ref ((xw x).2.2 126)), (1, .ref ((xw x).2.2 110)), (2, .int v2), (3, .ref ((xw x).2.2 q3)), (4, .int v4)]) (fun _ => rfl) (fun v5_15 => ?_)
  refine sm_goto (pc := 131) 15 ok dx_Resting_solve_131 (by decide) ?_
  refine sm_lv [1, 2, 3, 4, 5, 0] rfl ?_
  exact h15 _ _ _ _
set_option maxHeartbeats 4000000 in
set_option maxRecDepth 20000 in
theorem tx_Resting_solve_b48 {x : sm_Cx} (ok : sm_Ok x zx_sy prog_7_method_2_code "LentShades$Resting" 7 1 28) (hr : (xh x).sig.returnType = (some .int)) (N : Nat) (q3 : Nat) (hq3 : zx_sy.1 q3 = (17, 0)) {r15 : Int32 → Int32 → Int32 → sm_St → Option (Int32 × sm_St)} (h15 : ∀ (v2 : Int32) (v4 : Int32) (v5 : Int32) (S : sm_St), sm_Sm x zx_sy prog_7_method_2_code (sm_Q x zx_sy (sm_Pi zx_sy (xw x))) (r15 v2 v4 v5 S) S 15 [(0, .ref ((xw x).2.2 126)), (1, .ref ((xw x).2.2 110)), (2, .int v2), (3, .ref ((xw x).2.2 q3)), (4, .int v4), (5, .int v5)] []) (v2 : Int32) (v4 : Int32) (v5 : Int32) (s0 : Int32) (S : sm_St) : sm_Sm x zx_sy prog_7_method_2_code (sm_Q x zx_sy (sm_Pi zx_sy (xw x))) (px_Resting_solve_b48 N q3 r15 v2 v4 v5 s0 S) S 48 [(0, .ref ((xw x).2.2 126)), (1, .ref ((xw x).2.2 110)), (2, .int v2), (3, .ref ((xw x).2.2 q3)), (4, .int v4), (5, .int v5)] [.int s0] := by
  unfold px_Resting_solve_b48
  refine sm_istore (pc := 48) (i := 6) ok dx_Resting_solve_48 (by decide) (fun v => [(6, .int v), (0, .ref ((xw x).2.2 126)), (1, .ref ((xw x).2.2 110)), (2, .int v2), (3, .ref ((xw x).2.2 q3)), (4, .int v4), (5, .int v5)]) (fun _ => rfl) (fun v6_9 => ?_)
  refine sm_iload (pc := 50) 5 ok dx_Resting_solve_50 rfl ?_
  refine sm_aload_n (pc := 52) 1 ok dx_Resting_solve_52 rfl ?_
  refine sm_getR (pc := 53) (ci := 5) (k := 0) ok dx_Resting_solve_53 rfl rfl zc_i5 (by decide) rfl wd_347 ?_
  refine sm_iload (pc := 56) 6 ok dx_Resting_solve_56 rfl ?_
  refine sm_aald5 (pc := 58) ok dx_Resting_solve_58 rfl (fun hb_10 => ?_)
  refine sm_iload_n (pc := 59) 3 ok dx_Resting_solve_59 rfl ?_
  refine sm_iald (pc := 60) ok dx_Resting_solve_60 (zx_rows 127 4 4 (by decide) hb_10) ?_
  refine sm_iload (pc := 61) 0 ok dx_Resting_solve_61 rfl ?_
  refine sm_imul (pc := 63) ok dx_Resting_solve_63 ?_
  refine sm_iadd (pc := 64) ok dx_Resting_solve_64 ?_
  refine sm_istore (pc := 65) (i := 4) ok dx_Resting_solve_65 (by decide) (fun v => [(4, .int v), (6, .int v6_9), (0, .ref ((xw x).2.2 126)), (1, .ref ((xw x).2.2 110)), (2, .int v2), (3, .ref ((xw x).2.2 q3)), (5, .int v5)]) (fun _ => rfl) (fun v4_11 => ?_)
  refine sm_iload (pc := 67) 6 ok dx_Resting_solve_67 rfl ?_
  refine sm_aload_n (pc := 69) 3 ok dx_Resting_solve_69 rfl ?_
  refine sm_getI (pc := 70) (ci := 8) (k := 5) ok dx_Resting_solve_70 rfl rfl zc_i8 (by decide) rfl wd_317 ?_
  refine sm_icmp_lt (pc := 73) 79 ok dx_Resting_solve_73 (by decide) (fun _ => ?_) (fun _ => ?_)
  · refine sm_aload_n (pc := 79) 3 ok dx_Resting_solve_79 rfl ?_
    refine sm_getR (pc := 80) (ci := 8) (k := 2) ok dx_Resting_solve_80 rfl rfl zc_i8 (by decide) rfl wd_313 ?_
    refine sm_iload (pc := 83) 6 ok dx_Resting_solve_83 rfl ?_
    refine sm_iald (pc := 85) ok dx_Resting_solve_85 rfl ?_
    refine sm_if_ne (pc := 86) 105 ok dx_Resting_solve_86 (by decide) (fun _ => ?_) (fun _ => ?_)
    · refine sm_aload_n (pc := 105) 5 ok dx_Resting_solve_105 rfl ?_
      refine sm_getR (pc := 106) (ci := 7) (k := 0) ok dx_Resting_solve_106 hq3 rfl zc_i7 (by decide) rfl wd_287 ?_
      refine sm_iconst (pc := 109) (4 : Int32) ok dx_Resting_solve_109 zk_4 ?_
      refine sm_dup2 (pc := 110) ok dx_Resting_solve_110 rfl rfl ?_
      refine sm_lald (pc := 111) ok dx_Resting_solve_111 (zx_Sum_1 hq3) ?_
      refine sm_iload (pc := 112) 1 ok dx_Resting_solve_112 rfl ?_
      refine sm_i2l (pc := 114) ok dx_Resting_solve_114 ?_
      refine sm_aload_n (pc := 115) 3 ok dx_Resting_solve_115 rfl ?_
      refine sm_getR (pc := 116) (ci := 8) (k := 1) ok dx_Resting_solve_116 rfl rfl zc_i8 (by decide) rfl wd_311 ?_
      refine sm_iload (pc := 119) 6 ok dx_Resting_solve_119 rfl ?_
      refine sm_aald5 (pc := 121) ok dx_Resting_solve_121 rfl (fun hb_12 => ?_)
      refine sm_iconst (pc := 122) (4 : Int32) ok dx_Resting_solve_122 zk_4 ?_
      refine sm_iald (pc := 123) ok dx_Resting_solve_123 (zx_rows 114 4 5 (by decide) hb_12) ?_
      refine sm_i2l (pc := 124) ok dx_Resting_solve_124 ?_
      refine sm_lmul (pc := 125) ok dx_Resting_solve_125 ?_
      refine sm_ladd (pc := 126) ok dx_Resting_solve_126 ?_
      refine sm_last (pc := 127) ok dx_Resting_solve_127 (zx_Sum_1 hq3) (fun S_13 => ?_)
      refine sm_lv [2, 3, 4, 5, 0, 6] rfl ?_
      exact tx_Resting_solve_b128 ok hr N q3 hq3 h15 _ _ _ _
    · refine sm_aload_n (pc := 89) 5 ok dx_Resting_solve_89 rfl ?_
      refine sm_getR (pc := 90) (ci := 7) (k := 0) ok dx_Resting_solve_90 hq3 rfl zc_i7 (by decide) rfl wd_287 ?_
      refine sm_iload (pc := 93) 6 ok dx_Resting_solve_93 rfl ?_
      refine sm_dup2 (pc := 95) ok dx_Resting_solve_95 rfl rfl ?_
      refine sm_lald (pc := 96) ok dx_Resting_solve_96 (zx_Sum_1 hq3) ?_
      refine sm_iload (pc := 97) 1 ok dx_Resting_solve_97 rfl ?_
      refine sm_i2l (pc := 99) ok dx_Resting_solve_99 ?_
      refine sm_ladd (pc := 100) ok dx_Resting_solve_100 ?_
      refine sm_last (pc := 101) ok dx_Resting_solve_101 (zx_Sum_1 hq3) (fun S_14 => ?_)
      refine sm_goto (pc := 102) 128 ok dx_Resting_solve_102 (by decide) ?_
      refine sm_lv [2, 3, 4, 5, 0, 6] rfl ?_
      exact tx_Resting_solve_b128 ok hr N q3 hq3 h15 _ _ _ _
  · refine sm_goto (pc := 76) 128 ok dx_Resting_solve_76 (by decide) ?_
    refine sm_lv [2, 3, 4, 5, 0, 6] rfl ?_
    exact tx_Resting_solve_b128 ok hr N q3 hq3 h15 _ _ _ _
set_option maxHeartbeats 4000000 in
set_option maxRecDepth 20000 in
theorem tx_Resting_solve_b15 {x : sm_Cx} (ok : sm_Ok x zx_sy prog_7_method_2_code "LentShades$Resting" 7 1 28) (hr : (xh x).sig.returnType = (some .int)) (N : Nat) (q3 : Nat) (hq3 : zx_sy.1 q3 = (17, 0)) : ∀ (n : Nat) (v2 : Int32) (v4 : Int32) (v5 : Int32) (S : sm_St), sm_Sm x zx_sy prog_7_method_2_code (sm_Q x zx_sy (sm_Pi zx_sy (xw x))) (px_Resting_solve_b15 N q3 n v2 v4 v5 S) S 15 [(0, .ref ((xw x).2.2 126)), (1, .ref ((xw x).2.2 110)), (2, .int v2), (3, .ref ((xw x).2.2 q3)), (4, .int v4), (5, .int v5)] [] := by
  intro n
  induction n with
  | zero =>
    intro v2 v4 v5 S
    exact sm_none
  | succ n ih =>
    intro v2 v4 v5 S
    show sm_Sm x zx_sy prog_7_method_2_code (sm_Q x zx_sy (sm_Pi zx_sy (xw x))) (if (4 : Int32) ≤ v5 then (some (v4, S)) else (if ((v5 + v2) &&& (1 : Int32)) = 0 then (sm_b2 (px_Resting_minor N S v5 v2) (fun (r_8 : Int32) (S_7 : sm_St) => px_Resting_solve_b48 N q3 (px_Resting_solve_b15 N q3 n) v2 v4 v5 r_8 S_7)) else (sm_b2 (px_Resting_minor N S v5 v2) (fun (r_6 : Int32) (S_5 : sm_St) => px_Resting_solve_b48 N q3 (px_Resting_solve_b15 N q3 n) v2 v4 v5 (-r_6) S_5)))) S 15 [(0, .ref ((xw x).2.2 126)), (1, .ref ((xw x).2.2 110)), (2, .int v2), (3, .ref ((xw x).2.2 q3)), (4, .int v4), (5, .int v5)] []
    refine sm_iload (pc := 15) 5 ok dx_Resting_solve_15 rfl ?_
    refine sm_iconst (pc := 17) (4 : Int32) ok dx_Resting_solve_17 zk_4 ?_
    refine sm_icmp_ge (pc := 18) 134 ok dx_Resting_solve_18 (by decide) (fun _ => ?_) (fun _ => ?_)
    · refine sm_iload (pc := 134) 4 ok dx_Resting_solve_134 rfl ?_
      exact sm_iret (pc := 136) ok dx_Resting_solve_136 hr
    · refine sm_iload (pc := 21) 5 ok dx_Resting_solve_21 rfl ?_
      refine sm_iload_n (pc := 23) 2 ok dx_Resting_solve_23 rfl ?_
      refine sm_iadd (pc := 24) ok dx_Resting_solve_24 ?_
      refine sm_iconst (pc := 25) (1 : Int32) ok dx_Resting_solve_25 zk_1 ?_
      refine sm_iand (pc := 26) ok dx_Resting_solve_26 ?_
      refine sm_if_ne (pc := 27) 40 ok dx_Resting_solve_27 (by decide) (fun _ => ?_) (fun _ => ?_)
      · refine sm_aload_n (pc := 40) 0 ok dx_Resting_solve_40 rfl ?_
        refine sm_iload (pc := 41) 5 ok dx_Resting_solve_41 rfl ?_
        refine sm_iload_n (pc := 43) 2 ok dx_Resting_solve_43 rfl ?_
        refine sm_callV_i (pc := 44) (ci := 5) [.int v5, .int v2] ok dx_Resting_solve_44 wd_769 mwx_Resting_minor rfl rfl (Nat.le_of_ble_eq_true rfl) (Nat.le_of_ble_eq_true rfl) rfl rfl (Nat.le_of_ble_eq_true rfl) (cx_Resting_minor (sm_okj ok) N S v5 v2) (fun r_6 S_5 => ?_)
        refine sm_ineg (pc := 47) ok dx_Resting_solve_47 ?_
        exact tx_Resting_solve_b48 ok hr N q3 hq3 ih _ _ _ _ _
      · refine sm_aload_n (pc := 30) 0 ok dx_Resting_solve_30 rfl ?_
        refine sm_iload (pc := 31) 5 ok dx_Resting_solve_31 rfl ?_
        refine sm_iload_n (pc := 33) 2 ok dx_Resting_solve_33 rfl ?_
        refine sm_callV_i (pc := 34) (ci := 5) [.int v5, .int v2] ok dx_Resting_solve_34 wd_769 mwx_Resting_minor rfl rfl (Nat.le_of_ble_eq_true rfl) (Nat.le_of_ble_eq_true rfl) rfl rfl (Nat.le_of_ble_eq_true rfl) (cx_Resting_minor (sm_okj ok) N S v5 v2) (fun r_8 S_7 => ?_)
        refine sm_goto (pc := 37) 48 ok dx_Resting_solve_37 (by decide) ?_
        exact tx_Resting_solve_b48 ok hr N q3 hq3 ih _ _ _ _ _
set_option maxHeartbeats 4000000 in
set_option maxRecDepth 20000 in
theorem tx_Resting_solve {x : sm_Cx} (ok : sm_Ok x zx_sy prog_7_method_2_code "LentShades$Resting" 7 1 28) (hr : (xh x).sig.returnType = (some .int)) (N : Nat) (S : sm_St) (v2 : Int32) (q3 : Nat) (hq3 : zx_sy.1 q3 = (17, 0)) : sm_Sm x zx_sy prog_7_method_2_code (sm_Q x zx_sy (sm_Pi zx_sy (xw x))) (px_Resting_solve N S v2 q3) S 0 [(0, .ref ((xw x).2.2 126)), (1, .ref ((xw x).2.2 110)), (2, .int v2), (3, .ref ((xw x).2.2 q3))] [] := by
  unfold px_Resting_solve
  refine sm_aload_n (pc := 0) 0 ok dx_Resting_solve_0 rfl ?_
  refine sm_aload_n (pc := 1) 1 ok dx_Resting_solve_1 rfl ?_
  refine sm_callV_v (pc := 2) (ci := 5) [.ref ((xw x).2.2 110)] ok dx_Resting_solve_2 wd_764 mwx_Resting_fill rfl rfl (Nat.le_of_ble_eq_true rfl) (Nat.le_of_ble_eq_true rfl) rfl rfl (Nat.le_of_ble_eq_true rfl) (cx_Resting_fill (sm_okj ok) N S) (fun S_1 => ?_)
  refine sm_aload_n (pc := 5) 3 ok dx_Resting_solve_5 rfl ?_
  refine sm_callV_v (pc := 6) (ci := 7) [] ok dx_Resting_solve_6 wd_768 mwx_Sum_begin hq3 rfl (Nat.le_of_ble_eq_true rfl) (Nat.le_of_ble_eq_true rfl) rfl rfl (Nat.le_of_ble_eq_true rfl) (cx_Sum_begin (sm_okj ok) N S_1 q3 hq3) (fun S_2 => ?_)
  refine sm_iconst (pc := 9) (0 : Int32) ok dx_Resting_solve_9 zk_0 ?_
  refine sm_istore (pc := 10) (i := 4) ok dx_Resting_solve_10 (by decide) (fun v => [(4, .int v), (0, .ref ((xw x).2.2 126)), (1, .ref ((xw x).2.2 110)), (2, .int v2), (3, .ref ((xw x).2.2 q3))]) (fun _ => rfl) (fun v4_3 => ?_)
  refine sm_iconst (pc := 12) (0 : Int32) ok dx_Resting_solve_12 zk_0 ?_
  refine sm_istore (pc := 13) (i := 5) ok dx_Resting_solve_13 (by decide) (fun v => [(5, .int v), (4, .int v4_3), (0, .ref ((xw x).2.2 126)), (1, .ref ((xw x).2.2 110)), (2, .int v2), (3, .ref ((xw x).2.2 q3))]) (fun _ => rfl) (fun v5_4 => ?_)
  refine sm_lv [2, 3, 4, 5, 1, 0] rfl ?_
  exact tx_Resting_solve_b15 ok hr N q3 hq3 N _ _ _ _
theorem cx_Resting_solve {l : Launch} {wc : sm_Wc} (hj : sm_inj zx_sy wc) (N : Nat) (S : sm_St) (v2 : Int32) (q3 : Nat) (hq3 : zx_sy.1 q3 = (17, 0)) : sm_Ct l zx_sy wc yx_Resting_solve prog_7_method_2_code 7 (some .int) 1 28 [.ref (wc.2.2 126), .ref (wc.2.2 110), .int v2, .ref (wc.2.2 q3)] S (sm_Pi zx_sy wc) (px_Resting_solve N S v2 q3) :=
  sm_entry (Pq := fun wc => sm_Pi zx_sy wc) (fun wc => [.ref (wc.2.2 126), .ref (wc.2.2 110), .int v2, .ref (wc.2.2 q3)]) (lv := fun wc => [(0, .ref (wc.2.2 126)), (1, .ref (wc.2.2 110)), (2, .int v2), (3, .ref (wc.2.2 q3))]) (by decide) hj zx_ok zx_stb (fun _ => Nat.le_of_ble_eq_true rfl) (fun _ => rfl) (fun x _ ok hr => tx_Resting_solve ok hr N S v2 q3 hq3)
set_option maxHeartbeats 4000000 in
set_option maxRecDepth 20000 in
theorem tx_L_rest {x : sm_Cx} (ok : sm_Ok x zx_sy prog_1_method_13_code "LentShades" 3 4 95) (hr : (xh x).sig.returnType = (some .int)) (N : Nat) (S : sm_St) (v1 : Int32) : sm_Sm x zx_sy prog_1_method_13_code (sm_Q x zx_sy (sm_Pi zx_sy (xw x))) (px_L_rest N S v1) S 0 [(0, .ref ((xw x).2.2 0)), (1, .int v1)] [] := by
  unfold px_L_rest
  refine sm_aload_n (pc := 0) 0 ok dx_L_rest_0 rfl ?_
  refine sm_getR (pc := 1) (ci := 9) (k := 0) ok dx_L_rest_1 rfl rfl zc_i9 (by decide) rfl wd_400 ?_
  refine sm_iload_n (pc := 4) 1 ok dx_L_rest_4 rfl ?_
  refine sm_callV_i (pc := 5) (ci := 2) [.int v1] ok dx_L_rest_5 wd_630 mwx_House_hasCloth rfl rfl (Nat.le_of_ble_eq_true rfl) (Nat.le_of_ble_eq_true rfl) rfl rfl (Nat.le_of_ble_eq_true rfl) (cx_House_hasCloth (sm_okj ok) N S 1 v1 rfl) (fun r_2 S_1 => ?_)
  refine sm_if_ne (pc := 8) 16 ok dx_L_rest_8 (by decide) (fun _ => ?_) (fun _ => ?_)
  · refine sm_aload_n (pc := 16) 0 ok dx_L_rest_16 rfl ?_
    refine sm_getR (pc := 17) (ci := 9) (k := 0) ok dx_L_rest_17 rfl rfl zc_i9 (by decide) rfl wd_400 ?_
    refine sm_callV_i (pc := 20) (ci := 2) [] ok dx_L_rest_20 wd_756 mwx_House_hasVain rfl rfl (Nat.le_of_ble_eq_true rfl) (Nat.le_of_ble_eq_true rfl) rfl rfl (Nat.le_of_ble_eq_true rfl) (cx_House_hasVain (sm_okj ok) N S_1 1 rfl) (fun r_4 S_3 => ?_)
    refine sm_if_eq (pc := 23) 31 ok dx_L_rest_23 (by decide) (fun _ => ?_) (fun _ => ?_)
    · refine sm_aload_n (pc := 31) 0 ok dx_L_rest_31 rfl ?_
      refine sm_getR (pc := 32) (ci := 9) (k := 6) ok dx_L_rest_32 rfl rfl zc_i9 (by decide) rfl wd_406 ?_
      refine sm_aload_n (pc := 35) 0 ok dx_L_rest_35 rfl ?_
      refine sm_getR (pc := 36) (ci := 9) (k := 0) ok dx_L_rest_36 rfl rfl zc_i9 (by decide) rfl wd_400 ?_
      refine sm_aload_n (pc := 39) 0 ok dx_L_rest_39 rfl ?_
      refine sm_getR (pc := 40) (ci := 9) (k := 0) ok dx_L_rest_40 rfl rfl zc_i9 (by decide) rfl wd_400 ?_
      refine sm_getR (pc := 43) (ci := 2) (k := 5) ok dx_L_rest_43 rfl rfl zc_i2 (by decide) rfl wd_176 ?_
      refine sm_aload_n (pc := 46) 0 ok dx_L_rest_46 rfl ?_
      refine sm_getR (pc := 47) (ci := 9) (k := 0) ok dx_L_rest_47 rfl rfl zc_i9 (by decide) rfl wd_400 ?_
      refine sm_getR (pc := 50) (ci := 2) (k := 4) ok dx_L_rest_50 rfl rfl zc_i2 (by decide) rfl wd_173 ?_
      refine sm_callV_v (pc := 53) (ci := 8) [.ref ((xw x).2.2 1), .ref ((xw x).2.2 7), .ref ((xw x).2.2 6)] ok dx_L_rest_53 wd_631 mwx_Takings_reckon rfl rfl (Nat.le_of_ble_eq_true rfl) (Nat.le_of_ble_eq_true rfl) rfl rfl (Nat.le_of_ble_eq_true rfl) (cx_Takings_reckon (sm_okj ok) N S_3 1 7 6 rfl (sm_tag rfl) (sm_tag rfl)) (fun S_5 => ?_)
      refine sm_aload_n (pc := 56) 0 ok dx_L_rest_56 rfl ?_
      refine sm_getR (pc := 57) (ci := 9) (k := 7) ok dx_L_rest_57 rfl rfl zc_i9 (by decide) rfl wd_407 ?_
      refine sm_aload_n (pc := 60) 0 ok dx_L_rest_60 rfl ?_
      refine sm_getR (pc := 61) (ci := 9) (k := 6) ok dx_L_rest_61 rfl rfl zc_i9 (by decide) rfl wd_406 ?_
      refine sm_iload_n (pc := 64) 1 ok dx_L_rest_64 rfl ?_
      refine sm_aload_n (pc := 65) 0 ok dx_L_rest_65 rfl ?_
      refine sm_getR (pc := 66) (ci := 9) (k := 5) ok dx_L_rest_66 rfl rfl zc_i9 (by decide) rfl wd_405 ?_
      refine sm_callV_i (pc := 69) (ci := 5) [.ref ((xw x).2.2 110), .int v1, .ref ((xw x).2.2 107)] ok dx_L_rest_69 wd_760 mwx_Resting_solve rfl rfl (Nat.le_of_ble_eq_true rfl) (Nat.le_of_ble_eq_true rfl) rfl rfl (Nat.le_of_ble_eq_true rfl) (cx_Resting_solve (sm_okj ok) N S_5 v1 107 rfl) (fun r_7 S_6 => ?_)
      refine sm_istore_n (pc := 72) (i := 2) ok dx_L_rest_72 rfl (by decide) (fun v => [(2, .int v), (0, .ref ((xw x).2.2 0)), (1, .int v1)]) (fun _ => rfl) (fun v2_8 => ?_)
      refine sm_iload_n (pc := 73) 0 ok dx_L_rest_73 rfl ?_
      refine sm_if_gt (pc := 74) 82 ok dx_L_rest_74 (by decide) (fun _ => ?_) (fun _ => ?_)
      · refine sm_aload_n (pc := 82) 1 ok dx_L_rest_82 rfl ?_
        refine sm_getR (pc := 83) (ci := 9) (k := 4) ok dx_L_rest_83 rfl rfl zc_i9 (by decide) rfl wd_404 ?_
        refine sm_aload_n (pc := 86) 1 ok dx_L_rest_86 rfl ?_
        refine sm_getR (pc := 87) (ci := 9) (k := 5) ok dx_L_rest_87 rfl rfl zc_i9 (by decide) rfl wd_405 ?_
        refine sm_aload_n (pc := 90) 1 ok dx_L_rest_90 rfl ?_
        refine sm_getR (pc := 91) (ci := 9) (k := 0) ok dx_L_rest_91 rfl rfl zc_i9 (by decide) rfl wd_400 ?_
        refine sm_getR (pc := 94) (ci := 2) (k := 6) ok dx_L_rest_94 rfl rfl zc_i2 (by decide) rfl wd_181 ?_
        refine sm_iload_n (pc := 97) 0 ok dx_L_rest_97 rfl ?_
        refine sm_callV_v (pc := 98) (ci := 1) [.ref ((xw x).2.2 107), .ref ((xw x).2.2 12), .int v2_8] ok dx_L_rest_98 wd_686 mwx_Fraction_put rfl rfl (Nat.le_of_ble_eq_true rfl) (Nat.le_of_ble_eq_true rfl) rfl rfl (Nat.le_of_ble_eq_true rfl) (cx_Fraction_put (sm_okj ok) N S_6 107 12 v2_8 rfl rfl) (fun S_9 => ?_)
        refine sm_iconst (pc := 101) (1 : Int32) ok dx_L_rest_101 zk_1 ?_
        exact sm_iret (pc := 102) ok dx_L_rest_102 hr
      · refine sm_aload_n (pc := 77) 1 ok dx_L_rest_77 rfl ?_
        refine sm_callV_i (pc := 78) (ci := 9) [] ok dx_L_rest_78 wd_720 mwx_L_refusedNo rfl rfl (Nat.le_of_ble_eq_true rfl) (Nat.le_of_ble_eq_true rfl) rfl rfl (Nat.le_of_ble_eq_true rfl) (cx_L_refusedNo (sm_okj ok) N S_6) (fun r_11 S_10 => ?_)
        exact sm_iret (pc := 81) ok dx_L_rest_81 hr
    · refine sm_aload_n (pc := 26) 0 ok dx_L_rest_26 rfl ?_
      refine sm_callV_i (pc := 27) (ci := 9) [] ok dx_L_rest_27 wd_720 mwx_L_refusedNo rfl rfl (Nat.le_of_ble_eq_true rfl) (Nat.le_of_ble_eq_true rfl) rfl rfl (Nat.le_of_ble_eq_true rfl) (cx_L_refusedNo (sm_okj ok) N S_3) (fun r_13 S_12 => ?_)
      exact sm_iret (pc := 30) ok dx_L_rest_30 hr
  · refine sm_aload_n (pc := 11) 0 ok dx_L_rest_11 rfl ?_
    refine sm_callV_i (pc := 12) (ci := 9) [] ok dx_L_rest_12 wd_450 mwx_L_refusedBad rfl rfl (Nat.le_of_ble_eq_true rfl) (Nat.le_of_ble_eq_true rfl) rfl rfl (Nat.le_of_ble_eq_true rfl) (cx_L_refusedBad (sm_okj ok) N S_1) (fun r_15 S_14 => ?_)
    exact sm_iret (pc := 15) ok dx_L_rest_15 hr
theorem cx_L_rest {l : Launch} {wc : sm_Wc} (hj : sm_inj zx_sy wc) (N : Nat) (S : sm_St) (v1 : Int32) : sm_Ct l zx_sy wc yx_L_rest prog_1_method_13_code 3 (some .int) 4 95 [.ref (wc.2.2 0), .int v1] S (sm_Pi zx_sy wc) (px_L_rest N S v1) :=
  sm_entry (Pq := fun wc => sm_Pi zx_sy wc) (fun wc => [.ref (wc.2.2 0), .int v1]) (lv := fun wc => [(0, .ref (wc.2.2 0)), (1, .int v1)]) (by decide) hj zx_ok zx_stb (fun _ => Nat.le_of_ble_eq_true rfl) (fun _ => rfl) (fun x _ ok hr => tx_L_rest ok hr N S v1)
set_option maxHeartbeats 4000000 in
set_option maxRecDepth 20000 in
theorem tx_Mover_aim {x : sm_Cx} (ok : sm_Ok x zx_sy prog_5_method_2_code "LentShades$Mover" 5 0 0) (hr : (xh x).sig.returnType = none) (N : Nat) (S : sm_St) (v1 : Int32) (v2 : Int32) (v3 : Int32) (v4 : Int32) : sm_Sm x zx_sy prog_5_method_2_code (sm_Q x zx_sy (sm_Pv zx_sy (xw x))) (px_Mover_aim N S v1 v2 v3 v4) S 0 [(0, .ref ((xw x).2.2 132)), (1, .int v1), (2, .int v2), (3, .int v3), (4, .int v4)] [] := by
  unfold px_Mover_aim
  refine sm_aload_n (pc := 0) 0 ok dx_Mover_aim_0 rfl ?_
  refine sm_iload_n (pc := 1) 1 ok dx_Mover_aim_1 rfl ?_
  refine sm_putI (pc := 2) (ci := 3) (k := 1) ok dx_Mover_aim_2 rfl rfl zc_i3 zc_y3 zc_t3 zc_n3 (by decide) rfl rfl rfl wd_359 (fun S_1 => ?_)
  refine sm_aload_n (pc := 5) 0 ok dx_Mover_aim_5 rfl ?_
  refine sm_iload_n (pc := 6) 2 ok dx_Mover_aim_6 rfl ?_
  refine sm_putI (pc := 7) (ci := 3) (k := 2) ok dx_Mover_aim_7 rfl rfl zc_i3 zc_y3 zc_t3 zc_n3 (by decide) rfl rfl rfl wd_360 (fun S_2 => ?_)
  refine sm_aload_n (pc := 10) 0 ok dx_Mover_aim_10 rfl ?_
  refine sm_iload_n (pc := 11) 3 ok dx_Mover_aim_11 rfl ?_
  refine sm_putI (pc := 12) (ci := 3) (k := 3) ok dx_Mover_aim_12 rfl rfl zc_i3 zc_y3 zc_t3 zc_n3 (by decide) rfl rfl rfl wd_361 (fun S_3 => ?_)
  refine sm_aload_n (pc := 15) 0 ok dx_Mover_aim_15 rfl ?_
  refine sm_iload (pc := 16) 4 ok dx_Mover_aim_16 rfl ?_
  refine sm_putI (pc := 18) (ci := 3) (k := 4) ok dx_Mover_aim_18 rfl rfl zc_i3 zc_y3 zc_t3 zc_n3 (by decide) rfl rfl rfl wd_362 (fun S_4 => ?_)
  exact sm_vret (pc := 21) ok dx_Mover_aim_21 hr
theorem cx_Mover_aim {l : Launch} {wc : sm_Wc} (hj : sm_inj zx_sy wc) (N : Nat) (S : sm_St) (v1 : Int32) (v2 : Int32) (v3 : Int32) (v4 : Int32) : sm_Ct l zx_sy wc yx_Mover_aim prog_5_method_2_code 5 none 0 0 [.ref (wc.2.2 132), .int v1, .int v2, .int v3, .int v4] S (sm_Pv zx_sy wc) (px_Mover_aim N S v1 v2 v3 v4) :=
  sm_entry (Pq := fun wc => sm_Pv zx_sy wc) (fun wc => [.ref (wc.2.2 132), .int v1, .int v2, .int v3, .int v4]) (lv := fun wc => [(0, .ref (wc.2.2 132)), (1, .int v1), (2, .int v2), (3, .int v3), (4, .int v4)]) (by decide) hj zx_ok zx_stb (fun _ => Nat.le_of_ble_eq_true rfl) (fun _ => rfl) (fun x _ ok hr => tx_Mover_aim ok hr N S v1 v2 v3 v4)
set_option maxHeartbeats 4000000 in
set_option maxRecDepth 20000 in
theorem tx_Shades_hasAtMost {x : sm_Cx} (ok : sm_Ok x zx_sy prog_8_method_7_code "LentShades$Shades" 3 1 31) (hr : (xh x).sig.returnType = (some .boolean)) (N : Nat) (S : sm_St) (p : Nat) (v1 : Int32) (v2 : Int32) (hp : zx_sy.1 p = (16, 0)) : sm_Sm x zx_sy prog_8_method_7_code (sm_Q x zx_sy (sm_Pi zx_sy (xw x))) (px_Shades_hasAtMost N S p v1 v2) S 0 [(0, .ref ((xw x).2.2 p)), (1, .int v1), (2, .int v2)] [] := by
  unfold px_Shades_hasAtMost
  refine sm_aload_n (pc := 0) 0 ok dx_Shades_hasAtMost_0 rfl ?_
  refine sm_iload_n (pc := 1) 1 ok dx_Shades_hasAtMost_1 rfl ?_
  refine sm_iconst (pc := 2) (4 : Int32) ok dx_Shades_hasAtMost_2 zk_4 ?_
  refine sm_iload_n (pc := 3) 2 ok dx_Shades_hasAtMost_3 rfl ?_
  refine sm_callV_i (pc := 4) (ci := 6) [.int v1, .int (4 : Int32), .int v2] ok dx_Shades_hasAtMost_4 wd_751 mwx_Shades_compare hp rfl (Nat.le_of_ble_eq_true rfl) (Nat.le_of_ble_eq_true rfl) rfl rfl (Nat.le_of_ble_eq_true rfl) (cx_Shades_compare (sm_okj ok) N S p v1 (4 : Int32) v2 hp) (fun r_2 S_1 => ?_)
  refine sm_if_gt (pc := 7) 14 ok dx_Shades_hasAtMost_7 (by decide) (fun _ => ?_) (fun _ => ?_)
  · refine sm_iconst (pc := 14) (0 : Int32) ok dx_Shades_hasAtMost_14 zk_0 ?_
    exact sm_zret (pc := 15) ok dx_Shades_hasAtMost_15 hr rfl
  · refine sm_iconst (pc := 10) (1 : Int32) ok dx_Shades_hasAtMost_10 zk_1 ?_
    refine sm_goto (pc := 11) 15 ok dx_Shades_hasAtMost_11 (by decide) ?_
    exact sm_zret (pc := 15) ok dx_Shades_hasAtMost_15 hr rfl
theorem cx_Shades_hasAtMost {l : Launch} {wc : sm_Wc} (hj : sm_inj zx_sy wc) (N : Nat) (S : sm_St) (p : Nat) (v1 : Int32) (v2 : Int32) (hp : zx_sy.1 p = (16, 0)) : sm_Ct l zx_sy wc yx_Shades_hasAtMost prog_8_method_7_code 3 (some .boolean) 1 31 [.ref (wc.2.2 p), .int v1, .int v2] S (sm_Pi zx_sy wc) (px_Shades_hasAtMost N S p v1 v2) :=
  sm_entry (Pq := fun wc => sm_Pi zx_sy wc) (fun wc => [.ref (wc.2.2 p), .int v1, .int v2]) (lv := fun wc => [(0, .ref (wc.2.2 p)), (1, .int v1), (2, .int v2)]) (by decide) hj zx_ok zx_stb (fun _ => Nat.le_of_ble_eq_true rfl) (fun _ => rfl) (fun x _ ok hr => tx_Shades_hasAtMost ok hr N S p v1 v2 hp)
set_option maxHeartbeats 4000000 in
set_option maxRecDepth 20000 in
theorem tx_Mover_reached {x : sm_Cx} (ok : sm_Ok x zx_sy prog_5_method_5_code "LentShades$Mover" 4 4 105) (hr : (xh x).sig.returnType = (some .boolean)) (N : Nat) (S : sm_St) (q1 : Nat) (hq1 : zx_sy.1 q1 = (12, 0)) : sm_Sm x zx_sy prog_5_method_5_code (sm_Q x zx_sy (sm_Pi zx_sy (xw x))) (px_Mover_reached N S q1) S 0 [(0, .ref ((xw x).2.2 132)), (1, .ref ((xw x).2.2 q1)), (2, .ref ((xw x).2.2 110))] [] := by
  unfold px_Mover_reached
  refine sm_aload_n (pc := 0) 2 ok dx_Mover_reached_0 rfl ?_
  refine sm_aload_n (pc := 1) 1 ok dx_Mover_reached_1 rfl ?_
  refine sm_aload_n (pc := 2) 0 ok dx_Mover_reached_2 rfl ?_
  refine sm_getR (pc := 3) (ci := 3) (k := 0) ok dx_Mover_reached_3 rfl rfl zc_i3 (by decide) rfl wd_358 ?_
  refine sm_aload_n (pc := 6) 1 ok dx_Mover_reached_6 rfl ?_
  refine sm_getR (pc := 7) (ci := 2) (k := 4) ok dx_Mover_reached_7 hq1 rfl zc_i2 (by decide) rfl wd_172 ?_
  refine sm_callV_v (pc := 10) (ci := 8) [.ref ((xw x).2.2 q1), .ref ((xw x).2.2 133), .ref ((xw x).2.2 (q1 + 5))] ok dx_Mover_reached_10 wd_790 mwx_Takings_reckon rfl rfl (Nat.le_of_ble_eq_true rfl) (Nat.le_of_ble_eq_true rfl) rfl rfl (Nat.le_of_ble_eq_true rfl) (cx_Takings_reckon (sm_okj ok) N S q1 133 (q1 + 5) hq1 (sm_tag rfl) (sm_tag (zx_House_5 hq1))) (fun S_1 => ?_)
  refine sm_aload_n (pc := 13) 2 ok dx_Mover_reached_13 rfl ?_
  refine sm_aload_n (pc := 14) 1 ok dx_Mover_reached_14 rfl ?_
  refine sm_getR (pc := 15) (ci := 2) (k := 6) ok dx_Mover_reached_15 hq1 rfl zc_i2 (by decide) rfl wd_180 ?_
  refine sm_aload_n (pc := 18) 0 ok dx_Mover_reached_18 rfl ?_
  refine sm_getI (pc := 19) (ci := 3) (k := 4) ok dx_Mover_reached_19 rfl rfl zc_i3 (by decide) rfl wd_362 ?_
  refine sm_callV_r (pc := 22) (ci := 8) [.ref ((xw x).2.2 (q1 + 11)), .int (S_1.1 132 4)] ok dx_Mover_reached_22 wd_791 mwx_Takings_behind rfl rfl (Nat.le_of_ble_eq_true rfl) (Nat.le_of_ble_eq_true rfl) rfl rfl (Nat.le_of_ble_eq_true rfl) (cx_Takings_behind (sm_okj ok) N S_1 (q1 + 11) (S_1.1 132 4) (zx_House_11 hq1)) (fun r_3 S_2 => ?_)
  refine sm_ck (fun hc_4 => ?_)
  refine sm_astore_n (pc := 25) (i := 3) ok dx_Mover_reached_25 rfl (by decide) [(3, .ref ((xw x).2.2 r_3)), (0, .ref ((xw x).2.2 132)), (1, .ref ((xw x).2.2 q1)), (2, .ref ((xw x).2.2 110))] rfl ?_
  refine sm_aload_n (pc := 26) 0 ok dx_Mover_reached_26 rfl ?_
  refine sm_aload_n (pc := 27) 1 ok dx_Mover_reached_27 rfl ?_
  refine sm_getI (pc := 28) (ci := 3) (k := 1) ok dx_Mover_reached_28 rfl rfl zc_i3 (by decide) rfl wd_359 ?_
  refine sm_aload_n (pc := 31) 1 ok dx_Mover_reached_31 rfl ?_
  refine sm_getI (pc := 32) (ci := 3) (k := 2) ok dx_Mover_reached_32 rfl rfl zc_i3 (by decide) rfl wd_360 ?_
  refine sm_callV_i (pc := 35) (ci := 6) [.int (S_2.1 132 1), .int (S_2.1 132 2)] ok dx_Mover_reached_35 wd_792 mwx_Shades_hasAtLeast (of_decide_eq_true hc_4) rfl (Nat.le_of_ble_eq_true rfl) (Nat.le_of_ble_eq_true rfl) rfl rfl (Nat.le_of_ble_eq_true rfl) (cx_Shades_hasAtLeast (sm_okj ok) N S_2 r_3 (S_2.1 132 1) (S_2.1 132 2) (of_decide_eq_true hc_4)) (fun r_6 S_5 => ?_)
  refine sm_if_eq (pc := 38) 60 ok dx_Mover_reached_38 (by decide) (fun _ => ?_) (fun _ => ?_)
  · refine sm_iconst (pc := 60) (0 : Int32) ok dx_Mover_reached_60 zk_0 ?_
    exact sm_zret (pc := 61) ok dx_Mover_reached_61 hr rfl
  · refine sm_aload_n (pc := 41) 0 ok dx_Mover_reached_41 rfl ?_
    refine sm_aload_n (pc := 42) 1 ok dx_Mover_reached_42 rfl ?_
    refine sm_getI (pc := 43) (ci := 3) (k := 1) ok dx_Mover_reached_43 rfl rfl zc_i3 (by decide) rfl wd_359 ?_
    refine sm_aload_n (pc := 46) 1 ok dx_Mover_reached_46 rfl ?_
    refine sm_getI (pc := 47) (ci := 3) (k := 3) ok dx_Mover_reached_47 rfl rfl zc_i3 (by decide) rfl wd_361 ?_
    refine sm_callV_i (pc := 50) (ci := 6) [.int (S_5.1 132 1), .int (S_5.1 132 3)] ok dx_Mover_reached_50 wd_793 mwx_Shades_hasAtMost (of_decide_eq_true hc_4) rfl (Nat.le_of_ble_eq_true rfl) (Nat.le_of_ble_eq_true rfl) rfl rfl (Nat.le_of_ble_eq_true rfl) (cx_Shades_hasAtMost (sm_okj ok) N S_5 r_3 (S_5.1 132 1) (S_5.1 132 3) (of_decide_eq_true hc_4)) (fun r_8 S_7 => ?_)
    refine sm_if_eq (pc := 53) 60 ok dx_Mover_reached_53 (by decide) (fun _ => ?_) (fun _ => ?_)
    · refine sm_iconst (pc := 60) (0 : Int32) ok dx_Mover_reached_60 zk_0 ?_
      exact sm_zret (pc := 61) ok dx_Mover_reached_61 hr rfl
    · refine sm_iconst (pc := 56) (1 : Int32) ok dx_Mover_reached_56 zk_1 ?_
      refine sm_goto (pc := 57) 61 ok dx_Mover_reached_57 (by decide) ?_
      exact sm_zret (pc := 61) ok dx_Mover_reached_61 hr rfl
theorem cx_Mover_reached {l : Launch} {wc : sm_Wc} (hj : sm_inj zx_sy wc) (N : Nat) (S : sm_St) (q1 : Nat) (hq1 : zx_sy.1 q1 = (12, 0)) : sm_Ct l zx_sy wc yx_Mover_reached prog_5_method_5_code 4 (some .boolean) 4 105 [.ref (wc.2.2 132), .ref (wc.2.2 q1), .ref (wc.2.2 110)] S (sm_Pi zx_sy wc) (px_Mover_reached N S q1) :=
  sm_entry (Pq := fun wc => sm_Pi zx_sy wc) (fun wc => [.ref (wc.2.2 132), .ref (wc.2.2 q1), .ref (wc.2.2 110)]) (lv := fun wc => [(0, .ref (wc.2.2 132)), (1, .ref (wc.2.2 q1)), (2, .ref (wc.2.2 110))]) (by decide) hj zx_ok zx_stb (fun _ => Nat.le_of_ble_eq_true rfl) (fun _ => rfl) (fun x _ ok hr => tx_Mover_reached ok hr N S q1 hq1)
