set_option maxHeartbeats 4000000 in
set_option maxRecDepth 20000 in
theorem tx_House_emptyOut_b36 {x : sm_Cx} (ok : sm_Ok x zx_sy prog_4_method_11_code "LentShades$House" 3 1 20) (hr : (xh x).sig.returnType = none) (N : Nat) (p : Nat) (hp : zx_sy.1 p = (12, 0)) {r29 : Int32 → sm_St → Option (sm_St)} (h29 : ∀ (v1 : Int32) (S : sm_St), sm_Sm x zx_sy prog_4_method_11_code (sm_Q x zx_sy (sm_Pv zx_sy (xw x))) (r29 v1 S) S 29 [(0, .ref ((xw x).2.2 p)), (1, .int v1)] []) : ∀ (n : Nat) (v1 : Int32) (v2 : Int32) (S : sm_St), sm_Sm x zx_sy prog_4_method_11_code (sm_Q x zx_sy (sm_Pv zx_sy (xw x))) (px_House_emptyOut_b36 N p r29 n v1 v2 S) S 36 [(0, .ref ((xw x).2.2 p)), (1, .int v1), (2, .int v2)] [] := by
  intro n
  induction n with
  | zero =>
    intro v1 v2 S
    exact sm_none
  | succ n ih =>
    intro v1 v2 S
    show sm_Sm x zx_sy prog_4_method_11_code (sm_Q x zx_sy (sm_Pv zx_sy (xw x))) (if (8 : Int32) ≤ v2 then (sm_lt (v1 + (1 : Int32)) (fun (v1_8 : Int32) => r29 v1_8 S)) else (if sm_in v1 4 = true then (if sm_in v2 8 = true then sm_lt (sm_sI S (p + 7 + v1.toNatClampNeg) v2.toNatClampNeg (0 : Int32)) (fun (S_10 : sm_St) => sm_lt (v2 + (1 : Int32)) (fun (v2_11 : Int32) => (px_House_emptyOut_b36 N p r29 n) v1 v2_11 S_10)) else none) else none)) S 36 [(0, .ref ((xw x).2.2 p)), (1, .int v1), (2, .int v2)] []
    refine sm_iload_n (pc := 36) 2 ok dx_House_emptyOut_36 rfl ?_
    refine sm_bipush (pc := 37) (8 : Int32) ok dx_House_emptyOut_37 zb_8 ?_
    refine sm_icmp_ge (pc := 39) 57 ok dx_House_emptyOut_39 (by decide) (fun _ => ?_) (fun _ => ?_)
    · refine sm_iinc (pc := 57) (i := 1) 1 (1 : Int32) ok dx_House_emptyOut_57 rfl zk_1 (by decide) (fun v => [(1, .int v), (0, .ref ((xw x).2.2 p)), (2, .int v2)]) (fun _ => rfl) (fun v1_8 => ?_)
      refine sm_goto (pc := 60) 29 ok dx_House_emptyOut_60 (by decide) ?_
      refine sm_lv [1, 0] rfl ?_
      exact h29 _ _
    · refine sm_aload_n (pc := 42) 0 ok dx_House_emptyOut_42 rfl ?_
      refine sm_getR (pc := 43) (ci := 2) (k := 5) ok dx_House_emptyOut_43 hp rfl zc_i2 (by decide) rfl wd_174 ?_
      refine sm_iload_n (pc := 46) 1 ok dx_House_emptyOut_46 rfl ?_
      refine sm_aald5 (pc := 47) ok dx_House_emptyOut_47 (zx_House_6 hp) (fun hb_9 => ?_)
      refine sm_iload_n (pc := 48) 2 ok dx_House_emptyOut_48 rfl ?_
      refine sm_iconst (pc := 49) (0 : Int32) ok dx_House_emptyOut_49 zk_0 ?_
      refine sm_iast (pc := 50) ok dx_House_emptyOut_50 (zx_hrow6 hp hb_9) (fun S_10 => ?_)
      refine sm_iinc (pc := 51) (i := 2) 2 (1 : Int32) ok dx_House_emptyOut_51 rfl zk_1 (by decide) (fun v => [(2, .int v), (0, .ref ((xw x).2.2 p)), (1, .int v1)]) (fun _ => rfl) (fun v2_11 => ?_)
      refine sm_goto (pc := 54) 36 ok dx_House_emptyOut_54 (by decide) ?_
      refine sm_lv [1, 2, 0] rfl ?_
      exact ih _ _ _
set_option maxHeartbeats 4000000 in
set_option maxRecDepth 20000 in
theorem tx_House_emptyOut_b29 {x : sm_Cx} (ok : sm_Ok x zx_sy prog_4_method_11_code "LentShades$House" 3 1 20) (hr : (xh x).sig.returnType = none) (N : Nat) (p : Nat) (hp : zx_sy.1 p = (12, 0)) : ∀ (n : Nat) (v1 : Int32) (S : sm_St), sm_Sm x zx_sy prog_4_method_11_code (sm_Q x zx_sy (sm_Pv zx_sy (xw x))) (px_House_emptyOut_b29 N p n v1 S) S 29 [(0, .ref ((xw x).2.2 p)), (1, .int v1)] [] := by
  intro n
  induction n with
  | zero =>
    intro v1 S
    exact sm_none
  | succ n ih =>
    intro v1 S
    show sm_Sm x zx_sy prog_4_method_11_code (sm_Q x zx_sy (sm_Pv zx_sy (xw x))) (if (4 : Int32) ≤ v1 then (some S) else (sm_lt (0 : Int32) (fun (v2_7 : Int32) => px_House_emptyOut_b36 N p (px_House_emptyOut_b29 N p n) N v1 v2_7 S))) S 29 [(0, .ref ((xw x).2.2 p)), (1, .int v1)] []
    refine sm_iload_n (pc := 29) 1 ok dx_House_emptyOut_29 rfl ?_
    refine sm_iconst (pc := 30) (4 : Int32) ok dx_House_emptyOut_30 zk_4 ?_
    refine sm_icmp_ge (pc := 31) 63 ok dx_House_emptyOut_31 (by decide) (fun _ => ?_) (fun _ => ?_)
    · exact sm_vret (pc := 63) ok dx_House_emptyOut_63 hr
    · refine sm_iconst (pc := 34) (0 : Int32) ok dx_House_emptyOut_34 zk_0 ?_
      refine sm_istore_n (pc := 35) (i := 2) ok dx_House_emptyOut_35 rfl (by decide) (fun v => [(2, .int v), (0, .ref ((xw x).2.2 p)), (1, .int v1)]) (fun _ => rfl) (fun v2_7 => ?_)
      refine sm_lv [1, 2, 0] rfl ?_
      exact tx_House_emptyOut_b36 ok hr N p hp ih N _ _ _
set_option maxHeartbeats 4000000 in
set_option maxRecDepth 20000 in
theorem tx_House_emptyOut {x : sm_Cx} (ok : sm_Ok x zx_sy prog_4_method_11_code "LentShades$House" 3 1 20) (hr : (xh x).sig.returnType = none) (N : Nat) (S : sm_St) (p : Nat) (hp : zx_sy.1 p = (12, 0)) : sm_Sm x zx_sy prog_4_method_11_code (sm_Q x zx_sy (sm_Pv zx_sy (xw x))) (px_House_emptyOut N S p) S 0 [(0, .ref ((xw x).2.2 p))] [] := by
  unfold px_House_emptyOut
  refine sm_aload_n (pc := 0) 0 ok dx_House_emptyOut_0 rfl ?_
  refine sm_iconst (pc := 1) (0 : Int32) ok dx_House_emptyOut_1 zk_0 ?_
  refine sm_putI (pc := 2) (ci := 2) (k := 9) ok dx_House_emptyOut_2 hp rfl zc_i2 zc_y2 zc_t2 zc_n2 (by decide) rfl rfl rfl wd_186 (fun S_1 => ?_)
  refine sm_aload_n (pc := 5) 0 ok dx_House_emptyOut_5 rfl ?_
  refine sm_iconst (pc := 6) (0 : Int32) ok dx_House_emptyOut_6 zk_0 ?_
  refine sm_putI (pc := 7) (ci := 2) (k := 10) ok dx_House_emptyOut_7 hp rfl zc_i2 zc_y2 zc_t2 zc_n2 (by decide) rfl rfl rfl wd_189 (fun S_2 => ?_)
  refine sm_aload_n (pc := 10) 0 ok dx_House_emptyOut_10 rfl ?_
  refine sm_iconst (pc := 11) (0 : Int32) ok dx_House_emptyOut_11 zk_0 ?_
  refine sm_putI (pc := 12) (ci := 2) (k := 11) ok dx_House_emptyOut_12 hp rfl zc_i2 zc_y2 zc_t2 zc_n2 (by decide) rfl rfl rfl wd_193 (fun S_3 => ?_)
  refine sm_aload_n (pc := 15) 0 ok dx_House_emptyOut_15 rfl ?_
  refine sm_iconst (pc := 16) (0 : Int32) ok dx_House_emptyOut_16 zk_0 ?_
  refine sm_putI (pc := 17) (ci := 2) (k := 12) ok dx_House_emptyOut_17 hp rfl zc_i2 zc_y2 zc_t2 zc_n2 (by decide) rfl rfl rfl wd_194 (fun S_4 => ?_)
  refine sm_aload_n (pc := 20) 0 ok dx_House_emptyOut_20 rfl ?_
  refine sm_getR (pc := 21) (ci := 2) (k := 6) ok dx_House_emptyOut_21 hp rfl zc_i2 (by decide) rfl wd_178 ?_
  refine sm_callV_v (pc := 24) (ci := 6) [] ok dx_House_emptyOut_24 wd_624 mwx_Shades_reset (zx_House_11 hp) rfl (Nat.le_of_ble_eq_true rfl) (Nat.le_of_ble_eq_true rfl) rfl rfl (Nat.le_of_ble_eq_true rfl) (cx_Shades_reset (sm_okj ok) N S_4 (p + 11) (zx_House_11 hp)) (fun S_5 => ?_)
  refine sm_iconst (pc := 27) (0 : Int32) ok dx_House_emptyOut_27 zk_0 ?_
  refine sm_istore_n (pc := 28) (i := 1) ok dx_House_emptyOut_28 rfl (by decide) (fun v => [(1, .int v), (0, .ref ((xw x).2.2 p))]) (fun _ => rfl) (fun v1_6 => ?_)
  refine sm_lv [1, 0] rfl ?_
  exact tx_House_emptyOut_b29 ok hr N p hp N _ _
theorem cx_House_emptyOut {l : Launch} {wc : sm_Wc} (hj : sm_inj zx_sy wc) (N : Nat) (S : sm_St) (p : Nat) (hp : zx_sy.1 p = (12, 0)) : sm_Ct l zx_sy wc yx_House_emptyOut prog_4_method_11_code 3 none 1 20 [.ref (wc.2.2 p)] S (sm_Pv zx_sy wc) (px_House_emptyOut N S p) :=
  sm_entry (Pq := fun wc => sm_Pv zx_sy wc) (fun wc => [.ref (wc.2.2 p)]) (lv := fun wc => [(0, .ref (wc.2.2 p))]) (by decide) hj zx_ok zx_stb (fun _ => Nat.le_of_ble_eq_true rfl) (fun _ => rfl) (fun x _ ok hr => tx_House_emptyOut ok hr N S p hp)
set_option maxHeartbeats 4000000 in
set_option maxRecDepth 20000 in
theorem tx_Reader_clothItem {x : sm_Cx} (ok : sm_Ok x zx_sy prog_6_method_4_code "LentShades$Reader" 4 8 168) (hr : (xh x).sig.returnType = (some .boolean)) (N : Nat) (S : sm_St) (q1 : Nat) (hq1 : zx_sy.1 q1 = (12, 0)) : sm_Sm x zx_sy prog_6_method_4_code (sm_Q x zx_sy (sm_Pi zx_sy (xw x))) (px_Reader_clothItem N S q1) S 0 [(0, .ref ((xw x).2.2 102)), (1, .ref ((xw x).2.2 q1))] [] := by
  unfold px_Reader_clothItem
  refine sm_aload_n (pc := 0) 0 ok dx_Reader_clothItem_0 rfl ?_
  refine sm_getI (pc := 1) (ci := 4) (k := 6) ok dx_Reader_clothItem_1 rfl rfl zc_i4 (by decide) rfl wd_241 ?_
  refine sm_iconst (pc := 4) (4 : Int32) ok dx_Reader_clothItem_4 zk_4 ?_
  refine sm_icmp_ge (pc := 5) 16 ok dx_Reader_clothItem_5 (by decide) (fun _ => ?_) (fun _ => ?_)
  · refine sm_iconst (pc := 16) (0 : Int32) ok dx_Reader_clothItem_16 zk_0 ?_
    exact sm_zret (pc := 17) ok dx_Reader_clothItem_17 hr rfl
  · refine sm_aload_n (pc := 8) 0 ok dx_Reader_clothItem_8 rfl ?_
    refine sm_iconst (pc := 9) (4 : Int32) ok dx_Reader_clothItem_9 zk_4 ?_
    refine sm_callV_i (pc := 10) (ci := 4) [.int (4 : Int32)] ok dx_Reader_clothItem_10 wd_597 mwx_Reader_number rfl rfl (Nat.le_of_ble_eq_true rfl) (Nat.le_of_ble_eq_true rfl) rfl rfl (Nat.le_of_ble_eq_true rfl) (cx_Reader_number (sm_okj ok) N S (4 : Int32)) (fun r_2 S_1 => ?_)
    refine sm_if_ne (pc := 13) 18 ok dx_Reader_clothItem_13 (by decide) (fun _ => ?_) (fun _ => ?_)
    · refine sm_aload_n (pc := 18) 0 ok dx_Reader_clothItem_18 rfl ?_
      refine sm_getI (pc := 19) (ci := 4) (k := 5) ok dx_Reader_clothItem_19 rfl rfl zc_i4 (by decide) rfl wd_240 ?_
      refine sm_istore_n (pc := 22) (i := 2) ok dx_Reader_clothItem_22 rfl (by decide) (fun v => [(2, .int v), (0, .ref ((xw x).2.2 102)), (1, .ref ((xw x).2.2 q1))]) (fun _ => rfl) (fun v2_3 => ?_)
      refine sm_aload_n (pc := 23) 1 ok dx_Reader_clothItem_23 rfl ?_
      refine sm_iconst (pc := 24) (3 : Int32) ok dx_Reader_clothItem_24 zk_3 ?_
      refine sm_callV_i (pc := 25) (ci := 4) [.int (3 : Int32)] ok dx_Reader_clothItem_25 wd_597 mwx_Reader_number rfl rfl (Nat.le_of_ble_eq_true rfl) (Nat.le_of_ble_eq_true rfl) rfl rfl (Nat.le_of_ble_eq_true rfl) (cx_Reader_number (sm_okj ok) N S_1 (3 : Int32)) (fun r_5 S_4 => ?_)
      refine sm_if_ne (pc := 28) 33 ok dx_Reader_clothItem_28 (by decide) (fun _ => ?_) (fun _ => ?_)
      · refine sm_aload_n (pc := 33) 1 ok dx_Reader_clothItem_33 rfl ?_
        refine sm_getI (pc := 34) (ci := 4) (k := 5) ok dx_Reader_clothItem_34 rfl rfl zc_i4 (by decide) rfl wd_240 ?_
        refine sm_istore_n (pc := 37) (i := 3) ok dx_Reader_clothItem_37 rfl (by decide) (fun v => [(3, .int v), (2, .int v2_3), (0, .ref ((xw x).2.2 102)), (1, .ref ((xw x).2.2 q1))]) (fun _ => rfl) (fun v3_6 => ?_)
        refine sm_aload_n (pc := 38) 2 ok dx_Reader_clothItem_38 rfl ?_
        refine sm_bipush (pc := 39) (12 : Int32) ok dx_Reader_clothItem_39 zb_12 ?_
        refine sm_callV_i (pc := 41) (ci := 4) [.int (12 : Int32)] ok dx_Reader_clothItem_41 wd_597 mwx_Reader_number rfl rfl (Nat.le_of_ble_eq_true rfl) (Nat.le_of_ble_eq_true rfl) rfl rfl (Nat.le_of_ble_eq_true rfl) (cx_Reader_number (sm_okj ok) N S_4 (12 : Int32)) (fun r_8 S_7 => ?_)
        refine sm_if_eq (pc := 44) 54 ok dx_Reader_clothItem_44 (by decide) (fun _ => ?_) (fun _ => ?_)
        · refine sm_iconst (pc := 54) (0 : Int32) ok dx_Reader_clothItem_54 zk_0 ?_
          exact sm_zret (pc := 55) ok dx_Reader_clothItem_55 hr rfl
        · refine sm_aload_n (pc := 47) 2 ok dx_Reader_clothItem_47 rfl ?_
          refine sm_callV_i (pc := 48) (ci := 4) [] ok dx_Reader_clothItem_48 wd_601 mwx_Reader_stop rfl rfl (Nat.le_of_ble_eq_true rfl) (Nat.le_of_ble_eq_true rfl) rfl rfl (Nat.le_of_ble_eq_true rfl) (cx_Reader_stop (sm_okj ok) N S_7) (fun r_10 S_9 => ?_)
          refine sm_if_ne (pc := 51) 56 ok dx_Reader_clothItem_51 (by decide) (fun _ => ?_) (fun _ => ?_)
          · refine sm_aload_n (pc := 56) 2 ok dx_Reader_clothItem_56 rfl ?_
            refine sm_dup (pc := 57) ok dx_Reader_clothItem_57 rfl ?_
            refine sm_getI (pc := 58) (ci := 4) (k := 6) ok dx_Reader_clothItem_58 rfl rfl zc_i4 (by decide) rfl wd_241 ?_
            refine sm_iconst (pc := 61) (1 : Int32) ok dx_Reader_clothItem_61 zk_1 ?_
            refine sm_iadd (pc := 62) ok dx_Reader_clothItem_62 ?_
            refine sm_putI (pc := 63) (ci := 4) (k := 6) ok dx_Reader_clothItem_63 rfl rfl zc_i4 zc_y4 zc_t4 zc_n4 (by decide) rfl rfl rfl wd_241 (fun S_11 => ?_)
            refine sm_aload_n (pc := 66) 3 ok dx_Reader_clothItem_66 rfl ?_
            refine sm_ifnullN (pc := 67) ok dx_Reader_clothItem_67 ?_
            refine sm_aload_n (pc := 70) 3 ok dx_Reader_clothItem_70 rfl ?_
            refine sm_iload_n (pc := 71) 1 ok dx_Reader_clothItem_71 rfl ?_
            refine sm_iload_n (pc := 72) 0 ok dx_Reader_clothItem_72 rfl ?_
            refine sm_aload_n (pc := 73) 2 ok dx_Reader_clothItem_73 rfl ?_
            refine sm_getI (pc := 74) (ci := 4) (k := 5) ok dx_Reader_clothItem_74 rfl rfl zc_i4 (by decide) rfl wd_240 ?_
            refine sm_callV_v (pc := 77) (ci := 2) [.int v2_3, .int v3_6, .int (S_11.1 102 5)] ok dx_Reader_clothItem_77 wd_605 mwx_House_addCloth hq1 rfl (Nat.le_of_ble_eq_true rfl) (Nat.le_of_ble_eq_true rfl) rfl rfl (Nat.le_of_ble_eq_true rfl) (cx_House_addCloth (sm_okj ok) N S_11 q1 v2_3 v3_6 (S_11.1 102 5) hq1) (fun S_12 => ?_)
            refine sm_iconst (pc := 80) (1 : Int32) ok dx_Reader_clothItem_80 zk_1 ?_
            exact sm_zret (pc := 81) ok dx_Reader_clothItem_81 hr rfl
          · refine sm_iconst (pc := 54) (0 : Int32) ok dx_Reader_clothItem_54 zk_0 ?_
            exact sm_zret (pc := 55) ok dx_Reader_clothItem_55 hr rfl
      · refine sm_iconst (pc := 31) (0 : Int32) ok dx_Reader_clothItem_31 zk_0 ?_
        exact sm_zret (pc := 32) ok dx_Reader_clothItem_32 hr rfl
    · refine sm_iconst (pc := 16) (0 : Int32) ok dx_Reader_clothItem_16 zk_0 ?_
      exact sm_zret (pc := 17) ok dx_Reader_clothItem_17 hr rfl
theorem cx_Reader_clothItem {l : Launch} {wc : sm_Wc} (hj : sm_inj zx_sy wc) (N : Nat) (S : sm_St) (q1 : Nat) (hq1 : zx_sy.1 q1 = (12, 0)) : sm_Ct l zx_sy wc yx_Reader_clothItem prog_6_method_4_code 4 (some .boolean) 8 168 [.ref (wc.2.2 102), .ref (wc.2.2 q1)] S (sm_Pi zx_sy wc) (px_Reader_clothItem N S q1) :=
  sm_entry (Pq := fun wc => sm_Pi zx_sy wc) (fun wc => [.ref (wc.2.2 102), .ref (wc.2.2 q1)]) (lv := fun wc => [(0, .ref (wc.2.2 102)), (1, .ref (wc.2.2 q1))]) (by decide) hj zx_ok zx_stb (fun _ => Nat.le_of_ble_eq_true rfl) (fun _ => rfl) (fun x _ ok hr => tx_Reader_clothItem ok hr N S q1 hq1)
set_option maxHeartbeats 4000000 in
set_option maxRecDepth 20000 in
theorem tx_Reader_thingItem {x : sm_Cx} (ok : sm_Ok x zx_sy prog_6_method_5_code "LentShades$Reader" 2 8 168) (hr : (xh x).sig.returnType = (some .boolean)) (N : Nat) (S : sm_St) (q1 : Nat) (hq1 : zx_sy.1 q1 = (12, 0)) : sm_Sm x zx_sy prog_6_method_5_code (sm_Q x zx_sy (sm_Pi zx_sy (xw x))) (px_Reader_thingItem N S q1) S 0 [(0, .ref ((xw x).2.2 102)), (1, .ref ((xw x).2.2 q1))] [] := by
  unfold px_Reader_thingItem
  refine sm_aload_n (pc := 0) 0 ok dx_Reader_thingItem_0 rfl ?_
  refine sm_getI (pc := 1) (ci := 4) (k := 7) ok dx_Reader_thingItem_1 rfl rfl zc_i4 (by decide) rfl wd_242 ?_
  refine sm_iconst (pc := 4) (4 : Int32) ok dx_Reader_thingItem_4 zk_4 ?_
  refine sm_icmp_ge (pc := 5) 24 ok dx_Reader_thingItem_5 (by decide) (fun _ => ?_) (fun _ => ?_)
  · refine sm_iconst (pc := 24) (0 : Int32) ok dx_Reader_thingItem_24 zk_0 ?_
    exact sm_zret (pc := 25) ok dx_Reader_thingItem_25 hr rfl
  · refine sm_aload_n (pc := 8) 0 ok dx_Reader_thingItem_8 rfl ?_
    refine sm_bipush (pc := 9) (12 : Int32) ok dx_Reader_thingItem_9 zb_12 ?_
    refine sm_callV_i (pc := 11) (ci := 4) [.int (12 : Int32)] ok dx_Reader_thingItem_11 wd_597 mwx_Reader_number rfl rfl (Nat.le_of_ble_eq_true rfl) (Nat.le_of_ble_eq_true rfl) rfl rfl (Nat.le_of_ble_eq_true rfl) (cx_Reader_number (sm_okj ok) N S (12 : Int32)) (fun r_2 S_1 => ?_)
    refine sm_if_eq (pc := 14) 24 ok dx_Reader_thingItem_14 (by decide) (fun _ => ?_) (fun _ => ?_)
    · refine sm_iconst (pc := 24) (0 : Int32) ok dx_Reader_thingItem_24 zk_0 ?_
      exact sm_zret (pc := 25) ok dx_Reader_thingItem_25 hr rfl
    · refine sm_aload_n (pc := 17) 0 ok dx_Reader_thingItem_17 rfl ?_
      refine sm_callV_i (pc := 18) (ci := 4) [] ok dx_Reader_thingItem_18 wd_601 mwx_Reader_stop rfl rfl (Nat.le_of_ble_eq_true rfl) (Nat.le_of_ble_eq_true rfl) rfl rfl (Nat.le_of_ble_eq_true rfl) (cx_Reader_stop (sm_okj ok) N S_1) (fun r_4 S_3 => ?_)
      refine sm_if_ne (pc := 21) 26 ok dx_Reader_thingItem_21 (by decide) (fun _ => ?_) (fun _ => ?_)
      · refine sm_aload_n (pc := 26) 0 ok dx_Reader_thingItem_26 rfl ?_
        refine sm_dup (pc := 27) ok dx_Reader_thingItem_27 rfl ?_
        refine sm_getI (pc := 28) (ci := 4) (k := 7) ok dx_Reader_thingItem_28 rfl rfl zc_i4 (by decide) rfl wd_242 ?_
        refine sm_iconst (pc := 31) (1 : Int32) ok dx_Reader_thingItem_31 zk_1 ?_
        refine sm_iadd (pc := 32) ok dx_Reader_thingItem_32 ?_
        refine sm_putI (pc := 33) (ci := 4) (k := 7) ok dx_Reader_thingItem_33 rfl rfl zc_i4 zc_y4 zc_t4 zc_n4 (by decide) rfl rfl rfl wd_242 (fun S_5 => ?_)
        refine sm_aload_n (pc := 36) 1 ok dx_Reader_thingItem_36 rfl ?_
        refine sm_ifnullN (pc := 37) ok dx_Reader_thingItem_37 ?_
        refine sm_aload_n (pc := 40) 1 ok dx_Reader_thingItem_40 rfl ?_
        refine sm_aload_n (pc := 41) 0 ok dx_Reader_thingItem_41 rfl ?_
        refine sm_getI (pc := 42) (ci := 4) (k := 5) ok dx_Reader_thingItem_42 rfl rfl zc_i4 (by decide) rfl wd_240 ?_
        refine sm_callV_v (pc := 45) (ci := 2) [.int (S_5.1 102 5)] ok dx_Reader_thingItem_45 wd_610 mwx_House_addThing hq1 rfl (Nat.le_of_ble_eq_true rfl) (Nat.le_of_ble_eq_true rfl) rfl rfl (Nat.le_of_ble_eq_true rfl) (cx_House_addThing (sm_okj ok) N S_5 q1 (S_5.1 102 5) hq1) (fun S_6 => ?_)
        refine sm_iconst (pc := 48) (1 : Int32) ok dx_Reader_thingItem_48 zk_1 ?_
        exact sm_zret (pc := 49) ok dx_Reader_thingItem_49 hr rfl
      · refine sm_iconst (pc := 24) (0 : Int32) ok dx_Reader_thingItem_24 zk_0 ?_
        exact sm_zret (pc := 25) ok dx_Reader_thingItem_25 hr rfl
theorem cx_Reader_thingItem {l : Launch} {wc : sm_Wc} (hj : sm_inj zx_sy wc) (N : Nat) (S : sm_St) (q1 : Nat) (hq1 : zx_sy.1 q1 = (12, 0)) : sm_Ct l zx_sy wc yx_Reader_thingItem prog_6_method_5_code 2 (some .boolean) 8 168 [.ref (wc.2.2 102), .ref (wc.2.2 q1)] S (sm_Pi zx_sy wc) (px_Reader_thingItem N S q1) :=
  sm_entry (Pq := fun wc => sm_Pi zx_sy wc) (fun wc => [.ref (wc.2.2 102), .ref (wc.2.2 q1)]) (lv := fun wc => [(0, .ref (wc.2.2 102)), (1, .ref (wc.2.2 q1))]) (by decide) hj zx_ok zx_stb (fun _ => Nat.le_of_ble_eq_true rfl) (fun _ => rfl) (fun x _ ok hr => tx_Reader_thingItem ok hr N S q1 hq1)
set_option maxHeartbeats 4000000 in
set_option maxRecDepth 20000 in
theorem tx_Reader_touchItem_b72 {x : sm_Cx} (ok : sm_Ok x zx_sy prog_6_method_6_code "LentShades$Reader" 4 8 168) (hr : (xh x).sig.returnType = (some .boolean)) (N : Nat) (q1 : Nat) (hq1 : zx_sy.1 q1 = (12, 0)) (v2 : Int32) (v3 : Int32) (S : sm_St) : sm_Sm x zx_sy prog_6_method_6_code (sm_Q x zx_sy (sm_Pi zx_sy (xw x))) (px_Reader_touchItem_b72 N q1 v2 v3 S) S 72 [(0, .ref ((xw x).2.2 102)), (1, .ref ((xw x).2.2 q1)), (2, .int v2), (3, .int v3)] [] := by
  unfold px_Reader_touchItem_b72
  refine sm_aload_n (pc := 72) 0 ok dx_Reader_touchItem_72 rfl ?_
  refine sm_iconst (pc := 73) (3 : Int32) ok dx_Reader_touchItem_73 zk_3 ?_
  refine sm_callV_i (pc := 74) (ci := 4) [.int (3 : Int32)] ok dx_Reader_touchItem_74 wd_597 mwx_Reader_number rfl rfl (Nat.le_of_ble_eq_true rfl) (Nat.le_of_ble_eq_true rfl) rfl rfl (Nat.le_of_ble_eq_true rfl) (cx_Reader_number (sm_okj ok) N S (3 : Int32)) (fun r_12 S_11 => ?_)
  refine sm_if_eq (pc := 77) 87 ok dx_Reader_touchItem_77 (by decide) (fun _ => ?_) (fun _ => ?_)
  · refine sm_iconst (pc := 87) (0 : Int32) ok dx_Reader_touchItem_87 zk_0 ?_
    exact sm_zret (pc := 88) ok dx_Reader_touchItem_88 hr rfl
  · refine sm_aload_n (pc := 80) 0 ok dx_Reader_touchItem_80 rfl ?_
    refine sm_callV_i (pc := 81) (ci := 4) [] ok dx_Reader_touchItem_81 wd_601 mwx_Reader_stop rfl rfl (Nat.le_of_ble_eq_true rfl) (Nat.le_of_ble_eq_true rfl) rfl rfl (Nat.le_of_ble_eq_true rfl) (cx_Reader_stop (sm_okj ok) N S_11) (fun r_14 S_13 => ?_)
    refine sm_if_ne (pc := 84) 89 ok dx_Reader_touchItem_84 (by decide) (fun _ => ?_) (fun _ => ?_)
    · refine sm_aload_n (pc := 89) 1 ok dx_Reader_touchItem_89 rfl ?_
      refine sm_ifnullN (pc := 90) ok dx_Reader_touchItem_90 ?_
      refine sm_aload_n (pc := 93) 1 ok dx_Reader_touchItem_93 rfl ?_
      refine sm_getR (pc := 94) (ci := 2) (k := 5) ok dx_Reader_touchItem_94 hq1 rfl zc_i2 (by decide) rfl wd_177 ?_
      refine sm_iload_n (pc := 97) 2 ok dx_Reader_touchItem_97 rfl ?_
      refine sm_iload_n (pc := 98) 3 ok dx_Reader_touchItem_98 rfl ?_
      refine sm_aload_n (pc := 99) 0 ok dx_Reader_touchItem_99 rfl ?_
      refine sm_getI (pc := 100) (ci := 4) (k := 5) ok dx_Reader_touchItem_100 rfl rfl zc_i4 (by decide) rfl wd_240 ?_
      refine sm_callSN_v (pc := 103) [.ref ((xw x).2.2 (q1 + 6)), .int v2, .int v3, .int (S_13.1 102 5)] ok dx_Reader_touchItem_103 (zx_nw ok 0 rfl) mwx_L_putHours (Nat.le_of_ble_eq_true rfl) (Nat.le_of_ble_eq_true rfl) rfl rfl (Nat.le_of_ble_eq_true rfl) (cx_L_putHours (sm_okj ok) N S_13 (q1 + 6) v2 v3 (S_13.1 102 5) (sm_tag (zx_House_6 hq1))) (fun S_15 => ?_)
      refine sm_iconst (pc := 106) (1 : Int32) ok dx_Reader_touchItem_106 zk_1 ?_
      exact sm_zret (pc := 107) ok dx_Reader_touchItem_107 hr rfl
    · refine sm_iconst (pc := 87) (0 : Int32) ok dx_Reader_touchItem_87 zk_0 ?_
      exact sm_zret (pc := 88) ok dx_Reader_touchItem_88 hr rfl
set_option maxHeartbeats 4000000 in
set_option maxRecDepth 20000 in
theorem tx_Reader_touchItem {x : sm_Cx} (ok : sm_Ok x zx_sy prog_6_method_6_code "LentShades$Reader" 4 8 168) (hr : (xh x).sig.returnType = (some .boolean)) (N : Nat) (S : sm_St) (q1 : Nat) (hq1 : zx_sy.1 q1 = (12, 0)) : sm_Sm x zx_sy prog_6_method_6_code (sm_Q x zx_sy (sm_Pi zx_sy (xw x))) (px_Reader_touchItem N S q1) S 0 [(0, .ref ((xw x).2.2 102)), (1, .ref ((xw x).2.2 q1))] [] := by
  unfold px_Reader_touchItem
  refine sm_aload_n (pc := 0) 0 ok dx_Reader_touchItem_0 rfl ?_
  refine sm_bipush (pc := 1) (7 : Int32) ok dx_Reader_touchItem_1 zb_7 ?_
  refine sm_callV_i (pc := 3) (ci := 4) [.int (7 : Int32)] ok dx_Reader_touchItem_3 wd_597 mwx_Reader_number rfl rfl (Nat.le_of_ble_eq_true rfl) (Nat.le_of_ble_eq_true rfl) rfl rfl (Nat.le_of_ble_eq_true rfl) (cx_Reader_number (sm_okj ok) N S (7 : Int32)) (fun r_2 S_1 => ?_)
  refine sm_if_eq (pc := 6) 20 ok dx_Reader_touchItem_6 (by decide) (fun _ => ?_) (fun _ => ?_)
  · refine sm_iconst (pc := 20) (0 : Int32) ok dx_Reader_touchItem_20 zk_0 ?_
    exact sm_zret (pc := 21) ok dx_Reader_touchItem_21 hr rfl
  · refine sm_aload_n (pc := 9) 0 ok dx_Reader_touchItem_9 rfl ?_
    refine sm_aload_n (pc := 10) 0 ok dx_Reader_touchItem_10 rfl ?_
    refine sm_getI (pc := 11) (ci := 4) (k := 5) ok dx_Reader_touchItem_11 rfl rfl zc_i4 (by decide) rfl wd_240 ?_
    refine sm_callV_i (pc := 14) (ci := 4) [.int (S_1.1 102 5)] ok dx_Reader_touchItem_14 wd_615 mwx_Reader_isThere rfl rfl (Nat.le_of_ble_eq_true rfl) (Nat.le_of_ble_eq_true rfl) rfl rfl (Nat.le_of_ble_eq_true rfl) (cx_Reader_isThere (sm_okj ok) N S_1 (S_1.1 102 5)) (fun r_4 S_3 => ?_)
    refine sm_if_ne (pc := 17) 22 ok dx_Reader_touchItem_17 (by decide) (fun _ => ?_) (fun _ => ?_)
    · refine sm_aload_n (pc := 22) 0 ok dx_Reader_touchItem_22 rfl ?_
      refine sm_getI (pc := 23) (ci := 4) (k := 5) ok dx_Reader_touchItem_23 rfl rfl zc_i4 (by decide) rfl wd_240 ?_
      refine sm_istore_n (pc := 26) (i := 2) ok dx_Reader_touchItem_26 rfl (by decide) (fun v => [(2, .int v), (0, .ref ((xw x).2.2 102)), (1, .ref ((xw x).2.2 q1))]) (fun _ => rfl) (fun v2_5 => ?_)
      refine sm_aload_n (pc := 27) 1 ok dx_Reader_touchItem_27 rfl ?_
      refine sm_bipush (pc := 28) (7 : Int32) ok dx_Reader_touchItem_28 zb_7 ?_
      refine sm_callV_i (pc := 30) (ci := 4) [.int (7 : Int32)] ok dx_Reader_touchItem_30 wd_597 mwx_Reader_number rfl rfl (Nat.le_of_ble_eq_true rfl) (Nat.le_of_ble_eq_true rfl) rfl rfl (Nat.le_of_ble_eq_true rfl) (cx_Reader_number (sm_okj ok) N S_3 (7 : Int32)) (fun r_7 S_6 => ?_)
      refine sm_if_eq (pc := 33) 55 ok dx_Reader_touchItem_33 (by decide) (fun _ => ?_) (fun _ => ?_)
      · refine sm_iconst (pc := 55) (0 : Int32) ok dx_Reader_touchItem_55 zk_0 ?_
        exact sm_zret (pc := 56) ok dx_Reader_touchItem_56 hr rfl
      · refine sm_aload_n (pc := 36) 1 ok dx_Reader_touchItem_36 rfl ?_
        refine sm_aload_n (pc := 37) 1 ok dx_Reader_touchItem_37 rfl ?_
        refine sm_getI (pc := 38) (ci := 4) (k := 5) ok dx_Reader_touchItem_38 rfl rfl zc_i4 (by decide) rfl wd_240 ?_
        refine sm_callV_i (pc := 41) (ci := 4) [.int (S_6.1 102 5)] ok dx_Reader_touchItem_41 wd_615 mwx_Reader_isThere rfl rfl (Nat.le_of_ble_eq_true rfl) (Nat.le_of_ble_eq_true rfl) rfl rfl (Nat.le_of_ble_eq_true rfl) (cx_Reader_isThere (sm_okj ok) N S_6 (S_6.1 102 5)) (fun r_9 S_8 => ?_)
        refine sm_if_eq (pc := 44) 55 ok dx_Reader_touchItem_44 (by decide) (fun _ => ?_) (fun _ => ?_)
        · refine sm_iconst (pc := 55) (0 : Int32) ok dx_Reader_touchItem_55 zk_0 ?_
          exact sm_zret (pc := 56) ok dx_Reader_touchItem_56 hr rfl
        · refine sm_aload_n (pc := 47) 1 ok dx_Reader_touchItem_47 rfl ?_
          refine sm_getI (pc := 48) (ci := 4) (k := 5) ok dx_Reader_touchItem_48 rfl rfl zc_i4 (by decide) rfl wd_240 ?_
          refine sm_iload_n (pc := 51) 0 ok dx_Reader_touchItem_51 rfl ?_
          refine sm_icmp_ne (pc := 52) 57 ok dx_Reader_touchItem_52 (by decide) (fun _ => ?_) (fun _ => ?_)
          · refine sm_aload_n (pc := 57) 1 ok dx_Reader_touchItem_57 rfl ?_
            refine sm_getI (pc := 58) (ci := 4) (k := 5) ok dx_Reader_touchItem_58 rfl rfl zc_i4 (by decide) rfl wd_240 ?_
            refine sm_istore_n (pc := 61) (i := 3) ok dx_Reader_touchItem_61 rfl (by decide) (fun v => [(3, .int v), (2, .int v2_5), (0, .ref ((xw x).2.2 102)), (1, .ref ((xw x).2.2 q1))]) (fun _ => rfl) (fun v3_10 => ?_)
            refine sm_iload_n (pc := 62) 1 ok dx_Reader_touchItem_62 rfl ?_
            refine sm_iconst (pc := 63) (4 : Int32) ok dx_Reader_touchItem_63 zk_4 ?_
            refine sm_icmp_lt (pc := 64) 72 ok dx_Reader_touchItem_64 (by decide) (fun _ => ?_) (fun _ => ?_)
            · refine sm_lv [2, 3, 1, 0] rfl ?_
              exact tx_Reader_touchItem_b72 ok hr N q1 hq1 _ _ _
            · refine sm_iload_n (pc := 67) 0 ok dx_Reader_touchItem_67 rfl ?_
              refine sm_iconst (pc := 68) (4 : Int32) ok dx_Reader_touchItem_68 zk_4 ?_
              refine sm_icmp_ge (pc := 69) 87 ok dx_Reader_touchItem_69 (by decide) (fun _ => ?_) (fun _ => ?_)
              · refine sm_iconst (pc := 87) (0 : Int32) ok dx_Reader_touchItem_87 zk_0 ?_
                exact sm_zret (pc := 88) ok dx_Reader_touchItem_88 hr rfl
              · refine sm_lv [2, 3, 1, 0] rfl ?_
                exact tx_Reader_touchItem_b72 ok hr N q1 hq1 _ _ _
          · refine sm_iconst (pc := 55) (0 : Int32) ok dx_Reader_touchItem_55 zk_0 ?_
            exact sm_zret (pc := 56) ok dx_Reader_touchItem_56 hr rfl
    · refine sm_iconst (pc := 20) (0 : Int32) ok dx_Reader_touchItem_20 zk_0 ?_
      exact sm_zret (pc := 21) ok dx_Reader_touchItem_21 hr rfl
theorem cx_Reader_touchItem {l : Launch} {wc : sm_Wc} (hj : sm_inj zx_sy wc) (N : Nat) (S : sm_St) (q1 : Nat) (hq1 : zx_sy.1 q1 = (12, 0)) : sm_Ct l zx_sy wc yx_Reader_touchItem prog_6_method_6_code 4 (some .boolean) 8 168 [.ref (wc.2.2 102), .ref (wc.2.2 q1)] S (sm_Pi zx_sy wc) (px_Reader_touchItem N S q1) :=
  sm_entry (Pq := fun wc => sm_Pi zx_sy wc) (fun wc => [.ref (wc.2.2 102), .ref (wc.2.2 q1)]) (lv := fun wc => [(0, .ref (wc.2.2 102)), (1, .ref (wc.2.2 q1))]) (by decide) hj zx_ok zx_stb (fun _ => Nat.le_of_ble_eq_true rfl) (fun _ => rfl) (fun x _ ok hr => tx_Reader_touchItem ok hr N S q1 hq1)
set_option maxHeartbeats 4000000 in
set_option maxRecDepth 20000 in
theorem tx_Reader_readInto_b102 {x : sm_Cx} (ok : sm_Ok x zx_sy prog_6_method_3_code "LentShades$Reader" 5 9 191) (hr : (xh x).sig.returnType = (some .int)) (N : Nat) (q1 : Nat) (hq1 : zx_sy.1 q1 = (12, 0)) (S : sm_St) : sm_Sm x zx_sy prog_6_method_3_code (sm_Q x zx_sy (sm_Pi zx_sy (xw x))) (px_Reader_readInto_b102 N q1 S) S 102 [(0, .ref ((xw x).2.2 102))] [] := by
  unfold px_Reader_readInto_b102
  refine sm_bipush (pc := 102) (-10 : Int32) ok dx_Reader_readInto_102 zb_m10 ?_
  refine sm_aload_n (pc := 104) 0 ok dx_Reader_readInto_104 rfl ?_
  refine sm_getI (pc := 105) (ci := 4) (k := 3) ok dx_Reader_readInto_105 rfl rfl zc_i4 (by decide) rfl wd_238 ?_
  refine sm_isub (pc := 108) ok dx_Reader_readInto_108 ?_
  exact sm_iret (pc := 109) ok dx_Reader_readInto_109 hr
set_option maxHeartbeats 4000000 in
set_option maxRecDepth 20000 in
theorem tx_Reader_readInto_b86 {x : sm_Cx} (ok : sm_Ok x zx_sy prog_6_method_3_code "LentShades$Reader" 5 9 191) (hr : (xh x).sig.returnType = (some .int)) (N : Nat) (q1 : Nat) (hq1 : zx_sy.1 q1 = (12, 0)) {r17 : Int32 → sm_St → Option (Int32 × sm_St)} (h17 : ∀ (v2 : Int32) (S : sm_St), sm_Sm x zx_sy prog_6_method_3_code (sm_Q x zx_sy (sm_Pi zx_sy (xw x))) (r17 v2 S) S 17 [(0, .ref ((xw x).2.2 102)), (1, .ref ((xw x).2.2 q1)), (2, .int v2)] []) (v2 : Int32) (s0 : Int32) (S : sm_St) : sm_Sm x zx_sy prog_6_method_3_code (sm_Q x zx_sy (sm_Pi zx_sy (xw x))) (px_Reader_readInto_b86 N q1 r17 v2 s0 S) S 86 [(0, .ref ((xw x).2.2 102)), (1, .ref ((xw x).2.2 q1)), (2, .int v2)] [.int s0] := by
  unfold px_Reader_readInto_b86
  refine sm_istore (pc := 86) (i := 4) ok dx_Reader_readInto_86 (by decide) (fun v => [(4, .int v), (0, .ref ((xw x).2.2 102)), (1, .ref ((xw x).2.2 q1)), (2, .int v2)]) (fun _ => rfl) (fun v4_9 => ?_)
  refine sm_iload (pc := 88) 0 ok dx_Reader_readInto_88 rfl ?_
  refine sm_if_ne (pc := 90) 96 ok dx_Reader_readInto_90 (by decide) (fun _ => ?_) (fun _ => ?_)
  · refine sm_iinc (pc := 96) (i := 2) 3 (1 : Int32) ok dx_Reader_readInto_96 rfl zk_1 (by decide) (fun v => [(2, .int v), (4, .int v4_9), (0, .ref ((xw x).2.2 102)), (1, .ref ((xw x).2.2 q1))]) (fun _ => rfl) (fun v2_10 => ?_)
    refine sm_goto (pc := 99) 17 ok dx_Reader_readInto_99 (by decide) ?_
    refine sm_lv [2, 3, 0] rfl ?_
    exact h17 _ _
  · refine sm_goto (pc := 93) 102 ok dx_Reader_readInto_93 (by decide) ?_
    refine sm_lv [1] rfl ?_
    exact tx_Reader_readInto_b102 ok hr N q1 hq1 _
set_option maxHeartbeats 4000000 in
set_option maxRecDepth 20000 in
theorem tx_Reader_readInto_b85 {x : sm_Cx} (ok : sm_Ok x zx_sy prog_6_method_3_code "LentShades$Reader" 5 9 191) (hr : (xh x).sig.returnType = (some .int)) (N : Nat) (q1 : Nat) (hq1 : zx_sy.1 q1 = (12, 0)) {r17 : Int32 → sm_St → Option (Int32 × sm_St)} (h17 : ∀ (v2 : Int32) (S : sm_St), sm_Sm x zx_sy prog_6_method_3_code (sm_Q x zx_sy (sm_Pi zx_sy (xw x))) (r17 v2 S) S 17 [(0, .ref ((xw x).2.2 102)), (1, .ref ((xw x).2.2 q1)), (2, .int v2)] []) (v2 : Int32) (S : sm_St) : sm_Sm x zx_sy prog_6_method_3_code (sm_Q x zx_sy (sm_Pi zx_sy (xw x))) (px_Reader_readInto_b85 N q1 r17 v2 S) S 85 [(0, .ref ((xw x).2.2 102)), (1, .ref ((xw x).2.2 q1)), (2, .int v2)] [] := by
  unfold px_Reader_readInto_b85
  refine sm_iconst (pc := 85) (0 : Int32) ok dx_Reader_readInto_85 zk_0 ?_
  exact tx_Reader_readInto_b86 ok hr N q1 hq1 h17 _ _ _
set_option maxHeartbeats 4000000 in
set_option maxRecDepth 20000 in
theorem tx_Reader_readInto_b81 {x : sm_Cx} (ok : sm_Ok x zx_sy prog_6_method_3_code "LentShades$Reader" 5 9 191) (hr : (xh x).sig.returnType = (some .int)) (N : Nat) (q1 : Nat) (hq1 : zx_sy.1 q1 = (12, 0)) {r17 : Int32 → sm_St → Option (Int32 × sm_St)} (h17 : ∀ (v2 : Int32) (S : sm_St), sm_Sm x zx_sy prog_6_method_3_code (sm_Q x zx_sy (sm_Pi zx_sy (xw x))) (r17 v2 S) S 17 [(0, .ref ((xw x).2.2 102)), (1, .ref ((xw x).2.2 q1)), (2, .int v2)] []) (v2 : Int32) (S : sm_St) : sm_Sm x zx_sy prog_6_method_3_code (sm_Q x zx_sy (sm_Pi zx_sy (xw x))) (px_Reader_readInto_b81 N q1 r17 v2 S) S 81 [(0, .ref ((xw x).2.2 102)), (1, .ref ((xw x).2.2 q1)), (2, .int v2)] [] := by
  unfold px_Reader_readInto_b81
  refine sm_iconst (pc := 81) (1 : Int32) ok dx_Reader_readInto_81 zk_1 ?_
  refine sm_goto (pc := 82) 86 ok dx_Reader_readInto_82 (by decide) ?_
  exact tx_Reader_readInto_b86 ok hr N q1 hq1 h17 _ _ _
set_option maxHeartbeats 4000000 in
set_option maxRecDepth 20000 in
theorem tx_Reader_readInto_b68 {x : sm_Cx} (ok : sm_Ok x zx_sy prog_6_method_3_code "LentShades$Reader" 5 9 191) (hr : (xh x).sig.returnType = (some .int)) (N : Nat) (q1 : Nat) (hq1 : zx_sy.1 q1 = (12, 0)) {r17 : Int32 → sm_St → Option (Int32 × sm_St)} (h17 : ∀ (v2 : Int32) (S : sm_St), sm_Sm x zx_sy prog_6_method_3_code (sm_Q x zx_sy (sm_Pi zx_sy (xw x))) (r17 v2 S) S 17 [(0, .ref ((xw x).2.2 102)), (1, .ref ((xw x).2.2 q1)), (2, .int v2)] []) (v2 : Int32) (v3 : Int32) (S : sm_St) : sm_Sm x zx_sy prog_6_method_3_code (sm_Q x zx_sy (sm_Pi zx_sy (xw x))) (px_Reader_readInto_b68 N q1 r17 v2 v3 S) S 68 [(0, .ref ((xw x).2.2 102)), (1, .ref ((xw x).2.2 q1)), (2, .int v2), (3, .int v3)] [] := by
  unfold px_Reader_readInto_b68
  refine sm_iload_n (pc := 68) 3 ok dx_Reader_readInto_68 rfl ?_
  refine sm_iconst (pc := 69) (3 : Int32) ok dx_Reader_readInto_69 zk_3 ?_
  refine sm_icmp_ne (pc := 70) 85 ok dx_Reader_readInto_70 (by decide) (fun _ => ?_) (fun _ => ?_)
  · refine sm_lv [0, 1, 2] rfl ?_
    exact tx_Reader_readInto_b85 ok hr N q1 hq1 h17 _ _
  · refine sm_aload_n (pc := 73) 0 ok dx_Reader_readInto_73 rfl ?_
    refine sm_aload_n (pc := 74) 1 ok dx_Reader_readInto_74 rfl ?_
    refine sm_callV_i (pc := 75) (ci := 4) [.ref ((xw x).2.2 q1)] ok dx_Reader_readInto_75 wd_611 mwx_Reader_touchItem rfl rfl (Nat.le_of_ble_eq_true rfl) (Nat.le_of_ble_eq_true rfl) rfl rfl (Nat.le_of_ble_eq_true rfl) (cx_Reader_touchItem (sm_okj ok) N S q1 hq1) (fun r_14 S_13 => ?_)
    refine sm_if_eq (pc := 78) 85 ok dx_Reader_readInto_78 (by decide) (fun _ => ?_) (fun _ => ?_)
    · refine sm_lv [0, 1, 2] rfl ?_
      exact tx_Reader_readInto_b85 ok hr N q1 hq1 h17 _ _
    · refine sm_lv [0, 1, 2] rfl ?_
      exact tx_Reader_readInto_b81 ok hr N q1 hq1 h17 _ _
set_option maxHeartbeats 4000000 in
set_option maxRecDepth 20000 in
theorem tx_Reader_readInto_b55 {x : sm_Cx} (ok : sm_Ok x zx_sy prog_6_method_3_code "LentShades$Reader" 5 9 191) (hr : (xh x).sig.returnType = (some .int)) (N : Nat) (q1 : Nat) (hq1 : zx_sy.1 q1 = (12, 0)) {r17 : Int32 → sm_St → Option (Int32 × sm_St)} (h17 : ∀ (v2 : Int32) (S : sm_St), sm_Sm x zx_sy prog_6_method_3_code (sm_Q x zx_sy (sm_Pi zx_sy (xw x))) (r17 v2 S) S 17 [(0, .ref ((xw x).2.2 102)), (1, .ref ((xw x).2.2 q1)), (2, .int v2)] []) (v2 : Int32) (v3 : Int32) (S : sm_St) : sm_Sm x zx_sy prog_6_method_3_code (sm_Q x zx_sy (sm_Pi zx_sy (xw x))) (px_Reader_readInto_b55 N q1 r17 v2 v3 S) S 55 [(0, .ref ((xw x).2.2 102)), (1, .ref ((xw x).2.2 q1)), (2, .int v2), (3, .int v3)] [] := by
  unfold px_Reader_readInto_b55
  refine sm_iload_n (pc := 55) 3 ok dx_Reader_readInto_55 rfl ?_
  refine sm_iconst (pc := 56) (2 : Int32) ok dx_Reader_readInto_56 zk_2 ?_
  refine sm_icmp_ne (pc := 57) 68 ok dx_Reader_readInto_57 (by decide) (fun _ => ?_) (fun _ => ?_)
  · exact tx_Reader_readInto_b68 ok hr N q1 hq1 h17 _ _ _
  · refine sm_aload_n (pc := 60) 0 ok dx_Reader_readInto_60 rfl ?_
    refine sm_aload_n (pc := 61) 1 ok dx_Reader_readInto_61 rfl ?_
    refine sm_callV_i (pc := 62) (ci := 4) [.ref ((xw x).2.2 q1)] ok dx_Reader_readInto_62 wd_606 mwx_Reader_thingItem rfl rfl (Nat.le_of_ble_eq_true rfl) (Nat.le_of_ble_eq_true rfl) rfl rfl (Nat.le_of_ble_eq_true rfl) (cx_Reader_thingItem (sm_okj ok) N S q1 hq1) (fun r_12 S_11 => ?_)
    refine sm_if_ne (pc := 65) 81 ok dx_Reader_readInto_65 (by decide) (fun _ => ?_) (fun _ => ?_)
    · refine sm_lv [0, 1, 2] rfl ?_
      exact tx_Reader_readInto_b81 ok hr N q1 hq1 h17 _ _
    · exact tx_Reader_readInto_b68 ok hr N q1 hq1 h17 _ _ _
set_option maxHeartbeats 4000000 in
set_option maxRecDepth 20000 in
theorem tx_Reader_readInto_b17 {x : sm_Cx} (ok : sm_Ok x zx_sy prog_6_method_3_code "LentShades$Reader" 5 9 191) (hr : (xh x).sig.returnType = (some .int)) (N : Nat) (q1 : Nat) (hq1 : zx_sy.1 q1 = (12, 0)) : ∀ (n : Nat) (v2 : Int32) (S : sm_St), sm_Sm x zx_sy prog_6_method_3_code (sm_Q x zx_sy (sm_Pi zx_sy (xw x))) (px_Reader_readInto_b17 N q1 n v2 S) S 17 [(0, .ref ((xw x).2.2 102)), (1, .ref ((xw x).2.2 q1)), (2, .int v2)] [] := by
  intro n
  induction n with
  | zero =>
    intro v2 S
    exact sm_none
  | succ n ih =>
    intro v2 S
    show sm_Sm x zx_sy prog_6_method_3_code (sm_Q x zx_sy (sm_Pi zx_sy (xw x))) (if (200 : Int32) < v2 then (px_Reader_readInto_b102 N q1 S) else (sm_b1 (px_Reader_next N S) (fun (S_5 : sm_St) => if (S_5.1 102 4) = 0 then (some (v2, S_5)) else (sm_lt (S_5.1 102 4) (fun (v3_6 : Int32) => if v3_6 = (1 : Int32) then (sm_b2 (px_Reader_clothItem N S_5 q1) (fun (r_8 : Int32) (S_7 : sm_St) => if r_8 = 0 then (px_Reader_readInto_b55 N q1 (px_Reader_readInto_b17 N q1 n) v2 v3_6 S_7) else (px_Reader_readInto_b81 N q1 (px_Reader_readInto_b17 N q1 n) v2 S_7))) else (px_Reader_readInto_b55 N q1 (px_Reader_readInto_b17 N q1 n) v2 v3_6 S_5)))))) S 17 [(0, .ref ((xw x).2.2 102)), (1, .ref ((xw x).2.2 q1)), (2, .int v2)] []
    refine sm_iload_n (pc := 17) 2 ok dx_Reader_readInto_17 rfl ?_
    refine sm_sipush (pc := 18) (200 : Int32) ok dx_Reader_readInto_18 zs_200 ?_
    refine sm_icmp_gt (pc := 21) 102 ok dx_Reader_readInto_21 (by decide) (fun _ => ?_) (fun _ => ?_)
    · refine sm_lv [0] rfl ?_
      exact tx_Reader_readInto_b102 ok hr N q1 hq1 _
    · refine sm_aload_n (pc := 24) 0 ok dx_Reader_readInto_24 rfl ?_
      refine sm_callV_v (pc := 25) (ci := 4) [] ok dx_Reader_readInto_25 wd_520 mwx_Reader_next rfl rfl (Nat.le_of_ble_eq_true rfl) (Nat.le_of_ble_eq_true rfl) rfl rfl (Nat.le_of_ble_eq_true rfl) (cx_Reader_next (sm_okj ok) N S) (fun S_5 => ?_)
      refine sm_aload_n (pc := 28) 0 ok dx_Reader_readInto_28 rfl ?_
      refine sm_getI (pc := 29) (ci := 4) (k := 4) ok dx_Reader_readInto_29 rfl rfl zc_i4 (by decide) rfl wd_239 ?_
      refine sm_if_ne (pc := 32) 37 ok dx_Reader_readInto_32 (by decide) (fun _ => ?_) (fun _ => ?_)
      · refine sm_aload_n (pc := 37) 0 ok dx_Reader_readInto_37 rfl ?_
        refine sm_getI (pc := 38) (ci := 4) (k := 4) ok dx_Reader_readInto_38 rfl rfl zc_i4 (by decide) rfl wd_239 ?_
        refine sm_istore_n (pc := 41) (i := 3) ok dx_Reader_readInto_41 rfl (by decide) (fun v => [(3, .int v), (0, .ref ((xw x).2.2 102)), (1, .ref ((xw x).2.2 q1)), (2, .int v2)]) (fun _ => rfl) (fun v3_6 => ?_)
        refine sm_iload_n (pc := 42) 0 ok dx_Reader_readInto_42 rfl ?_
        refine sm_iconst (pc := 43) (1 : Int32) ok dx_Reader_readInto_43 zk_1 ?_
        refine sm_icmp_ne (pc := 44) 55 ok dx_Reader_readInto_44 (by decide) (fun _ => ?_) (fun _ => ?_)
        · refine sm_lv [1, 2, 3, 0] rfl ?_
          exact tx_Reader_readInto_b55 ok hr N q1 hq1 ih _ _ _
        · refine sm_aload_n (pc := 47) 1 ok dx_Reader_readInto_47 rfl ?_
          refine sm_aload_n (pc := 48) 2 ok dx_Reader_readInto_48 rfl ?_
          refine sm_callV_i (pc := 49) (ci := 4) [.ref ((xw x).2.2 q1)] ok dx_Reader_readInto_49 wd_593 mwx_Reader_clothItem rfl rfl (Nat.le_of_ble_eq_true rfl) (Nat.le_of_ble_eq_true rfl) rfl rfl (Nat.le_of_ble_eq_true rfl) (cx_Reader_clothItem (sm_okj ok) N S_5 q1 hq1) (fun r_8 S_7 => ?_)
          refine sm_if_ne (pc := 52) 81 ok dx_Reader_readInto_52 (by decide) (fun _ => ?_) (fun _ => ?_)
          · refine sm_lv [1, 2, 3] rfl ?_
            exact tx_Reader_readInto_b81 ok hr N q1 hq1 ih _ _
          · refine sm_lv [1, 2, 3, 0] rfl ?_
            exact tx_Reader_readInto_b55 ok hr N q1 hq1 ih _ _ _
      · refine sm_iload_n (pc := 35) 2 ok dx_Reader_readInto_35 rfl ?_
        exact sm_iret (pc := 36) ok dx_Reader_readInto_36 hr
set_option maxHeartbeats 4000000 in
set_option maxRecDepth 20000 in
theorem tx_Reader_readInto {x : sm_Cx} (ok : sm_Ok x zx_sy prog_6_method_3_code "LentShades$Reader" 5 9 191) (hr : (xh x).sig.returnType = (some .int)) (N : Nat) (S : sm_St) (q1 : Nat) (hq1 : zx_sy.1 q1 = (12, 0)) : sm_Sm x zx_sy prog_6_method_3_code (sm_Q x zx_sy (sm_Pi zx_sy (xw x))) (px_Reader_readInto N S q1) S 0 [(0, .ref ((xw x).2.2 102)), (1, .ref ((xw x).2.2 q1))] [] := by
  unfold px_Reader_readInto
  refine sm_aload_n (pc := 0) 0 ok dx_Reader_readInto_0 rfl ?_
  refine sm_iconst (pc := 1) (0 : Int32) ok dx_Reader_readInto_1 zk_0 ?_
  refine sm_putI (pc := 2) (ci := 4) (k := 2) ok dx_Reader_readInto_2 rfl rfl zc_i4 zc_y4 zc_t4 zc_n4 (by decide) rfl rfl rfl wd_237 (fun S_1 => ?_)
  refine sm_aload_n (pc := 5) 0 ok dx_Reader_readInto_5 rfl ?_
  refine sm_iconst (pc := 6) (0 : Int32) ok dx_Reader_readInto_6 zk_0 ?_
  refine sm_putI (pc := 7) (ci := 4) (k := 6) ok dx_Reader_readInto_7 rfl rfl zc_i4 zc_y4 zc_t4 zc_n4 (by decide) rfl rfl rfl wd_241 (fun S_2 => ?_)
  refine sm_aload_n (pc := 10) 0 ok dx_Reader_readInto_10 rfl ?_
  refine sm_iconst (pc := 11) (0 : Int32) ok dx_Reader_readInto_11 zk_0 ?_
  refine sm_putI (pc := 12) (ci := 4) (k := 7) ok dx_Reader_readInto_12 rfl rfl zc_i4 zc_y4 zc_t4 zc_n4 (by decide) rfl rfl rfl wd_242 (fun S_3 => ?_)
  refine sm_iconst (pc := 15) (0 : Int32) ok dx_Reader_readInto_15 zk_0 ?_
  refine sm_istore_n (pc := 16) (i := 2) ok dx_Reader_readInto_16 rfl (by decide) (fun v => [(2, .int v), (0, .ref ((xw x).2.2 102)), (1, .ref ((xw x).2.2 q1))]) (fun _ => rfl) (fun v2_4 => ?_)
  refine sm_lv [1, 2, 0] rfl ?_
  exact tx_Reader_readInto_b17 ok hr N q1 hq1 N _ _
theorem cx_Reader_readInto {l : Launch} {wc : sm_Wc} (hj : sm_inj zx_sy wc) (N : Nat) (S : sm_St) (q1 : Nat) (hq1 : zx_sy.1 q1 = (12, 0)) : sm_Ct l zx_sy wc yx_Reader_readInto prog_6_method_3_code 5 (some .int) 9 191 [.ref (wc.2.2 102), .ref (wc.2.2 q1)] S (sm_Pi zx_sy wc) (px_Reader_readInto N S q1) :=
  sm_entry (Pq := fun wc => sm_Pi zx_sy wc) (fun wc => [.ref (wc.2.2 102), .ref (wc.2.2 q1)]) (lv := fun wc => [(0, .ref (wc.2.2 102)), (1, .ref (wc.2.2 q1))]) (by decide) hj zx_ok zx_stb (fun _ => Nat.le_of_ble_eq_true rfl) (fun _ => rfl) (fun x _ ok hr => tx_Reader_readInto ok hr N S q1 hq1)
set_option maxHeartbeats 4000000 in
set_option maxRecDepth 20000 in
theorem tx_L_read {x : sm_Cx} (ok : sm_Ok x zx_sy prog_1_method_8_code "LentShades" 2 10 215) (hr : (xh x).sig.returnType = (some .int)) (N : Nat) (S : sm_St) : sm_Sm x zx_sy prog_1_method_8_code (sm_Q x zx_sy (sm_Pi zx_sy (xw x))) (px_L_read N S) S 0 [(0, .ref ((xw x).2.2 0))] [] := by
  unfold px_L_read
  refine sm_aload_n (pc := 0) 0 ok dx_L_read_0 rfl ?_
  refine sm_getR (pc := 1) (ci := 9) (k := 3) ok dx_L_read_1 rfl rfl zc_i9 (by decide) rfl wd_403 ?_
  refine sm_null (pc := 4) ok dx_L_read_4 ?_
  refine sm_callV_i (pc := 5) (ci := 4) [.null] ok dx_L_read_5 wd_516 mwx_Reader_readInto rfl rfl (Nat.le_of_ble_eq_true rfl) (Nat.le_of_ble_eq_true rfl) rfl rfl (Nat.le_of_ble_eq_true rfl) (cx_Reader_readInto_N (sm_okj ok) N S) (fun r_2 S_1 => ?_)
  refine sm_istore_n (pc := 8) (i := 1) ok dx_L_read_8 rfl (by decide) (fun v => [(1, .int v), (0, .ref ((xw x).2.2 0))]) (fun _ => rfl) (fun v1_3 => ?_)
  refine sm_iload_n (pc := 9) 0 ok dx_L_read_9 rfl ?_
  refine sm_if_lt (pc := 10) 32 ok dx_L_read_10 (by decide) (fun _ => ?_) (fun _ => ?_)
  · refine sm_iload_n (pc := 32) 0 ok dx_L_read_32 rfl ?_
    exact sm_iret (pc := 33) ok dx_L_read_33 hr
  · refine sm_aload_n (pc := 13) 1 ok dx_L_read_13 rfl ?_
    refine sm_getR (pc := 14) (ci := 9) (k := 0) ok dx_L_read_14 rfl rfl zc_i9 (by decide) rfl wd_400 ?_
    refine sm_callV_v (pc := 17) (ci := 2) [] ok dx_L_read_17 wd_620 mwx_House_emptyOut rfl rfl (Nat.le_of_ble_eq_true rfl) (Nat.le_of_ble_eq_true rfl) rfl rfl (Nat.le_of_ble_eq_true rfl) (cx_House_emptyOut (sm_okj ok) N S_1 1 rfl) (fun S_4 => ?_)
    refine sm_aload_n (pc := 20) 1 ok dx_L_read_20 rfl ?_
    refine sm_getR (pc := 21) (ci := 9) (k := 3) ok dx_L_read_21 rfl rfl zc_i9 (by decide) rfl wd_403 ?_
    refine sm_aload_n (pc := 24) 1 ok dx_L_read_24 rfl ?_
    refine sm_getR (pc := 25) (ci := 9) (k := 0) ok dx_L_read_25 rfl rfl zc_i9 (by decide) rfl wd_400 ?_
    refine sm_callV_i (pc := 28) (ci := 4) [.ref ((xw x).2.2 1)] ok dx_L_read_28 wd_516 mwx_Reader_readInto rfl rfl (Nat.le_of_ble_eq_true rfl) (Nat.le_of_ble_eq_true rfl) rfl rfl (Nat.le_of_ble_eq_true rfl) (cx_Reader_readInto (sm_okj ok) N S_4 1 rfl) (fun r_6 S_5 => ?_)
    refine sm_pop (pc := 31) ok dx_L_read_31 rfl ?_
    refine sm_iload_n (pc := 32) 0 ok dx_L_read_32 rfl ?_
    exact sm_iret (pc := 33) ok dx_L_read_33 hr
theorem cx_L_read {l : Launch} {wc : sm_Wc} (hj : sm_inj zx_sy wc) (N : Nat) (S : sm_St) : sm_Ct l zx_sy wc yx_L_read prog_1_method_8_code 2 (some .int) 10 215 [.ref (wc.2.2 0)] S (sm_Pi zx_sy wc) (px_L_read N S) :=
  sm_entry (Pq := fun wc => sm_Pi zx_sy wc) (fun wc => [.ref (wc.2.2 0)]) (lv := fun wc => [(0, .ref (wc.2.2 0))]) (by decide) hj zx_ok zx_stb (fun _ => Nat.le_of_ble_eq_true rfl) (fun _ => rfl) (fun x _ ok hr => tx_L_read ok hr N S)
set_option maxHeartbeats 4000000 in
set_option maxRecDepth 20000 in
theorem tx_House_lends {x : sm_Cx} (ok : sm_Ok x zx_sy prog_4_method_5_code "LentShades$House" 2 0 0) (hr : (xh x).sig.returnType = (some .boolean)) (N : Nat) (S : sm_St) (p : Nat) (v1 : Int32) (hp : zx_sy.1 p = (12, 0)) : sm_Sm x zx_sy prog_4_method_5_code (sm_Q x zx_sy (sm_Pi zx_sy (xw x))) (px_House_lends N S p v1) S 0 [(0, .ref ((xw x).2.2 p)), (1, .int v1)] [] := by
  unfold px_House_lends
  refine sm_aload_n (pc := 0) 0 ok dx_House_lends_0 rfl ?_
  refine sm_getR (pc := 1) (ci := 2) (k := 0) ok dx_House_lends_1 hp rfl zc_i2 (by decide) rfl wd_160 ?_
  refine sm_iload_n (pc := 4) 1 ok dx_House_lends_4 rfl ?_
  refine sm_iald (pc := 5) ok dx_House_lends_5 (zx_House_1 hp) ?_
  refine sm_iconst (pc := 6) (2 : Int32) ok dx_House_lends_6 zk_2 ?_
  refine sm_icmp_eq (pc := 7) 24 ok dx_House_lends_7 (by decide) (fun _ => ?_) (fun _ => ?_)
  · refine sm_iconst (pc := 24) (0 : Int32) ok dx_House_lends_24 zk_0 ?_
    exact sm_zret (pc := 25) ok dx_House_lends_25 hr rfl
  · refine sm_aload_n (pc := 10) 0 ok dx_House_lends_10 rfl ?_
    refine sm_getR (pc := 11) (ci := 2) (k := 0) ok dx_House_lends_11 hp rfl zc_i2 (by decide) rfl wd_160 ?_
    refine sm_iload_n (pc := 14) 1 ok dx_House_lends_14 rfl ?_
    refine sm_iald (pc := 15) ok dx_House_lends_15 (zx_House_1 hp) ?_
    refine sm_iconst (pc := 16) (4 : Int32) ok dx_House_lends_16 zk_4 ?_
    refine sm_icmp_eq (pc := 17) 24 ok dx_House_lends_17 (by decide) (fun _ => ?_) (fun _ => ?_)
    · refine sm_iconst (pc := 24) (0 : Int32) ok dx_House_lends_24 zk_0 ?_
      exact sm_zret (pc := 25) ok dx_House_lends_25 hr rfl
    · refine sm_iconst (pc := 20) (1 : Int32) ok dx_House_lends_20 zk_1 ?_
      refine sm_goto (pc := 21) 25 ok dx_House_lends_21 (by decide) ?_
      exact sm_zret (pc := 25) ok dx_House_lends_25 hr rfl
theorem cx_House_lends {l : Launch} {wc : sm_Wc} (hj : sm_inj zx_sy wc) (N : Nat) (S : sm_St) (p : Nat) (v1 : Int32) (hp : zx_sy.1 p = (12, 0)) : sm_Ct l zx_sy wc yx_House_lends prog_4_method_5_code 2 (some .boolean) 0 0 [.ref (wc.2.2 p), .int v1] S (sm_Pi zx_sy wc) (px_House_lends N S p v1) :=
  sm_entry (Pq := fun wc => sm_Pi zx_sy wc) (fun wc => [.ref (wc.2.2 p), .int v1]) (lv := fun wc => [(0, .ref (wc.2.2 p)), (1, .int v1)]) (by decide) hj zx_ok zx_stb (fun _ => Nat.le_of_ble_eq_true rfl) (fun _ => rfl) (fun x _ ok hr => tx_House_lends ok hr N S p v1 hp)
set_option maxHeartbeats 4000000 in
set_option maxRecDepth 20000 in
theorem tx_Takings_ofCloths_b87 {x : sm_Cx} (ok : sm_Ok x zx_sy prog_10_method_3_code "LentShades$Takings" 6 1 21) (hr : (xh x).sig.returnType = (some .int)) (N : Nat) (q1 : Nat) (q3 : Nat) (hq1 : zx_sy.1 q1 = (12, 0)) (hq3 : (zx_sy.1 q3).1 = 0) (v2 : Int32) (v4 : Int32) (S : sm_St) : sm_Sm x zx_sy prog_10_method_3_code (sm_Q x zx_sy (sm_Pi zx_sy (xw x))) (px_Takings_ofCloths_b87 N q1 q3 v2 v4 S) S 87 [(0, .ref ((xw x).2.2 110)), (1, .ref ((xw x).2.2 q1)), (2, .int v2), (4, .int v4)] [] := by
  unfold px_Takings_ofCloths_b87
  refine sm_aload_n (pc := 87) 0 ok dx_Takings_ofCloths_87 rfl ?_
  refine sm_getR (pc := 88) (ci := 8) (k := 1) ok dx_Takings_ofCloths_88 rfl rfl zc_i8 (by decide) rfl wd_310 ?_
  refine sm_iload_n (pc := 91) 2 ok dx_Takings_ofCloths_91 rfl ?_
  refine sm_aald5 (pc := 92) ok dx_Takings_ofCloths_92 rfl (fun hb_10 => ?_)
  refine sm_iload_n (pc := 93) 2 ok dx_Takings_ofCloths_93 rfl ?_
  refine sm_aload_n (pc := 94) 1 ok dx_Takings_ofCloths_94 rfl ?_
  refine sm_getR (pc := 95) (ci := 2) (k := 1) ok dx_Takings_ofCloths_95 hq1 rfl zc_i2 (by decide) rfl wd_163 ?_
  refine sm_iload_n (pc := 98) 2 ok dx_Takings_ofCloths_98 rfl ?_
  refine sm_iald (pc := 99) ok dx_Takings_ofCloths_99 (zx_House_2 hq1) ?_
  refine sm_iconst (pc := 100) (1 : Int32) ok dx_Takings_ofCloths_100 zk_1 ?_
  refine sm_iadd (pc := 101) ok dx_Takings_ofCloths_101 ?_
  refine sm_iast (pc := 102) ok dx_Takings_ofCloths_102 (zx_rows 114 4 5 (by decide) hb_10) (fun S_11 => ?_)
  refine sm_iload (pc := 103) 3 ok dx_Takings_ofCloths_103 rfl ?_
  refine sm_aload_n (pc := 105) 0 ok dx_Takings_ofCloths_105 rfl ?_
  refine sm_getR (pc := 106) (ci := 8) (k := 1) ok dx_Takings_ofCloths_106 rfl rfl zc_i8 (by decide) rfl wd_310 ?_
  refine sm_iload_n (pc := 109) 2 ok dx_Takings_ofCloths_109 rfl ?_
  refine sm_aald5 (pc := 110) ok dx_Takings_ofCloths_110 rfl (fun hb_12 => ?_)
  refine sm_iload_n (pc := 111) 2 ok dx_Takings_ofCloths_111 rfl ?_
  refine sm_iald (pc := 112) ok dx_Takings_ofCloths_112 (zx_rows 114 4 5 (by decide) hb_12) ?_
  refine sm_iadd (pc := 113) ok dx_Takings_ofCloths_113 ?_
  refine sm_istore (pc := 114) (i := 4) ok dx_Takings_ofCloths_114 (by decide) (fun v => [(4, .int v), (0, .ref ((xw x).2.2 110)), (1, .ref ((xw x).2.2 q1)), (2, .int v2)]) (fun _ => rfl) (fun v4_13 => ?_)
  refine sm_iload (pc := 116) 0 ok dx_Takings_ofCloths_116 rfl ?_
  exact sm_iret (pc := 118) ok dx_Takings_ofCloths_118 hr
set_option maxHeartbeats 4000000 in
set_option maxRecDepth 20000 in
theorem tx_Takings_ofCloths_b46 {x : sm_Cx} (ok : sm_Ok x zx_sy prog_10_method_3_code "LentShades$Takings" 6 1 21) (hr : (xh x).sig.returnType = (some .int)) (N : Nat) (q1 : Nat) (q3 : Nat) (hq1 : zx_sy.1 q1 = (12, 0)) (hq3 : (zx_sy.1 q3).1 = 0) {r6 : Int32 → Int32 → Int32 → sm_St → Option (Int32 × sm_St)} (h6 : ∀ (v2 : Int32) (v4 : Int32) (v5 : Int32) (S : sm_St), sm_Sm x zx_sy prog_10_method_3_code (sm_Q x zx_sy (sm_Pi zx_sy (xw x))) (r6 v2 v4 v5 S) S 6 [(0, .ref ((xw x).2.2 110)), (1, .ref ((xw x).2.2 q1)), (2, .int v2), (3, .ref ((xw x).2.2 q3)), (4, .int v4), (5, .int v5)] []) (v2 : Int32) (v4 : Int32) (v5 : Int32) (b0 : Nat) (s1 : Int32) (s2 : Int32) (S : sm_St) (hb0 : (zx_sy.1 b0).1 = 0) : sm_Sm x zx_sy prog_10_method_3_code (sm_Q x zx_sy (sm_Pi zx_sy (xw x))) (px_Takings_ofCloths_b46 N q1 q3 r6 v2 v4 v5 b0 s1 s2 S) S 46 [(0, .ref ((xw x).2.2 110)), (1, .ref ((xw x).2.2 q1)), (2, .int v2), (3, .ref ((xw x).2.2 q3)), (4, .int v4), (5, .int v5)] [.int s2, .int s1, .ref ((xw x).2.2 b0)] := by
  unfold px_Takings_ofCloths_b46
  refine sm_iast (pc := 46) ok dx_Takings_ofCloths_46 (sm_sh0 hb0) (fun S_6 => ?_)
  refine sm_iload (pc := 47) 4 ok dx_Takings_ofCloths_47 rfl ?_
  refine sm_aload_n (pc := 49) 0 ok dx_Takings_ofCloths_49 rfl ?_
  refine sm_getR (pc := 50) (ci := 8) (k := 1) ok dx_Takings_ofCloths_50 rfl rfl zc_i8 (by decide) rfl wd_310 ?_
  refine sm_iload_n (pc := 53) 2 ok dx_Takings_ofCloths_53 rfl ?_
  refine sm_aald5 (pc := 54) ok dx_Takings_ofCloths_54 rfl (fun hb_7 => ?_)
  refine sm_iload (pc := 55) 5 ok dx_Takings_ofCloths_55 rfl ?_
  refine sm_iald (pc := 57) ok dx_Takings_ofCloths_57 (zx_rows 114 4 5 (by decide) hb_7) ?_
  refine sm_iadd (pc := 58) ok dx_Takings_ofCloths_58 ?_
  refine sm_istore (pc := 59) (i := 4) ok dx_Takings_ofCloths_59 (by decide) (fun v => [(4, .int v), (0, .ref ((xw x).2.2 110)), (1, .ref ((xw x).2.2 q1)), (2, .int v2), (3, .ref ((xw x).2.2 q3)), (5, .int v5)]) (fun _ => rfl) (fun v4_8 => ?_)
  refine sm_iinc (pc := 61) (i := 5) 5 (1 : Int32) ok dx_Takings_ofCloths_61 rfl zk_1 (by decide) (fun v => [(5, .int v), (4, .int v4_8), (0, .ref ((xw x).2.2 110)), (1, .ref ((xw x).2.2 q1)), (2, .int v2), (3, .ref ((xw x).2.2 q3))]) (fun _ => rfl) (fun v5_9 => ?_)
  refine sm_goto (pc := 64) 6 ok dx_Takings_ofCloths_64 (by decide) ?_
  refine sm_lv [2, 3, 4, 5, 1, 0] rfl ?_
  exact h6 _ _ _ _
set_option maxHeartbeats 4000000 in
set_option maxRecDepth 20000 in
theorem tx_Takings_ofCloths_b45 {x : sm_Cx} (ok : sm_Ok x zx_sy prog_10_method_3_code "LentShades$Takings" 6 1 21) (hr : (xh x).sig.returnType = (some .int)) (N : Nat) (q1 : Nat) (q3 : Nat) (hq1 : zx_sy.1 q1 = (12, 0)) (hq3 : (zx_sy.1 q3).1 = 0) {r6 : Int32 → Int32 → Int32 → sm_St → Option (Int32 × sm_St)} (h6 : ∀ (v2 : Int32) (v4 : Int32) (v5 : Int32) (S : sm_St), sm_Sm x zx_sy prog_10_method_3_code (sm_Q x zx_sy (sm_Pi zx_sy (xw x))) (r6 v2 v4 v5 S) S 6 [(0, .ref ((xw x).2.2 110)), (1, .ref ((xw x).2.2 q1)), (2, .int v2), (3, .ref ((xw x).2.2 q3)), (4, .int v4), (5, .int v5)] []) (v2 : Int32) (v4 : Int32) (v5 : Int32) (b0 : Nat) (s1 : Int32) (S : sm_St) (hb0 : (zx_sy.1 b0).1 = 0) : sm_Sm x zx_sy prog_10_method_3_code (sm_Q x zx_sy (sm_Pi zx_sy (xw x))) (px_Takings_ofCloths_b45 N q1 q3 r6 v2 v4 v5 b0 s1 S) S 45 [(0, .ref ((xw x).2.2 110)), (1, .ref ((xw x).2.2 q1)), (2, .int v2), (3, .ref ((xw x).2.2 q3)), (4, .int v4), (5, .int v5)] [.int s1, .ref ((xw x).2.2 b0)] := by
  unfold px_Takings_ofCloths_b45
  refine sm_iconst (pc := 45) (0 : Int32) ok dx_Takings_ofCloths_45 zk_0 ?_
  exact tx_Takings_ofCloths_b46 ok hr N q1 q3 hq1 hq3 h6 _ _ _ _ _ _ _ (sm_tag (sm_sh0 hb0))
set_option maxHeartbeats 4000000 in
set_option maxRecDepth 20000 in
theorem tx_Takings_ofCloths_b6 {x : sm_Cx} (ok : sm_Ok x zx_sy prog_10_method_3_code "LentShades$Takings" 6 1 21) (hr : (xh x).sig.returnType = (some .int)) (N : Nat) (q1 : Nat) (q3 : Nat) (hq1 : zx_sy.1 q1 = (12, 0)) (hq3 : (zx_sy.1 q3).1 = 0) : ∀ (n : Nat) (v2 : Int32) (v4 : Int32) (v5 : Int32) (S : sm_St), sm_Sm x zx_sy prog_10_method_3_code (sm_Q x zx_sy (sm_Pi zx_sy (xw x))) (px_Takings_ofCloths_b6 N q1 q3 n v2 v4 v5 S) S 6 [(0, .ref ((xw x).2.2 110)), (1, .ref ((xw x).2.2 q1)), (2, .int v2), (3, .ref ((xw x).2.2 q3)), (4, .int v4), (5, .int v5)] [] := by
  intro n
  induction n with
  | zero =>
    intro v2 v4 v5 S
    exact sm_none
  | succ n ih =>
    intro v2 v4 v5 S
    show sm_Sm x zx_sy prog_10_method_3_code (sm_Q x zx_sy (sm_Pi zx_sy (xw x))) (if (S.1 110 5) ≤ v5 then (if sm_in v2 4 = true then (if (S.1 (q1 + 1) v2.toNatClampNeg) = (1 : Int32) then (px_Takings_ofCloths_b87 N q1 q3 v2 v4 S) else (if sm_in v2 4 = true then (if (S.1 (q1 + 1) v2.toNatClampNeg) = (3 : Int32) then (px_Takings_ofCloths_b87 N q1 q3 v2 v4 S) else (some (v4, S))) else none)) else none) else (if sm_in v2 4 = true then (if v5 = v2 then (px_Takings_ofCloths_b45 N q1 q3 (px_Takings_ofCloths_b6 N q1 q3 n) v2 v4 v5 (115 + v2.toNatClampNeg) v5 S) else (sm_b2 (px_House_lends N S q1 v5) (fun (r_5 : Int32) (S_4 : sm_St) => if r_5 = 0 then (px_Takings_ofCloths_b45 N q1 q3 (px_Takings_ofCloths_b6 N q1 q3 n) v2 v4 v5 (115 + v2.toNatClampNeg) v5 S_4) else (if sm_in v5 (zx_sy.1 q3).2 = true then (px_Takings_ofCloths_b46 N q1 q3 (px_Takings_ofCloths_b6 N q1 q3 n) v2 v4 v5 (115 + v2.toNatClampNeg) v5 (S_4.1 q3 v5.toNatClampNeg) S_4) else none)))) else none)) S 6 [(0, .ref ((xw x).2.2 110)), (1, .ref ((xw x).2.2 q1)), (2, .int v2), (3, .ref ((xw x).2.2 q3)), (4, .int v4), (5, .int v5)] []
    refine sm_iload (pc := 6) 5 ok dx_Takings_ofCloths_6 rfl ?_
    refine sm_aload_n (pc := 8) 0 ok dx_Takings_ofCloths_8 rfl ?_
    refine sm_getI (pc := 9) (ci := 8) (k := 5) ok dx_Takings_ofCloths_9 rfl rfl zc_i8 (by decide) rfl wd_316 ?_
    refine sm_icmp_ge (pc := 12) 67 ok dx_Takings_ofCloths_12 (by decide) (fun _ => ?_) (fun _ => ?_)
    · refine sm_aload_n (pc := 67) 1 ok dx_Takings_ofCloths_67 rfl ?_
      refine sm_getR (pc := 68) (ci := 2) (k := 0) ok dx_Takings_ofCloths_68 hq1 rfl zc_i2 (by decide) rfl wd_161 ?_
      refine sm_iload_n (pc := 71) 2 ok dx_Takings_ofCloths_71 rfl ?_
      refine sm_iald (pc := 72) ok dx_Takings_ofCloths_72 (zx_House_1 hq1) ?_
      refine sm_iconst (pc := 73) (1 : Int32) ok dx_Takings_ofCloths_73 zk_1 ?_
      refine sm_icmp_eq (pc := 74) 87 ok dx_Takings_ofCloths_74 (by decide) (fun _ => ?_) (fun _ => ?_)
      · refine sm_lv [0, 1, 2, 4] rfl ?_
        exact tx_Takings_ofCloths_b87 ok hr N q1 q3 hq1 hq3 _ _ _
      · refine sm_aload_n (pc := 77) 1 ok dx_Takings_ofCloths_77 rfl ?_
        refine sm_getR (pc := 78) (ci := 2) (k := 0) ok dx_Takings_ofCloths_78 hq1 rfl zc_i2 (by decide) rfl wd_161 ?_
        refine sm_iload_n (pc := 81) 2 ok dx_Takings_ofCloths_81 rfl ?_
        refine sm_iald (pc := 82) ok dx_Takings_ofCloths_82 (zx_House_1 hq1) ?_
        refine sm_iconst (pc := 83) (3 : Int32) ok dx_Takings_ofCloths_83 zk_3 ?_
        refine sm_icmp_ne (pc := 84) 116 ok dx_Takings_ofCloths_84 (by decide) (fun _ => ?_) (fun _ => ?_)
        · refine sm_iload (pc := 116) 4 ok dx_Takings_ofCloths_116 rfl ?_
          exact sm_iret (pc := 118) ok dx_Takings_ofCloths_118 hr
        · refine sm_lv [0, 1, 2, 4] rfl ?_
          exact tx_Takings_ofCloths_b87 ok hr N q1 q3 hq1 hq3 _ _ _
    · refine sm_aload_n (pc := 15) 0 ok dx_Takings_ofCloths_15 rfl ?_
      refine sm_getR (pc := 16) (ci := 8) (k := 1) ok dx_Takings_ofCloths_16 rfl rfl zc_i8 (by decide) rfl wd_310 ?_
      refine sm_iload_n (pc := 19) 2 ok dx_Takings_ofCloths_19 rfl ?_
      refine sm_aald5 (pc := 20) ok dx_Takings_ofCloths_20 rfl (fun hb_3 => ?_)
      refine sm_iload (pc := 21) 5 ok dx_Takings_ofCloths_21 rfl ?_
      refine sm_iload (pc := 23) 5 ok dx_Takings_ofCloths_23 rfl ?_
      refine sm_iload_n (pc := 25) 2 ok dx_Takings_ofCloths_25 rfl ?_
      refine sm_icmp_eq (pc := 26) 45 ok dx_Takings_ofCloths_26 (by decide) (fun _ => ?_) (fun _ => ?_)
      · exact tx_Takings_ofCloths_b45 ok hr N q1 q3 hq1 hq3 ih _ _ _ _ _ _ (sm_tag (zx_rows 114 4 5 (by decide) hb_3))
      · refine sm_aload_n (pc := 29) 1 ok dx_Takings_ofCloths_29 rfl ?_
        refine sm_iload (pc := 30) 5 ok dx_Takings_ofCloths_30 rfl ?_
        refine sm_callV_i (pc := 32) (ci := 2) [.int v5] ok dx_Takings_ofCloths_32 wd_639 mwx_House_lends hq1 rfl (Nat.le_of_ble_eq_true rfl) (Nat.le_of_ble_eq_true rfl) rfl rfl (Nat.le_of_ble_eq_true rfl) (cx_House_lends (sm_okj ok) N S q1 v5 hq1) (fun r_5 S_4 => ?_)
        refine sm_if_eq (pc := 35) 45 ok dx_Takings_ofCloths_35 (by decide) (fun _ => ?_) (fun _ => ?_)
        · exact tx_Takings_ofCloths_b45 ok hr N q1 q3 hq1 hq3 ih _ _ _ _ _ _ (sm_tag (zx_rows 114 4 5 (by decide) hb_3))
        · refine sm_aload_n (pc := 38) 3 ok dx_Takings_ofCloths_38 rfl ?_
          refine sm_iload (pc := 39) 5 ok dx_Takings_ofCloths_39 rfl ?_
          refine sm_iald (pc := 41) ok dx_Takings_ofCloths_41 (sm_sh0 hq3) ?_
          refine sm_goto (pc := 42) 46 ok dx_Takings_ofCloths_42 (by decide) ?_
          exact tx_Takings_ofCloths_b46 ok hr N q1 q3 hq1 hq3 ih _ _ _ _ _ _ _ (sm_tag (zx_rows 114 4 5 (by decide) hb_3))
set_option maxHeartbeats 4000000 in
set_option maxRecDepth 20000 in
theorem tx_Takings_ofCloths {x : sm_Cx} (ok : sm_Ok x zx_sy prog_10_method_3_code "LentShades$Takings" 6 1 21) (hr : (xh x).sig.returnType = (some .int)) (N : Nat) (S : sm_St) (q1 : Nat) (v2 : Int32) (q3 : Nat) (hq1 : zx_sy.1 q1 = (12, 0)) (hq3 : (zx_sy.1 q3).1 = 0) : sm_Sm x zx_sy prog_10_method_3_code (sm_Q x zx_sy (sm_Pi zx_sy (xw x))) (px_Takings_ofCloths N S q1 v2 q3) S 0 [(0, .ref ((xw x).2.2 110)), (1, .ref ((xw x).2.2 q1)), (2, .int v2), (3, .ref ((xw x).2.2 q3))] [] := by
  unfold px_Takings_ofCloths
  refine sm_iconst (pc := 0) (0 : Int32) ok dx_Takings_ofCloths_0 zk_0 ?_
  refine sm_istore (pc := 1) (i := 4) ok dx_Takings_ofCloths_1 (by decide) (fun v => [(4, .int v), (0, .ref ((xw x).2.2 110)), (1, .ref ((xw x).2.2 q1)), (2, .int v2), (3, .ref ((xw x).2.2 q3))]) (fun _ => rfl) (fun v4_1 => ?_)
  refine sm_iconst (pc := 3) (0 : Int32) ok dx_Takings_ofCloths_3 zk_0 ?_
  refine sm_istore (pc := 4) (i := 5) ok dx_Takings_ofCloths_4 (by decide) (fun v => [(5, .int v), (4, .int v4_1), (0, .ref ((xw x).2.2 110)), (1, .ref ((xw x).2.2 q1)), (2, .int v2), (3, .ref ((xw x).2.2 q3))]) (fun _ => rfl) (fun v5_2 => ?_)
  refine sm_lv [2, 3, 4, 5, 1, 0] rfl ?_
  exact tx_Takings_ofCloths_b6 ok hr N q1 q3 hq1 hq3 N _ _ _ _
theorem cx_Takings_ofCloths {l : Launch} {wc : sm_Wc} (hj : sm_inj zx_sy wc) (N : Nat) (S : sm_St) (q1 : Nat) (v2 : Int32) (q3 : Nat) (hq1 : zx_sy.1 q1 = (12, 0)) (hq3 : (zx_sy.1 q3).1 = 0) : sm_Ct l zx_sy wc yx_Takings_ofCloths prog_10_method_3_code 6 (some .int) 1 21 [.ref (wc.2.2 110), .ref (wc.2.2 q1), .int v2, .ref (wc.2.2 q3)] S (sm_Pi zx_sy wc) (px_Takings_ofCloths N S q1 v2 q3) :=
  sm_entry (Pq := fun wc => sm_Pi zx_sy wc) (fun wc => [.ref (wc.2.2 110), .ref (wc.2.2 q1), .int v2, .ref (wc.2.2 q3)]) (lv := fun wc => [(0, .ref (wc.2.2 110)), (1, .ref (wc.2.2 q1)), (2, .int v2), (3, .ref (wc.2.2 q3))]) (by decide) hj zx_ok zx_stb (fun _ => Nat.le_of_ble_eq_true rfl) (fun _ => rfl) (fun x _ ok hr => tx_Takings_ofCloths ok hr N S q1 v2 q3 hq1 hq3)
set_option maxHeartbeats 4000000 in
set_option maxRecDepth 20000 in
theorem tx_Takings_ofThings_b115 {x : sm_Cx} (ok : sm_Ok x zx_sy prog_10_method_4_code "LentShades$Takings" 9 0 0) (hr : (xh x).sig.returnType = (some .int)) (N : Nat) (q1 : Nat) (q3 : Nat) (q4 : Nat) (hq1 : zx_sy.1 q1 = (12, 0)) (hq3 : (zx_sy.1 q3).1 = 0) (hq4 : (zx_sy.1 q4).1 = 0) {r39 : Int32 → Int32 → Int32 → Int32 → sm_St → Option (Int32 × sm_St)} (h39 : ∀ (v2 : Int32) (v5 : Int32) (v6 : Int32) (v7 : Int32) (S : sm_St), sm_Sm x zx_sy prog_10_method_4_code (sm_Q x zx_sy (sm_Pi zx_sy (xw x))) (r39 v2 v5 v6 v7 S) S 39 [(0, .ref ((xw x).2.2 110)), (1, .ref ((xw x).2.2 q1)), (2, .int v2), (3, .ref ((xw x).2.2 q3)), (4, .ref ((xw x).2.2 q4)), (5, .int v5), (6, .int v6), (7, .int v7)] []) (v2 : Int32) (v5 : Int32) (v6 : Int32) (v7 : Int32) (S : sm_St) : sm_Sm x zx_sy prog_10_method_4_code (sm_Q x zx_sy (sm_Pi zx_sy (xw x))) (px_Takings_ofThings_b115 N q1 q3 q4 r39 v2 v5 v6 v7 S) S 115 [(0, .ref ((xw x).2.2 110)), (1, .ref ((xw x).2.2 q1)), (2, .int v2), (3, .ref ((xw x).2.2 q3)), (4, .ref ((xw x).2.2 q4)), (5, .int v5), (6, .int v6), (7, .int v7)] [] := by
  unfold px_Takings_ofThings_b115
  refine sm_iinc (pc := 115) (i := 7) 7 (1 : Int32) ok dx_Takings_ofThings_115 rfl zk_1 (by decide) (fun v => [(7, .int v), (0, .ref ((xw x).2.2 110)), (1, .ref ((xw x).2.2 q1)), (2, .int v2), (3, .ref ((xw x).2.2 q3)), (4, .ref ((xw x).2.2 q4)), (5, .int v5), (6, .int v6)]) (fun _ => rfl) (fun v7_12 => ?_)
  refine sm_goto (pc := 118) 39 ok dx_Takings_ofThings_118 (by decide) ?_
  refine sm_lv [1, 2, 3, 4, 5, 6, 7, 0] rfl ?_
  exact h39 _ _ _ _ _
set_option maxHeartbeats 4000000 in
set_option maxRecDepth 20000 in
theorem tx_Takings_ofThings_b39 {x : sm_Cx} (ok : sm_Ok x zx_sy prog_10_method_4_code "LentShades$Takings" 9 0 0) (hr : (xh x).sig.returnType = (some .int)) (N : Nat) (q1 : Nat) (q3 : Nat) (q4 : Nat) (hq1 : zx_sy.1 q1 = (12, 0)) (hq3 : (zx_sy.1 q3).1 = 0) (hq4 : (zx_sy.1 q4).1 = 0) : ∀ (n : Nat) (v2 : Int32) (v5 : Int32) (v6 : Int32) (v7 : Int32) (S : sm_St), sm_Sm x zx_sy prog_10_method_4_code (sm_Q x zx_sy (sm_Pi zx_sy (xw x))) (px_Takings_ofThings_b39 N q1 q3 q4 n v2 v5 v6 v7 S) S 39 [(0, .ref ((xw x).2.2 110)), (1, .ref ((xw x).2.2 q1)), (2, .int v2), (3, .ref ((xw x).2.2 q3)), (4, .ref ((xw x).2.2 q4)), (5, .int v5), (6, .int v6), (7, .int v7)] [] := by
  intro n
  induction n with
  | zero =>
    intro v2 v5 v6 v7 S
    exact sm_none
  | succ n ih =>
    intro v2 v5 v6 v7 S
    show sm_Sm x zx_sy prog_10_method_4_code (sm_Q x zx_sy (sm_Pi zx_sy (xw x))) (if (S.1 q1 10) ≤ v7 then (some (v5, S)) else (if sm_in ((4 : Int32) + v7) (zx_sy.1 q3).2 = true then (sm_lt (v6 * (S.1 q3 ((4 : Int32) + v7).toNatClampNeg)) (fun (v8_7 : Int32) => if sm_in v2 4 = true then (if sm_in (4 : Int32) 5 = true then (if sm_in v7 (zx_sy.1 q4).2 = true then (if sm_in (4 : Int32) 5 = true then sm_lt (sm_sI S (115 + v2.toNatClampNeg) (4 : Int32).toNatClampNeg ((S.1 (115 + v2.toNatClampNeg) (4 : Int32).toNatClampNeg) + (v8_7 * (S.1 q4 v7.toNatClampNeg)))) (fun (S_9 : sm_St) => sm_lt (v5 + v8_7) (fun (v5_10 : Int32) => if v8_7 ≤ 0 then (px_Takings_ofThings_b115 N q1 q3 q4 (px_Takings_ofThings_b39 N q1 q3 q4 n) v2 v5_10 v6 v7 S_9) else (if sm_in v7 (zx_sy.1 q4).2 = true then (if sm_in v2 4 = true then (if (S_9.1 q4 v7.toNatClampNeg) ≤ (S_9.1 121 v2.toNatClampNeg) then (px_Takings_ofThings_b115 N q1 q3 q4 (px_Takings_ofThings_b39 N q1 q3 q4 n) v2 v5_10 v6 v7 S_9) else (if sm_in v7 (zx_sy.1 q4).2 = true then (if sm_in v2 4 = true then sm_lt (sm_sI S_9 121 v2.toNatClampNeg (S_9.1 q4 v7.toNatClampNeg)) (fun (S_11 : sm_St) => px_Takings_ofThings_b115 N q1 q3 q4 (px_Takings_ofThings_b39 N q1 q3 q4 n) v2 v5_10 v6 v7 S_11) else none) else none)) else none) else none))) else none) else none) else none) else none)) else none)) S 39 [(0, .ref ((xw x).2.2 110)), (1, .ref ((xw x).2.2 q1)), (2, .int v2), (3, .ref ((xw x).2.2 q3)), (4, .ref ((xw x).2.2 q4)), (5, .int v5), (6, .int v6), (7, .int v7)] []
    refine sm_iload (pc := 39) 7 ok dx_Takings_ofThings_39 rfl ?_
    refine sm_aload_n (pc := 41) 1 ok dx_Takings_ofThings_41 rfl ?_
    refine sm_getI (pc := 42) (ci := 2) (k := 10) ok dx_Takings_ofThings_42 hq1 rfl zc_i2 (by decide) rfl wd_191 ?_
    refine sm_icmp_ge (pc := 45) 121 ok dx_Takings_ofThings_45 (by decide) (fun _ => ?_) (fun _ => ?_)
    · refine sm_iload (pc := 121) 5 ok dx_Takings_ofThings_121 rfl ?_
      exact sm_iret (pc := 123) ok dx_Takings_ofThings_123 hr
    · refine sm_iload (pc := 48) 6 ok dx_Takings_ofThings_48 rfl ?_
      refine sm_aload_n (pc := 50) 3 ok dx_Takings_ofThings_50 rfl ?_
      refine sm_iconst (pc := 51) (4 : Int32) ok dx_Takings_ofThings_51 zk_4 ?_
      refine sm_iload (pc := 52) 7 ok dx_Takings_ofThings_52 rfl ?_
      refine sm_iadd (pc := 54) ok dx_Takings_ofThings_54 ?_
      refine sm_iald (pc := 55) ok dx_Takings_ofThings_55 (sm_sh0 hq3) ?_
      refine sm_imul (pc := 56) ok dx_Takings_ofThings_56 ?_
      refine sm_istore (pc := 57) (i := 8) ok dx_Takings_ofThings_57 (by decide) (fun v => [(8, .int v), (0, .ref ((xw x).2.2 110)), (1, .ref ((xw x).2.2 q1)), (2, .int v2), (3, .ref ((xw x).2.2 q3)), (4, .ref ((xw x).2.2 q4)), (5, .int v5), (6, .int v6), (7, .int v7)]) (fun _ => rfl) (fun v8_7 => ?_)
      refine sm_aload_n (pc := 59) 1 ok dx_Takings_ofThings_59 rfl ?_
      refine sm_getR (pc := 60) (ci := 8) (k := 1) ok dx_Takings_ofThings_60 rfl rfl zc_i8 (by decide) rfl wd_310 ?_
      refine sm_iload_n (pc := 63) 3 ok dx_Takings_ofThings_63 rfl ?_
      refine sm_aald5 (pc := 64) ok dx_Takings_ofThings_64 rfl (fun hb_8 => ?_)
      refine sm_iconst (pc := 65) (4 : Int32) ok dx_Takings_ofThings_65 zk_4 ?_
      refine sm_dup2 (pc := 66) ok dx_Takings_ofThings_66 rfl rfl ?_
      refine sm_iald (pc := 67) ok dx_Takings_ofThings_67 (zx_rows 114 4 5 (by decide) hb_8) ?_
      refine sm_iload (pc := 68) 0 ok dx_Takings_ofThings_68 rfl ?_
      refine sm_aload (pc := 70) 5 ok dx_Takings_ofThings_70 rfl ?_
      refine sm_iload (pc := 72) 8 ok dx_Takings_ofThings_72 rfl ?_
      refine sm_iald (pc := 74) ok dx_Takings_ofThings_74 (sm_sh0 hq4) ?_
      refine sm_imul (pc := 75) ok dx_Takings_ofThings_75 ?_
      refine sm_iadd (pc := 76) ok dx_Takings_ofThings_76 ?_
      refine sm_iast (pc := 77) ok dx_Takings_ofThings_77 (zx_rows 114 4 5 (by decide) hb_8) (fun S_9 => ?_)
      refine sm_iload (pc := 78) 6 ok dx_Takings_ofThings_78 rfl ?_
      refine sm_iload (pc := 80) 0 ok dx_Takings_ofThings_80 rfl ?_
      refine sm_iadd (pc := 82) ok dx_Takings_ofThings_82 ?_
      refine sm_istore (pc := 83) (i := 5) ok dx_Takings_ofThings_83 (by decide) (fun v => [(5, .int v), (8, .int v8_7), (0, .ref ((xw x).2.2 110)), (1, .ref ((xw x).2.2 q1)), (2, .int v2), (3, .ref ((xw x).2.2 q3)), (4, .ref ((xw x).2.2 q4)), (6, .int v6), (7, .int v7)]) (fun _ => rfl) (fun v5_10 => ?_)
      refine sm_iload (pc := 85) 1 ok dx_Takings_ofThings_85 rfl ?_
      refine sm_if_le (pc := 87) 115 ok dx_Takings_ofThings_87 (by decide) (fun _ => ?_) (fun _ => ?_)
      · refine sm_lv [2, 3, 4, 5, 6, 0, 7, 8] rfl ?_
        exact tx_Takings_ofThings_b115 ok hr N q1 q3 q4 hq1 hq3 hq4 ih _ _ _ _ _
      · refine sm_aload (pc := 90) 6 ok dx_Takings_ofThings_90 rfl ?_
        refine sm_iload (pc := 92) 8 ok dx_Takings_ofThings_92 rfl ?_
        refine sm_iald (pc := 94) ok dx_Takings_ofThings_94 (sm_sh0 hq4) ?_
        refine sm_aload_n (pc := 95) 2 ok dx_Takings_ofThings_95 rfl ?_
        refine sm_getR (pc := 96) (ci := 8) (k := 4) ok dx_Takings_ofThings_96 rfl rfl zc_i8 (by decide) rfl wd_315 ?_
        refine sm_iload_n (pc := 99) 4 ok dx_Takings_ofThings_99 rfl ?_
        refine sm_iald (pc := 100) ok dx_Takings_ofThings_100 rfl ?_
        refine sm_icmp_le (pc := 101) 115 ok dx_Takings_ofThings_101 (by decide) (fun _ => ?_) (fun _ => ?_)
        · refine sm_lv [2, 3, 4, 5, 6, 0, 7, 8] rfl ?_
          exact tx_Takings_ofThings_b115 ok hr N q1 q3 q4 hq1 hq3 hq4 ih _ _ _ _ _
        · refine sm_aload_n (pc := 104) 2 ok dx_Takings_ofThings_104 rfl ?_
          refine sm_getR (pc := 105) (ci := 8) (k := 4) ok dx_Takings_ofThings_105 rfl rfl zc_i8 (by decide) rfl wd_315 ?_
          refine sm_iload_n (pc := 108) 4 ok dx_Takings_ofThings_108 rfl ?_
          refine sm_aload (pc := 109) 6 ok dx_Takings_ofThings_109 rfl ?_
          refine sm_iload (pc := 111) 8 ok dx_Takings_ofThings_111 rfl ?_
          refine sm_iald (pc := 113) ok dx_Takings_ofThings_113 (sm_sh0 hq4) ?_
          refine sm_iast (pc := 114) ok dx_Takings_ofThings_114 rfl (fun S_11 => ?_)
          refine sm_lv [2, 3, 4, 5, 6, 0, 7, 8] rfl ?_
          exact tx_Takings_ofThings_b115 ok hr N q1 q3 q4 hq1 hq3 hq4 ih _ _ _ _ _
set_option maxHeartbeats 4000000 in
set_option maxRecDepth 20000 in
theorem tx_Takings_ofThings_b18 {x : sm_Cx} (ok : sm_Ok x zx_sy prog_10_method_4_code "LentShades$Takings" 9 0 0) (hr : (xh x).sig.returnType = (some .int)) (N : Nat) (q1 : Nat) (q3 : Nat) (q4 : Nat) (hq1 : zx_sy.1 q1 = (12, 0)) (hq3 : (zx_sy.1 q3).1 = 0) (hq4 : (zx_sy.1 q4).1 = 0) (v2 : Int32) (v5 : Int32) (s0 : Int32) (S : sm_St) : sm_Sm x zx_sy prog_10_method_4_code (sm_Q x zx_sy (sm_Pi zx_sy (xw x))) (px_Takings_ofThings_b18 N q1 q3 q4 v2 v5 s0 S) S 18 [(0, .ref ((xw x).2.2 110)), (1, .ref ((xw x).2.2 q1)), (2, .int v2), (3, .ref ((xw x).2.2 q3)), (4, .ref ((xw x).2.2 q4)), (5, .int v5)] [.int s0] := by
  unfold px_Takings_ofThings_b18
  refine sm_istore (pc := 18) (i := 6) ok dx_Takings_ofThings_18 (by decide) (fun v => [(6, .int v), (0, .ref ((xw x).2.2 110)), (1, .ref ((xw x).2.2 q1)), (2, .int v2), (3, .ref ((xw x).2.2 q3)), (4, .ref ((xw x).2.2 q4)), (5, .int v5)]) (fun _ => rfl) (fun v6_2 => ?_)
  refine sm_aload_n (pc := 20) 1 ok dx_Takings_ofThings_20 rfl ?_
  refine sm_getR (pc := 21) (ci := 8) (k := 1) ok dx_Takings_ofThings_21 rfl rfl zc_i8 (by decide) rfl wd_310 ?_
  refine sm_iload_n (pc := 24) 3 ok dx_Takings_ofThings_24 rfl ?_
  refine sm_aald5 (pc := 25) ok dx_Takings_ofThings_25 rfl (fun hb_3 => ?_)
  refine sm_iconst (pc := 26) (4 : Int32) ok dx_Takings_ofThings_26 zk_4 ?_
  refine sm_iconst (pc := 27) (0 : Int32) ok dx_Takings_ofThings_27 zk_0 ?_
  refine sm_iast (pc := 28) ok dx_Takings_ofThings_28 (zx_rows 114 4 5 (by decide) hb_3) (fun S_4 => ?_)
  refine sm_aload_n (pc := 29) 1 ok dx_Takings_ofThings_29 rfl ?_
  refine sm_getR (pc := 30) (ci := 8) (k := 4) ok dx_Takings_ofThings_30 rfl rfl zc_i8 (by decide) rfl wd_315 ?_
  refine sm_iload_n (pc := 33) 3 ok dx_Takings_ofThings_33 rfl ?_
  refine sm_iconst (pc := 34) (-1 : Int32) ok dx_Takings_ofThings_34 zk_m1 ?_
  refine sm_iast (pc := 35) ok dx_Takings_ofThings_35 rfl (fun S_5 => ?_)
  refine sm_iconst (pc := 36) (0 : Int32) ok dx_Takings_ofThings_36 zk_0 ?_
  refine sm_istore (pc := 37) (i := 7) ok dx_Takings_ofThings_37 (by decide) (fun v => [(7, .int v), (6, .int v6_2), (0, .ref ((xw x).2.2 110)), (1, .ref ((xw x).2.2 q1)), (2, .int v2), (3, .ref ((xw x).2.2 q3)), (4, .ref ((xw x).2.2 q4)), (5, .int v5)]) (fun _ => rfl) (fun v7_6 => ?_)
  refine sm_lv [2, 3, 4, 5, 6, 7, 1, 0] rfl ?_
  exact tx_Takings_ofThings_b39 ok hr N q1 q3 q4 hq1 hq3 hq4 N _ _ _ _ _
set_option maxHeartbeats 4000000 in
set_option maxRecDepth 20000 in
theorem tx_Takings_ofThings {x : sm_Cx} (ok : sm_Ok x zx_sy prog_10_method_4_code "LentShades$Takings" 9 0 0) (hr : (xh x).sig.returnType = (some .int)) (N : Nat) (S : sm_St) (q1 : Nat) (v2 : Int32) (q3 : Nat) (q4 : Nat) (hq1 : zx_sy.1 q1 = (12, 0)) (hq3 : (zx_sy.1 q3).1 = 0) (hq4 : (zx_sy.1 q4).1 = 0) : sm_Sm x zx_sy prog_10_method_4_code (sm_Q x zx_sy (sm_Pi zx_sy (xw x))) (px_Takings_ofThings N S q1 v2 q3 q4) S 0 [(0, .ref ((xw x).2.2 110)), (1, .ref ((xw x).2.2 q1)), (2, .int v2), (3, .ref ((xw x).2.2 q3)), (4, .ref ((xw x).2.2 q4))] [] := by
  unfold px_Takings_ofThings
  refine sm_iconst (pc := 0) (0 : Int32) ok dx_Takings_ofThings_0 zk_0 ?_
  refine sm_istore (pc := 1) (i := 5) ok dx_Takings_ofThings_1 (by decide) (fun v => [(5, .int v), (0, .ref ((xw x).2.2 110)), (1, .ref ((xw x).2.2 q1)), (2, .int v2), (3, .ref ((xw x).2.2 q3)), (4, .ref ((xw x).2.2 q4))]) (fun _ => rfl) (fun v5_1 => ?_)
  refine sm_aload_n (pc := 3) 2 ok dx_Takings_ofThings_3 rfl ?_
  refine sm_getR (pc := 4) (ci := 2) (k := 0) ok dx_Takings_ofThings_4 hq1 rfl zc_i2 (by decide) rfl wd_161 ?_
  refine sm_iload_n (pc := 7) 3 ok dx_Takings_ofThings_7 rfl ?_
  refine sm_iald (pc := 8) ok dx_Takings_ofThings_8 (zx_House_1 hq1) ?_
  refine sm_iconst (pc := 9) (3 : Int32) ok dx_Takings_ofThings_9 zk_3 ?_
  refine sm_icmp_ne (pc := 10) 17 ok dx_Takings_ofThings_10 (by decide) (fun _ => ?_) (fun _ => ?_)
  · refine sm_iconst (pc := 17) (1 : Int32) ok dx_Takings_ofThings_17 zk_1 ?_
    refine sm_lv [1, 2, 3, 4, 5, 0] rfl ?_
    exact tx_Takings_ofThings_b18 ok hr N q1 q3 q4 hq1 hq3 hq4 _ _ _ _
  · refine sm_iconst (pc := 13) (2 : Int32) ok dx_Takings_ofThings_13 zk_2 ?_
    refine sm_goto (pc := 14) 18 ok dx_Takings_ofThings_14 (by decide) ?_
    refine sm_lv [1, 2, 3, 4, 5, 0] rfl ?_
    exact tx_Takings_ofThings_b18 ok hr N q1 q3 q4 hq1 hq3 hq4 _ _ _ _
theorem cx_Takings_ofThings {l : Launch} {wc : sm_Wc} (hj : sm_inj zx_sy wc) (N : Nat) (S : sm_St) (q1 : Nat) (v2 : Int32) (q3 : Nat) (q4 : Nat) (hq1 : zx_sy.1 q1 = (12, 0)) (hq3 : (zx_sy.1 q3).1 = 0) (hq4 : (zx_sy.1 q4).1 = 0) : sm_Ct l zx_sy wc yx_Takings_ofThings prog_10_method_4_code 9 (some .int) 0 0 [.ref (wc.2.2 110), .ref (wc.2.2 q1), .int v2, .ref (wc.2.2 q3), .ref (wc.2.2 q4)] S (sm_Pi zx_sy wc) (px_Takings_ofThings N S q1 v2 q3 q4) :=
  sm_entry (Pq := fun wc => sm_Pi zx_sy wc) (fun wc => [.ref (wc.2.2 110), .ref (wc.2.2 q1), .int v2, .ref (wc.2.2 q3), .ref (wc.2.2 q4)]) (lv := fun wc => [(0, .ref (wc.2.2 110)), (1, .ref (wc.2.2 q1)), (2, .int v2), (3, .ref (wc.2.2 q3)), (4, .ref (wc.2.2 q4))]) (by decide) hj zx_ok zx_stb (fun _ => Nat.le_of_ble_eq_true rfl) (fun _ => rfl) (fun x _ ok hr => tx_Takings_ofThings ok hr N S q1 v2 q3 q4 hq1 hq3 hq4)
set_option maxHeartbeats 4000000 in
set_option maxRecDepth 20000 in
theorem tx_L_greatestDivisor_b7 {x : sm_Cx} (ok : sm_Ok x zx_sy prog_1_method_43_code "LentShades" 6 0 0) (hr : (xh x).sig.returnType = (some .int)) (N : Nat) : ∀ (n : Nat) (v2 : Int32) (v3 : Int32) (v4 : Int32) (S : sm_St), sm_Sm x zx_sy prog_1_method_43_code (sm_Q x zx_sy (sm_Pi zx_sy (xw x))) (px_L_greatestDivisor_b7 N n v2 v3 v4 S) S 7 [(2, .int v2), (3, .int v3), (4, .int v4)] [] := by
  intro n
  induction n with
  | zero =>
    intro v2 v3 v4 S
    exact sm_none
  | succ n ih =>
    intro v2 v3 v4 S
    show sm_Sm x zx_sy prog_1_method_43_code (sm_Q x zx_sy (sm_Pi zx_sy (xw x))) (if (64 : Int32) ≤ v4 then (some (v2, S)) else (if v3 = 0 then (some (v2, S)) else (if v3 = 0 then none else (sm_lt (v2 - v2 / v3 * v3) (fun (v5_4 : Int32) => sm_lt v3 (fun (v2_5 : Int32) => sm_lt v5_4 (fun (v3_6 : Int32) => sm_lt (v4 + (1 : Int32)) (fun (v4_7 : Int32) => (px_L_greatestDivisor_b7 N n) v2_5 v3_6 v4_7 S)))))))) S 7 [(2, .int v2), (3, .int v3), (4, .int v4)] []
    refine sm_iload (pc := 7) 2 ok dx_L_greatestDivisor_7 rfl ?_
    refine sm_bipush (pc := 9) (64 : Int32) ok dx_L_greatestDivisor_9 zb_64 ?_
    refine sm_icmp_ge (pc := 11) 34 ok dx_L_greatestDivisor_11 (by decide) (fun _ => ?_) (fun _ => ?_)
    · refine sm_iload_n (pc := 34) 0 ok dx_L_greatestDivisor_34 rfl ?_
      exact sm_iret (pc := 35) ok dx_L_greatestDivisor_35 hr
    · refine sm_iload_n (pc := 14) 1 ok dx_L_greatestDivisor_14 rfl ?_
      refine sm_if_eq (pc := 15) 34 ok dx_L_greatestDivisor_15 (by decide) (fun _ => ?_) (fun _ => ?_)
      · refine sm_iload_n (pc := 34) 0 ok dx_L_greatestDivisor_34 rfl ?_
        exact sm_iret (pc := 35) ok dx_L_greatestDivisor_35 hr
      · refine sm_iload_n (pc := 18) 0 ok dx_L_greatestDivisor_18 rfl ?_
        refine sm_iload_n (pc := 19) 1 ok dx_L_greatestDivisor_19 rfl ?_
        refine sm_irem (pc := 20) ok dx_L_greatestDivisor_20 ?_
        refine sm_istore (pc := 21) (i := 5) ok dx_L_greatestDivisor_21 (by decide) (fun v => [(5, .int v), (2, .int v2), (3, .int v3), (4, .int v4)]) (fun _ => rfl) (fun v5_4 => ?_)
        refine sm_iload_n (pc := 23) 2 ok dx_L_greatestDivisor_23 rfl ?_
        refine sm_istore_n (pc := 24) (i := 2) ok dx_L_greatestDivisor_24 rfl (by decide) (fun v => [(2, .int v), (5, .int v5_4), (3, .int v3), (4, .int v4)]) (fun _ => rfl) (fun v2_5 => ?_)
        refine sm_iload (pc := 25) 1 ok dx_L_greatestDivisor_25 rfl ?_
        refine sm_istore_n (pc := 27) (i := 3) ok dx_L_greatestDivisor_27 rfl (by decide) (fun v => [(3, .int v), (2, .int v2_5), (5, .int v5_4), (4, .int v4)]) (fun _ => rfl) (fun v3_6 => ?_)
        refine sm_iinc (pc := 28) (i := 4) 3 (1 : Int32) ok dx_L_greatestDivisor_28 rfl zk_1 (by decide) (fun v => [(4, .int v), (3, .int v3_6), (2, .int v2_5), (5, .int v5_4)]) (fun _ => rfl) (fun v4_7 => ?_)
        refine sm_goto (pc := 31) 7 ok dx_L_greatestDivisor_31 (by decide) ?_
        refine sm_lv [2, 1, 0] rfl ?_
        exact ih _ _ _ _
set_option maxHeartbeats 4000000 in
set_option maxRecDepth 20000 in
theorem tx_L_greatestDivisor {x : sm_Cx} (ok : sm_Ok x zx_sy prog_1_method_43_code "LentShades" 6 0 0) (hr : (xh x).sig.returnType = (some .int)) (N : Nat) (S : sm_St) (v0 : Int32) (v1 : Int32) : sm_Sm x zx_sy prog_1_method_43_code (sm_Q x zx_sy (sm_Pi zx_sy (xw x))) (px_L_greatestDivisor N S v0 v1) S 0 [(0, .int v0), (1, .int v1)] [] := by
  unfold px_L_greatestDivisor
  refine sm_iload_n (pc := 0) 0 ok dx_L_greatestDivisor_0 rfl ?_
  refine sm_istore_n (pc := 1) (i := 2) ok dx_L_greatestDivisor_1 rfl (by decide) (fun v => [(2, .int v), (0, .int v0), (1, .int v1)]) (fun _ => rfl) (fun v2_1 => ?_)
  refine sm_iload_n (pc := 2) 2 ok dx_L_greatestDivisor_2 rfl ?_
  refine sm_istore_n (pc := 3) (i := 3) ok dx_L_greatestDivisor_3 rfl (by decide) (fun v => [(3, .int v), (2, .int v2_1), (0, .int v0), (1, .int v1)]) (fun _ => rfl) (fun v3_2 => ?_)
  refine sm_iconst (pc := 4) (0 : Int32) ok dx_L_greatestDivisor_4 zk_0 ?_
  refine sm_istore (pc := 5) (i := 4) ok dx_L_greatestDivisor_5 (by decide) (fun v => [(4, .int v), (3, .int v3_2), (2, .int v2_1), (0, .int v0), (1, .int v1)]) (fun _ => rfl) (fun v4_3 => ?_)
  refine sm_lv [2, 1, 0] rfl ?_
  exact tx_L_greatestDivisor_b7 ok hr N N _ _ _ _
theorem cx_L_greatestDivisor {l : Launch} {wc : sm_Wc} (hj : sm_inj zx_sy wc) (N : Nat) (S : sm_St) (v0 : Int32) (v1 : Int32) : sm_Ct l zx_sy wc yx_L_greatestDivisor prog_1_method_43_code 6 (some .int) 0 0 [.int v0, .int v1] S (sm_Pi zx_sy wc) (px_L_greatestDivisor N S v0 v1) :=
  sm_entry (Pq := fun wc => sm_Pi zx_sy wc) (fun wc => [.int v0, .int v1]) (lv := fun wc => [(0, .int v0), (1, .int v1)]) (by decide) hj zx_ok zx_stb (fun _ => Nat.le_of_ble_eq_true rfl) (fun _ => rfl) (fun x _ ok hr => tx_L_greatestDivisor ok hr N S v0 v1)
set_option maxHeartbeats 4000000 in
set_option maxRecDepth 20000 in
theorem tx_Takings_reckon_b147 {x : sm_Cx} (ok : sm_Ok x zx_sy prog_10_method_2_code "LentShades$Takings" 7 2 46) (hr : (xh x).sig.returnType = none) (N : Nat) (q1 : Nat) (q2 : Nat) (q3 : Nat) (hq1 : zx_sy.1 q1 = (12, 0)) (hq2 : (zx_sy.1 q2).1 = 5) (hq3 : (zx_sy.1 q3).1 = 0) {r16 : Int32 → sm_St → Option (sm_St)} (h16 : ∀ (v4 : Int32) (S : sm_St), sm_Sm x zx_sy prog_10_method_2_code (sm_Q x zx_sy (sm_Pv zx_sy (xw x))) (r16 v4 S) S 16 [(0, .ref ((xw x).2.2 110)), (1, .ref ((xw x).2.2 q1)), (2, .ref ((xw x).2.2 q2)), (3, .ref ((xw x).2.2 q3)), (4, .int v4)] []) (v4 : Int32) (S : sm_St) : sm_Sm x zx_sy prog_10_method_2_code (sm_Q x zx_sy (sm_Pv zx_sy (xw x))) (px_Takings_reckon_b147 N q1 q2 q3 r16 v4 S) S 147 [(0, .ref ((xw x).2.2 110)), (1, .ref ((xw x).2.2 q1)), (2, .ref ((xw x).2.2 q2)), (3, .ref ((xw x).2.2 q3)), (4, .int v4)] [] := by
  unfold px_Takings_reckon_b147
  refine sm_iinc (pc := 147) (i := 4) 4 (1 : Int32) ok dx_Takings_reckon_147 rfl zk_1 (by decide) (fun v => [(4, .int v), (0, .ref ((xw x).2.2 110)), (1, .ref ((xw x).2.2 q1)), (2, .ref ((xw x).2.2 q2)), (3, .ref ((xw x).2.2 q3))]) (fun _ => rfl) (fun v4_17 => ?_)
  refine sm_goto (pc := 150) 16 ok dx_Takings_reckon_150 (by decide) ?_
  refine sm_lv [1, 2, 3, 4, 0] rfl ?_
  exact h16 _ _
set_option maxHeartbeats 4000000 in
set_option maxRecDepth 20000 in
theorem tx_Takings_reckon_b96 {x : sm_Cx} (ok : sm_Ok x zx_sy prog_10_method_2_code "LentShades$Takings" 7 2 46) (hr : (xh x).sig.returnType = none) (N : Nat) (q1 : Nat) (q2 : Nat) (q3 : Nat) (hq1 : zx_sy.1 q1 = (12, 0)) (hq2 : (zx_sy.1 q2).1 = 5) (hq3 : (zx_sy.1 q3).1 = 0) {r16 : Int32 → sm_St → Option (sm_St)} (h16 : ∀ (v4 : Int32) (S : sm_St), sm_Sm x zx_sy prog_10_method_2_code (sm_Q x zx_sy (sm_Pv zx_sy (xw x))) (r16 v4 S) S 16 [(0, .ref ((xw x).2.2 110)), (1, .ref ((xw x).2.2 q1)), (2, .ref ((xw x).2.2 q2)), (3, .ref ((xw x).2.2 q3)), (4, .int v4)] []) (v4 : Int32) (s1 : Int32) (s2 : Int32) (S : sm_St) : sm_Sm x zx_sy prog_10_method_2_code (sm_Q x zx_sy (sm_Pv zx_sy (xw x))) (px_Takings_reckon_b96 N q1 q2 q3 r16 v4 s1 s2 S) S 96 [(0, .ref ((xw x).2.2 110)), (1, .ref ((xw x).2.2 q1)), (2, .ref ((xw x).2.2 q2)), (3, .ref ((xw x).2.2 q3)), (4, .int v4)] [.int s2, .int s1, .ref ((xw x).2.2 119)] := by
  unfold px_Takings_reckon_b96
  refine sm_iast (pc := 96) ok dx_Takings_reckon_96 rfl (fun S_12 => ?_)
  refine sm_aload_n (pc := 97) 0 ok dx_Takings_reckon_97 rfl ?_
  refine sm_getI (pc := 98) (ci := 8) (k := 6) ok dx_Takings_reckon_98 rfl rfl zc_i8 (by decide) rfl wd_318 ?_
  refine sm_aload_n (pc := 101) 0 ok dx_Takings_reckon_101 rfl ?_
  refine sm_getR (pc := 102) (ci := 8) (k := 2) ok dx_Takings_reckon_102 rfl rfl zc_i8 (by decide) rfl wd_312 ?_
  refine sm_iload (pc := 105) 4 ok dx_Takings_reckon_105 rfl ?_
  refine sm_iald (pc := 107) ok dx_Takings_reckon_107 rfl ?_
  refine sm_callSN_i (pc := 108) [.int (S_12.1 110 6), .int (S_12.1 119 v4.toNatClampNeg)] ok dx_Takings_reckon_108 (zx_nw ok 1 rfl) mwx_L_greatestDivisor (Nat.le_of_ble_eq_true rfl) (Nat.le_of_ble_eq_true rfl) rfl rfl (Nat.le_of_ble_eq_true rfl) (cx_L_greatestDivisor (sm_okj ok) N S_12 (S_12.1 110 6) (S_12.1 119 v4.toNatClampNeg)) (fun r_14 S_13 => ?_)
  refine sm_istore (pc := 111) (i := 6) ok dx_Takings_reckon_111 (by decide) (fun v => [(6, .int v), (0, .ref ((xw x).2.2 110)), (1, .ref ((xw x).2.2 q1)), (2, .ref ((xw x).2.2 q2)), (3, .ref ((xw x).2.2 q3)), (4, .int v4)]) (fun _ => rfl) (fun v6_15 => ?_)
  refine sm_aload_n (pc := 113) 1 ok dx_Takings_reckon_113 rfl ?_
  refine sm_getR (pc := 114) (ci := 8) (k := 2) ok dx_Takings_reckon_114 rfl rfl zc_i8 (by decide) rfl wd_312 ?_
  refine sm_iload (pc := 117) 5 ok dx_Takings_reckon_117 rfl ?_
  refine sm_iald (pc := 119) ok dx_Takings_reckon_119 rfl ?_
  refine sm_if_le (pc := 120) 147 ok dx_Takings_reckon_120 (by decide) (fun _ => ?_) (fun _ => ?_)
  · refine sm_lv [1, 2, 3, 4, 5] rfl ?_
    exact tx_Takings_reckon_b147 ok hr N q1 q2 q3 hq1 hq2 hq3 h16 _ _
  · refine sm_iload (pc := 123) 0 ok dx_Takings_reckon_123 rfl ?_
    refine sm_if_le (pc := 125) 147 ok dx_Takings_reckon_125 (by decide) (fun _ => ?_) (fun _ => ?_)
    · refine sm_lv [1, 2, 3, 4, 5] rfl ?_
      exact tx_Takings_reckon_b147 ok hr N q1 q2 q3 hq1 hq2 hq3 h16 _ _
    · refine sm_aload_n (pc := 128) 1 ok dx_Takings_reckon_128 rfl ?_
      refine sm_aload_n (pc := 129) 1 ok dx_Takings_reckon_129 rfl ?_
      refine sm_getI (pc := 130) (ci := 8) (k := 6) ok dx_Takings_reckon_130 rfl rfl zc_i8 (by decide) rfl wd_318 ?_
      refine sm_iload (pc := 133) 0 ok dx_Takings_reckon_133 rfl ?_
      refine sm_idiv (pc := 135) ok dx_Takings_reckon_135 ?_
      refine sm_aload_n (pc := 136) 1 ok dx_Takings_reckon_136 rfl ?_
      refine sm_getR (pc := 137) (ci := 8) (k := 2) ok dx_Takings_reckon_137 rfl rfl zc_i8 (by decide) rfl wd_312 ?_
      refine sm_iload (pc := 140) 5 ok dx_Takings_reckon_140 rfl ?_
      refine sm_iald (pc := 142) ok dx_Takings_reckon_142 rfl ?_
      refine sm_imul (pc := 143) ok dx_Takings_reckon_143 ?_
      refine sm_putI (pc := 144) (ci := 8) (k := 6) ok dx_Takings_reckon_144 rfl rfl zc_i8 zc_y8 zc_t8 zc_n8 (by decide) rfl rfl rfl wd_318 (fun S_16 => ?_)
      refine sm_lv [1, 2, 3, 4, 5] rfl ?_
      exact tx_Takings_reckon_b147 ok hr N q1 q2 q3 hq1 hq2 hq3 h16 _ _
set_option maxHeartbeats 4000000 in
set_option maxRecDepth 20000 in
theorem tx_Takings_reckon_b47 {x : sm_Cx} (ok : sm_Ok x zx_sy prog_10_method_2_code "LentShades$Takings" 7 2 46) (hr : (xh x).sig.returnType = none) (N : Nat) (q1 : Nat) (q2 : Nat) (q3 : Nat) (hq1 : zx_sy.1 q1 = (12, 0)) (hq2 : (zx_sy.1 q2).1 = 5) (hq3 : (zx_sy.1 q3).1 = 0) {r16 : Int32 → sm_St → Option (sm_St)} (h16 : ∀ (v4 : Int32) (S : sm_St), sm_Sm x zx_sy prog_10_method_2_code (sm_Q x zx_sy (sm_Pv zx_sy (xw x))) (r16 v4 S) S 16 [(0, .ref ((xw x).2.2 110)), (1, .ref ((xw x).2.2 q1)), (2, .ref ((xw x).2.2 q2)), (3, .ref ((xw x).2.2 q3)), (4, .int v4)] []) (v4 : Int32) (s1 : Int32) (s2 : Int32) (S : sm_St) : sm_Sm x zx_sy prog_10_method_2_code (sm_Q x zx_sy (sm_Pv zx_sy (xw x))) (px_Takings_reckon_b47 N q1 q2 q3 r16 v4 s1 s2 S) S 47 [(0, .ref ((xw x).2.2 110)), (1, .ref ((xw x).2.2 q1)), (2, .ref ((xw x).2.2 q2)), (3, .ref ((xw x).2.2 q3)), (4, .int v4)] [.int s2, .int s1, .ref ((xw x).2.2 120)] := by
  unfold px_Takings_reckon_b47
  refine sm_zast (pc := 47) ok dx_Takings_reckon_47 rfl (fun S_4 => ?_)
  refine sm_aload_n (pc := 48) 0 ok dx_Takings_reckon_48 rfl ?_
  refine sm_aload_n (pc := 49) 1 ok dx_Takings_reckon_49 rfl ?_
  refine sm_iload (pc := 50) 4 ok dx_Takings_reckon_50 rfl ?_
  refine sm_aload_n (pc := 52) 2 ok dx_Takings_reckon_52 rfl ?_
  refine sm_iload (pc := 53) 4 ok dx_Takings_reckon_53 rfl ?_
  refine sm_aald5 (pc := 55) ok dx_Takings_reckon_55 (sm_sh0 hq2) (fun hb_5 => ?_)
  refine sm_callV_i (pc := 56) (ci := 8) [.ref ((xw x).2.2 q1), .int v4, .ref ((xw x).2.2 (q2 + 1 + v4.toNatClampNeg))] ok dx_Takings_reckon_56 wd_635 mwx_Takings_ofCloths rfl rfl (Nat.le_of_ble_eq_true rfl) (Nat.le_of_ble_eq_true rfl) rfl rfl (Nat.le_of_ble_eq_true rfl) (cx_Takings_ofCloths (sm_okj ok) N S_4 q1 v4 (q2 + 1 + v4.toNatClampNeg) hq1 (sm_tag (zx_rowq (sm_sh0 hq2) hb_5))) (fun r_7 S_6 => ?_)
  refine sm_aload_n (pc := 59) 0 ok dx_Takings_reckon_59 rfl ?_
  refine sm_aload_n (pc := 60) 1 ok dx_Takings_reckon_60 rfl ?_
  refine sm_iload (pc := 61) 4 ok dx_Takings_reckon_61 rfl ?_
  refine sm_aload_n (pc := 63) 2 ok dx_Takings_reckon_63 rfl ?_
  refine sm_iload (pc := 64) 4 ok dx_Takings_reckon_64 rfl ?_
  refine sm_aald5 (pc := 66) ok dx_Takings_reckon_66 (sm_sh0 hq2) (fun hb_8 => ?_)
  refine sm_aload_n (pc := 67) 3 ok dx_Takings_reckon_67 rfl ?_
  refine sm_callV_i (pc := 68) (ci := 8) [.ref ((xw x).2.2 q1), .int v4, .ref ((xw x).2.2 (q2 + 1 + v4.toNatClampNeg)), .ref ((xw x).2.2 q3)] ok dx_Takings_reckon_68 wd_643 mwx_Takings_ofThings rfl rfl (Nat.le_of_ble_eq_true rfl) (Nat.le_of_ble_eq_true rfl) rfl rfl (Nat.le_of_ble_eq_true rfl) (cx_Takings_ofThings (sm_okj ok) N S_6 q1 v4 (q2 + 1 + v4.toNatClampNeg) q3 hq1 (sm_tag (zx_rowq (sm_sh0 hq2) hb_8)) (sm_tag (sm_sh0 hq3))) (fun r_10 S_9 => ?_)
  refine sm_iadd (pc := 71) ok dx_Takings_reckon_71 ?_
  refine sm_istore (pc := 72) (i := 5) ok dx_Takings_reckon_72 (by decide) (fun v => [(5, .int v), (0, .ref ((xw x).2.2 110)), (1, .ref ((xw x).2.2 q1)), (2, .ref ((xw x).2.2 q2)), (3, .ref ((xw x).2.2 q3)), (4, .int v4)]) (fun _ => rfl) (fun v5_11 => ?_)
  refine sm_aload_n (pc := 74) 1 ok dx_Takings_reckon_74 rfl ?_
  refine sm_getR (pc := 75) (ci := 8) (k := 2) ok dx_Takings_reckon_75 rfl rfl zc_i8 (by decide) rfl wd_312 ?_
  refine sm_iload (pc := 78) 5 ok dx_Takings_reckon_78 rfl ?_
  refine sm_aload_n (pc := 80) 1 ok dx_Takings_reckon_80 rfl ?_
  refine sm_getR (pc := 81) (ci := 8) (k := 3) ok dx_Takings_reckon_81 rfl rfl zc_i8 (by decide) rfl wd_314 ?_
  refine sm_iload (pc := 84) 5 ok dx_Takings_reckon_84 rfl ?_
  refine sm_zald (pc := 86) ok dx_Takings_reckon_86 rfl ?_
  refine sm_if_eq (pc := 87) 94 ok dx_Takings_reckon_87 (by decide) (fun _ => ?_) (fun _ => ?_)
  · refine sm_iload (pc := 94) 0 ok dx_Takings_reckon_94 rfl ?_
    refine sm_lv [1, 2, 3, 4, 5] rfl ?_
    exact tx_Takings_reckon_b96 ok hr N q1 q2 q3 hq1 hq2 hq3 h16 _ _ _ _
  · refine sm_iconst (pc := 90) (0 : Int32) ok dx_Takings_reckon_90 zk_0 ?_
    refine sm_goto (pc := 91) 96 ok dx_Takings_reckon_91 (by decide) ?_
    refine sm_lv [1, 2, 3, 4, 5] rfl ?_
    exact tx_Takings_reckon_b96 ok hr N q1 q2 q3 hq1 hq2 hq3 h16 _ _ _ _
set_option maxHeartbeats 4000000 in
set_option maxRecDepth 20000 in
theorem tx_Takings_reckon_b16 {x : sm_Cx} (ok : sm_Ok x zx_sy prog_10_method_2_code "LentShades$Takings" 7 2 46) (hr : (xh x).sig.returnType = none) (N : Nat) (q1 : Nat) (q2 : Nat) (q3 : Nat) (hq1 : zx_sy.1 q1 = (12, 0)) (hq2 : (zx_sy.1 q2).1 = 5) (hq3 : (zx_sy.1 q3).1 = 0) : ∀ (n : Nat) (v4 : Int32) (S : sm_St), sm_Sm x zx_sy prog_10_method_2_code (sm_Q x zx_sy (sm_Pv zx_sy (xw x))) (px_Takings_reckon_b16 N q1 q2 q3 n v4 S) S 16 [(0, .ref ((xw x).2.2 110)), (1, .ref ((xw x).2.2 q1)), (2, .ref ((xw x).2.2 q2)), (3, .ref ((xw x).2.2 q3)), (4, .int v4)] [] := by
  intro n
  induction n with
  | zero =>
    intro v4 S
    exact sm_none
  | succ n ih =>
    intro v4 S
    show sm_Sm x zx_sy prog_10_method_2_code (sm_Q x zx_sy (sm_Pv zx_sy (xw x))) (if (S.1 110 5) ≤ v4 then (some S) else (if sm_in v4 4 = true then (if (S.1 (q1 + 1) v4.toNatClampNeg) = (4 : Int32) then (px_Takings_reckon_b47 N q1 q2 q3 (px_Takings_reckon_b16 N q1 q2 q3 n) v4 v4 (1 : Int32) S) else (px_Takings_reckon_b47 N q1 q2 q3 (px_Takings_reckon_b16 N q1 q2 q3 n) v4 v4 (0 : Int32) S)) else none)) S 16 [(0, .ref ((xw x).2.2 110)), (1, .ref ((xw x).2.2 q1)), (2, .ref ((xw x).2.2 q2)), (3, .ref ((xw x).2.2 q3)), (4, .int v4)] []
    refine sm_iload (pc := 16) 4 ok dx_Takings_reckon_16 rfl ?_
    refine sm_aload_n (pc := 18) 0 ok dx_Takings_reckon_18 rfl ?_
    refine sm_getI (pc := 19) (ci := 8) (k := 5) ok dx_Takings_reckon_19 rfl rfl zc_i8 (by decide) rfl wd_316 ?_
    refine sm_icmp_ge (pc := 22) 153 ok dx_Takings_reckon_22 (by decide) (fun _ => ?_) (fun _ => ?_)
    · exact sm_vret (pc := 153) ok dx_Takings_reckon_153 hr
    · refine sm_aload_n (pc := 25) 0 ok dx_Takings_reckon_25 rfl ?_
      refine sm_getR (pc := 26) (ci := 8) (k := 3) ok dx_Takings_reckon_26 rfl rfl zc_i8 (by decide) rfl wd_314 ?_
      refine sm_iload (pc := 29) 4 ok dx_Takings_reckon_29 rfl ?_
      refine sm_aload_n (pc := 31) 1 ok dx_Takings_reckon_31 rfl ?_
      refine sm_getR (pc := 32) (ci := 2) (k := 0) ok dx_Takings_reckon_32 hq1 rfl zc_i2 (by decide) rfl wd_161 ?_
      refine sm_iload (pc := 35) 4 ok dx_Takings_reckon_35 rfl ?_
      refine sm_iald (pc := 37) ok dx_Takings_reckon_37 (zx_House_1 hq1) ?_
      refine sm_iconst (pc := 38) (4 : Int32) ok dx_Takings_reckon_38 zk_4 ?_
      refine sm_icmp_ne (pc := 39) 46 ok dx_Takings_reckon_39 (by decide) (fun _ => ?_) (fun _ => ?_)
      · refine sm_iconst (pc := 46) (0 : Int32) ok dx_Takings_reckon_46 zk_0 ?_
        exact tx_Takings_reckon_b47 ok hr N q1 q2 q3 hq1 hq2 hq3 ih _ _ _ _
      · refine sm_iconst (pc := 42) (1 : Int32) ok dx_Takings_reckon_42 zk_1 ?_
        refine sm_goto (pc := 43) 47 ok dx_Takings_reckon_43 (by decide) ?_
        exact tx_Takings_reckon_b47 ok hr N q1 q2 q3 hq1 hq2 hq3 ih _ _ _ _
set_option maxHeartbeats 4000000 in
set_option maxRecDepth 20000 in
theorem tx_Takings_reckon {x : sm_Cx} (ok : sm_Ok x zx_sy prog_10_method_2_code "LentShades$Takings" 7 2 46) (hr : (xh x).sig.returnType = none) (N : Nat) (S : sm_St) (q1 : Nat) (q2 : Nat) (q3 : Nat) (hq1 : zx_sy.1 q1 = (12, 0)) (hq2 : (zx_sy.1 q2).1 = 5) (hq3 : (zx_sy.1 q3).1 = 0) : sm_Sm x zx_sy prog_10_method_2_code (sm_Q x zx_sy (sm_Pv zx_sy (xw x))) (px_Takings_reckon N S q1 q2 q3) S 0 [(0, .ref ((xw x).2.2 110)), (1, .ref ((xw x).2.2 q1)), (2, .ref ((xw x).2.2 q2)), (3, .ref ((xw x).2.2 q3))] [] := by
  unfold px_Takings_reckon
  refine sm_aload_n (pc := 0) 0 ok dx_Takings_reckon_0 rfl ?_
  refine sm_aload_n (pc := 1) 1 ok dx_Takings_reckon_1 rfl ?_
  refine sm_getI (pc := 2) (ci := 2) (k := 9) ok dx_Takings_reckon_2 hq1 rfl zc_i2 (by decide) rfl wd_185 ?_
  refine sm_putI (pc := 5) (ci := 8) (k := 5) ok dx_Takings_reckon_5 rfl rfl zc_i8 zc_y8 zc_t8 zc_n8 (by decide) rfl rfl rfl wd_316 (fun S_1 => ?_)
  refine sm_aload_n (pc := 8) 0 ok dx_Takings_reckon_8 rfl ?_
  refine sm_iconst (pc := 9) (1 : Int32) ok dx_Takings_reckon_9 zk_1 ?_
  refine sm_putI (pc := 10) (ci := 8) (k := 6) ok dx_Takings_reckon_10 rfl rfl zc_i8 zc_y8 zc_t8 zc_n8 (by decide) rfl rfl rfl wd_318 (fun S_2 => ?_)
  refine sm_iconst (pc := 13) (0 : Int32) ok dx_Takings_reckon_13 zk_0 ?_
  refine sm_istore (pc := 14) (i := 4) ok dx_Takings_reckon_14 (by decide) (fun v => [(4, .int v), (0, .ref ((xw x).2.2 110)), (1, .ref ((xw x).2.2 q1)), (2, .ref ((xw x).2.2 q2)), (3, .ref ((xw x).2.2 q3))]) (fun _ => rfl) (fun v4_3 => ?_)
  refine sm_lv [1, 2, 3, 4, 0] rfl ?_
  exact tx_Takings_reckon_b16 ok hr N q1 q2 q3 hq1 hq2 hq3 N _ _
theorem cx_Takings_reckon {l : Launch} {wc : sm_Wc} (hj : sm_inj zx_sy wc) (N : Nat) (S : sm_St) (q1 : Nat) (q2 : Nat) (q3 : Nat) (hq1 : zx_sy.1 q1 = (12, 0)) (hq2 : (zx_sy.1 q2).1 = 5) (hq3 : (zx_sy.1 q3).1 = 0) : sm_Ct l zx_sy wc yx_Takings_reckon prog_10_method_2_code 7 none 2 46 [.ref (wc.2.2 110), .ref (wc.2.2 q1), .ref (wc.2.2 q2), .ref (wc.2.2 q3)] S (sm_Pv zx_sy wc) (px_Takings_reckon N S q1 q2 q3) :=
  sm_entry (Pq := fun wc => sm_Pv zx_sy wc) (fun wc => [.ref (wc.2.2 110), .ref (wc.2.2 q1), .ref (wc.2.2 q2), .ref (wc.2.2 q3)]) (lv := fun wc => [(0, .ref (wc.2.2 110)), (1, .ref (wc.2.2 q1)), (2, .ref (wc.2.2 q2)), (3, .ref (wc.2.2 q3))]) (by decide) hj zx_ok zx_stb (fun _ => Nat.le_of_ble_eq_true rfl) (fun _ => rfl) (fun x _ ok hr => tx_Takings_reckon ok hr N S q1 q2 q3 hq1 hq2 hq3)
set_option maxHeartbeats 4000000 in
set_option maxRecDepth 20000 in
theorem tx_Sum_begin_b2 {x : sm_Cx} (ok : sm_Ok x zx_sy prog_9_method_2_code "LentShades$Sum" 2 0 0) (hr : (xh x).sig.returnType = none) (N : Nat) (p : Nat) (hp : zx_sy.1 p = (17, 0)) : ∀ (n : Nat) (v1 : Int32) (S : sm_St), sm_Sm x zx_sy prog_9_method_2_code (sm_Q x zx_sy (sm_Pv zx_sy (xw x))) (px_Sum_begin_b2 N p n v1 S) S 2 [(0, .ref ((xw x).2.2 p)), (1, .int v1)] [] := by
  intro n
  induction n with
  | zero =>
    intro v1 S
    exact sm_none
  | succ n ih =>
    intro v1 S
    show sm_Sm x zx_sy prog_9_method_2_code (sm_Q x zx_sy (sm_Pv zx_sy (xw x))) (if (5 : Int32) ≤ v1 then (some S) else (if sm_in v1 5 = true then sm_lt (sm_sL S (p + 1) v1.toNatClampNeg (0 : Int64)) (fun (S_2 : sm_St) => sm_lt (v1 + (1 : Int32)) (fun (v1_3 : Int32) => (px_Sum_begin_b2 N p n) v1_3 S_2)) else none)) S 2 [(0, .ref ((xw x).2.2 p)), (1, .int v1)] []
    refine sm_iload_n (pc := 2) 1 ok dx_Sum_begin_2 rfl ?_
    refine sm_iconst (pc := 3) (5 : Int32) ok dx_Sum_begin_3 zk_5 ?_
    refine sm_icmp_ge (pc := 4) 20 ok dx_Sum_begin_4 (by decide) (fun _ => ?_) (fun _ => ?_)
    · exact sm_vret (pc := 20) ok dx_Sum_begin_20 hr
    · refine sm_aload_n (pc := 7) 0 ok dx_Sum_begin_7 rfl ?_
      refine sm_getR (pc := 8) (ci := 7) (k := 0) ok dx_Sum_begin_8 hp rfl zc_i7 (by decide) rfl wd_286 ?_
      refine sm_iload_n (pc := 11) 1 ok dx_Sum_begin_11 rfl ?_
      refine sm_lconst (pc := 12) (0 : Int64) ok dx_Sum_begin_12 zl_0 ?_
      refine sm_last (pc := 13) ok dx_Sum_begin_13 (zx_Sum_1 hp) (fun S_2 => ?_)
      refine sm_iinc (pc := 14) (i := 1) 1 (1 : Int32) ok dx_Sum_begin_14 rfl zk_1 (by decide) (fun v => [(1, .int v), (0, .ref ((xw x).2.2 p))]) (fun _ => rfl) (fun v1_3 => ?_)
      refine sm_goto (pc := 17) 2 ok dx_Sum_begin_17 (by decide) ?_
      refine sm_lv [1, 0] rfl ?_
      exact ih _ _
set_option maxHeartbeats 4000000 in
set_option maxRecDepth 20000 in
theorem tx_Sum_begin {x : sm_Cx} (ok : sm_Ok x zx_sy prog_9_method_2_code "LentShades$Sum" 2 0 0) (hr : (xh x).sig.returnType = none) (N : Nat) (S : sm_St) (p : Nat) (hp : zx_sy.1 p = (17, 0)) : sm_Sm x zx_sy prog_9_method_2_code (sm_Q x zx_sy (sm_Pv zx_sy (xw x))) (px_Sum_begin N S p) S 0 [(0, .ref ((xw x).2.2 p))] [] := by
  unfold px_Sum_begin
  refine sm_iconst (pc := 0) (0 : Int32) ok dx_Sum_begin_0 zk_0 ?_
  refine sm_istore_n (pc := 1) (i := 1) ok dx_Sum_begin_1 rfl (by decide) (fun v => [(1, .int v), (0, .ref ((xw x).2.2 p))]) (fun _ => rfl) (fun v1_1 => ?_)
  refine sm_lv [1, 0] rfl ?_
  exact tx_Sum_begin_b2 ok hr N p hp N _ _
theorem cx_Sum_begin {l : Launch} {wc : sm_Wc} (hj : sm_inj zx_sy wc) (N : Nat) (S : sm_St) (p : Nat) (hp : zx_sy.1 p = (17, 0)) : sm_Ct l zx_sy wc yx_Sum_begin prog_9_method_2_code 2 none 0 0 [.ref (wc.2.2 p)] S (sm_Pv zx_sy wc) (px_Sum_begin N S p) :=
  sm_entry (Pq := fun wc => sm_Pv zx_sy wc) (fun wc => [.ref (wc.2.2 p)]) (lv := fun wc => [(0, .ref (wc.2.2 p))]) (by decide) hj zx_ok zx_stb (fun _ => Nat.le_of_ble_eq_true rfl) (fun _ => rfl) (fun x _ ok hr => tx_Sum_begin ok hr N S p hp)
set_option maxHeartbeats 4000000 in
set_option maxRecDepth 20000 in
theorem tx_Sum_write_b108 {x : sm_Cx} (ok : sm_Ok x zx_sy prog_9_method_3_code "LentShades$Sum" 9 0 0) (hr : (xh x).sig.returnType = none) (N : Nat) (p : Nat) (q1 : Nat) (q2 : Nat) (hp : zx_sy.1 p = (17, 0)) (hq1 : zx_sy.1 q1 = (16, 0)) (hq2 : (zx_sy.1 q2).1 = 0) : ∀ (n : Nat) (v3 : Int32) (v4 : Int64) (v6 : Int32) (S : sm_St), sm_Sm x zx_sy prog_9_method_3_code (sm_Q x zx_sy (sm_Pv zx_sy (xw x))) (px_Sum_write_b108 N p q1 q2 n v3 v4 v6 S) S 108 [(0, .ref ((xw x).2.2 p)), (1, .ref ((xw x).2.2 q1)), (2, .ref ((xw x).2.2 q2)), (3, .int v3), (4, .long v4), (6, .int v6)] [] := by
  intro n
  induction n with
  | zero =>
    intro v3 v4 v6 S
    exact sm_none
  | succ n ih =>
    intro v3 v4 v6 S
    show sm_Sm x zx_sy prog_9_method_3_code (sm_Q x zx_sy (sm_Pv zx_sy (xw x))) (if (S.1 q1 1) ≤ v6 then (if sm_in (v3 + (S.1 q1 1)) (zx_sy.1 q2).2 = true then sm_lt (sm_sI S q2 (v3 + (S.1 q1 1)).toNatClampNeg (v4.toInt32)) (fun (S_12 : sm_St) => some S_12) else none) else (if sm_in v6 20 = true then (sm_lt ((S.2.1 (p + 2) v6.toNatClampNeg) + v4) (fun (v7_13 : Int64) => if sm_in (v3 + v6) (zx_sy.1 q2).2 = true then sm_lt (sm_sI S q2 (v3 + v6).toNatClampNeg ((v7_13 &&& (1073741823 : Int64)).toInt32)) (fun (S_14 : sm_St) => sm_lt (v7_13 >>> ((30 : Int32).toInt64 &&& 63)) (fun (v4_15 : Int64) => sm_lt (v6 + (1 : Int32)) (fun (v6_16 : Int32) => (px_Sum_write_b108 N p q1 q2 n) v3 v4_15 v6_16 S_14))) else none)) else none)) S 108 [(0, .ref ((xw x).2.2 p)), (1, .ref ((xw x).2.2 q1)), (2, .ref ((xw x).2.2 q2)), (3, .int v3), (4, .long v4), (6, .int v6)] []
    refine sm_iload (pc := 108) 5 ok dx_Sum_write_108 rfl ?_
    refine sm_aload_n (pc := 110) 1 ok dx_Sum_write_110 rfl ?_
    refine sm_getI (pc := 111) (ci := 6) (k := 1) ok dx_Sum_write_111 hq1 rfl zc_i6 (by decide) rfl wd_151 ?_
    refine sm_icmp_ge (pc := 114) 155 ok dx_Sum_write_114 (by decide) (fun _ => ?_) (fun _ => ?_)
    · refine sm_aload_n (pc := 155) 2 ok dx_Sum_write_155 rfl ?_
      refine sm_iload_n (pc := 156) 3 ok dx_Sum_write_156 rfl ?_
      refine sm_aload_n (pc := 157) 1 ok dx_Sum_write_157 rfl ?_
      refine sm_getI (pc := 158) (ci := 6) (k := 1) ok dx_Sum_write_158 hq1 rfl zc_i6 (by decide) rfl wd_151 ?_
      refine sm_iadd (pc := 161) ok dx_Sum_write_161 ?_
      refine sm_lload (pc := 162) 4 ok dx_Sum_write_162 rfl ?_
      refine sm_l2i (pc := 164) ok dx_Sum_write_164 ?_
      refine sm_iast (pc := 165) ok dx_Sum_write_165 (sm_sh0 hq2) (fun S_12 => ?_)
      exact sm_vret (pc := 166) ok dx_Sum_write_166 hr
    · refine sm_aload_n (pc := 117) 0 ok dx_Sum_write_117 rfl ?_
      refine sm_getR (pc := 118) (ci := 7) (k := 1) ok dx_Sum_write_118 hp rfl zc_i7 (by decide) rfl wd_291 ?_
      refine sm_iload (pc := 121) 5 ok dx_Sum_write_121 rfl ?_
      refine sm_lald (pc := 123) ok dx_Sum_write_123 (zx_Sum_2 hp) ?_
      refine sm_lload (pc := 124) 4 ok dx_Sum_write_124 rfl ?_
      refine sm_ladd (pc := 126) ok dx_Sum_write_126 ?_
      refine sm_lstore (pc := 127) (i := 7) ok dx_Sum_write_127 (by decide) (fun v => [(7, .long v), (0, .ref ((xw x).2.2 p)), (1, .ref ((xw x).2.2 q1)), (2, .ref ((xw x).2.2 q2)), (3, .int v3), (4, .long v4), (6, .int v6)]) (fun _ => rfl) (fun v7_13 => ?_)
      refine sm_aload_n (pc := 129) 3 ok dx_Sum_write_129 rfl ?_
      refine sm_iload_n (pc := 130) 4 ok dx_Sum_write_130 rfl ?_
      refine sm_iload (pc := 131) 6 ok dx_Sum_write_131 rfl ?_
      refine sm_iadd (pc := 133) ok dx_Sum_write_133 ?_
      refine sm_lload (pc := 134) 0 ok dx_Sum_write_134 rfl ?_
      refine sm_ldc2 (pc := 136) ok dx_Sum_write_136 wd_678 ?_
      refine sm_land (pc := 139) ok dx_Sum_write_139 ?_
      refine sm_l2i (pc := 140) ok dx_Sum_write_140 ?_
      refine sm_iast (pc := 141) ok dx_Sum_write_141 (sm_sh0 hq2) (fun S_14 => ?_)
      refine sm_lload (pc := 142) 0 ok dx_Sum_write_142 rfl ?_
      refine sm_bipush (pc := 144) (30 : Int32) ok dx_Sum_write_144 zb_30 ?_
      refine sm_lshr (pc := 146) ok dx_Sum_write_146 ?_
      refine sm_lstore (pc := 147) (i := 4) ok dx_Sum_write_147 (by decide) (fun v => [(4, .long v), (7, .long v7_13), (0, .ref ((xw x).2.2 p)), (1, .ref ((xw x).2.2 q1)), (2, .ref ((xw x).2.2 q2)), (3, .int v3), (6, .int v6)]) (fun _ => rfl) (fun v4_15 => ?_)
      refine sm_iinc (pc := 149) (i := 6) 6 (1 : Int32) ok dx_Sum_write_149 rfl zk_1 (by decide) (fun v => [(6, .int v), (4, .long v4_15), (7, .long v7_13), (0, .ref ((xw x).2.2 p)), (1, .ref ((xw x).2.2 q1)), (2, .ref ((xw x).2.2 q2)), (3, .int v3)]) (fun _ => rfl) (fun v6_16 => ?_)
      refine sm_goto (pc := 152) 108 ok dx_Sum_write_152 (by decide) ?_
      refine sm_lv [3, 4, 5, 6, 1, 0] rfl ?_
      exact ih _ _ _ _
set_option maxHeartbeats 4000000 in
set_option maxRecDepth 20000 in
theorem tx_Sum_write_b96 {x : sm_Cx} (ok : sm_Ok x zx_sy prog_9_method_3_code "LentShades$Sum" 9 0 0) (hr : (xh x).sig.returnType = none) (N : Nat) (p : Nat) (q1 : Nat) (q2 : Nat) (hp : zx_sy.1 p = (17, 0)) (hq1 : zx_sy.1 q1 = (16, 0)) (hq2 : (zx_sy.1 q2).1 = 0) {r29 : Int32 → Int32 → sm_St → Option (sm_St)} (h29 : ∀ (v3 : Int32) (v4 : Int32) (S : sm_St), sm_Sm x zx_sy prog_9_method_3_code (sm_Q x zx_sy (sm_Pv zx_sy (xw x))) (r29 v3 v4 S) S 29 [(0, .ref ((xw x).2.2 p)), (1, .ref ((xw x).2.2 q1)), (2, .ref ((xw x).2.2 q2)), (3, .int v3), (4, .int v4)] []) (v3 : Int32) (v4 : Int32) (S : sm_St) : sm_Sm x zx_sy prog_9_method_3_code (sm_Q x zx_sy (sm_Pv zx_sy (xw x))) (px_Sum_write_b96 N p q1 q2 r29 v3 v4 S) S 96 [(0, .ref ((xw x).2.2 p)), (1, .ref ((xw x).2.2 q1)), (2, .ref ((xw x).2.2 q2)), (3, .int v3), (4, .int v4)] [] := by
  unfold px_Sum_write_b96
  refine sm_iinc (pc := 96) (i := 4) 4 (1 : Int32) ok dx_Sum_write_96 rfl zk_1 (by decide) (fun v => [(4, .int v), (0, .ref ((xw x).2.2 p)), (1, .ref ((xw x).2.2 q1)), (2, .ref ((xw x).2.2 q2)), (3, .int v3)]) (fun _ => rfl) (fun v4_11 => ?_)
  refine sm_goto (pc := 99) 29 ok dx_Sum_write_99 (by decide) ?_
  refine sm_lv [1, 2, 3, 4, 0] rfl ?_
  exact h29 _ _ _
set_option maxHeartbeats 4000000 in
set_option maxRecDepth 20000 in
theorem tx_Sum_write_b47 {x : sm_Cx} (ok : sm_Ok x zx_sy prog_9_method_3_code "LentShades$Sum" 9 0 0) (hr : (xh x).sig.returnType = none) (N : Nat) (p : Nat) (q1 : Nat) (q2 : Nat) (hp : zx_sy.1 p = (17, 0)) (hq1 : zx_sy.1 q1 = (16, 0)) (hq2 : (zx_sy.1 q2).1 = 0) {r29 : Int32 → Int32 → sm_St → Option (sm_St)} (h29 : ∀ (v3 : Int32) (v4 : Int32) (S : sm_St), sm_Sm x zx_sy prog_9_method_3_code (sm_Q x zx_sy (sm_Pv zx_sy (xw x))) (r29 v3 v4 S) S 29 [(0, .ref ((xw x).2.2 p)), (1, .ref ((xw x).2.2 q1)), (2, .ref ((xw x).2.2 q2)), (3, .int v3), (4, .int v4)] []) : ∀ (n : Nat) (v3 : Int32) (v4 : Int32) (v5 : Int64) (v7 : Int32) (S : sm_St), sm_Sm x zx_sy prog_9_method_3_code (sm_Q x zx_sy (sm_Pv zx_sy (xw x))) (px_Sum_write_b47 N p q1 q2 r29 n v3 v4 v5 v7 S) S 47 [(0, .ref ((xw x).2.2 p)), (1, .ref ((xw x).2.2 q1)), (2, .ref ((xw x).2.2 q2)), (3, .int v3), (4, .int v4), (5, .long v5), (7, .int v7)] [] := by
  intro n
  induction n with
  | zero =>
    intro v3 v4 v5 v7 S
    exact sm_none
  | succ n ih =>
    intro v3 v4 v5 v7 S
    show sm_Sm x zx_sy prog_9_method_3_code (sm_Q x zx_sy (sm_Pv zx_sy (xw x))) (if v5 = (0 : Int64) then (px_Sum_write_b96 N p q1 q2 r29 v3 v4 S) else (if (S.1 q1 1) ≤ v7 then (px_Sum_write_b96 N p q1 q2 r29 v3 v4 S) else (if sm_in v7 20 = true then (if sm_in ((v4 * (20 : Int32)) + v7) 100 = true then (if sm_in v7 20 = true then sm_lt (sm_sL S (p + 2) v7.toNatClampNeg ((S.2.1 (p + 2) v7.toNatClampNeg) + (v5 * (S.1 (q1 + 1) ((v4 * (20 : Int32)) + v7).toNatClampNeg).toInt64))) (fun (S_9 : sm_St) => sm_lt (v7 + (1 : Int32)) (fun (v7_10 : Int32) => (px_Sum_write_b47 N p q1 q2 r29 n) v3 v4 v5 v7_10 S_9)) else none) else none) else none))) S 47 [(0, .ref ((xw x).2.2 p)), (1, .ref ((xw x).2.2 q1)), (2, .ref ((xw x).2.2 q2)), (3, .int v3), (4, .int v4), (5, .long v5), (7, .int v7)] []
    refine sm_lload (pc := 47) 5 ok dx_Sum_write_47 rfl ?_
    refine sm_lconst (pc := 49) (0 : Int64) ok dx_Sum_write_49 zl_0 ?_
    refine sm_lif_eq (pc := 50) 96 ok dx_Sum_write_50 dx_Sum_write_51 (by decide) (fun _ => ?_) (fun _ => ?_)
    · refine sm_lv [0, 1, 2, 3, 4] rfl ?_
      exact tx_Sum_write_b96 ok hr N p q1 q2 hp hq1 hq2 h29 _ _ _
    · refine sm_iload (pc := 54) 6 ok dx_Sum_write_54 rfl ?_
      refine sm_aload_n (pc := 56) 1 ok dx_Sum_write_56 rfl ?_
      refine sm_getI (pc := 57) (ci := 6) (k := 1) ok dx_Sum_write_57 hq1 rfl zc_i6 (by decide) rfl wd_151 ?_
      refine sm_icmp_ge (pc := 60) 96 ok dx_Sum_write_60 (by decide) (fun _ => ?_) (fun _ => ?_)
      · refine sm_lv [0, 1, 2, 3, 4] rfl ?_
        exact tx_Sum_write_b96 ok hr N p q1 q2 hp hq1 hq2 h29 _ _ _
      · refine sm_aload_n (pc := 63) 0 ok dx_Sum_write_63 rfl ?_
        refine sm_getR (pc := 64) (ci := 7) (k := 1) ok dx_Sum_write_64 hp rfl zc_i7 (by decide) rfl wd_291 ?_
        refine sm_iload (pc := 67) 6 ok dx_Sum_write_67 rfl ?_
        refine sm_dup2 (pc := 69) ok dx_Sum_write_69 rfl rfl ?_
        refine sm_lald (pc := 70) ok dx_Sum_write_70 (zx_Sum_2 hp) ?_
        refine sm_lload (pc := 71) 5 ok dx_Sum_write_71 rfl ?_
        refine sm_aload_n (pc := 73) 1 ok dx_Sum_write_73 rfl ?_
        refine sm_getR (pc := 74) (ci := 6) (k := 0) ok dx_Sum_write_74 hq1 rfl zc_i6 (by decide) rfl wd_147 ?_
        refine sm_iload (pc := 77) 4 ok dx_Sum_write_77 rfl ?_
        refine sm_bipush (pc := 79) (20 : Int32) ok dx_Sum_write_79 zb_20 ?_
        refine sm_imul (pc := 81) ok dx_Sum_write_81 ?_
        refine sm_iload (pc := 82) 6 ok dx_Sum_write_82 rfl ?_
        refine sm_iadd (pc := 84) ok dx_Sum_write_84 ?_
        refine sm_iald (pc := 85) ok dx_Sum_write_85 (zx_Shades_1 hq1) ?_
        refine sm_i2l (pc := 86) ok dx_Sum_write_86 ?_
        refine sm_lmul (pc := 87) ok dx_Sum_write_87 ?_
        refine sm_ladd (pc := 88) ok dx_Sum_write_88 ?_
        refine sm_last (pc := 89) ok dx_Sum_write_89 (zx_Sum_2 hp) (fun S_9 => ?_)
        refine sm_iinc (pc := 90) (i := 7) 6 (1 : Int32) ok dx_Sum_write_90 rfl zk_1 (by decide) (fun v => [(7, .int v), (0, .ref ((xw x).2.2 p)), (1, .ref ((xw x).2.2 q1)), (2, .ref ((xw x).2.2 q2)), (3, .int v3), (4, .int v4), (5, .long v5)]) (fun _ => rfl) (fun v7_10 => ?_)
        refine sm_goto (pc := 93) 47 ok dx_Sum_write_93 (by decide) ?_
        refine sm_lv [1, 2, 3, 4, 5, 6, 0] rfl ?_
        exact ih _ _ _ _ _
set_option maxHeartbeats 4000000 in
set_option maxRecDepth 20000 in
theorem tx_Sum_write_b29 {x : sm_Cx} (ok : sm_Ok x zx_sy prog_9_method_3_code "LentShades$Sum" 9 0 0) (hr : (xh x).sig.returnType = none) (N : Nat) (p : Nat) (q1 : Nat) (q2 : Nat) (hp : zx_sy.1 p = (17, 0)) (hq1 : zx_sy.1 q1 = (16, 0)) (hq2 : (zx_sy.1 q2).1 = 0) : ∀ (n : Nat) (v3 : Int32) (v4 : Int32) (S : sm_St), sm_Sm x zx_sy prog_9_method_3_code (sm_Q x zx_sy (sm_Pv zx_sy (xw x))) (px_Sum_write_b29 N p q1 q2 n v3 v4 S) S 29 [(0, .ref ((xw x).2.2 p)), (1, .ref ((xw x).2.2 q1)), (2, .ref ((xw x).2.2 q2)), (3, .int v3), (4, .int v4)] [] := by
  intro n
  induction n with
  | zero =>
    intro v3 v4 S
    exact sm_none
  | succ n ih =>
    intro v3 v4 S
    show sm_Sm x zx_sy prog_9_method_3_code (sm_Q x zx_sy (sm_Pv zx_sy (xw x))) (if (5 : Int32) ≤ v4 then (sm_lt (0 : Int64) (fun (v4_5 : Int64) => sm_lt (0 : Int32) (fun (v6_6 : Int32) => px_Sum_write_b108 N p q1 q2 N v3 v4_5 v6_6 S))) else (if sm_in v4 5 = true then (sm_lt (S.2.1 (p + 1) v4.toNatClampNeg) (fun (v5_7 : Int64) => sm_lt (0 : Int32) (fun (v7_8 : Int32) => px_Sum_write_b47 N p q1 q2 (px_Sum_write_b29 N p q1 q2 n) N v3 v4 v5_7 v7_8 S))) else none)) S 29 [(0, .ref ((xw x).2.2 p)), (1, .ref ((xw x).2.2 q1)), (2, .ref ((xw x).2.2 q2)), (3, .int v3), (4, .int v4)] []
    refine sm_iload (pc := 29) 4 ok dx_Sum_write_29 rfl ?_
    refine sm_iconst (pc := 31) (5 : Int32) ok dx_Sum_write_31 zk_5 ?_
    refine sm_icmp_ge (pc := 32) 102 ok dx_Sum_write_32 (by decide) (fun _ => ?_) (fun _ => ?_)
    · refine sm_lconst (pc := 102) (0 : Int64) ok dx_Sum_write_102 zl_0 ?_
      refine sm_lstore (pc := 103) (i := 4) ok dx_Sum_write_103 (by decide) (fun v => [(4, .long v), (0, .ref ((xw x).2.2 p)), (1, .ref ((xw x).2.2 q1)), (2, .ref ((xw x).2.2 q2)), (3, .int v3)]) (fun _ => rfl) (fun v4_5 => ?_)
      refine sm_iconst (pc := 105) (0 : Int32) ok dx_Sum_write_105 zk_0 ?_
      refine sm_istore (pc := 106) (i := 6) ok dx_Sum_write_106 (by decide) (fun v => [(6, .int v), (4, .long v4_5), (0, .ref ((xw x).2.2 p)), (1, .ref ((xw x).2.2 q1)), (2, .ref ((xw x).2.2 q2)), (3, .int v3)]) (fun _ => rfl) (fun v6_6 => ?_)
      refine sm_lv [2, 3, 4, 5, 1, 0] rfl ?_
      exact tx_Sum_write_b108 ok hr N p q1 q2 hp hq1 hq2 N _ _ _ _
    · refine sm_aload_n (pc := 35) 0 ok dx_Sum_write_35 rfl ?_
      refine sm_getR (pc := 36) (ci := 7) (k := 0) ok dx_Sum_write_36 hp rfl zc_i7 (by decide) rfl wd_286 ?_
      refine sm_iload (pc := 39) 4 ok dx_Sum_write_39 rfl ?_
      refine sm_lald (pc := 41) ok dx_Sum_write_41 (zx_Sum_1 hp) ?_
      refine sm_lstore (pc := 42) (i := 5) ok dx_Sum_write_42 (by decide) (fun v => [(5, .long v), (0, .ref ((xw x).2.2 p)), (1, .ref ((xw x).2.2 q1)), (2, .ref ((xw x).2.2 q2)), (3, .int v3), (4, .int v4)]) (fun _ => rfl) (fun v5_7 => ?_)
      refine sm_iconst (pc := 44) (0 : Int32) ok dx_Sum_write_44 zk_0 ?_
      refine sm_istore (pc := 45) (i := 7) ok dx_Sum_write_45 (by decide) (fun v => [(7, .int v), (5, .long v5_7), (0, .ref ((xw x).2.2 p)), (1, .ref ((xw x).2.2 q1)), (2, .ref ((xw x).2.2 q2)), (3, .int v3), (4, .int v4)]) (fun _ => rfl) (fun v7_8 => ?_)
      refine sm_lv [2, 3, 4, 5, 6, 1, 0] rfl ?_
      exact tx_Sum_write_b47 ok hr N p q1 q2 hp hq1 hq2 ih N _ _ _ _ _
set_option maxHeartbeats 4000000 in
set_option maxRecDepth 20000 in
theorem tx_Sum_write_b3 {x : sm_Cx} (ok : sm_Ok x zx_sy prog_9_method_3_code "LentShades$Sum" 9 0 0) (hr : (xh x).sig.returnType = none) (N : Nat) (p : Nat) (q1 : Nat) (q2 : Nat) (hp : zx_sy.1 p = (17, 0)) (hq1 : zx_sy.1 q1 = (16, 0)) (hq2 : (zx_sy.1 q2).1 = 0) : ∀ (n : Nat) (v3 : Int32) (v4 : Int32) (S : sm_St), sm_Sm x zx_sy prog_9_method_3_code (sm_Q x zx_sy (sm_Pv zx_sy (xw x))) (px_Sum_write_b3 N p q1 q2 n v3 v4 S) S 3 [(0, .ref ((xw x).2.2 p)), (1, .ref ((xw x).2.2 q1)), (2, .ref ((xw x).2.2 q2)), (3, .int v3), (4, .int v4)] [] := by
  intro n
  induction n with
  | zero =>
    intro v3 v4 S
    exact sm_none
  | succ n ih =>
    intro v3 v4 S
    show sm_Sm x zx_sy prog_9_method_3_code (sm_Q x zx_sy (sm_Pv zx_sy (xw x))) (if (S.1 q1 1) ≤ v4 then (sm_lt (0 : Int32) (fun (v4_2 : Int32) => px_Sum_write_b29 N p q1 q2 N v3 v4_2 S)) else (if sm_in v4 20 = true then sm_lt (sm_sL S (p + 2) v4.toNatClampNeg (0 : Int64)) (fun (S_3 : sm_St) => sm_lt (v4 + (1 : Int32)) (fun (v4_4 : Int32) => (px_Sum_write_b3 N p q1 q2 n) v3 v4_4 S_3)) else none)) S 3 [(0, .ref ((xw x).2.2 p)), (1, .ref ((xw x).2.2 q1)), (2, .ref ((xw x).2.2 q2)), (3, .int v3), (4, .int v4)] []
    refine sm_iload (pc := 3) 4 ok dx_Sum_write_3 rfl ?_
    refine sm_aload_n (pc := 5) 1 ok dx_Sum_write_5 rfl ?_
    refine sm_getI (pc := 6) (ci := 6) (k := 1) ok dx_Sum_write_6 hq1 rfl zc_i6 (by decide) rfl wd_151 ?_
    refine sm_icmp_ge (pc := 9) 26 ok dx_Sum_write_9 (by decide) (fun _ => ?_) (fun _ => ?_)
    · refine sm_iconst (pc := 26) (0 : Int32) ok dx_Sum_write_26 zk_0 ?_
      refine sm_istore (pc := 27) (i := 4) ok dx_Sum_write_27 (by decide) (fun v => [(4, .int v), (0, .ref ((xw x).2.2 p)), (1, .ref ((xw x).2.2 q1)), (2, .ref ((xw x).2.2 q2)), (3, .int v3)]) (fun _ => rfl) (fun v4_2 => ?_)
      refine sm_lv [1, 2, 3, 4, 0] rfl ?_
      exact tx_Sum_write_b29 ok hr N p q1 q2 hp hq1 hq2 N _ _ _
    · refine sm_aload_n (pc := 12) 0 ok dx_Sum_write_12 rfl ?_
      refine sm_getR (pc := 13) (ci := 7) (k := 1) ok dx_Sum_write_13 hp rfl zc_i7 (by decide) rfl wd_291 ?_
      refine sm_iload (pc := 16) 4 ok dx_Sum_write_16 rfl ?_
      refine sm_lconst (pc := 18) (0 : Int64) ok dx_Sum_write_18 zl_0 ?_
      refine sm_last (pc := 19) ok dx_Sum_write_19 (zx_Sum_2 hp) (fun S_3 => ?_)
      refine sm_iinc (pc := 20) (i := 4) 4 (1 : Int32) ok dx_Sum_write_20 rfl zk_1 (by decide) (fun v => [(4, .int v), (0, .ref ((xw x).2.2 p)), (1, .ref ((xw x).2.2 q1)), (2, .ref ((xw x).2.2 q2)), (3, .int v3)]) (fun _ => rfl) (fun v4_4 => ?_)
      refine sm_goto (pc := 23) 3 ok dx_Sum_write_23 (by decide) ?_
      refine sm_lv [1, 2, 3, 4, 0] rfl ?_
      exact ih _ _ _
set_option maxHeartbeats 4000000 in
set_option maxRecDepth 20000 in
theorem tx_Sum_write {x : sm_Cx} (ok : sm_Ok x zx_sy prog_9_method_3_code "LentShades$Sum" 9 0 0) (hr : (xh x).sig.returnType = none) (N : Nat) (S : sm_St) (p : Nat) (q1 : Nat) (q2 : Nat) (v3 : Int32) (hp : zx_sy.1 p = (17, 0)) (hq1 : zx_sy.1 q1 = (16, 0)) (hq2 : (zx_sy.1 q2).1 = 0) : sm_Sm x zx_sy prog_9_method_3_code (sm_Q x zx_sy (sm_Pv zx_sy (xw x))) (px_Sum_write N S p q1 q2 v3) S 0 [(0, .ref ((xw x).2.2 p)), (1, .ref ((xw x).2.2 q1)), (2, .ref ((xw x).2.2 q2)), (3, .int v3)] [] := by
  unfold px_Sum_write
  refine sm_iconst (pc := 0) (0 : Int32) ok dx_Sum_write_0 zk_0 ?_
  refine sm_istore (pc := 1) (i := 4) ok dx_Sum_write_1 (by decide) (fun v => [(4, .int v), (0, .ref ((xw x).2.2 p)), (1, .ref ((xw x).2.2 q1)), (2, .ref ((xw x).2.2 q2)), (3, .int v3)]) (fun _ => rfl) (fun v4_1 => ?_)
  refine sm_lv [1, 2, 3, 4, 0] rfl ?_
  exact tx_Sum_write_b3 ok hr N p q1 q2 hp hq1 hq2 N _ _ _
theorem cx_Sum_write {l : Launch} {wc : sm_Wc} (hj : sm_inj zx_sy wc) (N : Nat) (S : sm_St) (p : Nat) (q1 : Nat) (q2 : Nat) (v3 : Int32) (hp : zx_sy.1 p = (17, 0)) (hq1 : zx_sy.1 q1 = (16, 0)) (hq2 : (zx_sy.1 q2).1 = 0) : sm_Ct l zx_sy wc yx_Sum_write prog_9_method_3_code 9 none 0 0 [.ref (wc.2.2 p), .ref (wc.2.2 q1), .ref (wc.2.2 q2), .int v3] S (sm_Pv zx_sy wc) (px_Sum_write N S p q1 q2 v3) :=
  sm_entry (Pq := fun wc => sm_Pv zx_sy wc) (fun wc => [.ref (wc.2.2 p), .ref (wc.2.2 q1), .ref (wc.2.2 q2), .int v3]) (lv := fun wc => [(0, .ref (wc.2.2 p)), (1, .ref (wc.2.2 q1)), (2, .ref (wc.2.2 q2)), (3, .int v3)]) (by decide) hj zx_ok zx_stb (fun _ => Nat.le_of_ble_eq_true rfl) (fun _ => rfl) (fun x _ ok hr => tx_Sum_write ok hr N S p q1 q2 v3 hp hq1 hq2)
set_option maxHeartbeats 4000000 in
set_option maxRecDepth 20000 in
theorem tx_Shades_settle_b67 {x : sm_Cx} (ok : sm_Ok x zx_sy prog_8_method_8_code "LentShades$Shades" 5 0 0) (hr : (xh x).sig.returnType = none) (N : Nat) (p : Nat) (hp : zx_sy.1 p = (16, 0)) (s1 : Int32) (S : sm_St) : sm_Sm x zx_sy prog_8_method_8_code (sm_Q x zx_sy (sm_Pv zx_sy (xw x))) (px_Shades_settle_b67 N p s1 S) S 67 [] [.int s1, .ref ((xw x).2.2 p)] := by
  unfold px_Shades_settle_b67
  refine sm_putI (pc := 67) (ci := 6) (k := 1) ok dx_Shades_settle_67 hp rfl zc_i6 zc_y6 zc_t6 zc_n6 (by decide) rfl rfl rfl wd_149 (fun S_3 => ?_)
  exact sm_vret (pc := 70) ok dx_Shades_settle_70 hr
set_option maxHeartbeats 4000000 in
set_option maxRecDepth 20000 in
theorem tx_Shades_settle_b66 {x : sm_Cx} (ok : sm_Ok x zx_sy prog_8_method_8_code "LentShades$Shades" 5 0 0) (hr : (xh x).sig.returnType = none) (N : Nat) (p : Nat) (hp : zx_sy.1 p = (16, 0)) (v1 : Int32) (S : sm_St) : sm_Sm x zx_sy prog_8_method_8_code (sm_Q x zx_sy (sm_Pv zx_sy (xw x))) (px_Shades_settle_b66 N p v1 S) S 66 [(1, .int v1)] [.ref ((xw x).2.2 p)] := by
  unfold px_Shades_settle_b66
  refine sm_iload_n (pc := 66) 0 ok dx_Shades_settle_66 rfl ?_
  refine sm_lv [] rfl ?_
  exact tx_Shades_settle_b67 ok hr N p hp _ _
set_option maxHeartbeats 4000000 in
set_option maxRecDepth 20000 in
theorem tx_Shades_settle_b44 {x : sm_Cx} (ok : sm_Ok x zx_sy prog_8_method_8_code "LentShades$Shades" 5 0 0) (hr : (xh x).sig.returnType = none) (N : Nat) (p : Nat) (hp : zx_sy.1 p = (16, 0)) (v1 : Int32) (s0 : Int32) (S : sm_St) : sm_Sm x zx_sy prog_8_method_8_code (sm_Q x zx_sy (sm_Pv zx_sy (xw x))) (px_Shades_settle_b44 N p v1 s0 S) S 44 [(0, .ref ((xw x).2.2 p)), (1, .int v1)] [.int s0] := by
  unfold px_Shades_settle_b44
  refine sm_istore (pc := 44) (i := 4) ok dx_Shades_settle_44 (by decide) (fun v => [(4, .int v), (0, .ref ((xw x).2.2 p)), (1, .int v1)]) (fun _ => rfl) (fun v4_2 => ?_)
  refine sm_aload_n (pc := 46) 1 ok dx_Shades_settle_46 rfl ?_
  refine sm_iload (pc := 47) 0 ok dx_Shades_settle_47 rfl ?_
  refine sm_if_eq (pc := 49) 66 ok dx_Shades_settle_49 (by decide) (fun _ => ?_) (fun _ => ?_)
  · refine sm_lv [2] rfl ?_
    exact tx_Shades_settle_b66 ok hr N p hp _ _
  · refine sm_iload_n (pc := 52) 2 ok dx_Shades_settle_52 rfl ?_
    refine sm_iconst (pc := 53) (1 : Int32) ok dx_Shades_settle_53 zk_1 ?_
    refine sm_iadd (pc := 54) ok dx_Shades_settle_54 ?_
    refine sm_bipush (pc := 55) (20 : Int32) ok dx_Shades_settle_55 zb_20 ?_
    refine sm_icmp_ge (pc := 57) 66 ok dx_Shades_settle_57 (by decide) (fun _ => ?_) (fun _ => ?_)
    · refine sm_lv [2] rfl ?_
      exact tx_Shades_settle_b66 ok hr N p hp _ _
    · refine sm_iload_n (pc := 60) 2 ok dx_Shades_settle_60 rfl ?_
      refine sm_iconst (pc := 61) (1 : Int32) ok dx_Shades_settle_61 zk_1 ?_
      refine sm_iadd (pc := 62) ok dx_Shades_settle_62 ?_
      refine sm_goto (pc := 63) 67 ok dx_Shades_settle_63 (by decide) ?_
      refine sm_lv [] rfl ?_
      exact tx_Shades_settle_b67 ok hr N p hp _ _
set_option maxHeartbeats 4000000 in
set_option maxRecDepth 20000 in
theorem tx_Shades_settle_b39 {x : sm_Cx} (ok : sm_Ok x zx_sy prog_8_method_8_code "LentShades$Shades" 5 0 0) (hr : (xh x).sig.returnType = none) (N : Nat) (p : Nat) (hp : zx_sy.1 p = (16, 0)) (v1 : Int32) (S : sm_St) : sm_Sm x zx_sy prog_8_method_8_code (sm_Q x zx_sy (sm_Pv zx_sy (xw x))) (px_Shades_settle_b39 N p v1 S) S 39 [(0, .ref ((xw x).2.2 p)), (1, .int v1)] [] := by
  unfold px_Shades_settle_b39
  refine sm_iconst (pc := 39) (1 : Int32) ok dx_Shades_settle_39 zk_1 ?_
  refine sm_goto (pc := 40) 44 ok dx_Shades_settle_40 (by decide) ?_
  exact tx_Shades_settle_b44 ok hr N p hp _ _ _
set_option maxHeartbeats 4000000 in
set_option maxRecDepth 20000 in
theorem tx_Shades_settle {x : sm_Cx} (ok : sm_Ok x zx_sy prog_8_method_8_code "LentShades$Shades" 5 0 0) (hr : (xh x).sig.returnType = none) (N : Nat) (S : sm_St) (p : Nat) (v1 : Int32) (hp : zx_sy.1 p = (16, 0)) : sm_Sm x zx_sy prog_8_method_8_code (sm_Q x zx_sy (sm_Pv zx_sy (xw x))) (px_Shades_settle N S p v1) S 0 [(0, .ref ((xw x).2.2 p)), (1, .int v1)] [] := by
  unfold px_Shades_settle
  refine sm_aload_n (pc := 0) 0 ok dx_Shades_settle_0 rfl ?_
  refine sm_getR (pc := 1) (ci := 6) (k := 0) ok dx_Shades_settle_1 hp rfl zc_i6 (by decide) rfl wd_146 ?_
  refine sm_bipush (pc := 4) (80 : Int32) ok dx_Shades_settle_4 zb_80 ?_
  refine sm_iload_n (pc := 6) 1 ok dx_Shades_settle_6 rfl ?_
  refine sm_iadd (pc := 7) ok dx_Shades_settle_7 ?_
  refine sm_iconst (pc := 8) (1 : Int32) ok dx_Shades_settle_8 zk_1 ?_
  refine sm_isub (pc := 9) ok dx_Shades_settle_9 ?_
  refine sm_iald (pc := 10) ok dx_Shades_settle_10 (zx_Shades_1 hp) ?_
  refine sm_i2l (pc := 11) ok dx_Shades_settle_11 ?_
  refine sm_lconst (pc := 12) (1 : Int64) ok dx_Shades_settle_12 zl_1 ?_
  refine sm_ladd (pc := 13) ok dx_Shades_settle_13 ?_
  refine sm_lstore_n (pc := 14) (i := 2) ok dx_Shades_settle_14 rfl (by decide) (fun v => [(2, .long v), (0, .ref ((xw x).2.2 p)), (1, .int v1)]) (fun _ => rfl) (fun v2_1 => ?_)
  refine sm_aload_n (pc := 15) 1 ok dx_Shades_settle_15 rfl ?_
  refine sm_getR (pc := 16) (ci := 6) (k := 0) ok dx_Shades_settle_16 hp rfl zc_i6 (by decide) rfl wd_146 ?_
  refine sm_bipush (pc := 19) (80 : Int32) ok dx_Shades_settle_19 zb_80 ?_
  refine sm_iload_n (pc := 21) 2 ok dx_Shades_settle_21 rfl ?_
  refine sm_iadd (pc := 22) ok dx_Shades_settle_22 ?_
  refine sm_iald (pc := 23) ok dx_Shades_settle_23 (zx_Shades_1 hp) ?_
  refine sm_if_ne (pc := 24) 39 ok dx_Shades_settle_24 (by decide) (fun _ => ?_) (fun _ => ?_)
  · refine sm_lv [1, 2] rfl ?_
    exact tx_Shades_settle_b39 ok hr N p hp _ _
  · refine sm_lload_n (pc := 27) 0 ok dx_Shades_settle_27 rfl ?_
    refine sm_ldc2 (pc := 28) ok dx_Shades_settle_28 wd_683 ?_
    refine sm_lmul (pc := 31) ok dx_Shades_settle_31 ?_
    refine sm_ldc2 (pc := 32) ok dx_Shades_settle_32 wd_684 ?_
    refine sm_lif_le (pc := 35) 43 ok dx_Shades_settle_35 dx_Shades_settle_36 (by decide) (fun _ => ?_) (fun _ => ?_)
    · refine sm_iconst (pc := 43) (0 : Int32) ok dx_Shades_settle_43 zk_0 ?_
      refine sm_lv [1, 2] rfl ?_
      exact tx_Shades_settle_b44 ok hr N p hp _ _ _
    · refine sm_lv [1, 2] rfl ?_
      exact tx_Shades_settle_b39 ok hr N p hp _ _
theorem cx_Shades_settle {l : Launch} {wc : sm_Wc} (hj : sm_inj zx_sy wc) (N : Nat) (S : sm_St) (p : Nat) (v1 : Int32) (hp : zx_sy.1 p = (16, 0)) : sm_Ct l zx_sy wc yx_Shades_settle prog_8_method_8_code 5 none 0 0 [.ref (wc.2.2 p), .int v1] S (sm_Pv zx_sy wc) (px_Shades_settle N S p v1) :=
  sm_entry (Pq := fun wc => sm_Pv zx_sy wc) (fun wc => [.ref (wc.2.2 p), .int v1]) (lv := fun wc => [(0, .ref (wc.2.2 p)), (1, .int v1)]) (by decide) hj zx_ok zx_stb (fun _ => Nat.le_of_ble_eq_true rfl) (fun _ => rfl) (fun x _ ok hr => tx_Shades_settle ok hr N S p v1 hp)
set_option maxHeartbeats 4000000 in
set_option maxRecDepth 20000 in
theorem tx_Takings_takeMean_b45 {x : sm_Cx} (ok : sm_Ok x zx_sy prog_10_method_7_code "LentShades$Takings" 4 1 21) (hr : (xh x).sig.returnType = none) (N : Nat) : ∀ (n : Nat) (v1 : Int32) (v2 : Int32) (v3 : Int32) (S : sm_St), sm_Sm x zx_sy prog_10_method_7_code (sm_Q x zx_sy (sm_Pv zx_sy (xw x))) (px_Takings_takeMean_b45 N n v1 v2 v3 S) S 45 [(0, .ref ((xw x).2.2 110)), (1, .int v1), (2, .int v2), (3, .int v3)] [] := by
  intro n
  induction n with
  | zero =>
    intro v1 v2 v3 S
    exact sm_none
  | succ n ih =>
    intro v1 v2 v3 S
    show sm_Sm x zx_sy prog_10_method_7_code (sm_Q x zx_sy (sm_Pv zx_sy (xw x))) (if (S.1 110 5) ≤ v3 then (if sm_in v1 4 = true then (if sm_in (4 : Int32) 5 = true then (if sm_in (4 : Int32) 5 = true then sm_lt (sm_sL S 112 (4 : Int32).toNatClampNeg (v2.toInt64 * (S.1 (115 + v1.toNatClampNeg) (4 : Int32).toNatClampNeg).toInt64)) (fun (S_6 : sm_St) => some S_6) else none) else none) else none) else (if sm_in v1 4 = true then (if sm_in v3 5 = true then (if sm_in v3 5 = true then sm_lt (sm_sL S 112 v3.toNatClampNeg (v2.toInt64 * (S.1 (115 + v1.toNatClampNeg) v3.toNatClampNeg).toInt64)) (fun (S_8 : sm_St) => sm_lt (v3 + (1 : Int32)) (fun (v3_9 : Int32) => (px_Takings_takeMean_b45 N n) v1 v2 v3_9 S_8)) else none) else none) else none)) S 45 [(0, .ref ((xw x).2.2 110)), (1, .int v1), (2, .int v2), (3, .int v3)] []
    refine sm_iload_n (pc := 45) 3 ok dx_Takings_takeMean_45 rfl ?_
    refine sm_aload_n (pc := 46) 0 ok dx_Takings_takeMean_46 rfl ?_
    refine sm_getI (pc := 47) (ci := 8) (k := 5) ok dx_Takings_takeMean_47 rfl rfl zc_i8 (by decide) rfl wd_316 ?_
    refine sm_icmp_ge (pc := 50) 80 ok dx_Takings_takeMean_50 (by decide) (fun _ => ?_) (fun _ => ?_)
    · refine sm_aload_n (pc := 80) 0 ok dx_Takings_takeMean_80 rfl ?_
      refine sm_getR (pc := 81) (ci := 8) (k := 0) ok dx_Takings_takeMean_81 rfl rfl zc_i8 (by decide) rfl wd_309 ?_
      refine sm_getR (pc := 84) (ci := 7) (k := 0) ok dx_Takings_takeMean_84 rfl rfl zc_i7 (by decide) rfl wd_289 ?_
      refine sm_iconst (pc := 87) (4 : Int32) ok dx_Takings_takeMean_87 zk_4 ?_
      refine sm_iload_n (pc := 88) 2 ok dx_Takings_takeMean_88 rfl ?_
      refine sm_i2l (pc := 89) ok dx_Takings_takeMean_89 ?_
      refine sm_aload_n (pc := 90) 0 ok dx_Takings_takeMean_90 rfl ?_
      refine sm_getR (pc := 91) (ci := 8) (k := 1) ok dx_Takings_takeMean_91 rfl rfl zc_i8 (by decide) rfl wd_310 ?_
      refine sm_iload_n (pc := 94) 1 ok dx_Takings_takeMean_94 rfl ?_
      refine sm_aald5 (pc := 95) ok dx_Takings_takeMean_95 rfl (fun hb_5 => ?_)
      refine sm_iconst (pc := 96) (4 : Int32) ok dx_Takings_takeMean_96 zk_4 ?_
      refine sm_iald (pc := 97) ok dx_Takings_takeMean_97 (zx_rows 114 4 5 (by decide) hb_5) ?_
      refine sm_i2l (pc := 98) ok dx_Takings_takeMean_98 ?_
      refine sm_lmul (pc := 99) ok dx_Takings_takeMean_99 ?_
      refine sm_last (pc := 100) ok dx_Takings_takeMean_100 rfl (fun S_6 => ?_)
      exact sm_vret (pc := 101) ok dx_Takings_takeMean_101 hr
    · refine sm_aload_n (pc := 53) 0 ok dx_Takings_takeMean_53 rfl ?_
      refine sm_getR (pc := 54) (ci := 8) (k := 0) ok dx_Takings_takeMean_54 rfl rfl zc_i8 (by decide) rfl wd_309 ?_
      refine sm_getR (pc := 57) (ci := 7) (k := 0) ok dx_Takings_takeMean_57 rfl rfl zc_i7 (by decide) rfl wd_289 ?_
      refine sm_iload_n (pc := 60) 3 ok dx_Takings_takeMean_60 rfl ?_
      refine sm_iload_n (pc := 61) 2 ok dx_Takings_takeMean_61 rfl ?_
      refine sm_i2l (pc := 62) ok dx_Takings_takeMean_62 ?_
      refine sm_aload_n (pc := 63) 0 ok dx_Takings_takeMean_63 rfl ?_
      refine sm_getR (pc := 64) (ci := 8) (k := 1) ok dx_Takings_takeMean_64 rfl rfl zc_i8 (by decide) rfl wd_310 ?_
      refine sm_iload_n (pc := 67) 1 ok dx_Takings_takeMean_67 rfl ?_
      refine sm_aald5 (pc := 68) ok dx_Takings_takeMean_68 rfl (fun hb_7 => ?_)
      refine sm_iload_n (pc := 69) 3 ok dx_Takings_takeMean_69 rfl ?_
      refine sm_iald (pc := 70) ok dx_Takings_takeMean_70 (zx_rows 114 4 5 (by decide) hb_7) ?_
      refine sm_i2l (pc := 71) ok dx_Takings_takeMean_71 ?_
      refine sm_lmul (pc := 72) ok dx_Takings_takeMean_72 ?_
      refine sm_last (pc := 73) ok dx_Takings_takeMean_73 rfl (fun S_8 => ?_)
      refine sm_iinc (pc := 74) (i := 3) 3 (1 : Int32) ok dx_Takings_takeMean_74 rfl zk_1 (by decide) (fun v => [(3, .int v), (0, .ref ((xw x).2.2 110)), (1, .int v1), (2, .int v2)]) (fun _ => rfl) (fun v3_9 => ?_)
      refine sm_goto (pc := 77) 45 ok dx_Takings_takeMean_77 (by decide) ?_
      refine sm_lv [1, 2, 3, 0] rfl ?_
      exact ih _ _ _ _
set_option maxHeartbeats 4000000 in
set_option maxRecDepth 20000 in
theorem tx_Takings_takeMean {x : sm_Cx} (ok : sm_Ok x zx_sy prog_10_method_7_code "LentShades$Takings" 4 1 21) (hr : (xh x).sig.returnType = none) (N : Nat) (S : sm_St) (v1 : Int32) : sm_Sm x zx_sy prog_10_method_7_code (sm_Q x zx_sy (sm_Pv zx_sy (xw x))) (px_Takings_takeMean N S v1) S 0 [(0, .ref ((xw x).2.2 110)), (1, .int v1)] [] := by
  unfold px_Takings_takeMean
  refine sm_aload_n (pc := 0) 0 ok dx_Takings_takeMean_0 rfl ?_
  refine sm_getR (pc := 1) (ci := 8) (k := 0) ok dx_Takings_takeMean_1 rfl rfl zc_i8 (by decide) rfl wd_309 ?_
  refine sm_callV_v (pc := 4) (ci := 7) [] ok dx_Takings_takeMean_4 wd_666 mwx_Sum_begin rfl rfl (Nat.le_of_ble_eq_true rfl) (Nat.le_of_ble_eq_true rfl) rfl rfl (Nat.le_of_ble_eq_true rfl) (cx_Sum_begin (sm_okj ok) N S 111 rfl) (fun S_1 => ?_)
  refine sm_aload_n (pc := 7) 0 ok dx_Takings_takeMean_7 rfl ?_
  refine sm_getR (pc := 8) (ci := 8) (k := 2) ok dx_Takings_takeMean_8 rfl rfl zc_i8 (by decide) rfl wd_312 ?_
  refine sm_iload_n (pc := 11) 1 ok dx_Takings_takeMean_11 rfl ?_
  refine sm_iald (pc := 12) ok dx_Takings_takeMean_12 rfl ?_
  refine sm_if_gt (pc := 13) 31 ok dx_Takings_takeMean_13 (by decide) (fun _ => ?_) (fun _ => ?_)
  · refine sm_aload_n (pc := 31) 0 ok dx_Takings_takeMean_31 rfl ?_
    refine sm_getI (pc := 32) (ci := 8) (k := 6) ok dx_Takings_takeMean_32 rfl rfl zc_i8 (by decide) rfl wd_318 ?_
    refine sm_aload_n (pc := 35) 0 ok dx_Takings_takeMean_35 rfl ?_
    refine sm_getR (pc := 36) (ci := 8) (k := 2) ok dx_Takings_takeMean_36 rfl rfl zc_i8 (by decide) rfl wd_312 ?_
    refine sm_iload_n (pc := 39) 1 ok dx_Takings_takeMean_39 rfl ?_
    refine sm_iald (pc := 40) ok dx_Takings_takeMean_40 rfl ?_
    refine sm_idiv (pc := 41) ok dx_Takings_takeMean_41 ?_
    refine sm_istore_n (pc := 42) (i := 2) ok dx_Takings_takeMean_42 rfl (by decide) (fun v => [(2, .int v), (0, .ref ((xw x).2.2 110)), (1, .int v1)]) (fun _ => rfl) (fun v2_2 => ?_)
    refine sm_iconst (pc := 43) (0 : Int32) ok dx_Takings_takeMean_43 zk_0 ?_
    refine sm_istore_n (pc := 44) (i := 3) ok dx_Takings_takeMean_44 rfl (by decide) (fun v => [(3, .int v), (2, .int v2_2), (0, .ref ((xw x).2.2 110)), (1, .int v1)]) (fun _ => rfl) (fun v3_3 => ?_)
    refine sm_lv [2, 3, 1, 0] rfl ?_
    exact tx_Takings_takeMean_b45 ok hr N N _ _ _ _
  · refine sm_aload_n (pc := 16) 0 ok dx_Takings_takeMean_16 rfl ?_
    refine sm_getR (pc := 17) (ci := 8) (k := 0) ok dx_Takings_takeMean_17 rfl rfl zc_i8 (by decide) rfl wd_309 ?_
    refine sm_getR (pc := 20) (ci := 7) (k := 0) ok dx_Takings_takeMean_20 rfl rfl zc_i7 (by decide) rfl wd_289 ?_
    refine sm_iload_n (pc := 23) 1 ok dx_Takings_takeMean_23 rfl ?_
    refine sm_aload_n (pc := 24) 0 ok dx_Takings_takeMean_24 rfl ?_
    refine sm_getI (pc := 25) (ci := 8) (k := 6) ok dx_Takings_takeMean_25 rfl rfl zc_i8 (by decide) rfl wd_318 ?_
    refine sm_i2l (pc := 28) ok dx_Takings_takeMean_28 ?_
    refine sm_last (pc := 29) ok dx_Takings_takeMean_29 rfl (fun S_4 => ?_)
    exact sm_vret (pc := 30) ok dx_Takings_takeMean_30 hr
theorem cx_Takings_takeMean {l : Launch} {wc : sm_Wc} (hj : sm_inj zx_sy wc) (N : Nat) (S : sm_St) (v1 : Int32) : sm_Ct l zx_sy wc yx_Takings_takeMean prog_10_method_7_code 4 none 1 21 [.ref (wc.2.2 110), .int v1] S (sm_Pv zx_sy wc) (px_Takings_takeMean N S v1) :=
  sm_entry (Pq := fun wc => sm_Pv zx_sy wc) (fun wc => [.ref (wc.2.2 110), .int v1]) (lv := fun wc => [(0, .ref (wc.2.2 110)), (1, .int v1)]) (by decide) hj zx_ok zx_stb (fun _ => Nat.le_of_ble_eq_true rfl) (fun _ => rfl) (fun x _ ok hr => tx_Takings_takeMean ok hr N S v1)
set_option maxHeartbeats 4000000 in
set_option maxRecDepth 20000 in
theorem tx_Shades_compare_b79 {x : sm_Cx} (ok : sm_Ok x zx_sy prog_8_method_5_code "LentShades$Shades" 12 0 0) (hr : (xh x).sig.returnType = (some .int)) (N : Nat) (p : Nat) (hp : zx_sy.1 p = (16, 0)) {r21 : Int32 → Int32 → Int32 → Int64 → Int32 → Int32 → sm_St → Option (Int32 × sm_St)} (h21 : ∀ (v3 : Int32) (v4 : Int32) (v5 : Int32) (v6 : Int64) (v8 : Int32) (v9 : Int32) (S : sm_St), sm_Sm x zx_sy prog_8_method_5_code (sm_Q x zx_sy (sm_Pi zx_sy (xw x))) (r21 v3 v4 v5 v6 v8 v9 S) S 21 [(0, .ref ((xw x).2.2 p)), (3, .int v3), (4, .int v4), (5, .int v5), (6, .long v6), (8, .int v8), (9, .int v9)] []) (v3 : Int32) (v4 : Int32) (v5 : Int32) (v9 : Int32) (v10 : Int64) (s0 : Int32) (s1 : Int32) (S : sm_St) : sm_Sm x zx_sy prog_8_method_5_code (sm_Q x zx_sy (sm_Pi zx_sy (xw x))) (px_Shades_compare_b79 N p r21 v3 v4 v5 v9 v10 s0 s1 S) S 79 [(0, .ref ((xw x).2.2 p)), (3, .int v3), (4, .int v4), (5, .int v5), (9, .int v9), (10, .long v10)] [.int s1, .int s0] := by
  unfold px_Shades_compare_b79
  refine sm_ior (pc := 79) ok dx_Shades_compare_79 ?_
  refine sm_istore (pc := 80) (i := 8) ok dx_Shades_compare_80 (by decide) (fun v => [(8, .int v), (0, .ref ((xw x).2.2 p)), (3, .int v3), (4, .int v4), (5, .int v5), (9, .int v9), (10, .long v10)]) (fun _ => rfl) (fun v8_7 => ?_)
  refine sm_lload (pc := 82) 6 ok dx_Shades_compare_82 rfl ?_
  refine sm_bipush (pc := 84) (30 : Int32) ok dx_Shades_compare_84 zb_30 ?_
  refine sm_lshr (pc := 86) ok dx_Shades_compare_86 ?_
  refine sm_lstore (pc := 87) (i := 6) ok dx_Shades_compare_87 (by decide) (fun v => [(6, .long v), (8, .int v8_7), (0, .ref ((xw x).2.2 p)), (3, .int v3), (4, .int v4), (5, .int v5), (9, .int v9), (10, .long v10)]) (fun _ => rfl) (fun v6_8 => ?_)
  refine sm_iinc (pc := 89) (i := 9) 6 (1 : Int32) ok dx_Shades_compare_89 rfl zk_1 (by decide) (fun v => [(9, .int v), (6, .long v6_8), (8, .int v8_7), (0, .ref ((xw x).2.2 p)), (3, .int v3), (4, .int v4), (5, .int v5), (10, .long v10)]) (fun _ => rfl) (fun v9_9 => ?_)
  refine sm_goto (pc := 92) 21 ok dx_Shades_compare_92 (by decide) ?_
  refine sm_lv [3, 4, 5, 6, 1, 2, 0] rfl ?_
  exact h21 _ _ _ _ _ _ _
set_option maxHeartbeats 4000000 in
set_option maxRecDepth 20000 in
theorem tx_Shades_compare_b21 {x : sm_Cx} (ok : sm_Ok x zx_sy prog_8_method_5_code "LentShades$Shades" 12 0 0) (hr : (xh x).sig.returnType = (some .int)) (N : Nat) (p : Nat) (hp : zx_sy.1 p = (16, 0)) : ∀ (n : Nat) (v3 : Int32) (v4 : Int32) (v5 : Int32) (v6 : Int64) (v8 : Int32) (v9 : Int32) (S : sm_St), sm_Sm x zx_sy prog_8_method_5_code (sm_Q x zx_sy (sm_Pi zx_sy (xw x))) (px_Shades_compare_b21 N p n v3 v4 v5 v6 v8 v9 S) S 21 [(0, .ref ((xw x).2.2 p)), (3, .int v3), (4, .int v4), (5, .int v5), (6, .long v6), (8, .int v8), (9, .int v9)] [] := by
  intro n
  induction n with
  | zero =>
    intro v3 v4 v5 v6 v8 v9 S
    exact sm_none
  | succ n ih =>
    intro v3 v4 v5 v6 v8 v9 S
    show sm_Sm x zx_sy prog_8_method_5_code (sm_Q x zx_sy (sm_Pi zx_sy (xw x))) (if (S.1 p 1) ≤ v9 then (if v6 = (0 : Int64) then (if v8 = 0 then (some ((0 : Int32), S)) else (some ((1 : Int32), S))) else (if (0 : Int64) ≤ v6 then (some ((1 : Int32), S)) else (some ((-1 : Int32), S)))) else (if sm_in (v4 + v9) 100 = true then (if sm_in (v5 + v9) 100 = true then (sm_lt ((v6 + (S.1 (p + 1) (v4 + v9).toNatClampNeg).toInt64) - (v3.toInt64 * (S.1 (p + 1) (v5 + v9).toNatClampNeg).toInt64)) (fun (v10_6 : Int64) => if (v10_6 &&& (1073741823 : Int64)) = (0 : Int64) then (px_Shades_compare_b79 N p (px_Shades_compare_b21 N p n) v3 v4 v5 v9 v10_6 v8 (0 : Int32) S) else (px_Shades_compare_b79 N p (px_Shades_compare_b21 N p n) v3 v4 v5 v9 v10_6 v8 (1 : Int32) S))) else none) else none)) S 21 [(0, .ref ((xw x).2.2 p)), (3, .int v3), (4, .int v4), (5, .int v5), (6, .long v6), (8, .int v8), (9, .int v9)] []
    refine sm_iload (pc := 21) 6 ok dx_Shades_compare_21 rfl ?_
    refine sm_aload_n (pc := 23) 0 ok dx_Shades_compare_23 rfl ?_
    refine sm_getI (pc := 24) (ci := 6) (k := 1) ok dx_Shades_compare_24 hp rfl zc_i6 (by decide) rfl wd_149 ?_
    refine sm_icmp_ge (pc := 27) 95 ok dx_Shades_compare_27 (by decide) (fun _ => ?_) (fun _ => ?_)
    · refine sm_lload (pc := 95) 4 ok dx_Shades_compare_95 rfl ?_
      refine sm_lconst (pc := 97) (0 : Int64) ok dx_Shades_compare_97 zl_0 ?_
      refine sm_lif_eq (pc := 98) 115 ok dx_Shades_compare_98 dx_Shades_compare_99 (by decide) (fun _ => ?_) (fun _ => ?_)
      · refine sm_iload (pc := 115) 5 ok dx_Shades_compare_115 rfl ?_
        refine sm_if_eq (pc := 117) 124 ok dx_Shades_compare_117 (by decide) (fun _ => ?_) (fun _ => ?_)
        · refine sm_iconst (pc := 124) (0 : Int32) ok dx_Shades_compare_124 zk_0 ?_
          exact sm_iret (pc := 125) ok dx_Shades_compare_125 hr
        · refine sm_iconst (pc := 120) (1 : Int32) ok dx_Shades_compare_120 zk_1 ?_
          refine sm_goto (pc := 121) 125 ok dx_Shades_compare_121 (by decide) ?_
          exact sm_iret (pc := 125) ok dx_Shades_compare_125 hr
      · refine sm_lload (pc := 102) 4 ok dx_Shades_compare_102 rfl ?_
        refine sm_lconst (pc := 104) (0 : Int64) ok dx_Shades_compare_104 zl_0 ?_
        refine sm_lif_ge (pc := 105) 113 ok dx_Shades_compare_105 dx_Shades_compare_106 (by decide) (fun _ => ?_) (fun _ => ?_)
        · refine sm_iconst (pc := 113) (1 : Int32) ok dx_Shades_compare_113 zk_1 ?_
          exact sm_iret (pc := 114) ok dx_Shades_compare_114 hr
        · refine sm_iconst (pc := 109) (-1 : Int32) ok dx_Shades_compare_109 zk_m1 ?_
          refine sm_goto (pc := 110) 114 ok dx_Shades_compare_110 (by decide) ?_
          exact sm_iret (pc := 114) ok dx_Shades_compare_114 hr
    · refine sm_lload (pc := 30) 4 ok dx_Shades_compare_30 rfl ?_
      refine sm_aload_n (pc := 32) 0 ok dx_Shades_compare_32 rfl ?_
      refine sm_getR (pc := 33) (ci := 6) (k := 0) ok dx_Shades_compare_33 hp rfl zc_i6 (by decide) rfl wd_146 ?_
      refine sm_iload (pc := 36) 2 ok dx_Shades_compare_36 rfl ?_
      refine sm_iload (pc := 38) 6 ok dx_Shades_compare_38 rfl ?_
      refine sm_iadd (pc := 40) ok dx_Shades_compare_40 ?_
      refine sm_iald (pc := 41) ok dx_Shades_compare_41 (zx_Shades_1 hp) ?_
      refine sm_i2l (pc := 42) ok dx_Shades_compare_42 ?_
      refine sm_ladd (pc := 43) ok dx_Shades_compare_43 ?_
      refine sm_iload_n (pc := 44) 1 ok dx_Shades_compare_44 rfl ?_
      refine sm_i2l (pc := 45) ok dx_Shades_compare_45 ?_
      refine sm_aload_n (pc := 46) 0 ok dx_Shades_compare_46 rfl ?_
      refine sm_getR (pc := 47) (ci := 6) (k := 0) ok dx_Shades_compare_47 hp rfl zc_i6 (by decide) rfl wd_146 ?_
      refine sm_iload (pc := 50) 3 ok dx_Shades_compare_50 rfl ?_
      refine sm_iload (pc := 52) 6 ok dx_Shades_compare_52 rfl ?_
      refine sm_iadd (pc := 54) ok dx_Shades_compare_54 ?_
      refine sm_iald (pc := 55) ok dx_Shades_compare_55 (zx_Shades_1 hp) ?_
      refine sm_i2l (pc := 56) ok dx_Shades_compare_56 ?_
      refine sm_lmul (pc := 57) ok dx_Shades_compare_57 ?_
      refine sm_lsub (pc := 58) ok dx_Shades_compare_58 ?_
      refine sm_lstore (pc := 59) (i := 10) ok dx_Shades_compare_59 (by decide) (fun v => [(10, .long v), (0, .ref ((xw x).2.2 p)), (3, .int v3), (4, .int v4), (5, .int v5), (6, .long v6), (8, .int v8), (9, .int v9)]) (fun _ => rfl) (fun v10_6 => ?_)
      refine sm_iload (pc := 61) 6 ok dx_Shades_compare_61 rfl ?_
      refine sm_lload (pc := 63) 0 ok dx_Shades_compare_63 rfl ?_
      refine sm_ldc2 (pc := 65) ok dx_Shades_compare_65 wd_466 ?_
      refine sm_land (pc := 68) ok dx_Shades_compare_68 ?_
      refine sm_lconst (pc := 69) (0 : Int64) ok dx_Shades_compare_69 zl_0 ?_
      refine sm_lif_eq (pc := 70) 78 ok dx_Shades_compare_70 dx_Shades_compare_71 (by decide) (fun _ => ?_) (fun _ => ?_)
      · refine sm_iconst (pc := 78) (0 : Int32) ok dx_Shades_compare_78 zk_0 ?_
        refine sm_lv [1, 2, 3, 4, 7, 0] rfl ?_
        exact tx_Shades_compare_b79 ok hr N p hp ih _ _ _ _ _ _ _ _
      · refine sm_iconst (pc := 74) (1 : Int32) ok dx_Shades_compare_74 zk_1 ?_
        refine sm_goto (pc := 75) 79 ok dx_Shades_compare_75 (by decide) ?_
        refine sm_lv [1, 2, 3, 4, 7, 0] rfl ?_
        exact tx_Shades_compare_b79 ok hr N p hp ih _ _ _ _ _ _ _ _
set_option maxHeartbeats 4000000 in
set_option maxRecDepth 20000 in
theorem tx_Shades_compare {x : sm_Cx} (ok : sm_Ok x zx_sy prog_8_method_5_code "LentShades$Shades" 12 0 0) (hr : (xh x).sig.returnType = (some .int)) (N : Nat) (S : sm_St) (p : Nat) (v1 : Int32) (v2 : Int32) (v3 : Int32) (hp : zx_sy.1 p = (16, 0)) : sm_Sm x zx_sy prog_8_method_5_code (sm_Q x zx_sy (sm_Pi zx_sy (xw x))) (px_Shades_compare N S p v1 v2 v3) S 0 [(0, .ref ((xw x).2.2 p)), (1, .int v1), (2, .int v2), (3, .int v3)] [] := by
  unfold px_Shades_compare
  refine sm_iload_n (pc := 0) 1 ok dx_Shades_compare_0 rfl ?_
  refine sm_bipush (pc := 1) (20 : Int32) ok dx_Shades_compare_1 zb_20 ?_
  refine sm_imul (pc := 3) ok dx_Shades_compare_3 ?_
  refine sm_istore (pc := 4) (i := 4) ok dx_Shades_compare_4 (by decide) (fun v => [(4, .int v), (0, .ref ((xw x).2.2 p)), (1, .int v1), (2, .int v2), (3, .int v3)]) (fun _ => rfl) (fun v4_1 => ?_)
  refine sm_iload_n (pc := 6) 3 ok dx_Shades_compare_6 rfl ?_
  refine sm_bipush (pc := 7) (20 : Int32) ok dx_Shades_compare_7 zb_20 ?_
  refine sm_imul (pc := 9) ok dx_Shades_compare_9 ?_
  refine sm_istore (pc := 10) (i := 5) ok dx_Shades_compare_10 (by decide) (fun v => [(5, .int v), (4, .int v4_1), (0, .ref ((xw x).2.2 p)), (1, .int v1), (2, .int v2), (3, .int v3)]) (fun _ => rfl) (fun v5_2 => ?_)
  refine sm_lconst (pc := 12) (0 : Int64) ok dx_Shades_compare_12 zl_0 ?_
  refine sm_lstore (pc := 13) (i := 6) ok dx_Shades_compare_13 (by decide) (fun v => [(6, .long v), (5, .int v5_2), (4, .int v4_1), (0, .ref ((xw x).2.2 p)), (1, .int v1), (2, .int v2), (3, .int v3)]) (fun _ => rfl) (fun v6_3 => ?_)
  refine sm_iconst (pc := 15) (0 : Int32) ok dx_Shades_compare_15 zk_0 ?_
  refine sm_istore (pc := 16) (i := 8) ok dx_Shades_compare_16 (by decide) (fun v => [(8, .int v), (6, .long v6_3), (5, .int v5_2), (4, .int v4_1), (0, .ref ((xw x).2.2 p)), (1, .int v1), (2, .int v2), (3, .int v3)]) (fun _ => rfl) (fun v8_4 => ?_)
  refine sm_iconst (pc := 18) (0 : Int32) ok dx_Shades_compare_18 zk_0 ?_
  refine sm_istore (pc := 19) (i := 9) ok dx_Shades_compare_19 (by decide) (fun v => [(9, .int v), (8, .int v8_4), (6, .long v6_3), (5, .int v5_2), (4, .int v4_1), (0, .ref ((xw x).2.2 p)), (1, .int v1), (2, .int v2), (3, .int v3)]) (fun _ => rfl) (fun v9_5 => ?_)
  refine sm_lv [5, 8, 4, 3, 2, 1, 0] rfl ?_
  exact tx_Shades_compare_b21 ok hr N p hp N _ _ _ _ _ _ _
theorem cx_Shades_compare {l : Launch} {wc : sm_Wc} (hj : sm_inj zx_sy wc) (N : Nat) (S : sm_St) (p : Nat) (v1 : Int32) (v2 : Int32) (v3 : Int32) (hp : zx_sy.1 p = (16, 0)) : sm_Ct l zx_sy wc yx_Shades_compare prog_8_method_5_code 12 (some .int) 0 0 [.ref (wc.2.2 p), .int v1, .int v2, .int v3] S (sm_Pi zx_sy wc) (px_Shades_compare N S p v1 v2 v3) :=
  sm_entry (Pq := fun wc => sm_Pi zx_sy wc) (fun wc => [.ref (wc.2.2 p), .int v1, .int v2, .int v3]) (lv := fun wc => [(0, .ref (wc.2.2 p)), (1, .int v1), (2, .int v2), (3, .int v3)]) (by decide) hj zx_ok zx_stb (fun _ => Nat.le_of_ble_eq_true rfl) (fun _ => rfl) (fun x _ ok hr => tx_Shades_compare ok hr N S p v1 v2 v3 hp)
set_option maxHeartbeats 4000000 in
set_option maxRecDepth 20000 in
theorem tx_Takings_takeGreatest_b83 {x : sm_Cx} (ok : sm_Ok x zx_sy prog_10_method_8_code "LentShades$Takings" 7 1 31) (hr : (xh x).sig.returnType = none) (N : Nat) (q2 : Nat) (hq2 : zx_sy.1 q2 = (16, 0)) {r27 : Int32 → Int32 → Int32 → Int32 → sm_St → Option (sm_St)} (h27 : ∀ (v1 : Int32) (v3 : Int32) (v4 : Int32) (v5 : Int32) (S : sm_St), sm_Sm x zx_sy prog_10_method_8_code (sm_Q x zx_sy (sm_Pv zx_sy (xw x))) (r27 v1 v3 v4 v5 S) S 27 [(0, .ref ((xw x).2.2 110)), (1, .int v1), (2, .ref ((xw x).2.2 q2)), (3, .int v3), (4, .int v4), (5, .int v5)] []) (v1 : Int32) (v3 : Int32) (v4 : Int32) (v5 : Int32) (S : sm_St) : sm_Sm x zx_sy prog_10_method_8_code (sm_Q x zx_sy (sm_Pv zx_sy (xw x))) (px_Takings_takeGreatest_b83 N q2 r27 v1 v3 v4 v5 S) S 83 [(0, .ref ((xw x).2.2 110)), (1, .int v1), (2, .ref ((xw x).2.2 q2)), (3, .int v3), (4, .int v4), (5, .int v5)] [] := by
  unfold px_Takings_takeGreatest_b83
  refine sm_iinc (pc := 83) (i := 5) 5 (1 : Int32) ok dx_Takings_takeGreatest_83 rfl zk_1 (by decide) (fun v => [(5, .int v), (0, .ref ((xw x).2.2 110)), (1, .int v1), (2, .ref ((xw x).2.2 q2)), (3, .int v3), (4, .int v4)]) (fun _ => rfl) (fun v5_13 => ?_)
  refine sm_goto (pc := 86) 27 ok dx_Takings_takeGreatest_86 (by decide) ?_
  refine sm_lv [1, 2, 3, 4, 5, 0] rfl ?_
  exact h27 _ _ _ _ _
set_option maxHeartbeats 4000000 in
set_option maxRecDepth 20000 in
theorem tx_Takings_takeGreatest_b77 {x : sm_Cx} (ok : sm_Ok x zx_sy prog_10_method_8_code "LentShades$Takings" 7 1 31) (hr : (xh x).sig.returnType = none) (N : Nat) (q2 : Nat) (hq2 : zx_sy.1 q2 = (16, 0)) {r27 : Int32 → Int32 → Int32 → Int32 → sm_St → Option (sm_St)} (h27 : ∀ (v1 : Int32) (v3 : Int32) (v4 : Int32) (v5 : Int32) (S : sm_St), sm_Sm x zx_sy prog_10_method_8_code (sm_Q x zx_sy (sm_Pv zx_sy (xw x))) (r27 v1 v3 v4 v5 S) S 27 [(0, .ref ((xw x).2.2 110)), (1, .int v1), (2, .ref ((xw x).2.2 q2)), (3, .int v3), (4, .int v4), (5, .int v5)] []) (v1 : Int32) (v5 : Int32) (S : sm_St) : sm_Sm x zx_sy prog_10_method_8_code (sm_Q x zx_sy (sm_Pv zx_sy (xw x))) (px_Takings_takeGreatest_b77 N q2 r27 v1 v5 S) S 77 [(0, .ref ((xw x).2.2 110)), (1, .int v1), (2, .ref ((xw x).2.2 q2)), (5, .int v5)] [] := by
  unfold px_Takings_takeGreatest_b77
  refine sm_iload (pc := 77) 3 ok dx_Takings_takeGreatest_77 rfl ?_
  refine sm_istore_n (pc := 79) (i := 3) ok dx_Takings_takeGreatest_79 rfl (by decide) (fun v => [(3, .int v), (0, .ref ((xw x).2.2 110)), (1, .int v1), (2, .ref ((xw x).2.2 q2)), (5, .int v5)]) (fun _ => rfl) (fun v3_11 => ?_)
  refine sm_iconst (pc := 80) (1 : Int32) ok dx_Takings_takeGreatest_80 zk_1 ?_
  refine sm_istore (pc := 81) (i := 4) ok dx_Takings_takeGreatest_81 (by decide) (fun v => [(4, .int v), (3, .int v3_11), (0, .ref ((xw x).2.2 110)), (1, .int v1), (2, .ref ((xw x).2.2 q2)), (5, .int v5)]) (fun _ => rfl) (fun v4_12 => ?_)
  refine sm_lv [2, 3, 4, 1, 0, 5] rfl ?_
  exact tx_Takings_takeGreatest_b83 ok hr N q2 hq2 h27 _ _ _ _ _
set_option maxHeartbeats 4000000 in
set_option maxRecDepth 20000 in
theorem tx_Takings_takeGreatest_b53 {x : sm_Cx} (ok : sm_Ok x zx_sy prog_10_method_8_code "LentShades$Takings" 7 1 31) (hr : (xh x).sig.returnType = none) (N : Nat) (q2 : Nat) (hq2 : zx_sy.1 q2 = (16, 0)) {r27 : Int32 → Int32 → Int32 → Int32 → sm_St → Option (sm_St)} (h27 : ∀ (v1 : Int32) (v3 : Int32) (v4 : Int32) (v5 : Int32) (S : sm_St), sm_Sm x zx_sy prog_10_method_8_code (sm_Q x zx_sy (sm_Pv zx_sy (xw x))) (r27 v1 v3 v4 v5 S) S 27 [(0, .ref ((xw x).2.2 110)), (1, .int v1), (2, .ref ((xw x).2.2 q2)), (3, .int v3), (4, .int v4), (5, .int v5)] []) (v1 : Int32) (v3 : Int32) (v4 : Int32) (v5 : Int32) (s0 : Int32) (S : sm_St) : sm_Sm x zx_sy prog_10_method_8_code (sm_Q x zx_sy (sm_Pv zx_sy (xw x))) (px_Takings_takeGreatest_b53 N q2 r27 v1 v3 v4 v5 s0 S) S 53 [(0, .ref ((xw x).2.2 110)), (1, .int v1), (2, .ref ((xw x).2.2 q2)), (3, .int v3), (4, .int v4), (5, .int v5)] [.int s0] := by
  unfold px_Takings_takeGreatest_b53
  refine sm_istore (pc := 53) (i := 6) ok dx_Takings_takeGreatest_53 (by decide) (fun v => [(6, .int v), (0, .ref ((xw x).2.2 110)), (1, .int v1), (2, .ref ((xw x).2.2 q2)), (3, .int v3), (4, .int v4), (5, .int v5)]) (fun _ => rfl) (fun v6_8 => ?_)
  refine sm_iload (pc := 55) 0 ok dx_Takings_takeGreatest_55 rfl ?_
  refine sm_if_eq (pc := 57) 83 ok dx_Takings_takeGreatest_57 (by decide) (fun _ => ?_) (fun _ => ?_)
  · refine sm_lv [1, 2, 3, 4, 5, 6] rfl ?_
    exact tx_Takings_takeGreatest_b83 ok hr N q2 hq2 h27 _ _ _ _ _
  · refine sm_iload_n (pc := 60) 4 ok dx_Takings_takeGreatest_60 rfl ?_
    refine sm_iconst (pc := 61) (-1 : Int32) ok dx_Takings_takeGreatest_61 zk_m1 ?_
    refine sm_icmp_eq (pc := 62) 77 ok dx_Takings_takeGreatest_62 (by decide) (fun _ => ?_) (fun _ => ?_)
    · refine sm_lv [1, 2, 3, 6] rfl ?_
      exact tx_Takings_takeGreatest_b77 ok hr N q2 hq2 h27 _ _ _
    · refine sm_aload_n (pc := 65) 3 ok dx_Takings_takeGreatest_65 rfl ?_
      refine sm_iload (pc := 66) 6 ok dx_Takings_takeGreatest_66 rfl ?_
      refine sm_iload_n (pc := 68) 4 ok dx_Takings_takeGreatest_68 rfl ?_
      refine sm_iload (pc := 69) 5 ok dx_Takings_takeGreatest_69 rfl ?_
      refine sm_callV_i (pc := 71) (ci := 6) [.int v5, .int v3, .int v4] ok dx_Takings_takeGreatest_71 wd_662 mwx_Shades_compare hq2 rfl (Nat.le_of_ble_eq_true rfl) (Nat.le_of_ble_eq_true rfl) rfl rfl (Nat.le_of_ble_eq_true rfl) (cx_Shades_compare (sm_okj ok) N S q2 v5 v3 v4 hq2) (fun r_10 S_9 => ?_)
      refine sm_if_le (pc := 74) 83 ok dx_Takings_takeGreatest_74 (by decide) (fun _ => ?_) (fun _ => ?_)
      · refine sm_lv [1, 2, 3, 4, 5, 6] rfl ?_
        exact tx_Takings_takeGreatest_b83 ok hr N q2 hq2 h27 _ _ _ _ _
      · refine sm_lv [1, 2, 3, 6] rfl ?_
        exact tx_Takings_takeGreatest_b77 ok hr N q2 hq2 h27 _ _ _
set_option maxHeartbeats 4000000 in
set_option maxRecDepth 20000 in
theorem tx_Takings_takeGreatest_b27 {x : sm_Cx} (ok : sm_Ok x zx_sy prog_10_method_8_code "LentShades$Takings" 7 1 31) (hr : (xh x).sig.returnType = none) (N : Nat) (q2 : Nat) (hq2 : zx_sy.1 q2 = (16, 0)) : ∀ (n : Nat) (v1 : Int32) (v3 : Int32) (v4 : Int32) (v5 : Int32) (S : sm_St), sm_Sm x zx_sy prog_10_method_8_code (sm_Q x zx_sy (sm_Pv zx_sy (xw x))) (px_Takings_takeGreatest_b27 N q2 n v1 v3 v4 v5 S) S 27 [(0, .ref ((xw x).2.2 110)), (1, .int v1), (2, .ref ((xw x).2.2 q2)), (3, .int v3), (4, .int v4), (5, .int v5)] [] := by
  intro n
  induction n with
  | zero =>
    intro v1 v3 v4 v5 S
    exact sm_none
  | succ n ih =>
    intro v1 v3 v4 v5 S
    show sm_Sm x zx_sy prog_10_method_8_code (sm_Q x zx_sy (sm_Pv zx_sy (xw x))) (if (S.1 110 5) ≤ v5 then (sm_b1 (px_Sum_begin N S 111) (fun (S_4 : sm_St) => if v3 = (-1 : Int32) then (if sm_in v1 5 = true then sm_lt (sm_sL S_4 112 v1.toNatClampNeg ((S_4.1 110 6).toInt64)) (fun (S_6 : sm_St) => some S_6) else none) else (if sm_in v3 5 = true then sm_lt (sm_sL S_4 112 v3.toNatClampNeg ((S_4.1 110 6).toInt64 * v4.toInt64)) (fun (S_5 : sm_St) => some S_5) else none))) else (if sm_in v1 4 = true then (if sm_in v5 5 = true then (if (S.1 (115 + v1.toNatClampNeg) v5.toNatClampNeg) ≤ 0 then (px_Takings_takeGreatest_b53 N q2 (px_Takings_takeGreatest_b27 N q2 n) v1 v3 v4 v5 (0 : Int32) S) else (px_Takings_takeGreatest_b53 N q2 (px_Takings_takeGreatest_b27 N q2 n) v1 v3 v4 v5 (1 : Int32) S)) else none) else none)) S 27 [(0, .ref ((xw x).2.2 110)), (1, .int v1), (2, .ref ((xw x).2.2 q2)), (3, .int v3), (4, .int v4), (5, .int v5)] []
    refine sm_iload (pc := 27) 5 ok dx_Takings_takeGreatest_27 rfl ?_
    refine sm_aload_n (pc := 29) 0 ok dx_Takings_takeGreatest_29 rfl ?_
    refine sm_getI (pc := 30) (ci := 8) (k := 5) ok dx_Takings_takeGreatest_30 rfl rfl zc_i8 (by decide) rfl wd_316 ?_
    refine sm_icmp_ge (pc := 33) 89 ok dx_Takings_takeGreatest_33 (by decide) (fun _ => ?_) (fun _ => ?_)
    · refine sm_aload_n (pc := 89) 0 ok dx_Takings_takeGreatest_89 rfl ?_
      refine sm_getR (pc := 90) (ci := 8) (k := 0) ok dx_Takings_takeGreatest_90 rfl rfl zc_i8 (by decide) rfl wd_309 ?_
      refine sm_callV_v (pc := 93) (ci := 7) [] ok dx_Takings_takeGreatest_93 wd_666 mwx_Sum_begin rfl rfl (Nat.le_of_ble_eq_true rfl) (Nat.le_of_ble_eq_true rfl) rfl rfl (Nat.le_of_ble_eq_true rfl) (cx_Sum_begin (sm_okj ok) N S 111 rfl) (fun S_4 => ?_)
      refine sm_iload_n (pc := 96) 3 ok dx_Takings_takeGreatest_96 rfl ?_
      refine sm_iconst (pc := 97) (-1 : Int32) ok dx_Takings_takeGreatest_97 zk_m1 ?_
      refine sm_icmp_ne (pc := 98) 118 ok dx_Takings_takeGreatest_98 (by decide) (fun _ => ?_) (fun _ => ?_)
      · refine sm_aload_n (pc := 118) 0 ok dx_Takings_takeGreatest_118 rfl ?_
        refine sm_getR (pc := 119) (ci := 8) (k := 0) ok dx_Takings_takeGreatest_119 rfl rfl zc_i8 (by decide) rfl wd_309 ?_
        refine sm_getR (pc := 122) (ci := 7) (k := 0) ok dx_Takings_takeGreatest_122 rfl rfl zc_i7 (by decide) rfl wd_289 ?_
        refine sm_iload_n (pc := 125) 3 ok dx_Takings_takeGreatest_125 rfl ?_
        refine sm_aload_n (pc := 126) 0 ok dx_Takings_takeGreatest_126 rfl ?_
        refine sm_getI (pc := 127) (ci := 8) (k := 6) ok dx_Takings_takeGreatest_127 rfl rfl zc_i8 (by decide) rfl wd_318 ?_
        refine sm_i2l (pc := 130) ok dx_Takings_takeGreatest_130 ?_
        refine sm_iload (pc := 131) 4 ok dx_Takings_takeGreatest_131 rfl ?_
        refine sm_i2l (pc := 133) ok dx_Takings_takeGreatest_133 ?_
        refine sm_lmul (pc := 134) ok dx_Takings_takeGreatest_134 ?_
        refine sm_last (pc := 135) ok dx_Takings_takeGreatest_135 rfl (fun S_5 => ?_)
        exact sm_vret (pc := 136) ok dx_Takings_takeGreatest_136 hr
      · refine sm_aload_n (pc := 101) 0 ok dx_Takings_takeGreatest_101 rfl ?_
        refine sm_getR (pc := 102) (ci := 8) (k := 0) ok dx_Takings_takeGreatest_102 rfl rfl zc_i8 (by decide) rfl wd_309 ?_
        refine sm_getR (pc := 105) (ci := 7) (k := 0) ok dx_Takings_takeGreatest_105 rfl rfl zc_i7 (by decide) rfl wd_289 ?_
        refine sm_iload_n (pc := 108) 1 ok dx_Takings_takeGreatest_108 rfl ?_
        refine sm_aload_n (pc := 109) 0 ok dx_Takings_takeGreatest_109 rfl ?_
        refine sm_getI (pc := 110) (ci := 8) (k := 6) ok dx_Takings_takeGreatest_110 rfl rfl zc_i8 (by decide) rfl wd_318 ?_
        refine sm_i2l (pc := 113) ok dx_Takings_takeGreatest_113 ?_
        refine sm_last (pc := 114) ok dx_Takings_takeGreatest_114 rfl (fun S_6 => ?_)
        refine sm_goto (pc := 115) 136 ok dx_Takings_takeGreatest_115 (by decide) ?_
        exact sm_vret (pc := 136) ok dx_Takings_takeGreatest_136 hr
    · refine sm_aload_n (pc := 36) 0 ok dx_Takings_takeGreatest_36 rfl ?_
      refine sm_getR (pc := 37) (ci := 8) (k := 1) ok dx_Takings_takeGreatest_37 rfl rfl zc_i8 (by decide) rfl wd_310 ?_
      refine sm_iload_n (pc := 40) 1 ok dx_Takings_takeGreatest_40 rfl ?_
      refine sm_aald5 (pc := 41) ok dx_Takings_takeGreatest_41 rfl (fun hb_7 => ?_)
      refine sm_iload (pc := 42) 5 ok dx_Takings_takeGreatest_42 rfl ?_
      refine sm_iald (pc := 44) ok dx_Takings_takeGreatest_44 (zx_rows 114 4 5 (by decide) hb_7) ?_
      refine sm_if_le (pc := 45) 52 ok dx_Takings_takeGreatest_45 (by decide) (fun _ => ?_) (fun _ => ?_)
      · refine sm_iconst (pc := 52) (0 : Int32) ok dx_Takings_takeGreatest_52 zk_0 ?_
        exact tx_Takings_takeGreatest_b53 ok hr N q2 hq2 ih _ _ _ _ _ _
      · refine sm_iconst (pc := 48) (1 : Int32) ok dx_Takings_takeGreatest_48 zk_1 ?_
        refine sm_goto (pc := 49) 53 ok dx_Takings_takeGreatest_49 (by decide) ?_
        exact tx_Takings_takeGreatest_b53 ok hr N q2 hq2 ih _ _ _ _ _ _
set_option maxHeartbeats 4000000 in
set_option maxRecDepth 20000 in
theorem tx_Takings_takeGreatest_b15 {x : sm_Cx} (ok : sm_Ok x zx_sy prog_10_method_8_code "LentShades$Takings" 7 1 31) (hr : (xh x).sig.returnType = none) (N : Nat) (q2 : Nat) (hq2 : zx_sy.1 q2 = (16, 0)) (v1 : Int32) (s0 : Int32) (S : sm_St) : sm_Sm x zx_sy prog_10_method_8_code (sm_Q x zx_sy (sm_Pv zx_sy (xw x))) (px_Takings_takeGreatest_b15 N q2 v1 s0 S) S 15 [(0, .ref ((xw x).2.2 110)), (1, .int v1), (2, .ref ((xw x).2.2 q2))] [.int s0] := by
  unfold px_Takings_takeGreatest_b15
  refine sm_istore_n (pc := 15) (i := 3) ok dx_Takings_takeGreatest_15 rfl (by decide) (fun v => [(3, .int v), (0, .ref ((xw x).2.2 110)), (1, .int v1), (2, .ref ((xw x).2.2 q2))]) (fun _ => rfl) (fun v3_1 => ?_)
  refine sm_aload_n (pc := 16) 1 ok dx_Takings_takeGreatest_16 rfl ?_
  refine sm_getR (pc := 17) (ci := 8) (k := 4) ok dx_Takings_takeGreatest_17 rfl rfl zc_i8 (by decide) rfl wd_315 ?_
  refine sm_iload_n (pc := 20) 2 ok dx_Takings_takeGreatest_20 rfl ?_
  refine sm_iald (pc := 21) ok dx_Takings_takeGreatest_21 rfl ?_
  refine sm_istore (pc := 22) (i := 4) ok dx_Takings_takeGreatest_22 (by decide) (fun v => [(4, .int v), (3, .int v3_1), (0, .ref ((xw x).2.2 110)), (1, .int v1), (2, .ref ((xw x).2.2 q2))]) (fun _ => rfl) (fun v4_2 => ?_)
  refine sm_iconst (pc := 24) (0 : Int32) ok dx_Takings_takeGreatest_24 zk_0 ?_
  refine sm_istore (pc := 25) (i := 5) ok dx_Takings_takeGreatest_25 (by decide) (fun v => [(5, .int v), (4, .int v4_2), (3, .int v3_1), (0, .ref ((xw x).2.2 110)), (1, .int v1), (2, .ref ((xw x).2.2 q2))]) (fun _ => rfl) (fun v5_3 => ?_)
  refine sm_lv [3, 4, 5, 2, 1, 0] rfl ?_
  exact tx_Takings_takeGreatest_b27 ok hr N q2 hq2 N _ _ _ _ _
set_option maxHeartbeats 4000000 in
set_option maxRecDepth 20000 in
theorem tx_Takings_takeGreatest {x : sm_Cx} (ok : sm_Ok x zx_sy prog_10_method_8_code "LentShades$Takings" 7 1 31) (hr : (xh x).sig.returnType = none) (N : Nat) (S : sm_St) (v1 : Int32) (q2 : Nat) (hq2 : zx_sy.1 q2 = (16, 0)) : sm_Sm x zx_sy prog_10_method_8_code (sm_Q x zx_sy (sm_Pv zx_sy (xw x))) (px_Takings_takeGreatest N S v1 q2) S 0 [(0, .ref ((xw x).2.2 110)), (1, .int v1), (2, .ref ((xw x).2.2 q2))] [] := by
  unfold px_Takings_takeGreatest
  refine sm_aload_n (pc := 0) 0 ok dx_Takings_takeGreatest_0 rfl ?_
  refine sm_getR (pc := 1) (ci := 8) (k := 4) ok dx_Takings_takeGreatest_1 rfl rfl zc_i8 (by decide) rfl wd_315 ?_
  refine sm_iload_n (pc := 4) 1 ok dx_Takings_takeGreatest_4 rfl ?_
  refine sm_iald (pc := 5) ok dx_Takings_takeGreatest_5 rfl ?_
  refine sm_iconst (pc := 6) (-1 : Int32) ok dx_Takings_takeGreatest_6 zk_m1 ?_
  refine sm_icmp_ne (pc := 7) 14 ok dx_Takings_takeGreatest_7 (by decide) (fun _ => ?_) (fun _ => ?_)
  · refine sm_iconst (pc := 14) (4 : Int32) ok dx_Takings_takeGreatest_14 zk_4 ?_
    exact tx_Takings_takeGreatest_b15 ok hr N q2 hq2 _ _ _
  · refine sm_iconst (pc := 10) (-1 : Int32) ok dx_Takings_takeGreatest_10 zk_m1 ?_
    refine sm_goto (pc := 11) 15 ok dx_Takings_takeGreatest_11 (by decide) ?_
    exact tx_Takings_takeGreatest_b15 ok hr N q2 hq2 _ _ _
theorem cx_Takings_takeGreatest {l : Launch} {wc : sm_Wc} (hj : sm_inj zx_sy wc) (N : Nat) (S : sm_St) (v1 : Int32) (q2 : Nat) (hq2 : zx_sy.1 q2 = (16, 0)) : sm_Ct l zx_sy wc yx_Takings_takeGreatest prog_10_method_8_code 7 none 1 31 [.ref (wc.2.2 110), .int v1, .ref (wc.2.2 q2)] S (sm_Pv zx_sy wc) (px_Takings_takeGreatest N S v1 q2) :=
  sm_entry (Pq := fun wc => sm_Pv zx_sy wc) (fun wc => [.ref (wc.2.2 110), .int v1, .ref (wc.2.2 q2)]) (lv := fun wc => [(0, .ref (wc.2.2 110)), (1, .int v1), (2, .ref (wc.2.2 q2))]) (by decide) hj zx_ok zx_stb (fun _ => Nat.le_of_ble_eq_true rfl) (fun _ => rfl) (fun x _ ok hr => tx_Takings_takeGreatest ok hr N S v1 q2 hq2)
set_option maxHeartbeats 4000000 in
set_option maxRecDepth 20000 in
theorem tx_Takings_night_b33 {x : sm_Cx} (ok : sm_Ok x zx_sy prog_10_method_6_code "LentShades$Takings" 4 2 57) (hr : (xh x).sig.returnType = none) (N : Nat) (q1 : Nat) (q2 : Nat) (hq1 : zx_sy.1 q1 = (16, 0)) (hq2 : zx_sy.1 q2 = (16, 0)) {r2 : Int32 → sm_St → Option (sm_St)} (h2 : ∀ (v3 : Int32) (S : sm_St), sm_Sm x zx_sy prog_10_method_6_code (sm_Q x zx_sy (sm_Pv zx_sy (xw x))) (r2 v3 S) S 2 [(0, .ref ((xw x).2.2 110)), (1, .ref ((xw x).2.2 q1)), (2, .ref ((xw x).2.2 q2)), (3, .int v3)] []) (v3 : Int32) (S : sm_St) : sm_Sm x zx_sy prog_10_method_6_code (sm_Q x zx_sy (sm_Pv zx_sy (xw x))) (px_Takings_night_b33 N q1 q2 r2 v3 S) S 33 [(0, .ref ((xw x).2.2 110)), (1, .ref ((xw x).2.2 q1)), (2, .ref ((xw x).2.2 q2)), (3, .int v3)] [] := by
  unfold px_Takings_night_b33
  refine sm_aload_n (pc := 33) 0 ok dx_Takings_night_33 rfl ?_
  refine sm_getR (pc := 34) (ci := 8) (k := 0) ok dx_Takings_night_34 rfl rfl zc_i8 (by decide) rfl wd_309 ?_
  refine sm_aload_n (pc := 37) 1 ok dx_Takings_night_37 rfl ?_
  refine sm_aload_n (pc := 38) 2 ok dx_Takings_night_38 rfl ?_
  refine sm_getR (pc := 39) (ci := 6) (k := 0) ok dx_Takings_night_39 hq2 rfl zc_i6 (by decide) rfl wd_148 ?_
  refine sm_iload_n (pc := 42) 3 ok dx_Takings_night_42 rfl ?_
  refine sm_bipush (pc := 43) (20 : Int32) ok dx_Takings_night_43 zb_20 ?_
  refine sm_imul (pc := 45) ok dx_Takings_night_45 ?_
  refine sm_callV_v (pc := 46) (ci := 7) [.ref ((xw x).2.2 q1), .ref ((xw x).2.2 (q2 + 1)), .int (v3 * (20 : Int32))] ok dx_Takings_night_46 wd_674 mwx_Sum_write rfl rfl (Nat.le_of_ble_eq_true rfl) (Nat.le_of_ble_eq_true rfl) rfl rfl (Nat.le_of_ble_eq_true rfl) (cx_Sum_write (sm_okj ok) N S 111 q1 (q2 + 1) (v3 * (20 : Int32)) rfl hq1 (sm_tag (zx_Shades_1 hq2))) (fun S_8 => ?_)
  refine sm_iinc (pc := 49) (i := 3) 3 (1 : Int32) ok dx_Takings_night_49 rfl zk_1 (by decide) (fun v => [(3, .int v), (0, .ref ((xw x).2.2 110)), (1, .ref ((xw x).2.2 q1)), (2, .ref ((xw x).2.2 q2))]) (fun _ => rfl) (fun v3_9 => ?_)
  refine sm_goto (pc := 52) 2 ok dx_Takings_night_52 (by decide) ?_
  refine sm_lv [1, 2, 3, 0] rfl ?_
  exact h2 _ _
set_option maxHeartbeats 4000000 in
set_option maxRecDepth 20000 in
theorem tx_Takings_night_b2 {x : sm_Cx} (ok : sm_Ok x zx_sy prog_10_method_6_code "LentShades$Takings" 4 2 57) (hr : (xh x).sig.returnType = none) (N : Nat) (q1 : Nat) (q2 : Nat) (hq1 : zx_sy.1 q1 = (16, 0)) (hq2 : zx_sy.1 q2 = (16, 0)) : ∀ (n : Nat) (v3 : Int32) (S : sm_St), sm_Sm x zx_sy prog_10_method_6_code (sm_Q x zx_sy (sm_Pv zx_sy (xw x))) (px_Takings_night_b2 N q1 q2 n v3 S) S 2 [(0, .ref ((xw x).2.2 110)), (1, .ref ((xw x).2.2 q1)), (2, .ref ((xw x).2.2 q2)), (3, .int v3)] [] := by
  intro n
  induction n with
  | zero =>
    intro v3 S
    exact sm_none
  | succ n ih =>
    intro v3 S
    show sm_Sm x zx_sy prog_10_method_6_code (sm_Q x zx_sy (sm_Pv zx_sy (xw x))) (if (S.1 110 5) ≤ v3 then (sm_b1 (px_Sum_begin N S 111) (fun (S_2 : sm_St) => if sm_in (4 : Int32) 5 = true then sm_lt (sm_sL S_2 112 (4 : Int32).toNatClampNeg ((S_2.1 110 6).toInt64)) (fun (S_3 : sm_St) => sm_b1 (px_Sum_write N S_3 111 q1 (q2 + 1) (80 : Int32)) (fun (S_4 : sm_St) => sm_b1 (px_Shades_settle N S_4 q2 (S_4.1 q1 1)) (fun (S_5 : sm_St) => some S_5))) else none)) else (if sm_in v3 4 = true then (if (S.1 120 v3.toNatClampNeg) = 0 then (sm_b1 (px_Takings_takeMean N S v3) (fun (S_6 : sm_St) => px_Takings_night_b33 N q1 q2 (px_Takings_night_b2 N q1 q2 n) v3 S_6)) else (sm_b1 (px_Takings_takeGreatest N S v3 q1) (fun (S_7 : sm_St) => px_Takings_night_b33 N q1 q2 (px_Takings_night_b2 N q1 q2 n) v3 S_7))) else none)) S 2 [(0, .ref ((xw x).2.2 110)), (1, .ref ((xw x).2.2 q1)), (2, .ref ((xw x).2.2 q2)), (3, .int v3)] []
    refine sm_iload_n (pc := 2) 3 ok dx_Takings_night_2 rfl ?_
    refine sm_aload_n (pc := 3) 0 ok dx_Takings_night_3 rfl ?_
    refine sm_getI (pc := 4) (ci := 8) (k := 5) ok dx_Takings_night_4 rfl rfl zc_i8 (by decide) rfl wd_316 ?_
    refine sm_icmp_ge (pc := 7) 55 ok dx_Takings_night_7 (by decide) (fun _ => ?_) (fun _ => ?_)
    · refine sm_aload_n (pc := 55) 0 ok dx_Takings_night_55 rfl ?_
      refine sm_getR (pc := 56) (ci := 8) (k := 0) ok dx_Takings_night_56 rfl rfl zc_i8 (by decide) rfl wd_309 ?_
      refine sm_callV_v (pc := 59) (ci := 7) [] ok dx_Takings_night_59 wd_666 mwx_Sum_begin rfl rfl (Nat.le_of_ble_eq_true rfl) (Nat.le_of_ble_eq_true rfl) rfl rfl (Nat.le_of_ble_eq_true rfl) (cx_Sum_begin (sm_okj ok) N S 111 rfl) (fun S_2 => ?_)
      refine sm_aload_n (pc := 62) 0 ok dx_Takings_night_62 rfl ?_
      refine sm_getR (pc := 63) (ci := 8) (k := 0) ok dx_Takings_night_63 rfl rfl zc_i8 (by decide) rfl wd_309 ?_
      refine sm_getR (pc := 66) (ci := 7) (k := 0) ok dx_Takings_night_66 rfl rfl zc_i7 (by decide) rfl wd_289 ?_
      refine sm_iconst (pc := 69) (4 : Int32) ok dx_Takings_night_69 zk_4 ?_
      refine sm_aload_n (pc := 70) 0 ok dx_Takings_night_70 rfl ?_
      refine sm_getI (pc := 71) (ci := 8) (k := 6) ok dx_Takings_night_71 rfl rfl zc_i8 (by decide) rfl wd_318 ?_
      refine sm_i2l (pc := 74) ok dx_Takings_night_74 ?_
      refine sm_last (pc := 75) ok dx_Takings_night_75 rfl (fun S_3 => ?_)
      refine sm_aload_n (pc := 76) 0 ok dx_Takings_night_76 rfl ?_
      refine sm_getR (pc := 77) (ci := 8) (k := 0) ok dx_Takings_night_77 rfl rfl zc_i8 (by decide) rfl wd_309 ?_
      refine sm_aload_n (pc := 80) 1 ok dx_Takings_night_80 rfl ?_
      refine sm_aload_n (pc := 81) 2 ok dx_Takings_night_81 rfl ?_
      refine sm_getR (pc := 82) (ci := 6) (k := 0) ok dx_Takings_night_82 hq2 rfl zc_i6 (by decide) rfl wd_148 ?_
      refine sm_bipush (pc := 85) (80 : Int32) ok dx_Takings_night_85 zb_80 ?_
      refine sm_callV_v (pc := 87) (ci := 7) [.ref ((xw x).2.2 q1), .ref ((xw x).2.2 (q2 + 1)), .int (80 : Int32)] ok dx_Takings_night_87 wd_674 mwx_Sum_write rfl rfl (Nat.le_of_ble_eq_true rfl) (Nat.le_of_ble_eq_true rfl) rfl rfl (Nat.le_of_ble_eq_true rfl) (cx_Sum_write (sm_okj ok) N S_3 111 q1 (q2 + 1) (80 : Int32) rfl hq1 (sm_tag (zx_Shades_1 hq2))) (fun S_4 => ?_)
      refine sm_aload_n (pc := 90) 2 ok dx_Takings_night_90 rfl ?_
      refine sm_aload_n (pc := 91) 1 ok dx_Takings_night_91 rfl ?_
      refine sm_getI (pc := 92) (ci := 6) (k := 1) ok dx_Takings_night_92 hq1 rfl zc_i6 (by decide) rfl wd_152 ?_
      refine sm_callV_v (pc := 95) (ci := 6) [.int (S_4.1 q1 1)] ok dx_Takings_night_95 wd_679 mwx_Shades_settle hq2 rfl (Nat.le_of_ble_eq_true rfl) (Nat.le_of_ble_eq_true rfl) rfl rfl (Nat.le_of_ble_eq_true rfl) (cx_Shades_settle (sm_okj ok) N S_4 q2 (S_4.1 q1 1) hq2) (fun S_5 => ?_)
      exact sm_vret (pc := 98) ok dx_Takings_night_98 hr
    · refine sm_aload_n (pc := 10) 0 ok dx_Takings_night_10 rfl ?_
      refine sm_getR (pc := 11) (ci := 8) (k := 3) ok dx_Takings_night_11 rfl rfl zc_i8 (by decide) rfl wd_314 ?_
      refine sm_iload_n (pc := 14) 3 ok dx_Takings_night_14 rfl ?_
      refine sm_zald (pc := 15) ok dx_Takings_night_15 rfl ?_
      refine sm_if_eq (pc := 16) 28 ok dx_Takings_night_16 (by decide) (fun _ => ?_) (fun _ => ?_)
      · refine sm_aload_n (pc := 28) 0 ok dx_Takings_night_28 rfl ?_
        refine sm_iload_n (pc := 29) 3 ok dx_Takings_night_29 rfl ?_
        refine sm_callV_v (pc := 30) (ci := 8) [.int v3] ok dx_Takings_night_30 wd_670 mwx_Takings_takeMean rfl rfl (Nat.le_of_ble_eq_true rfl) (Nat.le_of_ble_eq_true rfl) rfl rfl (Nat.le_of_ble_eq_true rfl) (cx_Takings_takeMean (sm_okj ok) N S v3) (fun S_6 => ?_)
        exact tx_Takings_night_b33 ok hr N q1 q2 hq1 hq2 ih _ _
      · refine sm_aload_n (pc := 19) 0 ok dx_Takings_night_19 rfl ?_
        refine sm_iload_n (pc := 20) 3 ok dx_Takings_night_20 rfl ?_
        refine sm_aload_n (pc := 21) 1 ok dx_Takings_night_21 rfl ?_
        refine sm_callV_v (pc := 22) (ci := 8) [.int v3, .ref ((xw x).2.2 q1)] ok dx_Takings_night_22 wd_658 mwx_Takings_takeGreatest rfl rfl (Nat.le_of_ble_eq_true rfl) (Nat.le_of_ble_eq_true rfl) rfl rfl (Nat.le_of_ble_eq_true rfl) (cx_Takings_takeGreatest (sm_okj ok) N S v3 q1 hq1) (fun S_7 => ?_)
        refine sm_goto (pc := 25) 33 ok dx_Takings_night_25 (by decide) ?_
        exact tx_Takings_night_b33 ok hr N q1 q2 hq1 hq2 ih _ _
set_option maxHeartbeats 4000000 in
set_option maxRecDepth 20000 in
theorem tx_Takings_night {x : sm_Cx} (ok : sm_Ok x zx_sy prog_10_method_6_code "LentShades$Takings" 4 2 57) (hr : (xh x).sig.returnType = none) (N : Nat) (S : sm_St) (q1 : Nat) (q2 : Nat) (hq1 : zx_sy.1 q1 = (16, 0)) (hq2 : zx_sy.1 q2 = (16, 0)) : sm_Sm x zx_sy prog_10_method_6_code (sm_Q x zx_sy (sm_Pv zx_sy (xw x))) (px_Takings_night N S q1 q2) S 0 [(0, .ref ((xw x).2.2 110)), (1, .ref ((xw x).2.2 q1)), (2, .ref ((xw x).2.2 q2))] [] := by
  unfold px_Takings_night
  refine sm_iconst (pc := 0) (0 : Int32) ok dx_Takings_night_0 zk_0 ?_
  refine sm_istore_n (pc := 1) (i := 3) ok dx_Takings_night_1 rfl (by decide) (fun v => [(3, .int v), (0, .ref ((xw x).2.2 110)), (1, .ref ((xw x).2.2 q1)), (2, .ref ((xw x).2.2 q2))]) (fun _ => rfl) (fun v3_1 => ?_)
  refine sm_lv [1, 2, 3, 0] rfl ?_
  exact tx_Takings_night_b2 ok hr N q1 q2 hq1 hq2 N _ _
theorem cx_Takings_night {l : Launch} {wc : sm_Wc} (hj : sm_inj zx_sy wc) (N : Nat) (S : sm_St) (q1 : Nat) (q2 : Nat) (hq1 : zx_sy.1 q1 = (16, 0)) (hq2 : zx_sy.1 q2 = (16, 0)) : sm_Ct l zx_sy wc yx_Takings_night prog_10_method_6_code 4 none 2 57 [.ref (wc.2.2 110), .ref (wc.2.2 q1), .ref (wc.2.2 q2)] S (sm_Pv zx_sy wc) (px_Takings_night N S q1 q2) :=
  sm_entry (Pq := fun wc => sm_Pv zx_sy wc) (fun wc => [.ref (wc.2.2 110), .ref (wc.2.2 q1), .ref (wc.2.2 q2)]) (lv := fun wc => [(0, .ref (wc.2.2 110)), (1, .ref (wc.2.2 q1)), (2, .ref (wc.2.2 q2))]) (by decide) hj zx_ok zx_stb (fun _ => Nat.le_of_ble_eq_true rfl) (fun _ => rfl) (fun x _ ok hr => tx_Takings_night ok hr N S q1 q2 hq1 hq2)
