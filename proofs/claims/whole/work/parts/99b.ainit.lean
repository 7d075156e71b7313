theorem wd_127 : (Jvm.Cond.code ({ cls := "java/lang/Object", name := "<init>", desc := "()V" } : Jvm.MethodName) object_method_1_code (1 : Nat) (Option.none : Option Jvm.ClassFile.FieldType)) ∈ sm_GW := sm_w 127 (by decide +kernel) (by decide +kernel)
theorem wd_141 : (Jvm.Cond.methodLink "LentShades$Shades" (3 : Nat) ({ cls := "java/lang/Object", name := "<init>", desc := "()V" } : Jvm.MethodName)) ∈ sm_GW := sm_w 141 (by decide +kernel) (by decide +kernel)
theorem wd_126 : (Jvm.Cond.instanceMethod ({ cls := "java/lang/Object", name := "<init>", desc := "()V" } : Jvm.MethodName)) ∈ sm_GW := sm_w 126 (by decide +kernel) (by decide +kernel)
theorem wd_158 : (Jvm.Cond.arrayClass Jvm.ClassFile.FieldType.int) ∈ sm_GW := sm_w 158 (by decide +kernel) (by decide +kernel)
theorem wd_142 : (Jvm.Cond.methodLink "LentShades$Shades" (15 : Nat) ({ cls := "LentShades$Shades", name := "reset", desc := "()V" } : Jvm.MethodName)) ∈ sm_GW := sm_w 142 (by decide +kernel) (by decide +kernel)
theorem wd_285 : (Jvm.Cond.methodLink "LentShades$Sum" (3 : Nat) ({ cls := "java/lang/Object", name := "<init>", desc := "()V" } : Jvm.MethodName)) ∈ sm_GW := sm_w 285 (by decide +kernel) (by decide +kernel)
theorem wd_297 : (Jvm.Cond.arrayClass Jvm.ClassFile.FieldType.long) ∈ sm_GW := sm_w 297 (by decide +kernel) (by decide +kernel)
theorem wd_266 : (Jvm.Cond.methodLink "LentShades$Fraction" (3 : Nat) ({ cls := "java/lang/Object", name := "<init>", desc := "()V" } : Jvm.MethodName)) ∈ sm_GW := sm_w 266 (by decide +kernel) (by decide +kernel)
theorem wd_233 : (Jvm.Cond.methodLink "LentShades$Reader" (3 : Nat) ({ cls := "java/lang/Object", name := "<init>", desc := "()V" } : Jvm.MethodName)) ∈ sm_GW := sm_w 233 (by decide +kernel) (by decide +kernel)
theorem al_d0 : ∀ j, j < 3 → defaultValue (zc_y0 j) = vp_V [.null, .null, .null] j := fun j hj => by rcases (show j = 0 ∨ j = 1 ∨ j = 2 by omega) with rfl | rfl | rfl <;> rfl
theorem al_d1 : ∀ j, j < 4 → defaultValue (zc_y1 j) = vp_V [.null, .null, .int 0, .int 0] j := fun j hj => by rcases (show j = 0 ∨ j = 1 ∨ j = 2 ∨ j = 3 by omega) with rfl | rfl | rfl | rfl <;> rfl
theorem al_d2 : ∀ j, j < 14 → defaultValue (zc_y2 j) = vp_V [.null, .null, .null, .null, .null, .null, .null, .null, .null, .int 0, .int 0, .int 0, .int 0, .int 0] j := fun j hj => by rcases (show j = 0 ∨ j = 1 ∨ j = 2 ∨ j = 3 ∨ j = 4 ∨ j = 5 ∨ j = 6 ∨ j = 7 ∨ j = 8 ∨ j = 9 ∨ j = 10 ∨ j = 11 ∨ j = 12 ∨ j = 13 by omega) with rfl | rfl | rfl | rfl | rfl | rfl | rfl | rfl | rfl | rfl | rfl | rfl | rfl | rfl <;> rfl
theorem al_d3 : ∀ j, j < 7 → defaultValue (zc_y3 j) = vp_V [.null, .int 0, .int 0, .int 0, .int 0, .int 0, .int 0] j := fun j hj => by rcases (show j = 0 ∨ j = 1 ∨ j = 2 ∨ j = 3 ∨ j = 4 ∨ j = 5 ∨ j = 6 by omega) with rfl | rfl | rfl | rfl | rfl | rfl | rfl <;> rfl
theorem al_d4 : ∀ j, j < 8 → defaultValue (zc_y4 j) = vp_V [.null, .int 0, .int 0, .int 0, .int 0, .int 0, .int 0, .int 0] j := fun j hj => by rcases (show j = 0 ∨ j = 1 ∨ j = 2 ∨ j = 3 ∨ j = 4 ∨ j = 5 ∨ j = 6 ∨ j = 7 by omega) with rfl | rfl | rfl | rfl | rfl | rfl | rfl | rfl <;> rfl
theorem al_d5 : ∀ j, j < 1 → defaultValue (zc_y5 j) = vp_V [.null] j := fun j hj => by rcases (show j = 0 by omega) with rfl <;> rfl
theorem al_d6 : ∀ j, j < 2 → defaultValue (zc_y6 j) = vp_V [.null, .int 0] j := fun j hj => by rcases (show j = 0 ∨ j = 1 by omega) with rfl | rfl <;> rfl
theorem al_d7 : ∀ j, j < 2 → defaultValue (zc_y7 j) = vp_V [.null, .null] j := fun j hj => by rcases (show j = 0 ∨ j = 1 by omega) with rfl | rfl <;> rfl
theorem al_d8 : ∀ j, j < 9 → defaultValue (zc_y8 j) = vp_V [.null, .null, .null, .null, .null, .int 0, .int 0, .null, .null] j := fun j hj => by rcases (show j = 0 ∨ j = 1 ∨ j = 2 ∨ j = 3 ∨ j = 4 ∨ j = 5 ∨ j = 6 ∨ j = 7 ∨ j = 8 by omega) with rfl | rfl | rfl | rfl | rfl | rfl | rfl | rfl | rfl <;> rfl
theorem al_d9 : ∀ j, j < 14 → defaultValue (zc_y9 j) = vp_V [.null, .null, .null, .null, .null, .null, .null, .null, .null, .null, .null, .int 0, .int 0, .int 0] j := fun j hj => by rcases (show j = 0 ∨ j = 1 ∨ j = 2 ∨ j = 3 ∨ j = 4 ∨ j = 5 ∨ j = 6 ∨ j = 7 ∨ j = 8 ∨ j = 9 ∨ j = 10 ∨ j = 11 ∨ j = 12 ∨ j = 13 by omega) with rfl | rfl | rfl | rfl | rfl | rfl | rfl | rfl | rfl | rfl | rfl | rfl | rfl | rfl <;> rfl
theorem al_d10 : ∀ j, j < 32 → defaultValue (zc_y10 j) = vp_V [.null, .null, .null, .null, .null, .null, .int 0, .null, .null, .null, .null, .null, .null, .int 0, .null, .null, .int 0, .int 0, .null, .null, .null, .int 0, .int 0, .int 0, .int 0, .int 0, .null, .null, .null, .int 0, .int 0, .int 0] j := fun j hj => by rcases (show j = 0 ∨ j = 1 ∨ j = 2 ∨ j = 3 ∨ j = 4 ∨ j = 5 ∨ j = 6 ∨ j = 7 ∨ j = 8 ∨ j = 9 ∨ j = 10 ∨ j = 11 ∨ j = 12 ∨ j = 13 ∨ j = 14 ∨ j = 15 ∨ j = 16 ∨ j = 17 ∨ j = 18 ∨ j = 19 ∨ j = 20 ∨ j = 21 ∨ j = 22 ∨ j = 23 ∨ j = 24 ∨ j = 25 ∨ j = 26 ∨ j = 27 ∨ j = 28 ∨ j = 29 ∨ j = 30 ∨ j = 31 by omega) with rfl | rfl | rfl | rfl | rfl | rfl | rfl | rfl | rfl | rfl | rfl | rfl | rfl | rfl | rfl | rfl | rfl | rfl | rfl | rfl | rfl | rfl | rfl | rfl | rfl | rfl | rfl | rfl | rfl | rfl | rfl | rfl <;> rfl
set_option maxRecDepth 20000 in
theorem a_Shades_reset {l : Launch} {wc : sm_Wc} {h0 b : Nat} : al_Ct l wc yx_Shades_reset prog_8_method_2_code 1 0 0 0 0 h0 [(h0, .inr (6, [.ref b, .int 0])), (b, .inl (wc.2.1 0, 100, .inl (fun _ => 0)))] (fun _ => [(h0, .inr (6, [.ref b, .int 1])), (b, .inl (wc.2.1 0, 100, .inl (upd (fun _ => 0) 80 1)))]) := by
  refine al_entry (by decide) (by decide) (fun x A hw hxl hi ok => ?_)
  subst hw
  subst hxl
  refine al_aload_n 0 ok dx_Shades_reset_0 rfl ?_
  refine al_get (k := 0) ok dx_Shades_reset_1 rfl zc_i6 (by decide) wd_146 rfl ?_
  refine al_bipush 80 ok dx_Shades_reset_4 (by decide) ?_
  refine al_iconst 1 ok dx_Shades_reset_6 (by decide) ?_
  refine al_iast 1 ok dx_Shades_reset_7 rfl (by decide) ?_
  refine al_X (X' := (h0, .inr (6, [.ref b, .int 0])) :: [(b, .inl ((xw x).2.1 0, 100, .inl (upd (fun _ => 0) 80 1)))]) rfl ?_
  refine al_aload_n 0 ok dx_Shades_reset_8 rfl ?_
  refine al_iconst 1 ok dx_Shades_reset_9 (by decide) ?_
  refine al_putI (k := 1) ok dx_Shades_reset_10 rfl zc_i6 zc_y6 zc_t6 zc_n6 (by decide) rfl wd_149 rfl rfl (Nat.le_of_ble_eq_true rfl) ?_
  refine al_X (X' := (h0, .inr (6, [.ref b, .int 1])) :: [(b, .inl ((xw x).2.1 0, 100, .inl (upd (fun _ => 0) 80 1)))]) rfl ?_
  exact al_vret (fun _ => h0) ok dx_Shades_reset_13 rfl (fun H hP hD => ⟨hP, hD⟩)
theorem dx_Shades_init_0 : decode prog_8_method_1_code 0 = .ok (.aload_n 0, 1) := by decide +kernel
theorem dx_Shades_init_1 : decode prog_8_method_1_code 1 = .ok (.invokespecial 3, 3) := by decide +kernel
theorem dx_Shades_init_4 : decode prog_8_method_1_code 4 = .ok (.aload_n 0, 1) := by decide +kernel
theorem dx_Shades_init_5 : decode prog_8_method_1_code 5 = .ok (.bipush 100, 2) := by decide +kernel
theorem dx_Shades_init_7 : decode prog_8_method_1_code 7 = .ok (.newarray .int, 2) := by decide +kernel
theorem dx_Shades_init_9 : decode prog_8_method_1_code 9 = .ok (.putfield 9, 3) := by decide +kernel
theorem dx_Shades_init_12 : decode prog_8_method_1_code 12 = .ok (.aload_n 0, 1) := by decide +kernel
theorem dx_Shades_init_13 : decode prog_8_method_1_code 13 = .ok (.invokevirtual 15, 3) := by decide +kernel
theorem dx_Shades_init_16 : decode prog_8_method_1_code 16 = .ok (.return_, 1) := by decide +kernel
def yx_Shades_init : MethodName := ⟨"LentShades$Shades", "<init>", "()V"⟩
set_option maxRecDepth 20000 in
theorem a_Shades_init {l : Launch} {wc : sm_Wc} {h0 : Nat} : al_Ct l wc yx_Shades_init prog_8_method_1_code 1 1 20 1 100 h0 [(h0, .inr (6, [.null, .int 0]))] (fun r => [(r 0, .inr (6, [.ref (r 1), .int 1])), (r 1, .inl (wc.2.1 0, 100, .inl (upd (fun _ => 0) 80 1)))]) := by
  refine al_entry (by decide) (by decide) (fun x A hw hxl hi ok => ?_)
  subst hw
  subst hxl
  refine al_aload_n 0 ok dx_Shades_init_0 rfl ?_
  refine al_obj ok dx_Shades_init_1 wd_141 wd_126 wd_127 (by decide) (by decide) ?_
  refine al_aload_n 0 ok dx_Shades_init_4 rfl ?_
  refine al_bipush 100 ok dx_Shades_init_5 (by decide) ?_
  refine al_newi (N := 100) (c1 := 1) (s1 := 100) ok dx_Shades_init_7 wd_158 (by decide) (by decide) (by decide) rfl rfl (by decide) (by decide) (fun q1 => ?_)
  refine al_X (X' := (h0, .inr (6, [.null, .int 0])) :: [(q1, .inl ((xw x).2.1 0, 100, .inl (fun _ => 0)))]) rfl ?_
  refine al_putF (k := 0) ok dx_Shades_init_9 rfl zc_i6 zc_y6 zc_t6 zc_n6 (by decide) rfl hi rfl wd_146 rfl rfl (Nat.le_of_ble_eq_true rfl) ?_
  refine al_X (X' := (h0, .inr (6, [.ref q1, .int 0])) :: [(q1, .inl ((xw x).2.1 0, 100, .inl (fun _ => 0)))]) rfl ?_
  refine al_aload_n 0 ok dx_Shades_init_12 rfl ?_
  refine al_callV ok dx_Shades_init_13 (a_Shades_reset (h0 := h0)) rfl wd_142 mwx_Shades_reset (by decide) (by decide) (by decide) (by decide) (by decide) (fun _ _ => ?_)
  refine al_X (X' := (h0, .inr (6, [.ref q1, .int 1])) :: [(q1, .inl ((xw x).2.1 0, 100, .inl (upd (fun _ => 0) 80 1)))]) rfl ?_
  exact al_vret (fun i => [h0, q1].getD i 0) ok dx_Shades_init_16 rfl (fun H hP hD => ⟨hP, hD⟩)
theorem dx_Sum_init_0 : decode prog_9_method_1_code 0 = .ok (.aload_n 0, 1) := by decide +kernel
theorem dx_Sum_init_1 : decode prog_9_method_1_code 1 = .ok (.invokespecial 3, 3) := by decide +kernel
theorem dx_Sum_init_4 : decode prog_9_method_1_code 4 = .ok (.aload_n 0, 1) := by decide +kernel
theorem dx_Sum_init_5 : decode prog_9_method_1_code 5 = .ok (.iconst 5, 1) := by decide +kernel
theorem dx_Sum_init_6 : decode prog_9_method_1_code 6 = .ok (.newarray .long, 2) := by decide +kernel
theorem dx_Sum_init_8 : decode prog_9_method_1_code 8 = .ok (.putfield 9, 3) := by decide +kernel
theorem dx_Sum_init_11 : decode prog_9_method_1_code 11 = .ok (.aload_n 0, 1) := by decide +kernel
theorem dx_Sum_init_12 : decode prog_9_method_1_code 12 = .ok (.bipush 20, 2) := by decide +kernel
theorem dx_Sum_init_14 : decode prog_9_method_1_code 14 = .ok (.newarray .long, 2) := by decide +kernel
theorem dx_Sum_init_16 : decode prog_9_method_1_code 16 = .ok (.putfield 15, 3) := by decide +kernel
theorem dx_Sum_init_19 : decode prog_9_method_1_code 19 = .ok (.return_, 1) := by decide +kernel
def yx_Sum_init : MethodName := ⟨"LentShades$Sum", "<init>", "()V"⟩
set_option maxRecDepth 20000 in
theorem a_Sum_init {l : Launch} {wc : sm_Wc} {h0 : Nat} : al_Ct l wc yx_Sum_init prog_9_method_1_code 1 1 12 2 25 h0 [(h0, .inr (7, [.null, .null]))] (fun r => [(r 0, .inr (7, [.ref (r 1), .ref (r 2)])), (r 1, .inl (wc.2.1 1, 5, .inr (.inl (fun _ => 0)))), (r 2, .inl (wc.2.1 1, 20, .inr (.inl (fun _ => 0))))]) := by
  refine al_entry (by decide) (by decide) (fun x A hw hxl hi ok => ?_)
  subst hw
  subst hxl
  refine al_aload_n 0 ok dx_Sum_init_0 rfl ?_
  refine al_obj ok dx_Sum_init_1 wd_285 wd_126 wd_127 (by decide) (by decide) ?_
  refine al_aload_n 0 ok dx_Sum_init_4 rfl ?_
  refine al_iconst 5 ok dx_Sum_init_5 (by decide) ?_
  refine al_newl (N := 5) (c1 := 1) (s1 := 5) ok dx_Sum_init_6 wd_297 (by decide) (by decide) (by decide) rfl rfl (by decide) (by decide) (fun q1 => ?_)
  refine al_X (X' := (h0, .inr (7, [.null, .null])) :: [(q1, .inl ((xw x).2.1 1, 5, .inr (.inl (fun _ => 0))))]) rfl ?_
  refine al_putF (k := 0) ok dx_Sum_init_8 rfl zc_i7 zc_y7 zc_t7 zc_n7 (by decide) rfl hi rfl wd_286 rfl rfl (Nat.le_of_ble_eq_true rfl) ?_
  refine al_X (X' := (h0, .inr (7, [.ref q1, .null])) :: [(q1, .inl ((xw x).2.1 1, 5, .inr (.inl (fun _ => 0))))]) rfl ?_
  refine al_aload_n 0 ok dx_Sum_init_11 rfl ?_
  refine al_bipush 20 ok dx_Sum_init_12 (by decide) ?_
  refine al_newl (N := 20) (c1 := 2) (s1 := 25) ok dx_Sum_init_14 wd_297 (by decide) (by decide) (by decide) rfl rfl (by decide) (by decide) (fun q2 => ?_)
  refine al_X (X' := (h0, .inr (7, [.ref q1, .null])) :: [(q1, .inl ((xw x).2.1 1, 5, .inr (.inl (fun _ => 0)))), (q2, .inl ((xw x).2.1 1, 20, .inr (.inl (fun _ => 0))))]) rfl ?_
  refine al_putF (k := 1) ok dx_Sum_init_16 rfl zc_i7 zc_y7 zc_t7 zc_n7 (by decide) rfl hi rfl wd_291 rfl rfl (Nat.le_of_ble_eq_true rfl) ?_
  refine al_X (X' := (h0, .inr (7, [.ref q1, .ref q2])) :: [(q1, .inl ((xw x).2.1 1, 5, .inr (.inl (fun _ => 0)))), (q2, .inl ((xw x).2.1 1, 20, .inr (.inl (fun _ => 0))))]) rfl ?_
  exact al_vret (fun i => [h0, q1, q2].getD i 0) ok dx_Sum_init_19 rfl (fun H hP hD => ⟨hP, hD⟩)
theorem dx_Fraction_init_0 : decode prog_3_method_1_code 0 = .ok (.aload_n 0, 1) := by decide +kernel
theorem dx_Fraction_init_1 : decode prog_3_method_1_code 1 = .ok (.invokespecial 3, 3) := by decide +kernel
theorem dx_Fraction_init_4 : decode prog_3_method_1_code 4 = .ok (.aload_n 0, 1) := by decide +kernel
theorem dx_Fraction_init_5 : decode prog_3_method_1_code 5 = .ok (.bipush 20, 2) := by decide +kernel
theorem dx_Fraction_init_7 : decode prog_3_method_1_code 7 = .ok (.newarray .int, 2) := by decide +kernel
theorem dx_Fraction_init_9 : decode prog_3_method_1_code 9 = .ok (.putfield 9, 3) := by decide +kernel
theorem dx_Fraction_init_12 : decode prog_3_method_1_code 12 = .ok (.aload_n 0, 1) := by decide +kernel
theorem dx_Fraction_init_13 : decode prog_3_method_1_code 13 = .ok (.bipush 20, 2) := by decide +kernel
theorem dx_Fraction_init_15 : decode prog_3_method_1_code 15 = .ok (.newarray .int, 2) := by decide +kernel
theorem dx_Fraction_init_17 : decode prog_3_method_1_code 17 = .ok (.putfield 15, 3) := by decide +kernel
theorem dx_Fraction_init_20 : decode prog_3_method_1_code 20 = .ok (.aload_n 0, 1) := by decide +kernel
theorem dx_Fraction_init_21 : decode prog_3_method_1_code 21 = .ok (.iconst 0, 1) := by decide +kernel
theorem dx_Fraction_init_22 : decode prog_3_method_1_code 22 = .ok (.putfield 18, 3) := by decide +kernel
theorem dx_Fraction_init_25 : decode prog_3_method_1_code 25 = .ok (.aload_n 0, 1) := by decide +kernel
theorem dx_Fraction_init_26 : decode prog_3_method_1_code 26 = .ok (.iconst 1, 1) := by decide +kernel
theorem dx_Fraction_init_27 : decode prog_3_method_1_code 27 = .ok (.putfield 22, 3) := by decide +kernel
theorem dx_Fraction_init_30 : decode prog_3_method_1_code 30 = .ok (.aload_n 0, 1) := by decide +kernel
theorem dx_Fraction_init_31 : decode prog_3_method_1_code 31 = .ok (.getfield 15, 3) := by decide +kernel
theorem dx_Fraction_init_34 : decode prog_3_method_1_code 34 = .ok (.iconst 0, 1) := by decide +kernel
theorem dx_Fraction_init_35 : decode prog_3_method_1_code 35 = .ok (.iconst 1, 1) := by decide +kernel
theorem dx_Fraction_init_36 : decode prog_3_method_1_code 36 = .ok (.iastore, 1) := by decide +kernel
theorem dx_Fraction_init_37 : decode prog_3_method_1_code 37 = .ok (.return_, 1) := by decide +kernel
def yx_Fraction_init : MethodName := ⟨"LentShades$Fraction", "<init>", "()V"⟩
set_option maxRecDepth 20000 in
theorem a_Fraction_init {l : Launch} {wc : sm_Wc} {h0 : Nat} : al_Ct l wc yx_Fraction_init prog_3_method_1_code 1 1 12 2 40 h0 [(h0, .inr (1, [.null, .null, .int 0, .int 0]))] (fun r => [(r 0, .inr (1, [.ref (r 1), .ref (r 2), .int 0, .int 1])), (r 1, .inl (wc.2.1 0, 20, .inl (fun _ => 0))), (r 2, .inl (wc.2.1 0, 20, .inl (upd (fun _ => 0) 0 1)))]) := by
  refine al_entry (by decide) (by decide) (fun x A hw hxl hi ok => ?_)
  subst hw
  subst hxl
  refine al_aload_n 0 ok dx_Fraction_init_0 rfl ?_
  refine al_obj ok dx_Fraction_init_1 wd_266 wd_126 wd_127 (by decide) (by decide) ?_
  refine al_aload_n 0 ok dx_Fraction_init_4 rfl ?_
  refine al_bipush 20 ok dx_Fraction_init_5 (by decide) ?_
  refine al_newi (N := 20) (c1 := 1) (s1 := 20) ok dx_Fraction_init_7 wd_158 (by decide) (by decide) (by decide) rfl rfl (by decide) (by decide) (fun q1 => ?_)
  refine al_X (X' := (h0, .inr (1, [.null, .null, .int 0, .int 0])) :: [(q1, .inl ((xw x).2.1 0, 20, .inl (fun _ => 0)))]) rfl ?_
  refine al_putF (k := 0) ok dx_Fraction_init_9 rfl zc_i1 zc_y1 zc_t1 zc_n1 (by decide) rfl hi rfl wd_267 rfl rfl (Nat.le_of_ble_eq_true rfl) ?_
  refine al_X (X' := (h0, .inr (1, [.ref q1, .null, .int 0, .int 0])) :: [(q1, .inl ((xw x).2.1 0, 20, .inl (fun _ => 0)))]) rfl ?_
  refine al_aload_n 0 ok dx_Fraction_init_12 rfl ?_
  refine al_bipush 20 ok dx_Fraction_init_13 (by decide) ?_
  refine al_newi (N := 20) (c1 := 2) (s1 := 40) ok dx_Fraction_init_15 wd_158 (by decide) (by decide) (by decide) rfl rfl (by decide) (by decide) (fun q2 => ?_)
  refine al_X (X' := (h0, .inr (1, [.ref q1, .null, .int 0, .int 0])) :: [(q1, .inl ((xw x).2.1 0, 20, .inl (fun _ => 0))), (q2, .inl ((xw x).2.1 0, 20, .inl (fun _ => 0)))]) rfl ?_
  refine al_putF (k := 1) ok dx_Fraction_init_17 rfl zc_i1 zc_y1 zc_t1 zc_n1 (by decide) rfl hi rfl wd_268 rfl rfl (Nat.le_of_ble_eq_true rfl) ?_
  refine al_X (X' := (h0, .inr (1, [.ref q1, .ref q2, .int 0, .int 0])) :: [(q1, .inl ((xw x).2.1 0, 20, .inl (fun _ => 0))), (q2, .inl ((xw x).2.1 0, 20, .inl (fun _ => 0)))]) rfl ?_
  refine al_aload_n 0 ok dx_Fraction_init_20 rfl ?_
  refine al_iconst 0 ok dx_Fraction_init_21 (by decide) ?_
  refine al_putI (k := 2) ok dx_Fraction_init_22 rfl zc_i1 zc_y1 zc_t1 zc_n1 (by decide) rfl wd_269 rfl rfl (Nat.le_of_ble_eq_true rfl) ?_
  refine al_X (X' := (h0, .inr (1, [.ref q1, .ref q2, .int 0, .int 0])) :: [(q1, .inl ((xw x).2.1 0, 20, .inl (fun _ => 0))), (q2, .inl ((xw x).2.1 0, 20, .inl (fun _ => 0)))]) rfl ?_
  refine al_aload_n 0 ok dx_Fraction_init_25 rfl ?_
  refine al_iconst 1 ok dx_Fraction_init_26 (by decide) ?_
  refine al_putI (k := 3) ok dx_Fraction_init_27 rfl zc_i1 zc_y1 zc_t1 zc_n1 (by decide) rfl wd_270 rfl rfl (Nat.le_of_ble_eq_true rfl) ?_
  refine al_X (X' := (h0, .inr (1, [.ref q1, .ref q2, .int 0, .int 1])) :: [(q1, .inl ((xw x).2.1 0, 20, .inl (fun _ => 0))), (q2, .inl ((xw x).2.1 0, 20, .inl (fun _ => 0)))]) rfl ?_
  refine al_aload_n 0 ok dx_Fraction_init_30 rfl ?_
  refine al_get (k := 1) ok dx_Fraction_init_31 rfl zc_i1 (by decide) wd_268 rfl ?_
  refine al_iconst 0 ok dx_Fraction_init_34 (by decide) ?_
  refine al_iconst 1 ok dx_Fraction_init_35 (by decide) ?_
  refine al_iast 2 ok dx_Fraction_init_36 rfl (by decide) ?_
  refine al_X (X' := (h0, .inr (1, [.ref q1, .ref q2, .int 0, .int 1])) :: [(q1, .inl ((xw x).2.1 0, 20, .inl (fun _ => 0))), (q2, .inl ((xw x).2.1 0, 20, .inl (upd (fun _ => 0) 0 1)))]) rfl ?_
  exact al_vret (fun i => [h0, q1, q2].getD i 0) ok dx_Fraction_init_37 rfl (fun H hP hD => ⟨hP, hD⟩)
theorem dx_Reader_init_0 : decode prog_6_method_1_code 0 = .ok (.aload_n 0, 1) := by decide +kernel
theorem dx_Reader_init_1 : decode prog_6_method_1_code 1 = .ok (.invokespecial 3, 3) := by decide +kernel
theorem dx_Reader_init_4 : decode prog_6_method_1_code 4 = .ok (.aload_n 0, 1) := by decide +kernel
theorem dx_Reader_init_5 : decode prog_6_method_1_code 5 = .ok (.sipush 200, 3) := by decide +kernel
theorem dx_Reader_init_8 : decode prog_6_method_1_code 8 = .ok (.newarray .int, 2) := by decide +kernel
theorem dx_Reader_init_10 : decode prog_6_method_1_code 10 = .ok (.putfield 9, 3) := by decide +kernel
theorem dx_Reader_init_13 : decode prog_6_method_1_code 13 = .ok (.return_, 1) := by decide +kernel
def yx_Reader_init : MethodName := ⟨"LentShades$Reader", "<init>", "()V"⟩
set_option maxRecDepth 20000 in
theorem a_Reader_init {l : Launch} {wc : sm_Wc} {h0 : Nat} : al_Ct l wc yx_Reader_init prog_6_method_1_code 1 1 12 1 200 h0 [(h0, .inr (4, [.null, .int 0, .int 0, .int 0, .int 0, .int 0, .int 0, .int 0]))] (fun r => [(r 0, .inr (4, [.ref (r 1), .int 0, .int 0, .int 0, .int 0, .int 0, .int 0, .int 0])), (r 1, .inl (wc.2.1 0, 200, .inl (fun _ => 0)))]) := by
  refine al_entry (by decide) (by decide) (fun x A hw hxl hi ok => ?_)
  subst hw
  subst hxl
  refine al_aload_n 0 ok dx_Reader_init_0 rfl ?_
  refine al_obj ok dx_Reader_init_1 wd_233 wd_126 wd_127 (by decide) (by decide) ?_
  refine al_aload_n 0 ok dx_Reader_init_4 rfl ?_
  refine al_sipush 200 ok dx_Reader_init_5 (by decide) ?_
  refine al_newi (N := 200) (c1 := 1) (s1 := 200) ok dx_Reader_init_8 wd_158 (by decide) (by decide) (by decide) rfl rfl (by decide) (by decide) (fun q1 => ?_)
  refine al_X (X' := (h0, .inr (4, [.null, .int 0, .int 0, .int 0, .int 0, .int 0, .int 0, .int 0])) :: [(q1, .inl ((xw x).2.1 0, 200, .inl (fun _ => 0)))]) rfl ?_
  refine al_putF (k := 0) ok dx_Reader_init_10 rfl zc_i4 zc_y4 zc_t4 zc_n4 (by decide) rfl hi rfl wd_234 rfl rfl (Nat.le_of_ble_eq_true rfl) ?_
  refine al_X (X' := (h0, .inr (4, [.ref q1, .int 0, .int 0, .int 0, .int 0, .int 0, .int 0, .int 0])) :: [(q1, .inl ((xw x).2.1 0, 200, .inl (fun _ => 0)))]) rfl ?_
  exact al_vret (fun i => [h0, q1].getD i 0) ok dx_Reader_init_13 rfl (fun H hP hD => ⟨hP, hD⟩)
