theorem wd_127 : (Jvm.Cond.code ({ cls := "java/lang/Object", name := "<init>", desc := "()V" } : Jvm.MethodName) object_method_1_code (1 : Nat) (Option.none : Option Jvm.ClassFile.FieldType)) ∈ sm_GW := sm_w 127 (by decide +kernel) (by decide +kernel)
theorem wd_141 : (Jvm.Cond.methodLink "LentShades$Shades" (3 : Nat) ({ cls := "java/lang/Object", name := "<init>", desc := "()V" } : Jvm.MethodName)) ∈ sm_GW := sm_w 141 (by decide +kernel) (by decide +kernel)
theorem wd_126 : (Jvm.Cond.instanceMethod ({ cls := "java/lang/Object", name := "<init>", desc := "()V" } : Jvm.MethodName)) ∈ sm_GW := sm_w 126 (by decide +kernel) (by decide +kernel)
theorem wd_158 : (Jvm.Cond.arrayClass Jvm.ClassFile.FieldType.int) ∈ sm_GW := sm_w 158 (by decide +kernel) (by decide +kernel)
theorem wd_142 : (Jvm.Cond.methodLink "LentShades$Shades" (15 : Nat) ({ cls := "LentShades$Shades", name := "reset", desc := "()V" } : Jvm.MethodName)) ∈ sm_GW := sm_w 142 (by decide +kernel) (by decide +kernel)
theorem wd_285 : (Jvm.Cond.methodLink "LentShades$Sum" (3 : Nat) ({ cls := "java/lang/Object", name := "<init>", desc := "()V" } : Jvm.MethodName)) ∈ sm_GW := sm_w 285 (by decide +kernel) (by decide +kernel)
theorem wd_297 : (Jvm.Cond.arrayClass Jvm.ClassFile.FieldType.long) ∈ sm_GW := sm_w 297 (by decide +kernel) (by decide +kernel)
theorem wd_266 : (Jvm.Cond.methodLink "LentShades$Fraction" (3 : Nat) ({ cls := "java/lang/Object", name := "<init>", desc := "()V" } : Jvm.MethodName)) ∈ sm_GW := sm_w 266 (by decide +kernel) (by decide +kernel)
theorem wd_233 : (Jvm.Cond.methodLink "LentShades$Reader" (3 : Nat) ({ cls := "java/lang/Object", name := "<init>", desc := "()V" } : Jvm.MethodName)) ∈ sm_GW := sm_w 233 (by decide +kernel) (by decide +kernel)
theorem wd_345 : (Jvm.Cond.methodLink "LentShades$Resting" (3 : Nat) ({ cls := "java/lang/Object", name := "<init>", desc := "()V" } : Jvm.MethodName)) ∈ sm_GW := sm_w 345 (by decide +kernel) (by decide +kernel)
theorem wd_346 : (Jvm.Cond.classLink "LentShades$Resting" (9 : Nat) "[[I") ∈ sm_GW := sm_w 346 (by decide +kernel) (by decide +kernel)
theorem wd_356 : (Jvm.Cond.methodLink "LentShades$Mover" (3 : Nat) ({ cls := "java/lang/Object", name := "<init>", desc := "()V" } : Jvm.MethodName)) ∈ sm_GW := sm_w 356 (by decide +kernel) (by decide +kernel)
theorem wd_357 : (Jvm.Cond.classLink "LentShades$Mover" (9 : Nat) "[[I") ∈ sm_GW := sm_w 357 (by decide +kernel) (by decide +kernel)
theorem wd_387 : (Jvm.Cond.methodLink "LentShades$Chest" (3 : Nat) ({ cls := "java/lang/Object", name := "<init>", desc := "()V" } : Jvm.MethodName)) ∈ sm_GW := sm_w 387 (by decide +kernel) (by decide +kernel)
theorem wd_388 : (Jvm.Cond.classLink "LentShades$Chest" (9 : Nat) "[[I") ∈ sm_GW := sm_w 388 (by decide +kernel) (by decide +kernel)
theorem wd_303 : (Jvm.Cond.methodLink "LentShades$Takings" (3 : Nat) ({ cls := "java/lang/Object", name := "<init>", desc := "()V" } : Jvm.MethodName)) ∈ sm_GW := sm_w 303 (by decide +kernel) (by decide +kernel)
theorem wd_304 : (Jvm.Cond.classLink "LentShades$Takings" (9 : Nat) "LentShades$Sum") ∈ sm_GW := sm_w 304 (by decide +kernel) (by decide +kernel)
theorem wd_281 : (Jvm.Cond.instantiable "LentShades$Sum" (2 : Nat)) ∈ sm_GW := sm_w 281 (by decide +kernel) (by decide +kernel)
theorem wd_283 : (Jvm.Cond.instanceMethod ({ cls := "LentShades$Sum", name := "<init>", desc := "()V" } : Jvm.MethodName)) ∈ sm_GW := sm_w 283 (by decide +kernel) (by decide +kernel)
theorem wd_284 : (Jvm.Cond.code ({ cls := "LentShades$Sum", name := "<init>", desc := "()V" } : Jvm.MethodName) prog_9_method_1_code (1 : Nat) (Option.none : Option Jvm.ClassFile.FieldType)) ∈ sm_GW := sm_w 284 (by decide +kernel) (by decide +kernel)
theorem wd_306 : (Jvm.Cond.classLink "LentShades$Takings" (18 : Nat) "[[I") ∈ sm_GW := sm_w 306 (by decide +kernel) (by decide +kernel)
theorem wd_260 : (Jvm.Cond.arrayClass Jvm.ClassFile.FieldType.boolean) ∈ sm_GW := sm_w 260 (by decide +kernel) (by decide +kernel)
theorem wd_307 : (Jvm.Cond.classLink "LentShades$Takings" (34 : Nat) "LentShades$Shades") ∈ sm_GW := sm_w 307 (by decide +kernel) (by decide +kernel)
theorem wd_137 : (Jvm.Cond.instantiable "LentShades$Shades" (2 : Nat)) ∈ sm_GW := sm_w 137 (by decide +kernel) (by decide +kernel)
theorem wd_308 : (Jvm.Cond.methodLink "LentShades$Takings" (36 : Nat) ({ cls := "LentShades$Shades", name := "<init>", desc := "()V" } : Jvm.MethodName)) ∈ sm_GW := sm_w 308 (by decide +kernel) (by decide +kernel)
theorem wd_139 : (Jvm.Cond.instanceMethod ({ cls := "LentShades$Shades", name := "<init>", desc := "()V" } : Jvm.MethodName)) ∈ sm_GW := sm_w 139 (by decide +kernel) (by decide +kernel)
theorem wd_140 : (Jvm.Cond.code ({ cls := "LentShades$Shades", name := "<init>", desc := "()V" } : Jvm.MethodName) prog_8_method_1_code (1 : Nat) (Option.none : Option Jvm.ClassFile.FieldType)) ∈ sm_GW := sm_w 140 (by decide +kernel) (by decide +kernel)
theorem wd_133 : (Jvm.Cond.methodLink "LentShades$House" (3 : Nat) ({ cls := "java/lang/Object", name := "<init>", desc := "()V" } : Jvm.MethodName)) ∈ sm_GW := sm_w 133 (by decide +kernel) (by decide +kernel)
theorem wd_134 : (Jvm.Cond.classLink "LentShades$House" (27 : Nat) "[[I") ∈ sm_GW := sm_w 134 (by decide +kernel) (by decide +kernel)
theorem wd_136 : (Jvm.Cond.classLink "LentShades$House" (32 : Nat) "LentShades$Shades") ∈ sm_GW := sm_w 136 (by decide +kernel) (by decide +kernel)
theorem wd_138 : (Jvm.Cond.methodLink "LentShades$House" (34 : Nat) ({ cls := "LentShades$Shades", name := "<init>", desc := "()V" } : Jvm.MethodName)) ∈ sm_GW := sm_w 138 (by decide +kernel) (by decide +kernel)
theorem al_d0 : ∀ j, j < 3 → defaultValue (zc_y0 j) = vp_V [.null, .null, .null] j := fun j hj => by rcases (show j = 0 ∨ j = 1 ∨ j = 2 by omega) with rfl | rfl | rfl <;> rfl
theorem al_d1 : ∀ j, j < 4 → defaultValue (zc_y1 j) = vp_V [.null, .null, .int 0, .int 0] j := fun j hj => by rcases (show j = 0 ∨ j = 1 ∨ j = 2 ∨ j = 3 by omega) with rfl | rfl | rfl | rfl <;> rfl
theorem al_d2 : ∀ j, j < 14 → defaultValue (zc_y2 j) = vp_V [.null, .null, .null, .null, .null, .null, .null, .null, .null, .int 0, .int 0, .int 0, .int 0, .int 0] j := fun j hj => by rcases (show j = 0 ∨ j = 1 ∨ j = 2 ∨ j = 3 ∨ j = 4 ∨ j = 5 ∨ j = 6 ∨ j = 7 ∨ j = 8 ∨ j = 9 ∨ j = 10 ∨ j = 11 ∨ j = 12 ∨ j = 13 by omega) with rfl | rfl | rfl | rfl | rfl | rfl | rfl | rfl | rfl | rfl | rfl | rfl | rfl | rfl <;> rfl
theorem al_d3 : ∀ j, j < 7 → defaultValue (zc_y3 j) = vp_V [.null, .int 0, .int 0, .int 0, .int 0, .int 0, .int 0] j := fun j hj => by rcases (show j = 0 ∨ j = 1 ∨ j = 2 ∨ j = 3 ∨ j = 4 ∨ j = 5 ∨ j = 6 by omega) with rfl | rfl | rfl | rfl | rfl | rfl | rfl <;> rfl
theorem al_d4 : ∀ j, j < 8 → defaultValue (zc_y4 j) = vp_V [.null, .int 0, .int 0, .int 0, .int 0, .int 0, .int 0, .int 0] j := fun j hj => by rcases (show j = 0 ∨ j = 1 ∨ j = 2 ∨ j = 3 ∨ j = 4 ∨ j = 5 ∨ j = 6 ∨ j = 7 by omega) with rfl | rfl | rfl | rfl | rfl | rfl | rfl | rfl <;> rfl
theorem al_d5 : ∀ j, j < 1 → defaultValue (zc_y5 j) = vp_V [.null] j := fun j hj => by rcases (show j = 0 by omega) with rfl <;> rfl
theorem al_d6 : ∀ j, j < 2 → defaultValue (zc_y6 j) = vp_V [.null, .int 0] j := fun j hj => by rcases (show j = 0 ∨ j = 1 by omega) with rfl | rfl <;> rfl
theorem al_d7 : ∀ j, j < 2 → defaultValue (zc_y7 j) = vp_V [.null, .null] j := fun j hj => by rcases (show j = 0 ∨ j = 1 by omega) with rfl | rfl <;> rfl
theorem al_d8 : ∀ j, j < 9 → defaultValue (zc_y8 j) = vp_V [.null, .null, .null, .null, .null, .int 0, .int 0, .null, .null] j := fun j hj => by rcases (show j = 0 ∨ j = 1 ∨ j = 2 ∨ j = 3 ∨ j = 4 ∨ j = 5 ∨ j = 6 ∨ j = 7 ∨ j = 8 by omega) with rfl | rfl | rfl | rfl | rfl | rfl | rfl | rfl | rfl <;> rfl
theorem al_d9 : ∀ j, j < 14 → defaultValue (zc_y9 j) = vp_V [.null, .null, .null, .null, .null, .null, .null, .null, .null, .null, .null, .int 0, .int 0, .int 0] j := fun j hj => by rcases (show j = 0 ∨ j = 1 ∨ j = 2 ∨ j = 3 ∨ j = 4 ∨ j = 5 ∨ j = 6 ∨ j = 7 ∨ j = 8 ∨ j = 9 ∨ j = 10 ∨ j = 11 ∨ j = 12 ∨ j = 13 by omega) with rfl | rfl | rfl | rfl | rfl | rfl | rfl | rfl | rfl | rfl | rfl | rfl | rfl | rfl <;> rfl
theorem al_d10 : ∀ j, j < 32 → defaultValue (zc_y10 j) = vp_V [.null, .null, .null, .null, .null, .null, .int 0, .null, .null, .null, .null, .null, .null, .int 0, .null, .null, .int 0, .int 0, .null, .null, .null, .int 0, .int 0, .int 0, .int 0, .int 0, .null, .null, .null, .int 0, .int 0, .int 0] j := fun j hj => by rcases (show j = 0 ∨ j = 1 ∨ j = 2 ∨ j = 3 ∨ j = 4 ∨ j = 5 ∨ j = 6 ∨ j = 7 ∨ j = 8 ∨ j = 9 ∨ j = 10 ∨ j = 11 ∨ j = 12 ∨ j = 13 ∨ j = 14 ∨ j = 15 ∨ j = 16 ∨ j = 17 ∨ j = 18 ∨ j = 19 ∨ j = 20 ∨ j = 21 ∨ j = 22 ∨ j = 23 ∨ j = 24 ∨ j = 25 ∨ j = 26 ∨ j = 27 ∨ j = 28 ∨ j = 29 ∨ j = 30 ∨ j = 31 by omega) with rfl | rfl | rfl | rfl | rfl | rfl | rfl | rfl | rfl | rfl | rfl | rfl | rfl | rfl | rfl | rfl | rfl | rfl | rfl | rfl | rfl | rfl | rfl | rfl | rfl | rfl | rfl | rfl | rfl | rfl | rfl | rfl <;> rfl
set_option maxRecDepth 20000 in
theorem a_Shades_reset {l : Launch} {wc : sm_Wc} {h0 b : Nat} : al_Ct l wc yx_Shades_reset prog_8_method_2_code 1 0 0 0 0 h0 [(h0, .inr (6, [.ref b, .int 0])), (b, .inl (wc.2.1 0, 100, .inl (fun _ => 0)))] (fun _ => [(h0, .inr (6, [.ref b, .int 1])), (b, .inl (wc.2.1 0, 100, .inl (upd (fun _ => 0) 80 1)))]) := by
  refine al_entry (by decide) (by decide) (fun x A hw hxl hi hr ok => ?_)
  subst hw
  subst hxl
  refine al_aload_n 0 ok dx_Shades_reset_0 rfl ?_
  refine al_get (k := 0) ok dx_Shades_reset_1 rfl zc_i6 (by decide) wd_146 rfl ?_
  refine al_bipush 80 ok dx_Shades_reset_4 (by decide) ?_
  refine al_iconst 1 ok dx_Shades_reset_6 (by decide) ?_
  refine al_iast 1 ok dx_Shades_reset_7 rfl (by decide) ?_
  refine al_X (X' := (h0, .inr (6, [.ref b, .int 0])) :: [(b, .inl ((xw x).2.1 0, 100, .inl (upd (fun _ => 0) 80 1)))]) rfl ?_
  refine al_aload_n 0 ok dx_Shades_reset_8 rfl ?_
  refine al_iconst 1 ok dx_Shades_reset_9 (by decide) ?_
  refine al_putI (k := 1) ok dx_Shades_reset_10 rfl zc_i6 zc_y6 zc_t6 zc_n6 (by decide) rfl wd_149 rfl rfl (Nat.le_of_ble_eq_true rfl) ?_
  refine al_X (X' := (h0, .inr (6, [.ref b, .int 1])) :: [(b, .inl ((xw x).2.1 0, 100, .inl (upd (fun _ => 0) 80 1)))]) rfl ?_
  exact al_vret (fun _ => h0) hr ok dx_Shades_reset_13 rfl (fun H hP hD => ⟨hP, hD⟩)
theorem dx_Shades_init_0 : decode prog_8_method_1_code 0 = .ok (.aload_n 0, 1) := by decide +kernel
theorem dx_Shades_init_1 : decode prog_8_method_1_code 1 = .ok (.invokespecial 3, 3) := by decide +kernel
theorem dx_Shades_init_4 : decode prog_8_method_1_code 4 = .ok (.aload_n 0, 1) := by decide +kernel
theorem dx_Shades_init_5 : decode prog_8_method_1_code 5 = .ok (.bipush 100, 2) := by decide +kernel
theorem dx_Shades_init_7 : decode prog_8_method_1_code 7 = .ok (.newarray .int, 2) := by decide +kernel
theorem dx_Shades_init_9 : decode prog_8_method_1_code 9 = .ok (.putfield 9, 3) := by decide +kernel
theorem dx_Shades_init_12 : decode prog_8_method_1_code 12 = .ok (.aload_n 0, 1) := by decide +kernel
theorem dx_Shades_init_13 : decode prog_8_method_1_code 13 = .ok (.invokevirtual 15, 3) := by decide +kernel
theorem dx_Shades_init_16 : decode prog_8_method_1_code 16 = .ok (.return_, 1) := by decide +kernel
def yx_Shades_init : MethodName := ⟨"LentShades$Shades", "<init>", "()V"⟩
set_option maxRecDepth 20000 in
theorem a_Shades_init {l : Launch} {wc : sm_Wc} {h0 : Nat} : al_Ct l wc yx_Shades_init prog_8_method_1_code 1 1 20 1 100 h0 [(h0, .inr (6, [.null, .int 0]))] (fun r => [(r 0, .inr (6, [.ref (r 1), .int 1])), (r 1, .inl (wc.2.1 0, 100, .inl (upd (fun _ => 0) 80 1)))]) := by
  refine al_entry (by decide) (by decide) (fun x A hw hxl hi hr ok => ?_)
  subst hw
  subst hxl
  refine al_aload_n 0 ok dx_Shades_init_0 rfl ?_
  refine al_obj ok dx_Shades_init_1 wd_141 wd_126 wd_127 (by decide) (by decide) ?_
  refine al_aload_n 0 ok dx_Shades_init_4 rfl ?_
  refine al_bipush 100 ok dx_Shades_init_5 (by decide) ?_
  refine al_newi (N := 100) (c1 := 1) (s1 := 100) ok dx_Shades_init_7 wd_158 (by decide) (by decide) (by decide) rfl rfl (by decide) (by decide) (fun q1 => ?_)
  refine al_X (X' := (h0, .inr (6, [.null, .int 0])) :: [(q1, .inl ((xw x).2.1 0, 100, .inl (fun _ => 0)))]) rfl ?_
  refine al_putF (k := 0) ok dx_Shades_init_9 rfl zc_i6 zc_y6 zc_t6 zc_n6 (by decide) rfl hi rfl wd_146 rfl rfl (Nat.le_of_ble_eq_true rfl) ?_
  refine al_X (X' := (h0, .inr (6, [.ref q1, .int 0])) :: [(q1, .inl ((xw x).2.1 0, 100, .inl (fun _ => 0)))]) rfl ?_
  refine al_aload_n 0 ok dx_Shades_init_12 rfl ?_
  refine al_callV ok dx_Shades_init_13 (a_Shades_reset (h0 := h0)) rfl wd_142 mwx_Shades_reset (by decide) (by decide) (by decide) (by decide) (by decide) (fun _ _ => ?_)
  refine al_X (X' := (h0, .inr (6, [.ref q1, .int 1])) :: [(q1, .inl ((xw x).2.1 0, 100, .inl (upd (fun _ => 0) 80 1)))]) rfl ?_
  exact al_vret (fun i => [h0, q1].getD i 0) hr ok dx_Shades_init_16 rfl (fun H hP hD => ⟨hP, hD⟩)
theorem dx_Sum_init_0 : decode prog_9_method_1_code 0 = .ok (.aload_n 0, 1) := by decide +kernel
theorem dx_Sum_init_1 : decode prog_9_method_1_code 1 = .ok (.invokespecial 3, 3) := by decide +kernel
theorem dx_Sum_init_4 : decode prog_9_method_1_code 4 = .ok (.aload_n 0, 1) := by decide +kernel
theorem dx_Sum_init_5 : decode prog_9_method_1_code 5 = .ok (.iconst 5, 1) := by decide +kernel
theorem dx_Sum_init_6 : decode prog_9_method_1_code 6 = .ok (.newarray .long, 2) := by decide +kernel
theorem dx_Sum_init_8 : decode prog_9_method_1_code 8 = .ok (.putfield 9, 3) := by decide +kernel
theorem dx_Sum_init_11 : decode prog_9_method_1_code 11 = .ok (.aload_n 0, 1) := by decide +kernel
theorem dx_Sum_init_12 : decode prog_9_method_1_code 12 = .ok (.bipush 20, 2) := by decide +kernel
theorem dx_Sum_init_14 : decode prog_9_method_1_code 14 = .ok (.newarray .long, 2) := by decide +kernel
theorem dx_Sum_init_16 : decode prog_9_method_1_code 16 = .ok (.putfield 15, 3) := by decide +kernel
theorem dx_Sum_init_19 : decode prog_9_method_1_code 19 = .ok (.return_, 1) := by decide +kernel
def yx_Sum_init : MethodName := ⟨"LentShades$Sum", "<init>", "()V"⟩
set_option maxRecDepth 20000 in
theorem a_Sum_init {l : Launch} {wc : sm_Wc} {h0 : Nat} : al_Ct l wc yx_Sum_init prog_9_method_1_code 1 1 12 2 25 h0 [(h0, .inr (7, [.null, .null]))] (fun r => [(r 0, .inr (7, [.ref (r 1), .ref (r 2)])), (r 1, .inl (wc.2.1 1, 5, .inr (.inl (fun _ => 0)))), (r 2, .inl (wc.2.1 1, 20, .inr (.inl (fun _ => 0))))]) := by
  refine al_entry (by decide) (by decide) (fun x A hw hxl hi hr ok => ?_)
  subst hw
  subst hxl
  refine al_aload_n 0 ok dx_Sum_init_0 rfl ?_
  refine al_obj ok dx_Sum_init_1 wd_285 wd_126 wd_127 (by decide) (by decide) ?_
  refine al_aload_n 0 ok dx_Sum_init_4 rfl ?_
  refine al_iconst 5 ok dx_Sum_init_5 (by decide) ?_
  refine al_newl (N := 5) (c1 := 1) (s1 := 5) ok dx_Sum_init_6 wd_297 (by decide) (by decide) (by decide) rfl rfl (by decide) (by decide) (fun q1 => ?_)
  refine al_X (X' := (h0, .inr (7, [.null, .null])) :: [(q1, .inl ((xw x).2.1 1, 5, .inr (.inl (fun _ => 0))))]) rfl ?_
  refine al_putF (k := 0) ok dx_Sum_init_8 rfl zc_i7 zc_y7 zc_t7 zc_n7 (by decide) rfl hi rfl wd_286 rfl rfl (Nat.le_of_ble_eq_true rfl) ?_
  refine al_X (X' := (h0, .inr (7, [.ref q1, .null])) :: [(q1, .inl ((xw x).2.1 1, 5, .inr (.inl (fun _ => 0))))]) rfl ?_
  refine al_aload_n 0 ok dx_Sum_init_11 rfl ?_
  refine al_bipush 20 ok dx_Sum_init_12 (by decide) ?_
  refine al_newl (N := 20) (c1 := 2) (s1 := 25) ok dx_Sum_init_14 wd_297 (by decide) (by decide) (by decide) rfl rfl (by decide) (by decide) (fun q2 => ?_)
  refine al_X (X' := (h0, .inr (7, [.ref q1, .null])) :: [(q1, .inl ((xw x).2.1 1, 5, .inr (.inl (fun _ => 0)))), (q2, .inl ((xw x).2.1 1, 20, .inr (.inl (fun _ => 0))))]) rfl ?_
  refine al_putF (k := 1) ok dx_Sum_init_16 rfl zc_i7 zc_y7 zc_t7 zc_n7 (by decide) rfl hi rfl wd_291 rfl rfl (Nat.le_of_ble_eq_true rfl) ?_
  refine al_X (X' := (h0, .inr (7, [.ref q1, .ref q2])) :: [(q1, .inl ((xw x).2.1 1, 5, .inr (.inl (fun _ => 0)))), (q2, .inl ((xw x).2.1 1, 20, .inr (.inl (fun _ => 0))))]) rfl ?_
  exact al_vret (fun i => [h0, q1, q2].getD i 0) hr ok dx_Sum_init_19 rfl (fun H hP hD => ⟨hP, hD⟩)
theorem dx_Fraction_init_0 : decode prog_3_method_1_code 0 = .ok (.aload_n 0, 1) := by decide +kernel
theorem dx_Fraction_init_1 : decode prog_3_method_1_code 1 = .ok (.invokespecial 3, 3) := by decide +kernel
theorem dx_Fraction_init_4 : decode prog_3_method_1_code 4 = .ok (.aload_n 0, 1) := by decide +kernel
theorem dx_Fraction_init_5 : decode prog_3_method_1_code 5 = .ok (.bipush 20, 2) := by decide +kernel
theorem dx_Fraction_init_7 : decode prog_3_method_1_code 7 = .ok (.newarray .int, 2) := by decide +kernel
theorem dx_Fraction_init_9 : decode prog_3_method_1_code 9 = .ok (.putfield 9, 3) := by decide +kernel
theorem dx_Fraction_init_12 : decode prog_3_method_1_code 12 = .ok (.aload_n 0, 1) := by decide +kernel
theorem dx_Fraction_init_13 : decode prog_3_method_1_code 13 = .ok (.bipush 20, 2) := by decide +kernel
theorem dx_Fraction_init_15 : decode prog_3_method_1_code 15 = .ok (.newarray .int, 2) := by decide +kernel
theorem dx_Fraction_init_17 : decode prog_3_method_1_code 17 = .ok (.putfield 15, 3) := by decide +kernel
theorem dx_Fraction_init_20 : decode prog_3_method_1_code 20 = .ok (.aload_n 0, 1) := by decide +kernel
theorem dx_Fraction_init_21 : decode prog_3_method_1_code 21 = .ok (.iconst 0, 1) := by decide +kernel
theorem dx_Fraction_init_22 : decode prog_3_method_1_code 22 = .ok (.putfield 18, 3) := by decide +kernel
theorem dx_Fraction_init_25 : decode prog_3_method_1_code 25 = .ok (.aload_n 0, 1) := by decide +kernel
theorem dx_Fraction_init_26 : decode prog_3_method_1_code 26 = .ok (.iconst 1, 1) := by decide +kernel
theorem dx_Fraction_init_27 : decode prog_3_method_1_code 27 = .ok (.putfield 22, 3) := by decide +kernel
theorem dx_Fraction_init_30 : decode prog_3_method_1_code 30 = .ok (.aload_n 0, 1) := by decide +kernel
theorem dx_Fraction_init_31 : decode prog_3_method_1_code 31 = .ok (.getfield 15, 3) := by decide +kernel
theorem dx_Fraction_init_34 : decode prog_3_method_1_code 34 = .ok (.iconst 0, 1) := by decide +kernel
theorem dx_Fraction_init_35 : decode prog_3_method_1_code 35 = .ok (.iconst 1, 1) := by decide +kernel
theorem dx_Fraction_init_36 : decode prog_3_method_1_code 36 = .ok (.iastore, 1) := by decide +kernel
theorem dx_Fraction_init_37 : decode prog_3_method_1_code 37 = .ok (.return_, 1) := by decide +kernel
def yx_Fraction_init : MethodName := ⟨"LentShades$Fraction", "<init>", "()V"⟩
set_option maxRecDepth 20000 in
theorem a_Fraction_init {l : Launch} {wc : sm_Wc} {h0 : Nat} : al_Ct l wc yx_Fraction_init prog_3_method_1_code 1 1 12 2 40 h0 [(h0, .inr (1, [.null, .null, .int 0, .int 0]))] (fun r => [(r 0, .inr (1, [.ref (r 1), .ref (r 2), .int 0, .int 1])), (r 1, .inl (wc.2.1 0, 20, .inl (fun _ => 0))), (r 2, .inl (wc.2.1 0, 20, .inl (upd (fun _ => 0) 0 1)))]) := by
  refine al_entry (by decide) (by decide) (fun x A hw hxl hi hr ok => ?_)
  subst hw
  subst hxl
  refine al_aload_n 0 ok dx_Fraction_init_0 rfl ?_
  refine al_obj ok dx_Fraction_init_1 wd_266 wd_126 wd_127 (by decide) (by decide) ?_
  refine al_aload_n 0 ok dx_Fraction_init_4 rfl ?_
  refine al_bipush 20 ok dx_Fraction_init_5 (by decide) ?_
  refine al_newi (N := 20) (c1 := 1) (s1 := 20) ok dx_Fraction_init_7 wd_158 (by decide) (by decide) (by decide) rfl rfl (by decide) (by decide) (fun q1 => ?_)
  refine al_X (X' := (h0, .inr (1, [.null, .null, .int 0, .int 0])) :: [(q1, .inl ((xw x).2.1 0, 20, .inl (fun _ => 0)))]) rfl ?_
  refine al_putF (k := 0) ok dx_Fraction_init_9 rfl zc_i1 zc_y1 zc_t1 zc_n1 (by decide) rfl hi rfl wd_267 rfl rfl (Nat.le_of_ble_eq_true rfl) ?_
  refine al_X (X' := (h0, .inr (1, [.ref q1, .null, .int 0, .int 0])) :: [(q1, .inl ((xw x).2.1 0, 20, .inl (fun _ => 0)))]) rfl ?_
  refine al_aload_n 0 ok dx_Fraction_init_12 rfl ?_
  refine al_bipush 20 ok dx_Fraction_init_13 (by decide) ?_
  refine al_newi (N := 20) (c1 := 2) (s1 := 40) ok dx_Fraction_init_15 wd_158 (by decide) (by decide) (by decide) rfl rfl (by decide) (by decide) (fun q2 => ?_)
  refine al_X (X' := (h0, .inr (1, [.ref q1, .null, .int 0, .int 0])) :: [(q1, .inl ((xw x).2.1 0, 20, .inl (fun _ => 0))), (q2, .inl ((xw x).2.1 0, 20, .inl (fun _ => 0)))]) rfl ?_
  refine al_putF (k := 1) ok dx_Fraction_init_17 rfl zc_i1 zc_y1 zc_t1 zc_n1 (by decide) rfl hi rfl wd_268 rfl rfl (Nat.le_of_ble_eq_true rfl) ?_
  refine al_X (X' := (h0, .inr (1, [.ref q1, .ref q2, .int 0, .int 0])) :: [(q1, .inl ((xw x).2.1 0, 20, .inl (fun _ => 0))), (q2, .inl ((xw x).2.1 0, 20, .inl (fun _ => 0)))]) rfl ?_
  refine al_aload_n 0 ok dx_Fraction_init_20 rfl ?_
  refine al_iconst 0 ok dx_Fraction_init_21 (by decide) ?_
  refine al_putI (k := 2) ok dx_Fraction_init_22 rfl zc_i1 zc_y1 zc_t1 zc_n1 (by decide) rfl wd_269 rfl rfl (Nat.le_of_ble_eq_true rfl) ?_
  refine al_X (X' := (h0, .inr (1, [.ref q1, .ref q2, .int 0, .int 0])) :: [(q1, .inl ((xw x).2.1 0, 20, .inl (fun _ => 0))), (q2, .inl ((xw x).2.1 0, 20, .inl (fun _ => 0)))]) rfl ?_
  refine al_aload_n 0 ok dx_Fraction_init_25 rfl ?_
  refine al_iconst 1 ok dx_Fraction_init_26 (by decide) ?_
  refine al_putI (k := 3) ok dx_Fraction_init_27 rfl zc_i1 zc_y1 zc_t1 zc_n1 (by decide) rfl wd_270 rfl rfl (Nat.le_of_ble_eq_true rfl) ?_
  refine al_X (X' := (h0, .inr (1, [.ref q1, .ref q2, .int 0, .int 1])) :: [(q1, .inl ((xw x).2.1 0, 20, .inl (fun _ => 0))), (q2, .inl ((xw x).2.1 0, 20, .inl (fun _ => 0)))]) rfl ?_
  refine al_aload_n 0 ok dx_Fraction_init_30 rfl ?_
  refine al_get (k := 1) ok dx_Fraction_init_31 rfl zc_i1 (by decide) wd_268 rfl ?_
  refine al_iconst 0 ok dx_Fraction_init_34 (by decide) ?_
  refine al_iconst 1 ok dx_Fraction_init_35 (by decide) ?_
  refine al_iast 2 ok dx_Fraction_init_36 rfl (by decide) ?_
  refine al_X (X' := (h0, .inr (1, [.ref q1, .ref q2, .int 0, .int 1])) :: [(q1, .inl ((xw x).2.1 0, 20, .inl (fun _ => 0))), (q2, .inl ((xw x).2.1 0, 20, .inl (upd (fun _ => 0) 0 1)))]) rfl ?_
  exact al_vret (fun i => [h0, q1, q2].getD i 0) hr ok dx_Fraction_init_37 rfl (fun H hP hD => ⟨hP, hD⟩)
theorem dx_Reader_init_0 : decode prog_6_method_1_code 0 = .ok (.aload_n 0, 1) := by decide +kernel
theorem dx_Reader_init_1 : decode prog_6_method_1_code 1 = .ok (.invokespecial 3, 3) := by decide +kernel
theorem dx_Reader_init_4 : decode prog_6_method_1_code 4 = .ok (.aload_n 0, 1) := by decide +kernel
theorem dx_Reader_init_5 : decode prog_6_method_1_code 5 = .ok (.sipush 200, 3) := by decide +kernel
theorem dx_Reader_init_8 : decode prog_6_method_1_code 8 = .ok (.newarray .int, 2) := by decide +kernel
theorem dx_Reader_init_10 : decode prog_6_method_1_code 10 = .ok (.putfield 9, 3) := by decide +kernel
theorem dx_Reader_init_13 : decode prog_6_method_1_code 13 = .ok (.return_, 1) := by decide +kernel
def yx_Reader_init : MethodName := ⟨"LentShades$Reader", "<init>", "()V"⟩
set_option maxRecDepth 20000 in
theorem a_Reader_init {l : Launch} {wc : sm_Wc} {h0 : Nat} : al_Ct l wc yx_Reader_init prog_6_method_1_code 1 1 12 1 200 h0 [(h0, .inr (4, [.null, .int 0, .int 0, .int 0, .int 0, .int 0, .int 0, .int 0]))] (fun r => [(r 0, .inr (4, [.ref (r 1), .int 0, .int 0, .int 0, .int 0, .int 0, .int 0, .int 0])), (r 1, .inl (wc.2.1 0, 200, .inl (fun _ => 0)))]) := by
  refine al_entry (by decide) (by decide) (fun x A hw hxl hi hr ok => ?_)
  subst hw
  subst hxl
  refine al_aload_n 0 ok dx_Reader_init_0 rfl ?_
  refine al_obj ok dx_Reader_init_1 wd_233 wd_126 wd_127 (by decide) (by decide) ?_
  refine al_aload_n 0 ok dx_Reader_init_4 rfl ?_
  refine al_sipush 200 ok dx_Reader_init_5 (by decide) ?_
  refine al_newi (N := 200) (c1 := 1) (s1 := 200) ok dx_Reader_init_8 wd_158 (by decide) (by decide) (by decide) rfl rfl (by decide) (by decide) (fun q1 => ?_)
  refine al_X (X' := (h0, .inr (4, [.null, .int 0, .int 0, .int 0, .int 0, .int 0, .int 0, .int 0])) :: [(q1, .inl ((xw x).2.1 0, 200, .inl (fun _ => 0)))]) rfl ?_
  refine al_putF (k := 0) ok dx_Reader_init_10 rfl zc_i4 zc_y4 zc_t4 zc_n4 (by decide) rfl hi rfl wd_234 rfl rfl (Nat.le_of_ble_eq_true rfl) ?_
  refine al_X (X' := (h0, .inr (4, [.ref q1, .int 0, .int 0, .int 0, .int 0, .int 0, .int 0, .int 0])) :: [(q1, .inl ((xw x).2.1 0, 200, .inl (fun _ => 0)))]) rfl ?_
  exact al_vret (fun i => [h0, q1].getD i 0) hr ok dx_Reader_init_13 rfl (fun H hP hD => ⟨hP, hD⟩)
theorem dx_Resting_init_0 : decode prog_7_method_1_code 0 = .ok (.aload_n 0, 1) := by decide +kernel
theorem dx_Resting_init_1 : decode prog_7_method_1_code 1 = .ok (.invokespecial 3, 3) := by decide +kernel
theorem dx_Resting_init_4 : decode prog_7_method_1_code 4 = .ok (.aload_n 0, 1) := by decide +kernel
theorem dx_Resting_init_5 : decode prog_7_method_1_code 5 = .ok (.iconst 4, 1) := by decide +kernel
theorem dx_Resting_init_6 : decode prog_7_method_1_code 6 = .ok (.iconst 4, 1) := by decide +kernel
theorem dx_Resting_init_7 : decode prog_7_method_1_code 7 = .ok (.multianewarray 9 2, 4) := by decide +kernel
theorem dx_Resting_init_11 : decode prog_7_method_1_code 11 = .ok (.putfield 11, 3) := by decide +kernel
theorem dx_Resting_init_14 : decode prog_7_method_1_code 14 = .ok (.return_, 1) := by decide +kernel
def yx_Resting_init : MethodName := ⟨"LentShades$Resting", "<init>", "()V"⟩
set_option maxRecDepth 20000 in
theorem a_Resting_init {l : Launch} {wc : sm_Wc} {h0 : Nat} : al_Ct l wc yx_Resting_init prog_7_method_1_code 1 1 12 5 20 h0 [(h0, .inr (5, [.null]))] (fun r => [(r 0, .inr (5, [.ref (r 1)])), (r 1, .inl (wc.2.1 5, 4, .inr (.inr (.inr (.inr (fun i => if i < 4 then some (r (2 + i)) else none)))))), (r 2, .inl (wc.2.1 0, 4, .inl (fun _ => 0))), (r 3, .inl (wc.2.1 0, 4, .inl (fun _ => 0))), (r 4, .inl (wc.2.1 0, 4, .inl (fun _ => 0))), (r 5, .inl (wc.2.1 0, 4, .inl (fun _ => 0)))]) := by
  refine al_entry (by decide) (by decide) (fun x A hw hxl hi hr ok => ?_)
  subst hw
  subst hxl
  refine al_aload_n 0 ok dx_Resting_init_0 rfl ?_
  refine al_obj ok dx_Resting_init_1 wd_345 wd_126 wd_127 (by decide) (by decide) ?_
  refine al_aload_n 0 ok dx_Resting_init_4 rfl ?_
  refine al_iconst 4 ok dx_Resting_init_5 (by decide) ?_
  refine al_iconst 4 ok dx_Resting_init_6 (by decide) ?_
  refine al_mna (N := 4) (K := 4) (c1 := 5) (s1 := 20) ok dx_Resting_init_7 wd_346 wd_158 (by decide) (by decide) (by decide) (by decide) (by decide) (by decide) (by decide) rfl rfl (by decide) (by decide) (fun q1 r1 => ?_)
  refine al_X (X' := (h0, .inr (5, [.null])) :: [(q1, .inl ((xw x).2.1 5, 4, .inr (.inr (.inr (.inr (fun i => if i < 4 then some (r1 i) else none)))))), (r1 0, .inl ((xw x).2.1 0, 4, .inl (fun _ => 0))), (r1 1, .inl ((xw x).2.1 0, 4, .inl (fun _ => 0))), (r1 2, .inl ((xw x).2.1 0, 4, .inl (fun _ => 0))), (r1 3, .inl ((xw x).2.1 0, 4, .inl (fun _ => 0)))]) rfl ?_
  refine al_putF (k := 0) ok dx_Resting_init_11 rfl zc_i5 zc_y5 zc_t5 zc_n5 (by decide) rfl hi rfl wd_347 rfl rfl (Nat.le_of_ble_eq_true rfl) ?_
  refine al_X (X' := (h0, .inr (5, [.ref q1])) :: [(q1, .inl ((xw x).2.1 5, 4, .inr (.inr (.inr (.inr (fun i => if i < 4 then some (r1 i) else none)))))), (r1 0, .inl ((xw x).2.1 0, 4, .inl (fun _ => 0))), (r1 1, .inl ((xw x).2.1 0, 4, .inl (fun _ => 0))), (r1 2, .inl ((xw x).2.1 0, 4, .inl (fun _ => 0))), (r1 3, .inl ((xw x).2.1 0, 4, .inl (fun _ => 0)))]) rfl ?_
  exact al_vret (fun i => [h0, q1, r1 0, r1 1, r1 2, r1 3].getD i 0) hr ok dx_Resting_init_14 rfl (fun H hP hD => by refine al_same ?_ hP hD; exact al_sc rfl (Or.inl rfl) (al_sc rfl (al_rows (fun j hj => by rcases (show j = 0 ∨ j = 1 ∨ j = 2 ∨ j = 3 by omega) with rfl | rfl | rfl | rfl <;> rfl)) (al_sc rfl (Or.inl rfl) (al_sc rfl (Or.inl rfl) (al_sc rfl (Or.inl rfl) (al_sc rfl (Or.inl rfl) al_sn))))))
theorem dx_Mover_init_0 : decode prog_5_method_1_code 0 = .ok (.aload_n 0, 1) := by decide +kernel
theorem dx_Mover_init_1 : decode prog_5_method_1_code 1 = .ok (.invokespecial 3, 3) := by decide +kernel
theorem dx_Mover_init_4 : decode prog_5_method_1_code 4 = .ok (.aload_n 0, 1) := by decide +kernel
theorem dx_Mover_init_5 : decode prog_5_method_1_code 5 = .ok (.iconst 4, 1) := by decide +kernel
theorem dx_Mover_init_6 : decode prog_5_method_1_code 6 = .ok (.bipush 8, 2) := by decide +kernel
theorem dx_Mover_init_8 : decode prog_5_method_1_code 8 = .ok (.multianewarray 9 2, 4) := by decide +kernel
theorem dx_Mover_init_12 : decode prog_5_method_1_code 12 = .ok (.putfield 11, 3) := by decide +kernel
theorem dx_Mover_init_15 : decode prog_5_method_1_code 15 = .ok (.return_, 1) := by decide +kernel
def yx_Mover_init : MethodName := ⟨"LentShades$Mover", "<init>", "()V"⟩
set_option maxRecDepth 20000 in
theorem a_Mover_init {l : Launch} {wc : sm_Wc} {h0 : Nat} : al_Ct l wc yx_Mover_init prog_5_method_1_code 1 1 12 5 36 h0 [(h0, .inr (3, [.null, .int 0, .int 0, .int 0, .int 0, .int 0, .int 0]))] (fun r => [(r 0, .inr (3, [.ref (r 1), .int 0, .int 0, .int 0, .int 0, .int 0, .int 0])), (r 1, .inl (wc.2.1 5, 4, .inr (.inr (.inr (.inr (fun i => if i < 4 then some (r (2 + i)) else none)))))), (r 2, .inl (wc.2.1 0, 8, .inl (fun _ => 0))), (r 3, .inl (wc.2.1 0, 8, .inl (fun _ => 0))), (r 4, .inl (wc.2.1 0, 8, .inl (fun _ => 0))), (r 5, .inl (wc.2.1 0, 8, .inl (fun _ => 0)))]) := by
  refine al_entry (by decide) (by decide) (fun x A hw hxl hi hr ok => ?_)
  subst hw
  subst hxl
  refine al_aload_n 0 ok dx_Mover_init_0 rfl ?_
  refine al_obj ok dx_Mover_init_1 wd_356 wd_126 wd_127 (by decide) (by decide) ?_
  refine al_aload_n 0 ok dx_Mover_init_4 rfl ?_
  refine al_iconst 4 ok dx_Mover_init_5 (by decide) ?_
  refine al_bipush 8 ok dx_Mover_init_6 (by decide) ?_
  refine al_mna (N := 4) (K := 8) (c1 := 5) (s1 := 36) ok dx_Mover_init_8 wd_357 wd_158 (by decide) (by decide) (by decide) (by decide) (by decide) (by decide) (by decide) rfl rfl (by decide) (by decide) (fun q1 r1 => ?_)
  refine al_X (X' := (h0, .inr (3, [.null, .int 0, .int 0, .int 0, .int 0, .int 0, .int 0])) :: [(q1, .inl ((xw x).2.1 5, 4, .inr (.inr (.inr (.inr (fun i => if i < 4 then some (r1 i) else none)))))), (r1 0, .inl ((xw x).2.1 0, 8, .inl (fun _ => 0))), (r1 1, .inl ((xw x).2.1 0, 8, .inl (fun _ => 0))), (r1 2, .inl ((xw x).2.1 0, 8, .inl (fun _ => 0))), (r1 3, .inl ((xw x).2.1 0, 8, .inl (fun _ => 0)))]) rfl ?_
  refine al_putF (k := 0) ok dx_Mover_init_12 rfl zc_i3 zc_y3 zc_t3 zc_n3 (by decide) rfl hi rfl wd_358 rfl rfl (Nat.le_of_ble_eq_true rfl) ?_
  refine al_X (X' := (h0, .inr (3, [.ref q1, .int 0, .int 0, .int 0, .int 0, .int 0, .int 0])) :: [(q1, .inl ((xw x).2.1 5, 4, .inr (.inr (.inr (.inr (fun i => if i < 4 then some (r1 i) else none)))))), (r1 0, .inl ((xw x).2.1 0, 8, .inl (fun _ => 0))), (r1 1, .inl ((xw x).2.1 0, 8, .inl (fun _ => 0))), (r1 2, .inl ((xw x).2.1 0, 8, .inl (fun _ => 0))), (r1 3, .inl ((xw x).2.1 0, 8, .inl (fun _ => 0)))]) rfl ?_
  exact al_vret (fun i => [h0, q1, r1 0, r1 1, r1 2, r1 3].getD i 0) hr ok dx_Mover_init_15 rfl (fun H hP hD => by refine al_same ?_ hP hD; exact al_sc rfl (Or.inl rfl) (al_sc rfl (al_rows (fun j hj => by rcases (show j = 0 ∨ j = 1 ∨ j = 2 ∨ j = 3 by omega) with rfl | rfl | rfl | rfl <;> rfl)) (al_sc rfl (Or.inl rfl) (al_sc rfl (Or.inl rfl) (al_sc rfl (Or.inl rfl) (al_sc rfl (Or.inl rfl) al_sn))))))
theorem dx_Chest_init_0 : decode prog_2_method_1_code 0 = .ok (.aload_n 0, 1) := by decide +kernel
theorem dx_Chest_init_1 : decode prog_2_method_1_code 1 = .ok (.invokespecial 3, 3) := by decide +kernel
theorem dx_Chest_init_4 : decode prog_2_method_1_code 4 = .ok (.aload_n 0, 1) := by decide +kernel
theorem dx_Chest_init_5 : decode prog_2_method_1_code 5 = .ok (.iconst 4, 1) := by decide +kernel
theorem dx_Chest_init_6 : decode prog_2_method_1_code 6 = .ok (.bipush 8, 2) := by decide +kernel
theorem dx_Chest_init_8 : decode prog_2_method_1_code 8 = .ok (.multianewarray 9 2, 4) := by decide +kernel
theorem dx_Chest_init_12 : decode prog_2_method_1_code 12 = .ok (.putfield 11, 3) := by decide +kernel
theorem dx_Chest_init_15 : decode prog_2_method_1_code 15 = .ok (.aload_n 0, 1) := by decide +kernel
theorem dx_Chest_init_16 : decode prog_2_method_1_code 16 = .ok (.iconst 4, 1) := by decide +kernel
theorem dx_Chest_init_17 : decode prog_2_method_1_code 17 = .ok (.newarray .int, 2) := by decide +kernel
theorem dx_Chest_init_19 : decode prog_2_method_1_code 19 = .ok (.putfield 16, 3) := by decide +kernel
theorem dx_Chest_init_22 : decode prog_2_method_1_code 22 = .ok (.aload_n 0, 1) := by decide +kernel
theorem dx_Chest_init_23 : decode prog_2_method_1_code 23 = .ok (.iconst 4, 1) := by decide +kernel
theorem dx_Chest_init_24 : decode prog_2_method_1_code 24 = .ok (.newarray .int, 2) := by decide +kernel
theorem dx_Chest_init_26 : decode prog_2_method_1_code 26 = .ok (.putfield 20, 3) := by decide +kernel
theorem dx_Chest_init_29 : decode prog_2_method_1_code 29 = .ok (.return_, 1) := by decide +kernel
def yx_Chest_init : MethodName := ⟨"LentShades$Chest", "<init>", "()V"⟩
set_option maxRecDepth 20000 in
theorem a_Chest_init {l : Launch} {wc : sm_Wc} {h0 : Nat} : al_Ct l wc yx_Chest_init prog_2_method_1_code 1 1 12 7 44 h0 [(h0, .inr (0, [.null, .null, .null]))] (fun r => [(r 0, .inr (0, [.ref (r 1), .ref (r 6), .ref (r 7)])), (r 1, .inl (wc.2.1 5, 4, .inr (.inr (.inr (.inr (fun i => if i < 4 then some (r (2 + i)) else none)))))), (r 2, .inl (wc.2.1 0, 8, .inl (fun _ => 0))), (r 3, .inl (wc.2.1 0, 8, .inl (fun _ => 0))), (r 4, .inl (wc.2.1 0, 8, .inl (fun _ => 0))), (r 5, .inl (wc.2.1 0, 8, .inl (fun _ => 0))), (r 6, .inl (wc.2.1 0, 4, .inl (fun _ => 0))), (r 7, .inl (wc.2.1 0, 4, .inl (fun _ => 0)))]) := by
  refine al_entry (by decide) (by decide) (fun x A hw hxl hi hr ok => ?_)
  subst hw
  subst hxl
  refine al_aload_n 0 ok dx_Chest_init_0 rfl ?_
  refine al_obj ok dx_Chest_init_1 wd_387 wd_126 wd_127 (by decide) (by decide) ?_
  refine al_aload_n 0 ok dx_Chest_init_4 rfl ?_
  refine al_iconst 4 ok dx_Chest_init_5 (by decide) ?_
  refine al_bipush 8 ok dx_Chest_init_6 (by decide) ?_
  refine al_mna (N := 4) (K := 8) (c1 := 5) (s1 := 36) ok dx_Chest_init_8 wd_388 wd_158 (by decide) (by decide) (by decide) (by decide) (by decide) (by decide) (by decide) rfl rfl (by decide) (by decide) (fun q1 r1 => ?_)
  refine al_X (X' := (h0, .inr (0, [.null, .null, .null])) :: [(q1, .inl ((xw x).2.1 5, 4, .inr (.inr (.inr (.inr (fun i => if i < 4 then some (r1 i) else none)))))), (r1 0, .inl ((xw x).2.1 0, 8, .inl (fun _ => 0))), (r1 1, .inl ((xw x).2.1 0, 8, .inl (fun _ => 0))), (r1 2, .inl ((xw x).2.1 0, 8, .inl (fun _ => 0))), (r1 3, .inl ((xw x).2.1 0, 8, .inl (fun _ => 0)))]) rfl ?_
  refine al_putF (k := 0) ok dx_Chest_init_12 rfl zc_i0 zc_y0 zc_t0 zc_n0 (by decide) rfl hi rfl wd_389 rfl rfl (Nat.le_of_ble_eq_true rfl) ?_
  refine al_X (X' := (h0, .inr (0, [.ref q1, .null, .null])) :: [(q1, .inl ((xw x).2.1 5, 4, .inr (.inr (.inr (.inr (fun i => if i < 4 then some (r1 i) else none)))))), (r1 0, .inl ((xw x).2.1 0, 8, .inl (fun _ => 0))), (r1 1, .inl ((xw x).2.1 0, 8, .inl (fun _ => 0))), (r1 2, .inl ((xw x).2.1 0, 8, .inl (fun _ => 0))), (r1 3, .inl ((xw x).2.1 0, 8, .inl (fun _ => 0)))]) rfl ?_
  refine al_aload_n 0 ok dx_Chest_init_15 rfl ?_
  refine al_iconst 4 ok dx_Chest_init_16 (by decide) ?_
  refine al_newi (N := 4) (c1 := 6) (s1 := 40) ok dx_Chest_init_17 wd_158 (by decide) (by decide) (by decide) rfl rfl (by decide) (by decide) (fun q2 => ?_)
  refine al_X (X' := (h0, .inr (0, [.ref q1, .null, .null])) :: [(q1, .inl ((xw x).2.1 5, 4, .inr (.inr (.inr (.inr (fun i => if i < 4 then some (r1 i) else none)))))), (r1 0, .inl ((xw x).2.1 0, 8, .inl (fun _ => 0))), (r1 1, .inl ((xw x).2.1 0, 8, .inl (fun _ => 0))), (r1 2, .inl ((xw x).2.1 0, 8, .inl (fun _ => 0))), (r1 3, .inl ((xw x).2.1 0, 8, .inl (fun _ => 0))), (q2, .inl ((xw x).2.1 0, 4, .inl (fun _ => 0)))]) rfl ?_
  refine al_putF (k := 1) ok dx_Chest_init_19 rfl zc_i0 zc_y0 zc_t0 zc_n0 (by decide) rfl hi rfl wd_390 rfl rfl (Nat.le_of_ble_eq_true rfl) ?_
  refine al_X (X' := (h0, .inr (0, [.ref q1, .ref q2, .null])) :: [(q1, .inl ((xw x).2.1 5, 4, .inr (.inr (.inr (.inr (fun i => if i < 4 then some (r1 i) else none)))))), (r1 0, .inl ((xw x).2.1 0, 8, .inl (fun _ => 0))), (r1 1, .inl ((xw x).2.1 0, 8, .inl (fun _ => 0))), (r1 2, .inl ((xw x).2.1 0, 8, .inl (fun _ => 0))), (r1 3, .inl ((xw x).2.1 0, 8, .inl (fun _ => 0))), (q2, .inl ((xw x).2.1 0, 4, .inl (fun _ => 0)))]) rfl ?_
  refine al_aload_n 0 ok dx_Chest_init_22 rfl ?_
  refine al_iconst 4 ok dx_Chest_init_23 (by decide) ?_
  refine al_newi (N := 4) (c1 := 7) (s1 := 44) ok dx_Chest_init_24 wd_158 (by decide) (by decide) (by decide) rfl rfl (by decide) (by decide) (fun q3 => ?_)
  refine al_X (X' := (h0, .inr (0, [.ref q1, .ref q2, .null])) :: [(q1, .inl ((xw x).2.1 5, 4, .inr (.inr (.inr (.inr (fun i => if i < 4 then some (r1 i) else none)))))), (r1 0, .inl ((xw x).2.1 0, 8, .inl (fun _ => 0))), (r1 1, .inl ((xw x).2.1 0, 8, .inl (fun _ => 0))), (r1 2, .inl ((xw x).2.1 0, 8, .inl (fun _ => 0))), (r1 3, .inl ((xw x).2.1 0, 8, .inl (fun _ => 0))), (q2, .inl ((xw x).2.1 0, 4, .inl (fun _ => 0))), (q3, .inl ((xw x).2.1 0, 4, .inl (fun _ => 0)))]) rfl ?_
  refine al_putF (k := 2) ok dx_Chest_init_26 rfl zc_i0 zc_y0 zc_t0 zc_n0 (by decide) rfl hi rfl wd_391 rfl rfl (Nat.le_of_ble_eq_true rfl) ?_
  refine al_X (X' := (h0, .inr (0, [.ref q1, .ref q2, .ref q3])) :: [(q1, .inl ((xw x).2.1 5, 4, .inr (.inr (.inr (.inr (fun i => if i < 4 then some (r1 i) else none)))))), (r1 0, .inl ((xw x).2.1 0, 8, .inl (fun _ => 0))), (r1 1, .inl ((xw x).2.1 0, 8, .inl (fun _ => 0))), (r1 2, .inl ((xw x).2.1 0, 8, .inl (fun _ => 0))), (r1 3, .inl ((xw x).2.1 0, 8, .inl (fun _ => 0))), (q2, .inl ((xw x).2.1 0, 4, .inl (fun _ => 0))), (q3, .inl ((xw x).2.1 0, 4, .inl (fun _ => 0)))]) rfl ?_
  exact al_vret (fun i => [h0, q1, r1 0, r1 1, r1 2, r1 3, q2, q3].getD i 0) hr ok dx_Chest_init_29 rfl (fun H hP hD => by refine al_same ?_ hP hD; exact al_sc rfl (Or.inl rfl) (al_sc rfl (al_rows (fun j hj => by rcases (show j = 0 ∨ j = 1 ∨ j = 2 ∨ j = 3 by omega) with rfl | rfl | rfl | rfl <;> rfl)) (al_sc rfl (Or.inl rfl) (al_sc rfl (Or.inl rfl) (al_sc rfl (Or.inl rfl) (al_sc rfl (Or.inl rfl) (al_sc rfl (Or.inl rfl) (al_sc rfl (Or.inl rfl) al_sn))))))))
theorem dx_Takings_init_0 : decode prog_10_method_1_code 0 = .ok (.aload_n 0, 1) := by decide +kernel
theorem dx_Takings_init_1 : decode prog_10_method_1_code 1 = .ok (.invokespecial 3, 3) := by decide +kernel
theorem dx_Takings_init_4 : decode prog_10_method_1_code 4 = .ok (.aload_n 0, 1) := by decide +kernel
theorem dx_Takings_init_5 : decode prog_10_method_1_code 5 = .ok (.new 9, 3) := by decide +kernel
theorem dx_Takings_init_8 : decode prog_10_method_1_code 8 = .ok (.dup, 1) := by decide +kernel
theorem dx_Takings_init_9 : decode prog_10_method_1_code 9 = .ok (.invokespecial 11, 3) := by decide +kernel
theorem dx_Takings_init_12 : decode prog_10_method_1_code 12 = .ok (.putfield 12, 3) := by decide +kernel
theorem dx_Takings_init_15 : decode prog_10_method_1_code 15 = .ok (.aload_n 0, 1) := by decide +kernel
theorem dx_Takings_init_16 : decode prog_10_method_1_code 16 = .ok (.iconst 4, 1) := by decide +kernel
theorem dx_Takings_init_17 : decode prog_10_method_1_code 17 = .ok (.iconst 5, 1) := by decide +kernel
theorem dx_Takings_init_18 : decode prog_10_method_1_code 18 = .ok (.multianewarray 18 2, 4) := by decide +kernel
theorem dx_Takings_init_22 : decode prog_10_method_1_code 22 = .ok (.putfield 20, 3) := by decide +kernel
theorem dx_Takings_init_25 : decode prog_10_method_1_code 25 = .ok (.aload_n 0, 1) := by decide +kernel
theorem dx_Takings_init_26 : decode prog_10_method_1_code 26 = .ok (.iconst 4, 1) := by decide +kernel
theorem dx_Takings_init_27 : decode prog_10_method_1_code 27 = .ok (.newarray .int, 2) := by decide +kernel
theorem dx_Takings_init_29 : decode prog_10_method_1_code 29 = .ok (.putfield 23, 3) := by decide +kernel
theorem dx_Takings_init_32 : decode prog_10_method_1_code 32 = .ok (.aload_n 0, 1) := by decide +kernel
theorem dx_Takings_init_33 : decode prog_10_method_1_code 33 = .ok (.iconst 4, 1) := by decide +kernel
theorem dx_Takings_init_34 : decode prog_10_method_1_code 34 = .ok (.newarray .boolean, 2) := by decide +kernel
theorem dx_Takings_init_36 : decode prog_10_method_1_code 36 = .ok (.putfield 27, 3) := by decide +kernel
theorem dx_Takings_init_39 : decode prog_10_method_1_code 39 = .ok (.aload_n 0, 1) := by decide +kernel
theorem dx_Takings_init_40 : decode prog_10_method_1_code 40 = .ok (.iconst 4, 1) := by decide +kernel
theorem dx_Takings_init_41 : decode prog_10_method_1_code 41 = .ok (.newarray .int, 2) := by decide +kernel
theorem dx_Takings_init_43 : decode prog_10_method_1_code 43 = .ok (.putfield 31, 3) := by decide +kernel
theorem dx_Takings_init_46 : decode prog_10_method_1_code 46 = .ok (.aload_n 0, 1) := by decide +kernel
theorem dx_Takings_init_47 : decode prog_10_method_1_code 47 = .ok (.new 34, 3) := by decide +kernel
theorem dx_Takings_init_50 : decode prog_10_method_1_code 50 = .ok (.dup, 1) := by decide +kernel
theorem dx_Takings_init_51 : decode prog_10_method_1_code 51 = .ok (.invokespecial 36, 3) := by decide +kernel
theorem dx_Takings_init_54 : decode prog_10_method_1_code 54 = .ok (.putfield 37, 3) := by decide +kernel
theorem dx_Takings_init_57 : decode prog_10_method_1_code 57 = .ok (.aload_n 0, 1) := by decide +kernel
theorem dx_Takings_init_58 : decode prog_10_method_1_code 58 = .ok (.new 34, 3) := by decide +kernel
theorem dx_Takings_init_61 : decode prog_10_method_1_code 61 = .ok (.dup, 1) := by decide +kernel
theorem dx_Takings_init_62 : decode prog_10_method_1_code 62 = .ok (.invokespecial 36, 3) := by decide +kernel
theorem dx_Takings_init_65 : decode prog_10_method_1_code 65 = .ok (.putfield 41, 3) := by decide +kernel
theorem dx_Takings_init_68 : decode prog_10_method_1_code 68 = .ok (.return_, 1) := by decide +kernel
def yx_Takings_init : MethodName := ⟨"LentShades$Takings", "<init>", "()V"⟩
set_option maxRecDepth 20000 in
theorem a_Takings_init {l : Launch} {wc : sm_Wc} {h0 : Nat} : al_Ct l wc yx_Takings_init prog_10_method_1_code 1 2 40 15 267 h0 [(h0, .inr (8, [.null, .null, .null, .null, .null, .int 0, .int 0, .null, .null]))] (fun r => [(r 0, .inr (8, [.ref (r 1), .ref (r 4), .ref (r 9), .ref (r 10), .ref (r 11), .int 0, .int 0, .ref (r 12), .ref (r 14)])), (r 1, .inr (7, [.ref (r 2), .ref (r 3)])), (r 2, .inl (wc.2.1 1, 5, .inr (.inl (fun _ => 0)))), (r 3, .inl (wc.2.1 1, 20, .inr (.inl (fun _ => 0)))), (r 4, .inl (wc.2.1 5, 4, .inr (.inr (.inr (.inr (fun i => if i < 4 then some (r (5 + i)) else none)))))), (r 5, .inl (wc.2.1 0, 5, .inl (fun _ => 0))), (r 6, .inl (wc.2.1 0, 5, .inl (fun _ => 0))), (r 7, .inl (wc.2.1 0, 5, .inl (fun _ => 0))), (r 8, .inl (wc.2.1 0, 5, .inl (fun _ => 0))), (r 9, .inl (wc.2.1 0, 4, .inl (fun _ => 0))), (r 10, .inl (wc.2.1 2, 4, .inl (fun _ => 0))), (r 11, .inl (wc.2.1 0, 4, .inl (fun _ => 0))), (r 12, .inr (6, [.ref (r 13), .int 1])), (r 13, .inl (wc.2.1 0, 100, .inl (upd (fun _ => 0) 80 1))), (r 14, .inr (6, [.ref (r 15), .int 1])), (r 15, .inl (wc.2.1 0, 100, .inl (upd (fun _ => 0) 80 1)))]) := by
  refine al_entry (by decide) (by decide) (fun x A hw hxl hi hr ok => ?_)
  subst hw
  subst hxl
  refine al_aload_n 0 ok dx_Takings_init_0 rfl ?_
  refine al_obj ok dx_Takings_init_1 wd_303 wd_126 wd_127 (by decide) (by decide) ?_
  refine al_aload_n 0 ok dx_Takings_init_4 rfl ?_
  refine al_new (ci := 7) (c1 := 1) (s1 := 2) [.null, .null] ok dx_Takings_init_5 rfl zc_i7 zc_y7 zc_t7 wd_304 wd_281 wd_107 al_d7 rfl rfl (by decide) (by decide) (fun q1 => ?_)
  refine al_dup ok dx_Takings_init_8 rfl ?_
  refine al_callN (c1 := 3) (s1 := 27) ok dx_Takings_init_9 (a_Sum_init (h0 := q1)) (by decide) wd_283 wd_284 wd_107 rfl (by decide) (by decide +kernel) (by decide) (by decide) (Nat.le_of_ble_eq_true rfl) rfl rfl (by decide) (by decide) (fun r1 er1 => ?_)
  refine al_X (X' := (h0, .inr (8, [.null, .null, .null, .null, .null, .int 0, .int 0, .null, .null])) :: [(q1, .inr (7, [.ref (r1 1), .ref (r1 2)])), (r1 1, .inl ((xw x).2.1 1, 5, .inr (.inl (fun _ => 0)))), (r1 2, .inl ((xw x).2.1 1, 20, .inr (.inl (fun _ => 0))))]) (by simp only [er1] <;> rfl) ?_
  refine al_putF (k := 0) ok dx_Takings_init_12 rfl zc_i8 zc_y8 zc_t8 zc_n8 (by decide) rfl hi rfl wd_309 rfl rfl (Nat.le_of_ble_eq_true rfl) ?_
  refine al_X (X' := (h0, .inr (8, [.ref q1, .null, .null, .null, .null, .int 0, .int 0, .null, .null])) :: [(q1, .inr (7, [.ref (r1 1), .ref (r1 2)])), (r1 1, .inl ((xw x).2.1 1, 5, .inr (.inl (fun _ => 0)))), (r1 2, .inl ((xw x).2.1 1, 20, .inr (.inl (fun _ => 0))))]) rfl ?_
  refine al_aload_n 0 ok dx_Takings_init_15 rfl ?_
  refine al_iconst 4 ok dx_Takings_init_16 (by decide) ?_
  refine al_iconst 5 ok dx_Takings_init_17 (by decide) ?_
  refine al_mna (N := 4) (K := 5) (c1 := 8) (s1 := 51) ok dx_Takings_init_18 wd_306 wd_158 (by decide) (by decide) (by decide) (by decide) (by decide) (by decide) (by decide) rfl rfl (by decide) (by decide) (fun q2 r2 => ?_)
  refine al_X (X' := (h0, .inr (8, [.ref q1, .null, .null, .null, .null, .int 0, .int 0, .null, .null])) :: [(q1, .inr (7, [.ref (r1 1), .ref (r1 2)])), (r1 1, .inl ((xw x).2.1 1, 5, .inr (.inl (fun _ => 0)))), (r1 2, .inl ((xw x).2.1 1, 20, .inr (.inl (fun _ => 0)))), (q2, .inl ((xw x).2.1 5, 4, .inr (.inr (.inr (.inr (fun i => if i < 4 then some (r2 i) else none)))))), (r2 0, .inl ((xw x).2.1 0, 5, .inl (fun _ => 0))), (r2 1, .inl ((xw x).2.1 0, 5, .inl (fun _ => 0))), (r2 2, .inl ((xw x).2.1 0, 5, .inl (fun _ => 0))), (r2 3, .inl ((xw x).2.1 0, 5, .inl (fun _ => 0)))]) rfl ?_
  refine al_putF (k := 1) ok dx_Takings_init_22 rfl zc_i8 zc_y8 zc_t8 zc_n8 (by decide) rfl hi rfl wd_310 rfl rfl (Nat.le_of_ble_eq_true rfl) ?_
  refine al_X (X' := (h0, .inr (8, [.ref q1, .ref q2, .null, .null, .null, .int 0, .int 0, .null, .null])) :: [(q1, .inr (7, [.ref (r1 1), .ref (r1 2)])), (r1 1, .inl ((xw x).2.1 1, 5, .inr (.inl (fun _ => 0)))), (r1 2, .inl ((xw x).2.1 1, 20, .inr (.inl (fun _ => 0)))), (q2, .inl ((xw x).2.1 5, 4, .inr (.inr (.inr (.inr (fun i => if i < 4 then some (r2 i) else none)))))), (r2 0, .inl ((xw x).2.1 0, 5, .inl (fun _ => 0))), (r2 1, .inl ((xw x).2.1 0, 5, .inl (fun _ => 0))), (r2 2, .inl ((xw x).2.1 0, 5, .inl (fun _ => 0))), (r2 3, .inl ((xw x).2.1 0, 5, .inl (fun _ => 0)))]) rfl ?_
  refine al_aload_n 0 ok dx_Takings_init_25 rfl ?_
  refine al_iconst 4 ok dx_Takings_init_26 (by decide) ?_
  refine al_newi (N := 4) (c1 := 9) (s1 := 55) ok dx_Takings_init_27 wd_158 (by decide) (by decide) (by decide) rfl rfl (by decide) (by decide) (fun q3 => ?_)
  refine al_X (X' := (h0, .inr (8, [.ref q1, .ref q2, .null, .null, .null, .int 0, .int 0, .null, .null])) :: [(q1, .inr (7, [.ref (r1 1), .ref (r1 2)])), (r1 1, .inl ((xw x).2.1 1, 5, .inr (.inl (fun _ => 0)))), (r1 2, .inl ((xw x).2.1 1, 20, .inr (.inl (fun _ => 0)))), (q2, .inl ((xw x).2.1 5, 4, .inr (.inr (.inr (.inr (fun i => if i < 4 then some (r2 i) else none)))))), (r2 0, .inl ((xw x).2.1 0, 5, .inl (fun _ => 0))), (r2 1, .inl ((xw x).2.1 0, 5, .inl (fun _ => 0))), (r2 2, .inl ((xw x).2.1 0, 5, .inl (fun _ => 0))), (r2 3, .inl ((xw x).2.1 0, 5, .inl (fun _ => 0))), (q3, .inl ((xw x).2.1 0, 4, .inl (fun _ => 0)))]) rfl ?_
  refine al_putF (k := 2) ok dx_Takings_init_29 rfl zc_i8 zc_y8 zc_t8 zc_n8 (by decide) rfl hi rfl wd_312 rfl rfl (Nat.le_of_ble_eq_true rfl) ?_
  refine al_X (X' := (h0, .inr (8, [.ref q1, .ref q2, .ref q3, .null, .null, .int 0, .int 0, .null, .null])) :: [(q1, .inr (7, [.ref (r1 1), .ref (r1 2)])), (r1 1, .inl ((xw x).2.1 1, 5, .inr (.inl (fun _ => 0)))), (r1 2, .inl ((xw x).2.1 1, 20, .inr (.inl (fun _ => 0)))), (q2, .inl ((xw x).2.1 5, 4, .inr (.inr (.inr (.inr (fun i => if i < 4 then some (r2 i) else none)))))), (r2 0, .inl ((xw x).2.1 0, 5, .inl (fun _ => 0))), (r2 1, .inl ((xw x).2.1 0, 5, .inl (fun _ => 0))), (r2 2, .inl ((xw x).2.1 0, 5, .inl (fun _ => 0))), (r2 3, .inl ((xw x).2.1 0, 5, .inl (fun _ => 0))), (q3, .inl ((xw x).2.1 0, 4, .inl (fun _ => 0)))]) rfl ?_
  refine al_aload_n 0 ok dx_Takings_init_32 rfl ?_
  refine al_iconst 4 ok dx_Takings_init_33 (by decide) ?_
  refine al_newz (N := 4) (c1 := 10) (s1 := 59) ok dx_Takings_init_34 wd_260 (by decide) (by decide) (by decide) rfl rfl (by decide) (by decide) (fun q4 => ?_)
  refine al_X (X' := (h0, .inr (8, [.ref q1, .ref q2, .ref q3, .null, .null, .int 0, .int 0, .null, .null])) :: [(q1, .inr (7, [.ref (r1 1), .ref (r1 2)])), (r1 1, .inl ((xw x).2.1 1, 5, .inr (.inl (fun _ => 0)))), (r1 2, .inl ((xw x).2.1 1, 20, .inr (.inl (fun _ => 0)))), (q2, .inl ((xw x).2.1 5, 4, .inr (.inr (.inr (.inr (fun i => if i < 4 then some (r2 i) else none)))))), (r2 0, .inl ((xw x).2.1 0, 5, .inl (fun _ => 0))), (r2 1, .inl ((xw x).2.1 0, 5, .inl (fun _ => 0))), (r2 2, .inl ((xw x).2.1 0, 5, .inl (fun _ => 0))), (r2 3, .inl ((xw x).2.1 0, 5, .inl (fun _ => 0))), (q3, .inl ((xw x).2.1 0, 4, .inl (fun _ => 0))), (q4, .inl ((xw x).2.1 2, 4, .inl (fun _ => 0)))]) rfl ?_
  refine al_putF (k := 3) ok dx_Takings_init_36 rfl zc_i8 zc_y8 zc_t8 zc_n8 (by decide) rfl hi rfl wd_314 rfl rfl (Nat.le_of_ble_eq_true rfl) ?_
  refine al_X (X' := (h0, .inr (8, [.ref q1, .ref q2, .ref q3, .ref q4, .null, .int 0, .int 0, .null, .null])) :: [(q1, .inr (7, [.ref (r1 1), .ref (r1 2)])), (r1 1, .inl ((xw x).2.1 1, 5, .inr (.inl (fun _ => 0)))), (r1 2, .inl ((xw x).2.1 1, 20, .inr (.inl (fun _ => 0)))), (q2, .inl ((xw x).2.1 5, 4, .inr (.inr (.inr (.inr (fun i => if i < 4 then some (r2 i) else none)))))), (r2 0, .inl ((xw x).2.1 0, 5, .inl (fun _ => 0))), (r2 1, .inl ((xw x).2.1 0, 5, .inl (fun _ => 0))), (r2 2, .inl ((xw x).2.1 0, 5, .inl (fun _ => 0))), (r2 3, .inl ((xw x).2.1 0, 5, .inl (fun _ => 0))), (q3, .inl ((xw x).2.1 0, 4, .inl (fun _ => 0))), (q4, .inl ((xw x).2.1 2, 4, .inl (fun _ => 0)))]) rfl ?_
  refine al_aload_n 0 ok dx_Takings_init_39 rfl ?_
  refine al_iconst 4 ok dx_Takings_init_40 (by decide) ?_
  refine al_newi (N := 4) (c1 := 11) (s1 := 63) ok dx_Takings_init_41 wd_158 (by decide) (by decide) (by decide) rfl rfl (by decide) (by decide) (fun q5 => ?_)
  refine al_X (X' := (h0, .inr (8, [.ref q1, .ref q2, .ref q3, .ref q4, .null, .int 0, .int 0, .null, .null])) :: [(q1, .inr (7, [.ref (r1 1), .ref (r1 2)])), (r1 1, .inl ((xw x).2.1 1, 5, .inr (.inl (fun _ => 0)))), (r1 2, .inl ((xw x).2.1 1, 20, .inr (.inl (fun _ => 0)))), (q2, .inl ((xw x).2.1 5, 4, .inr (.inr (.inr (.inr (fun i => if i < 4 then some (r2 i) else none)))))), (r2 0, .inl ((xw x).2.1 0, 5, .inl (fun _ => 0))), (r2 1, .inl ((xw x).2.1 0, 5, .inl (fun _ => 0))), (r2 2, .inl ((xw x).2.1 0, 5, .inl (fun _ => 0))), (r2 3, .inl ((xw x).2.1 0, 5, .inl (fun _ => 0))), (q3, .inl ((xw x).2.1 0, 4, .inl (fun _ => 0))), (q4, .inl ((xw x).2.1 2, 4, .inl (fun _ => 0))), (q5, .inl ((xw x).2.1 0, 4, .inl (fun _ => 0)))]) rfl ?_
  refine al_putF (k := 4) ok dx_Takings_init_43 rfl zc_i8 zc_y8 zc_t8 zc_n8 (by decide) rfl hi rfl wd_315 rfl rfl (Nat.le_of_ble_eq_true rfl) ?_
  refine al_X (X' := (h0, .inr (8, [.ref q1, .ref q2, .ref q3, .ref q4, .ref q5, .int 0, .int 0, .null, .null])) :: [(q1, .inr (7, [.ref (r1 1), .ref (r1 2)])), (r1 1, .inl ((xw x).2.1 1, 5, .inr (.inl (fun _ => 0)))), (r1 2, .inl ((xw x).2.1 1, 20, .inr (.inl (fun _ => 0)))), (q2, .inl ((xw x).2.1 5, 4, .inr (.inr (.inr (.inr (fun i => if i < 4 then some (r2 i) else none)))))), (r2 0, .inl ((xw x).2.1 0, 5, .inl (fun _ => 0))), (r2 1, .inl ((xw x).2.1 0, 5, .inl (fun _ => 0))), (r2 2, .inl ((xw x).2.1 0, 5, .inl (fun _ => 0))), (r2 3, .inl ((xw x).2.1 0, 5, .inl (fun _ => 0))), (q3, .inl ((xw x).2.1 0, 4, .inl (fun _ => 0))), (q4, .inl ((xw x).2.1 2, 4, .inl (fun _ => 0))), (q5, .inl ((xw x).2.1 0, 4, .inl (fun _ => 0)))]) rfl ?_
  refine al_aload_n 0 ok dx_Takings_init_46 rfl ?_
  refine al_new (ci := 6) (c1 := 12) (s1 := 65) [.null, .int 0] ok dx_Takings_init_47 rfl zc_i6 zc_y6 zc_t6 wd_307 wd_137 wd_104 al_d6 rfl rfl (by decide) (by decide) (fun q6 => ?_)
  refine al_dup ok dx_Takings_init_50 rfl ?_
  refine al_callI (c1 := 13) (s1 := 165) ok dx_Takings_init_51 (a_Shades_init (h0 := q6)) wd_308 wd_139 wd_140 wd_104 rfl (by decide) (by decide +kernel) (by decide) (by decide) (Nat.le_of_ble_eq_true rfl) rfl rfl (by decide) (by decide) (fun r6 er6 => ?_)
  refine al_X (X' := (h0, .inr (8, [.ref q1, .ref q2, .ref q3, .ref q4, .ref q5, .int 0, .int 0, .null, .null])) :: [(q1, .inr (7, [.ref (r1 1), .ref (r1 2)])), (r1 1, .inl ((xw x).2.1 1, 5, .inr (.inl (fun _ => 0)))), (r1 2, .inl ((xw x).2.1 1, 20, .inr (.inl (fun _ => 0)))), (q2, .inl ((xw x).2.1 5, 4, .inr (.inr (.inr (.inr (fun i => if i < 4 then some (r2 i) else none)))))), (r2 0, .inl ((xw x).2.1 0, 5, .inl (fun _ => 0))), (r2 1, .inl ((xw x).2.1 0, 5, .inl (fun _ => 0))), (r2 2, .inl ((xw x).2.1 0, 5, .inl (fun _ => 0))), (r2 3, .inl ((xw x).2.1 0, 5, .inl (fun _ => 0))), (q3, .inl ((xw x).2.1 0, 4, .inl (fun _ => 0))), (q4, .inl ((xw x).2.1 2, 4, .inl (fun _ => 0))), (q5, .inl ((xw x).2.1 0, 4, .inl (fun _ => 0))), (q6, .inr (6, [.ref (r6 1), .int 1])), (r6 1, .inl ((xw x).2.1 0, 100, .inl (upd (fun _ => 0) 80 1)))]) (by simp only [er6] <;> rfl) ?_
  refine al_putF (k := 7) ok dx_Takings_init_54 rfl zc_i8 zc_y8 zc_t8 zc_n8 (by decide) rfl hi rfl wd_319 rfl rfl (Nat.le_of_ble_eq_true rfl) ?_
  refine al_X (X' := (h0, .inr (8, [.ref q1, .ref q2, .ref q3, .ref q4, .ref q5, .int 0, .int 0, .ref q6, .null])) :: [(q1, .inr (7, [.ref (r1 1), .ref (r1 2)])), (r1 1, .inl ((xw x).2.1 1, 5, .inr (.inl (fun _ => 0)))), (r1 2, .inl ((xw x).2.1 1, 20, .inr (.inl (fun _ => 0)))), (q2, .inl ((xw x).2.1 5, 4, .inr (.inr (.inr (.inr (fun i => if i < 4 then some (r2 i) else none)))))), (r2 0, .inl ((xw x).2.1 0, 5, .inl (fun _ => 0))), (r2 1, .inl ((xw x).2.1 0, 5, .inl (fun _ => 0))), (r2 2, .inl ((xw x).2.1 0, 5, .inl (fun _ => 0))), (r2 3, .inl ((xw x).2.1 0, 5, .inl (fun _ => 0))), (q3, .inl ((xw x).2.1 0, 4, .inl (fun _ => 0))), (q4, .inl ((xw x).2.1 2, 4, .inl (fun _ => 0))), (q5, .inl ((xw x).2.1 0, 4, .inl (fun _ => 0))), (q6, .inr (6, [.ref (r6 1), .int 1])), (r6 1, .inl ((xw x).2.1 0, 100, .inl (upd (fun _ => 0) 80 1)))]) rfl ?_
  refine al_aload_n 0 ok dx_Takings_init_57 rfl ?_
  refine al_new (ci := 6) (c1 := 14) (s1 := 167) [.null, .int 0] ok dx_Takings_init_58 rfl zc_i6 zc_y6 zc_t6 wd_307 wd_137 wd_104 al_d6 rfl rfl (by decide) (by decide) (fun q7 => ?_)
  refine al_dup ok dx_Takings_init_61 rfl ?_
  refine al_callI (c1 := 15) (s1 := 267) ok dx_Takings_init_62 (a_Shades_init (h0 := q7)) wd_308 wd_139 wd_140 wd_104 rfl (by decide) (by decide +kernel) (by decide) (by decide) (Nat.le_of_ble_eq_true rfl) rfl rfl (by decide) (by decide) (fun r7 er7 => ?_)
  refine al_X (X' := (h0, .inr (8, [.ref q1, .ref q2, .ref q3, .ref q4, .ref q5, .int 0, .int 0, .ref q6, .null])) :: [(q1, .inr (7, [.ref (r1 1), .ref (r1 2)])), (r1 1, .inl ((xw x).2.1 1, 5, .inr (.inl (fun _ => 0)))), (r1 2, .inl ((xw x).2.1 1, 20, .inr (.inl (fun _ => 0)))), (q2, .inl ((xw x).2.1 5, 4, .inr (.inr (.inr (.inr (fun i => if i < 4 then some (r2 i) else none)))))), (r2 0, .inl ((xw x).2.1 0, 5, .inl (fun _ => 0))), (r2 1, .inl ((xw x).2.1 0, 5, .inl (fun _ => 0))), (r2 2, .inl ((xw x).2.1 0, 5, .inl (fun _ => 0))), (r2 3, .inl ((xw x).2.1 0, 5, .inl (fun _ => 0))), (q3, .inl ((xw x).2.1 0, 4, .inl (fun _ => 0))), (q4, .inl ((xw x).2.1 2, 4, .inl (fun _ => 0))), (q5, .inl ((xw x).2.1 0, 4, .inl (fun _ => 0))), (q6, .inr (6, [.ref (r6 1), .int 1])), (r6 1, .inl ((xw x).2.1 0, 100, .inl (upd (fun _ => 0) 80 1))), (q7, .inr (6, [.ref (r7 1), .int 1])), (r7 1, .inl ((xw x).2.1 0, 100, .inl (upd (fun _ => 0) 80 1)))]) (by simp only [er7] <;> rfl) ?_
  refine al_putF (k := 8) ok dx_Takings_init_65 rfl zc_i8 zc_y8 zc_t8 zc_n8 (by decide) rfl hi rfl wd_320 rfl rfl (Nat.le_of_ble_eq_true rfl) ?_
  refine al_X (X' := (h0, .inr (8, [.ref q1, .ref q2, .ref q3, .ref q4, .ref q5, .int 0, .int 0, .ref q6, .ref q7])) :: [(q1, .inr (7, [.ref (r1 1), .ref (r1 2)])), (r1 1, .inl ((xw x).2.1 1, 5, .inr (.inl (fun _ => 0)))), (r1 2, .inl ((xw x).2.1 1, 20, .inr (.inl (fun _ => 0)))), (q2, .inl ((xw x).2.1 5, 4, .inr (.inr (.inr (.inr (fun i => if i < 4 then some (r2 i) else none)))))), (r2 0, .inl ((xw x).2.1 0, 5, .inl (fun _ => 0))), (r2 1, .inl ((xw x).2.1 0, 5, .inl (fun _ => 0))), (r2 2, .inl ((xw x).2.1 0, 5, .inl (fun _ => 0))), (r2 3, .inl ((xw x).2.1 0, 5, .inl (fun _ => 0))), (q3, .inl ((xw x).2.1 0, 4, .inl (fun _ => 0))), (q4, .inl ((xw x).2.1 2, 4, .inl (fun _ => 0))), (q5, .inl ((xw x).2.1 0, 4, .inl (fun _ => 0))), (q6, .inr (6, [.ref (r6 1), .int 1])), (r6 1, .inl ((xw x).2.1 0, 100, .inl (upd (fun _ => 0) 80 1))), (q7, .inr (6, [.ref (r7 1), .int 1])), (r7 1, .inl ((xw x).2.1 0, 100, .inl (upd (fun _ => 0) 80 1)))]) rfl ?_
  exact al_vret (fun i => [h0, q1, r1 1, r1 2, q2, r2 0, r2 1, r2 2, r2 3, q3, q4, q5, q6, r6 1, q7, r7 1].getD i 0) hr ok dx_Takings_init_68 rfl (fun H hP hD => by refine al_same ?_ hP hD; exact al_sc rfl (Or.inl rfl) (al_sc rfl (Or.inl rfl) (al_sc rfl (Or.inl rfl) (al_sc rfl (Or.inl rfl) (al_sc rfl (al_rows (fun j hj => by rcases (show j = 0 ∨ j = 1 ∨ j = 2 ∨ j = 3 by omega) with rfl | rfl | rfl | rfl <;> rfl)) (al_sc rfl (Or.inl rfl) (al_sc rfl (Or.inl rfl) (al_sc rfl (Or.inl rfl) (al_sc rfl (Or.inl rfl) (al_sc rfl (Or.inl rfl) (al_sc rfl (Or.inl rfl) (al_sc rfl (Or.inl rfl) (al_sc rfl (Or.inl rfl) (al_sc rfl (Or.inl rfl) (al_sc rfl (Or.inl rfl) (al_sc rfl (Or.inl rfl) al_sn))))))))))))))))
theorem dx_House_init_0 : decode prog_4_method_1_code 0 = .ok (.aload_n 0, 1) := by decide +kernel
theorem dx_House_init_1 : decode prog_4_method_1_code 1 = .ok (.invokespecial 3, 3) := by decide +kernel
theorem dx_House_init_4 : decode prog_4_method_1_code 4 = .ok (.aload_n 0, 1) := by decide +kernel
theorem dx_House_init_5 : decode prog_4_method_1_code 5 = .ok (.iconst 4, 1) := by decide +kernel
theorem dx_House_init_6 : decode prog_4_method_1_code 6 = .ok (.newarray .int, 2) := by decide +kernel
theorem dx_House_init_8 : decode prog_4_method_1_code 8 = .ok (.putfield 9, 3) := by decide +kernel
theorem dx_House_init_11 : decode prog_4_method_1_code 11 = .ok (.aload_n 0, 1) := by decide +kernel
theorem dx_House_init_12 : decode prog_4_method_1_code 12 = .ok (.iconst 4, 1) := by decide +kernel
theorem dx_House_init_13 : decode prog_4_method_1_code 13 = .ok (.newarray .int, 2) := by decide +kernel
theorem dx_House_init_15 : decode prog_4_method_1_code 15 = .ok (.putfield 15, 3) := by decide +kernel
theorem dx_House_init_18 : decode prog_4_method_1_code 18 = .ok (.aload_n 0, 1) := by decide +kernel
theorem dx_House_init_19 : decode prog_4_method_1_code 19 = .ok (.iconst 4, 1) := by decide +kernel
theorem dx_House_init_20 : decode prog_4_method_1_code 20 = .ok (.newarray .int, 2) := by decide +kernel
theorem dx_House_init_22 : decode prog_4_method_1_code 22 = .ok (.putfield 18, 3) := by decide +kernel
theorem dx_House_init_25 : decode prog_4_method_1_code 25 = .ok (.aload_n 0, 1) := by decide +kernel
theorem dx_House_init_26 : decode prog_4_method_1_code 26 = .ok (.iconst 4, 1) := by decide +kernel
theorem dx_House_init_27 : decode prog_4_method_1_code 27 = .ok (.newarray .int, 2) := by decide +kernel
theorem dx_House_init_29 : decode prog_4_method_1_code 29 = .ok (.putfield 21, 3) := by decide +kernel
theorem dx_House_init_32 : decode prog_4_method_1_code 32 = .ok (.aload_n 0, 1) := by decide +kernel
theorem dx_House_init_33 : decode prog_4_method_1_code 33 = .ok (.iconst 4, 1) := by decide +kernel
theorem dx_House_init_34 : decode prog_4_method_1_code 34 = .ok (.newarray .int, 2) := by decide +kernel
theorem dx_House_init_36 : decode prog_4_method_1_code 36 = .ok (.putfield 24, 3) := by decide +kernel
theorem dx_House_init_39 : decode prog_4_method_1_code 39 = .ok (.aload_n 0, 1) := by decide +kernel
theorem dx_House_init_40 : decode prog_4_method_1_code 40 = .ok (.iconst 4, 1) := by decide +kernel
theorem dx_House_init_41 : decode prog_4_method_1_code 41 = .ok (.bipush 8, 2) := by decide +kernel
theorem dx_House_init_43 : decode prog_4_method_1_code 43 = .ok (.multianewarray 27 2, 4) := by decide +kernel
theorem dx_House_init_47 : decode prog_4_method_1_code 47 = .ok (.putfield 29, 3) := by decide +kernel
theorem dx_House_init_50 : decode prog_4_method_1_code 50 = .ok (.aload_n 0, 1) := by decide +kernel
theorem dx_House_init_51 : decode prog_4_method_1_code 51 = .ok (.new 32, 3) := by decide +kernel
theorem dx_House_init_54 : decode prog_4_method_1_code 54 = .ok (.dup, 1) := by decide +kernel
theorem dx_House_init_55 : decode prog_4_method_1_code 55 = .ok (.invokespecial 34, 3) := by decide +kernel
theorem dx_House_init_58 : decode prog_4_method_1_code 58 = .ok (.putfield 35, 3) := by decide +kernel
theorem dx_House_init_61 : decode prog_4_method_1_code 61 = .ok (.aload_n 0, 1) := by decide +kernel
theorem dx_House_init_62 : decode prog_4_method_1_code 62 = .ok (.bipush 6, 2) := by decide +kernel
theorem dx_House_init_64 : decode prog_4_method_1_code 64 = .ok (.anewarray 32, 3) := by decide +kernel
theorem dx_House_init_67 : decode prog_4_method_1_code 67 = .ok (.putfield 39, 3) := by decide +kernel
theorem dx_House_init_70 : decode prog_4_method_1_code 70 = .ok (.aload_n 0, 1) := by decide +kernel
theorem dx_House_init_71 : decode prog_4_method_1_code 71 = .ok (.bipush 6, 2) := by decide +kernel
theorem dx_House_init_73 : decode prog_4_method_1_code 73 = .ok (.iconst 4, 1) := by decide +kernel
theorem dx_House_init_74 : decode prog_4_method_1_code 74 = .ok (.multianewarray 27 2, 4) := by decide +kernel
theorem dx_House_init_78 : decode prog_4_method_1_code 78 = .ok (.putfield 43, 3) := by decide +kernel
theorem dx_House_init_81 : decode prog_4_method_1_code 81 = .ok (.iconst 0, 1) := by decide +kernel
theorem dx_House_init_82 : decode prog_4_method_1_code 82 = .ok (.istore_n 1, 1) := by decide +kernel
theorem dx_House_init_83 : decode prog_4_method_1_code 83 = .ok (.iload_n 1, 1) := by decide +kernel
theorem dx_House_init_84 : decode prog_4_method_1_code 84 = .ok (.bipush 6, 2) := by decide +kernel
theorem dx_House_init_86 : decode prog_4_method_1_code 86 = .ok (.if_icmp .ge 22, 3) := by decide +kernel
theorem dx_House_init_89 : decode prog_4_method_1_code 89 = .ok (.aload_n 0, 1) := by decide +kernel
theorem dx_House_init_90 : decode prog_4_method_1_code 90 = .ok (.getfield 39, 3) := by decide +kernel
theorem dx_House_init_93 : decode prog_4_method_1_code 93 = .ok (.iload_n 1, 1) := by decide +kernel
theorem dx_House_init_94 : decode prog_4_method_1_code 94 = .ok (.new 32, 3) := by decide +kernel
theorem dx_House_init_97 : decode prog_4_method_1_code 97 = .ok (.dup, 1) := by decide +kernel
theorem dx_House_init_98 : decode prog_4_method_1_code 98 = .ok (.invokespecial 34, 3) := by decide +kernel
theorem dx_House_init_101 : decode prog_4_method_1_code 101 = .ok (.aastore, 1) := by decide +kernel
theorem dx_House_init_102 : decode prog_4_method_1_code 102 = .ok (.iinc 1 1, 3) := by decide +kernel
theorem dx_House_init_105 : decode prog_4_method_1_code 105 = .ok (.goto (-22), 3) := by decide +kernel
theorem dx_House_init_108 : decode prog_4_method_1_code 108 = .ok (.return_, 1) := by decide +kernel
def yx_House_init : MethodName := ⟨"LentShades$House", "<init>", "()V"⟩
set_option maxRecDepth 20000 in
theorem a_House_init {l : Launch} {wc : sm_Wc} {h0 : Nat} : al_Ct l wc yx_House_init prog_4_method_1_code 2 2 40 32 806 h0 [(h0, .inr (2, [.null, .null, .null, .null, .null, .null, .null, .null, .null, .int 0, .int 0, .int 0, .int 0, .int 0]))] (fun r => [(r 0, .inr (2, [.ref (r 1), .ref (r 2), .ref (r 3), .ref (r 4), .ref (r 5), .ref (r 6), .ref (r 11), .ref (r 13), .ref (r 14), .int 0, .int 0, .int 0, .int 0, .int 0])), (r 1, .inl (wc.2.1 0, 4, .inl (fun _ => 0))), (r 2, .inl (wc.2.1 0, 4, .inl (fun _ => 0))), (r 3, .inl (wc.2.1 0, 4, .inl (fun _ => 0))), (r 4, .inl (wc.2.1 0, 4, .inl (fun _ => 0))), (r 5, .inl (wc.2.1 0, 4, .inl (fun _ => 0))), (r 6, .inl (wc.2.1 5, 4, .inr (.inr (.inr (.inr (fun i => if i < 4 then some (r (7 + i)) else none)))))), (r 7, .inl (wc.2.1 0, 8, .inl (fun _ => 0))), (r 8, .inl (wc.2.1 0, 8, .inl (fun _ => 0))), (r 9, .inl (wc.2.1 0, 8, .inl (fun _ => 0))), (r 10, .inl (wc.2.1 0, 8, .inl (fun _ => 0))), (r 11, .inr (6, [.ref (r 12), .int 1])), (r 12, .inl (wc.2.1 0, 100, .inl (upd (fun _ => 0) 80 1))), (r 13, .inl (wc.2.1 3, 6, .inr (.inr (.inr (.inr (va_up (va_up (va_up (va_up (va_up (va_up (fun _ => none) 0 (some (r 21))) 1 (some (r 23))) 2 (some (r 25))) 3 (some (r 27))) 4 (some (r 29))) 5 (some (r 31)))))))), (r 14, .inl (wc.2.1 5, 6, .inr (.inr (.inr (.inr (fun i => if i < 6 then some (r (15 + i)) else none)))))), (r 15, .inl (wc.2.1 0, 4, .inl (fun _ => 0))), (r 16, .inl (wc.2.1 0, 4, .inl (fun _ => 0))), (r 17, .inl (wc.2.1 0, 4, .inl (fun _ => 0))), (r 18, .inl (wc.2.1 0, 4, .inl (fun _ => 0))), (r 19, .inl (wc.2.1 0, 4, .inl (fun _ => 0))), (r 20, .inl (wc.2.1 0, 4, .inl (fun _ => 0))), (r 21, .inr (6, [.ref (r 22), .int 1])), (r 22, .inl (wc.2.1 0, 100, .inl (upd (fun _ => 0) 80 1))), (r 23, .inr (6, [.ref (r 24), .int 1])), (r 24, .inl (wc.2.1 0, 100, .inl (upd (fun _ => 0) 80 1))), (r 25, .inr (6, [.ref (r 26), .int 1])), (r 26, .inl (wc.2.1 0, 100, .inl (upd (fun _ => 0) 80 1))), (r 27, .inr (6, [.ref (r 28), .int 1])), (r 28, .inl (wc.2.1 0, 100, .inl (upd (fun _ => 0) 80 1))), (r 29, .inr (6, [.ref (r 30), .int 1])), (r 30, .inl (wc.2.1 0, 100, .inl (upd (fun _ => 0) 80 1))), (r 31, .inr (6, [.ref (r 32), .int 1])), (r 32, .inl (wc.2.1 0, 100, .inl (upd (fun _ => 0) 80 1)))]) := by
  refine al_entry (by decide) (by decide) (fun x A hw hxl hi hr ok => ?_)
  subst hw
  subst hxl
  refine al_aload_n 0 ok dx_House_init_0 rfl ?_
  refine al_obj ok dx_House_init_1 wd_133 wd_126 wd_127 (by decide) (by decide) ?_
  refine al_aload_n 0 ok dx_House_init_4 rfl ?_
  refine al_iconst 4 ok dx_House_init_5 (by decide) ?_
  refine al_newi (N := 4) (c1 := 1) (s1 := 4) ok dx_House_init_6 wd_158 (by decide) (by decide) (by decide) rfl rfl (by decide) (by decide) (fun q1 => ?_)
  refine al_X (X' := (h0, .inr (2, [.null, .null, .null, .null, .null, .null, .null, .null, .null, .int 0, .int 0, .int 0, .int 0, .int 0])) :: [(q1, .inl ((xw x).2.1 0, 4, .inl (fun _ => 0)))]) rfl ?_
  refine al_putF (k := 0) ok dx_House_init_8 rfl zc_i2 zc_y2 zc_t2 zc_n2 (by decide) rfl hi rfl wd_160 rfl rfl (Nat.le_of_ble_eq_true rfl) ?_
  refine al_X (X' := (h0, .inr (2, [.ref q1, .null, .null, .null, .null, .null, .null, .null, .null, .int 0, .int 0, .int 0, .int 0, .int 0])) :: [(q1, .inl ((xw x).2.1 0, 4, .inl (fun _ => 0)))]) rfl ?_
  refine al_aload_n 0 ok dx_House_init_11 rfl ?_
  refine al_iconst 4 ok dx_House_init_12 (by decide) ?_
  refine al_newi (N := 4) (c1 := 2) (s1 := 8) ok dx_House_init_13 wd_158 (by decide) (by decide) (by decide) rfl rfl (by decide) (by decide) (fun q2 => ?_)
  refine al_X (X' := (h0, .inr (2, [.ref q1, .null, .null, .null, .null, .null, .null, .null, .null, .int 0, .int 0, .int 0, .int 0, .int 0])) :: [(q1, .inl ((xw x).2.1 0, 4, .inl (fun _ => 0))), (q2, .inl ((xw x).2.1 0, 4, .inl (fun _ => 0)))]) rfl ?_
  refine al_putF (k := 1) ok dx_House_init_15 rfl zc_i2 zc_y2 zc_t2 zc_n2 (by decide) rfl hi rfl wd_162 rfl rfl (Nat.le_of_ble_eq_true rfl) ?_
  refine al_X (X' := (h0, .inr (2, [.ref q1, .ref q2, .null, .null, .null, .null, .null, .null, .null, .int 0, .int 0, .int 0, .int 0, .int 0])) :: [(q1, .inl ((xw x).2.1 0, 4, .inl (fun _ => 0))), (q2, .inl ((xw x).2.1 0, 4, .inl (fun _ => 0)))]) rfl ?_
  refine al_aload_n 0 ok dx_House_init_18 rfl ?_
  refine al_iconst 4 ok dx_House_init_19 (by decide) ?_
  refine al_newi (N := 4) (c1 := 3) (s1 := 12) ok dx_House_init_20 wd_158 (by decide) (by decide) (by decide) rfl rfl (by decide) (by decide) (fun q3 => ?_)
  refine al_X (X' := (h0, .inr (2, [.ref q1, .ref q2, .null, .null, .null, .null, .null, .null, .null, .int 0, .int 0, .int 0, .int 0, .int 0])) :: [(q1, .inl ((xw x).2.1 0, 4, .inl (fun _ => 0))), (q2, .inl ((xw x).2.1 0, 4, .inl (fun _ => 0))), (q3, .inl ((xw x).2.1 0, 4, .inl (fun _ => 0)))]) rfl ?_
  refine al_putF (k := 2) ok dx_House_init_22 rfl zc_i2 zc_y2 zc_t2 zc_n2 (by decide) rfl hi rfl wd_164 rfl rfl (Nat.le_of_ble_eq_true rfl) ?_
  refine al_X (X' := (h0, .inr (2, [.ref q1, .ref q2, .ref q3, .null, .null, .null, .null, .null, .null, .int 0, .int 0, .int 0, .int 0, .int 0])) :: [(q1, .inl ((xw x).2.1 0, 4, .inl (fun _ => 0))), (q2, .inl ((xw x).2.1 0, 4, .inl (fun _ => 0))), (q3, .inl ((xw x).2.1 0, 4, .inl (fun _ => 0)))]) rfl ?_
  refine al_aload_n 0 ok dx_House_init_25 rfl ?_
  refine al_iconst 4 ok dx_House_init_26 (by decide) ?_
  refine al_newi (N := 4) (c1 := 4) (s1 := 16) ok dx_House_init_27 wd_158 (by decide) (by decide) (by decide) rfl rfl (by decide) (by decide) (fun q4 => ?_)
  refine al_X (X' := (h0, .inr (2, [.ref q1, .ref q2, .ref q3, .null, .null, .null, .null, .null, .null, .int 0, .int 0, .int 0, .int 0, .int 0])) :: [(q1, .inl ((xw x).2.1 0, 4, .inl (fun _ => 0))), (q2, .inl ((xw x).2.1 0, 4, .inl (fun _ => 0))), (q3, .inl ((xw x).2.1 0, 4, .inl (fun _ => 0))), (q4, .inl ((xw x).2.1 0, 4, .inl (fun _ => 0)))]) rfl ?_
  refine al_putF (k := 3) ok dx_House_init_29 rfl zc_i2 zc_y2 zc_t2 zc_n2 (by decide) rfl hi rfl wd_167 rfl rfl (Nat.le_of_ble_eq_true rfl) ?_
  refine al_X (X' := (h0, .inr (2, [.ref q1, .ref q2, .ref q3, .ref q4, .null, .null, .null, .null, .null, .int 0, .int 0, .int 0, .int 0, .int 0])) :: [(q1, .inl ((xw x).2.1 0, 4, .inl (fun _ => 0))), (q2, .inl ((xw x).2.1 0, 4, .inl (fun _ => 0))), (q3, .inl ((xw x).2.1 0, 4, .inl (fun _ => 0))), (q4, .inl ((xw x).2.1 0, 4, .inl (fun _ => 0)))]) rfl ?_
  refine al_aload_n 0 ok dx_House_init_32 rfl ?_
  refine al_iconst 4 ok dx_House_init_33 (by decide) ?_
  refine al_newi (N := 4) (c1 := 5) (s1 := 20) ok dx_House_init_34 wd_158 (by decide) (by decide) (by decide) rfl rfl (by decide) (by decide) (fun q5 => ?_)
  refine al_X (X' := (h0, .inr (2, [.ref q1, .ref q2, .ref q3, .ref q4, .null, .null, .null, .null, .null, .int 0, .int 0, .int 0, .int 0, .int 0])) :: [(q1, .inl ((xw x).2.1 0, 4, .inl (fun _ => 0))), (q2, .inl ((xw x).2.1 0, 4, .inl (fun _ => 0))), (q3, .inl ((xw x).2.1 0, 4, .inl (fun _ => 0))), (q4, .inl ((xw x).2.1 0, 4, .inl (fun _ => 0))), (q5, .inl ((xw x).2.1 0, 4, .inl (fun _ => 0)))]) rfl ?_
  refine al_putF (k := 4) ok dx_House_init_36 rfl zc_i2 zc_y2 zc_t2 zc_n2 (by decide) rfl hi rfl wd_170 rfl rfl (Nat.le_of_ble_eq_true rfl) ?_
  refine al_X (X' := (h0, .inr (2, [.ref q1, .ref q2, .ref q3, .ref q4, .ref q5, .null, .null, .null, .null, .int 0, .int 0, .int 0, .int 0, .int 0])) :: [(q1, .inl ((xw x).2.1 0, 4, .inl (fun _ => 0))), (q2, .inl ((xw x).2.1 0, 4, .inl (fun _ => 0))), (q3, .inl ((xw x).2.1 0, 4, .inl (fun _ => 0))), (q4, .inl ((xw x).2.1 0, 4, .inl (fun _ => 0))), (q5, .inl ((xw x).2.1 0, 4, .inl (fun _ => 0)))]) rfl ?_
  refine al_aload_n 0 ok dx_House_init_39 rfl ?_
  refine al_iconst 4 ok dx_House_init_40 (by decide) ?_
  refine al_bipush 8 ok dx_House_init_41 (by decide) ?_
  refine al_mna (N := 4) (K := 8) (c1 := 10) (s1 := 56) ok dx_House_init_43 wd_134 wd_158 (by decide) (by decide) (by decide) (by decide) (by decide) (by decide) (by decide) rfl rfl (by decide) (by decide) (fun q6 r6 => ?_)
  refine al_X (X' := (h0, .inr (2, [.ref q1, .ref q2, .ref q3, .ref q4, .ref q5, .null, .null, .null, .null, .int 0, .int 0, .int 0, .int 0, .int 0])) :: [(q1, .inl ((xw x).2.1 0, 4, .inl (fun _ => 0))), (q2, .inl ((xw x).2.1 0, 4, .inl (fun _ => 0))), (q3, .inl ((xw x).2.1 0, 4, .inl (fun _ => 0))), (q4, .inl ((xw x).2.1 0, 4, .inl (fun _ => 0))), (q5, .inl ((xw x).2.1 0, 4, .inl (fun _ => 0))), (q6, .inl ((xw x).2.1 5, 4, .inr (.inr (.inr (.inr (fun i => if i < 4 then some (r6 i) else none)))))), (r6 0, .inl ((xw x).2.1 0, 8, .inl (fun _ => 0))), (r6 1, .inl ((xw x).2.1 0, 8, .inl (fun _ => 0))), (r6 2, .inl ((xw x).2.1 0, 8, .inl (fun _ => 0))), (r6 3, .inl ((xw x).2.1 0, 8, .inl (fun _ => 0)))]) rfl ?_
  refine al_putF (k := 5) ok dx_House_init_47 rfl zc_i2 zc_y2 zc_t2 zc_n2 (by decide) rfl hi rfl wd_174 rfl rfl (Nat.le_of_ble_eq_true rfl) ?_
  refine al_X (X' := (h0, .inr (2, [.ref q1, .ref q2, .ref q3, .ref q4, .ref q5, .ref q6, .null, .null, .null, .int 0, .int 0, .int 0, .int 0, .int 0])) :: [(q1, .inl ((xw x).2.1 0, 4, .inl (fun _ => 0))), (q2, .inl ((xw x).2.1 0, 4, .inl (fun _ => 0))), (q3, .inl ((xw x).2.1 0, 4, .inl (fun _ => 0))), (q4, .inl ((xw x).2.1 0, 4, .inl (fun _ => 0))), (q5, .inl ((xw x).2.1 0, 4, .inl (fun _ => 0))), (q6, .inl ((xw x).2.1 5, 4, .inr (.inr (.inr (.inr (fun i => if i < 4 then some (r6 i) else none)))))), (r6 0, .inl ((xw x).2.1 0, 8, .inl (fun _ => 0))), (r6 1, .inl ((xw x).2.1 0, 8, .inl (fun _ => 0))), (r6 2, .inl ((xw x).2.1 0, 8, .inl (fun _ => 0))), (r6 3, .inl ((xw x).2.1 0, 8, .inl (fun _ => 0)))]) rfl ?_
  refine al_aload_n 0 ok dx_House_init_50 rfl ?_
  refine al_new (ci := 6) (c1 := 11) (s1 := 58) [.null, .int 0] ok dx_House_init_51 rfl zc_i6 zc_y6 zc_t6 wd_136 wd_137 wd_104 al_d6 rfl rfl (by decide) (by decide) (fun q7 => ?_)
  refine al_dup ok dx_House_init_54 rfl ?_
  refine al_callI (c1 := 12) (s1 := 158) ok dx_House_init_55 (a_Shades_init (h0 := q7)) wd_138 wd_139 wd_140 wd_104 rfl (by decide) (by decide +kernel) (by decide) (by decide) (Nat.le_of_ble_eq_true rfl) rfl rfl (by decide) (by decide) (fun r7 er7 => ?_)
  refine al_X (X' := (h0, .inr (2, [.ref q1, .ref q2, .ref q3, .ref q4, .ref q5, .ref q6, .null, .null, .null, .int 0, .int 0, .int 0, .int 0, .int 0])) :: [(q1, .inl ((xw x).2.1 0, 4, .inl (fun _ => 0))), (q2, .inl ((xw x).2.1 0, 4, .inl (fun _ => 0))), (q3, .inl ((xw x).2.1 0, 4, .inl (fun _ => 0))), (q4, .inl ((xw x).2.1 0, 4, .inl (fun _ => 0))), (q5, .inl ((xw x).2.1 0, 4, .inl (fun _ => 0))), (q6, .inl ((xw x).2.1 5, 4, .inr (.inr (.inr (.inr (fun i => if i < 4 then some (r6 i) else none)))))), (r6 0, .inl ((xw x).2.1 0, 8, .inl (fun _ => 0))), (r6 1, .inl ((xw x).2.1 0, 8, .inl (fun _ => 0))), (r6 2, .inl ((xw x).2.1 0, 8, .inl (fun _ => 0))), (r6 3, .inl ((xw x).2.1 0, 8, .inl (fun _ => 0))), (q7, .inr (6, [.ref (r7 1), .int 1])), (r7 1, .inl ((xw x).2.1 0, 100, .inl (upd (fun _ => 0) 80 1)))]) (by simp only [er7] <;> rfl) ?_
  refine al_putF (k := 6) ok dx_House_init_58 rfl zc_i2 zc_y2 zc_t2 zc_n2 (by decide) rfl hi rfl wd_178 rfl rfl (Nat.le_of_ble_eq_true rfl) ?_
  refine al_X (X' := (h0, .inr (2, [.ref q1, .ref q2, .ref q3, .ref q4, .ref q5, .ref q6, .ref q7, .null, .null, .int 0, .int 0, .int 0, .int 0, .int 0])) :: [(q1, .inl ((xw x).2.1 0, 4, .inl (fun _ => 0))), (q2, .inl ((xw x).2.1 0, 4, .inl (fun _ => 0))), (q3, .inl ((xw x).2.1 0, 4, .inl (fun _ => 0))), (q4, .inl ((xw x).2.1 0, 4, .inl (fun _ => 0))), (q5, .inl ((xw x).2.1 0, 4, .inl (fun _ => 0))), (q6, .inl ((xw x).2.1 5, 4, .inr (.inr (.inr (.inr (fun i => if i < 4 then some (r6 i) else none)))))), (r6 0, .inl ((xw x).2.1 0, 8, .inl (fun _ => 0))), (r6 1, .inl ((xw x).2.1 0, 8, .inl (fun _ => 0))), (r6 2, .inl ((xw x).2.1 0, 8, .inl (fun _ => 0))), (r6 3, .inl ((xw x).2.1 0, 8, .inl (fun _ => 0))), (q7, .inr (6, [.ref (r7 1), .int 1])), (r7 1, .inl ((xw x).2.1 0, 100, .inl (upd (fun _ => 0) 80 1)))]) rfl ?_
  refine al_aload_n 0 ok dx_House_init_61 rfl ?_
  refine al_bipush 6 ok dx_House_init_62 (by decide) ?_
  refine al_newS (N := 6) (c1 := 13) (s1 := 164) ok dx_House_init_64 wd_136 (by decide) (by decide) (by decide) rfl rfl (by decide) (by decide) (fun q8 => ?_)
  refine al_X (X' := (h0, .inr (2, [.ref q1, .ref q2, .ref q3, .ref q4, .ref q5, .ref q6, .ref q7, .null, .null, .int 0, .int 0, .int 0, .int 0, .int 0])) :: [(q1, .inl ((xw x).2.1 0, 4, .inl (fun _ => 0))), (q2, .inl ((xw x).2.1 0, 4, .inl (fun _ => 0))), (q3, .inl ((xw x).2.1 0, 4, .inl (fun _ => 0))), (q4, .inl ((xw x).2.1 0, 4, .inl (fun _ => 0))), (q5, .inl ((xw x).2.1 0, 4, .inl (fun _ => 0))), (q6, .inl ((xw x).2.1 5, 4, .inr (.inr (.inr (.inr (fun i => if i < 4 then some (r6 i) else none)))))), (r6 0, .inl ((xw x).2.1 0, 8, .inl (fun _ => 0))), (r6 1, .inl ((xw x).2.1 0, 8, .inl (fun _ => 0))), (r6 2, .inl ((xw x).2.1 0, 8, .inl (fun _ => 0))), (r6 3, .inl ((xw x).2.1 0, 8, .inl (fun _ => 0))), (q7, .inr (6, [.ref (r7 1), .int 1])), (r7 1, .inl ((xw x).2.1 0, 100, .inl (upd (fun _ => 0) 80 1))), (q8, .inl ((xw x).2.1 3, 6, .inr (.inr (.inr (.inr (fun _ => none))))))]) rfl ?_
  refine al_putF (k := 7) ok dx_House_init_67 rfl zc_i2 zc_y2 zc_t2 zc_n2 (by decide) rfl hi rfl wd_182 rfl rfl (Nat.le_of_ble_eq_true rfl) ?_
  refine al_X (X' := (h0, .inr (2, [.ref q1, .ref q2, .ref q3, .ref q4, .ref q5, .ref q6, .ref q7, .ref q8, .null, .int 0, .int 0, .int 0, .int 0, .int 0])) :: [(q1, .inl ((xw x).2.1 0, 4, .inl (fun _ => 0))), (q2, .inl ((xw x).2.1 0, 4, .inl (fun _ => 0))), (q3, .inl ((xw x).2.1 0, 4, .inl (fun _ => 0))), (q4, .inl ((xw x).2.1 0, 4, .inl (fun _ => 0))), (q5, .inl ((xw x).2.1 0, 4, .inl (fun _ => 0))), (q6, .inl ((xw x).2.1 5, 4, .inr (.inr (.inr (.inr (fun i => if i < 4 then some (r6 i) else none)))))), (r6 0, .inl ((xw x).2.1 0, 8, .inl (fun _ => 0))), (r6 1, .inl ((xw x).2.1 0, 8, .inl (fun _ => 0))), (r6 2, .inl ((xw x).2.1 0, 8, .inl (fun _ => 0))), (r6 3, .inl ((xw x).2.1 0, 8, .inl (fun _ => 0))), (q7, .inr (6, [.ref (r7 1), .int 1])), (r7 1, .inl ((xw x).2.1 0, 100, .inl (upd (fun _ => 0) 80 1))), (q8, .inl ((xw x).2.1 3, 6, .inr (.inr (.inr (.inr (fun _ => none))))))]) rfl ?_
  refine al_aload_n 0 ok dx_House_init_70 rfl ?_
  refine al_bipush 6 ok dx_House_init_71 (by decide) ?_
  refine al_iconst 4 ok dx_House_init_73 (by decide) ?_
  refine al_mna (N := 6) (K := 4) (c1 := 20) (s1 := 194) ok dx_House_init_74 wd_134 wd_158 (by decide) (by decide) (by decide) (by decide) (by decide) (by decide) (by decide) rfl rfl (by decide) (by decide) (fun q9 r9 => ?_)
  refine al_X (X' := (h0, .inr (2, [.ref q1, .ref q2, .ref q3, .ref q4, .ref q5, .ref q6, .ref q7, .ref q8, .null, .int 0, .int 0, .int 0, .int 0, .int 0])) :: [(q1, .inl ((xw x).2.1 0, 4, .inl (fun _ => 0))), (q2, .inl ((xw x).2.1 0, 4, .inl (fun _ => 0))), (q3, .inl ((xw x).2.1 0, 4, .inl (fun _ => 0))), (q4, .inl ((xw x).2.1 0, 4, .inl (fun _ => 0))), (q5, .inl ((xw x).2.1 0, 4, .inl (fun _ => 0))), (q6, .inl ((xw x).2.1 5, 4, .inr (.inr (.inr (.inr (fun i => if i < 4 then some (r6 i) else none)))))), (r6 0, .inl ((xw x).2.1 0, 8, .inl (fun _ => 0))), (r6 1, .inl ((xw x).2.1 0, 8, .inl (fun _ => 0))), (r6 2, .inl ((xw x).2.1 0, 8, .inl (fun _ => 0))), (r6 3, .inl ((xw x).2.1 0, 8, .inl (fun _ => 0))), (q7, .inr (6, [.ref (r7 1), .int 1])), (r7 1, .inl ((xw x).2.1 0, 100, .inl (upd (fun _ => 0) 80 1))), (q8, .inl ((xw x).2.1 3, 6, .inr (.inr (.inr (.inr (fun _ => none)))))), (q9, .inl ((xw x).2.1 5, 6, .inr (.inr (.inr (.inr (fun i => if i < 6 then some (r9 i) else none)))))), (r9 0, .inl ((xw x).2.1 0, 4, .inl (fun _ => 0))), (r9 1, .inl ((xw x).2.1 0, 4, .inl (fun _ => 0))), (r9 2, .inl ((xw x).2.1 0, 4, .inl (fun _ => 0))), (r9 3, .inl ((xw x).2.1 0, 4, .inl (fun _ => 0))), (r9 4, .inl ((xw x).2.1 0, 4, .inl (fun _ => 0))), (r9 5, .inl ((xw x).2.1 0, 4, .inl (fun _ => 0)))]) rfl ?_
  refine al_putF (k := 8) ok dx_House_init_78 rfl zc_i2 zc_y2 zc_t2 zc_n2 (by decide) rfl hi rfl wd_183 rfl rfl (Nat.le_of_ble_eq_true rfl) ?_
  refine al_X (X' := (h0, .inr (2, [.ref q1, .ref q2, .ref q3, .ref q4, .ref q5, .ref q6, .ref q7, .ref q8, .ref q9, .int 0, .int 0, .int 0, .int 0, .int 0])) :: [(q1, .inl ((xw x).2.1 0, 4, .inl (fun _ => 0))), (q2, .inl ((xw x).2.1 0, 4, .inl (fun _ => 0))), (q3, .inl ((xw x).2.1 0, 4, .inl (fun _ => 0))), (q4, .inl ((xw x).2.1 0, 4, .inl (fun _ => 0))), (q5, .inl ((xw x).2.1 0, 4, .inl (fun _ => 0))), (q6, .inl ((xw x).2.1 5, 4, .inr (.inr (.inr (.inr (fun i => if i < 4 then some (r6 i) else none)))))), (r6 0, .inl ((xw x).2.1 0, 8, .inl (fun _ => 0))), (r6 1, .inl ((xw x).2.1 0, 8, .inl (fun _ => 0))), (r6 2, .inl ((xw x).2.1 0, 8, .inl (fun _ => 0))), (r6 3, .inl ((xw x).2.1 0, 8, .inl (fun _ => 0))), (q7, .inr (6, [.ref (r7 1), .int 1])), (r7 1, .inl ((xw x).2.1 0, 100, .inl (upd (fun _ => 0) 80 1))), (q8, .inl ((xw x).2.1 3, 6, .inr (.inr (.inr (.inr (fun _ => none)))))), (q9, .inl ((xw x).2.1 5, 6, .inr (.inr (.inr (.inr (fun i => if i < 6 then some (r9 i) else none)))))), (r9 0, .inl ((xw x).2.1 0, 4, .inl (fun _ => 0))), (r9 1, .inl ((xw x).2.1 0, 4, .inl (fun _ => 0))), (r9 2, .inl ((xw x).2.1 0, 4, .inl (fun _ => 0))), (r9 3, .inl ((xw x).2.1 0, 4, .inl (fun _ => 0))), (r9 4, .inl ((xw x).2.1 0, 4, .inl (fun _ => 0))), (r9 5, .inl ((xw x).2.1 0, 4, .inl (fun _ => 0)))]) rfl ?_
  refine al_iconst 0 ok dx_House_init_81 (by decide) ?_
  refine al_istore_n (lv' := [(1, .int 0), (0, .ref h0)]) ok dx_House_init_82 rfl (by decide) rfl ?_
  refine al_iload_n 0 ok dx_House_init_83 rfl ?_
  refine al_bipush 6 ok dx_House_init_84 (by decide) ?_
  refine al_geF 108 ok dx_House_init_86 (by decide) (by decide) ?_
  refine al_aload_n 1 ok dx_House_init_89 rfl ?_
  refine al_get (k := 7) ok dx_House_init_90 rfl zc_i2 (by decide) wd_182 rfl ?_
  refine al_iload_n 0 ok dx_House_init_93 rfl ?_
  refine al_new (ci := 6) (c1 := 21) (s1 := 196) [.null, .int 0] ok dx_House_init_94 rfl zc_i6 zc_y6 zc_t6 wd_136 wd_137 wd_104 al_d6 rfl rfl (by decide) (by decide) (fun q10 => ?_)
  refine al_dup ok dx_House_init_97 rfl ?_
  refine al_callI (c1 := 22) (s1 := 296) ok dx_House_init_98 (a_Shades_init (h0 := q10)) wd_138 wd_139 wd_140 wd_104 rfl (by decide) (by decide +kernel) (by decide) (by decide) (Nat.le_of_ble_eq_true rfl) rfl rfl (by decide) (by decide) (fun r10 er10 => ?_)
  refine al_X (X' := (h0, .inr (2, [.ref q1, .ref q2, .ref q3, .ref q4, .ref q5, .ref q6, .ref q7, .ref q8, .ref q9, .int 0, .int 0, .int 0, .int 0, .int 0])) :: [(q1, .inl ((xw x).2.1 0, 4, .inl (fun _ => 0))), (q2, .inl ((xw x).2.1 0, 4, .inl (fun _ => 0))), (q3, .inl ((xw x).2.1 0, 4, .inl (fun _ => 0))), (q4, .inl ((xw x).2.1 0, 4, .inl (fun _ => 0))), (q5, .inl ((xw x).2.1 0, 4, .inl (fun _ => 0))), (q6, .inl ((xw x).2.1 5, 4, .inr (.inr (.inr (.inr (fun i => if i < 4 then some (r6 i) else none)))))), (r6 0, .inl ((xw x).2.1 0, 8, .inl (fun _ => 0))), (r6 1, .inl ((xw x).2.1 0, 8, .inl (fun _ => 0))), (r6 2, .inl ((xw x).2.1 0, 8, .inl (fun _ => 0))), (r6 3, .inl ((xw x).2.1 0, 8, .inl (fun _ => 0))), (q7, .inr (6, [.ref (r7 1), .int 1])), (r7 1, .inl ((xw x).2.1 0, 100, .inl (upd (fun _ => 0) 80 1))), (q8, .inl ((xw x).2.1 3, 6, .inr (.inr (.inr (.inr (fun _ => none)))))), (q9, .inl ((xw x).2.1 5, 6, .inr (.inr (.inr (.inr (fun i => if i < 6 then some (r9 i) else none)))))), (r9 0, .inl ((xw x).2.1 0, 4, .inl (fun _ => 0))), (r9 1, .inl ((xw x).2.1 0, 4, .inl (fun _ => 0))), (r9 2, .inl ((xw x).2.1 0, 4, .inl (fun _ => 0))), (r9 3, .inl ((xw x).2.1 0, 4, .inl (fun _ => 0))), (r9 4, .inl ((xw x).2.1 0, 4, .inl (fun _ => 0))), (r9 5, .inl ((xw x).2.1 0, 4, .inl (fun _ => 0))), (q10, .inr (6, [.ref (r10 1), .int 1])), (r10 1, .inl ((xw x).2.1 0, 100, .inl (upd (fun _ => 0) 80 1)))]) (by simp only [er10] <;> rfl) ?_
  refine al_aastS 13 21 ok dx_House_init_101 rfl rfl rfl ?_
  refine al_X (X' := (h0, .inr (2, [.ref q1, .ref q2, .ref q3, .ref q4, .ref q5, .ref q6, .ref q7, .ref q8, .ref q9, .int 0, .int 0, .int 0, .int 0, .int 0])) :: [(q1, .inl ((xw x).2.1 0, 4, .inl (fun _ => 0))), (q2, .inl ((xw x).2.1 0, 4, .inl (fun _ => 0))), (q3, .inl ((xw x).2.1 0, 4, .inl (fun _ => 0))), (q4, .inl ((xw x).2.1 0, 4, .inl (fun _ => 0))), (q5, .inl ((xw x).2.1 0, 4, .inl (fun _ => 0))), (q6, .inl ((xw x).2.1 5, 4, .inr (.inr (.inr (.inr (fun i => if i < 4 then some (r6 i) else none)))))), (r6 0, .inl ((xw x).2.1 0, 8, .inl (fun _ => 0))), (r6 1, .inl ((xw x).2.1 0, 8, .inl (fun _ => 0))), (r6 2, .inl ((xw x).2.1 0, 8, .inl (fun _ => 0))), (r6 3, .inl ((xw x).2.1 0, 8, .inl (fun _ => 0))), (q7, .inr (6, [.ref (r7 1), .int 1])), (r7 1, .inl ((xw x).2.1 0, 100, .inl (upd (fun _ => 0) 80 1))), (q8, .inl ((xw x).2.1 3, 6, .inr (.inr (.inr (.inr (va_up (fun _ => none) 0 (some (q10)))))))), (q9, .inl ((xw x).2.1 5, 6, .inr (.inr (.inr (.inr (fun i => if i < 6 then some (r9 i) else none)))))), (r9 0, .inl ((xw x).2.1 0, 4, .inl (fun _ => 0))), (r9 1, .inl ((xw x).2.1 0, 4, .inl (fun _ => 0))), (r9 2, .inl ((xw x).2.1 0, 4, .inl (fun _ => 0))), (r9 3, .inl ((xw x).2.1 0, 4, .inl (fun _ => 0))), (r9 4, .inl ((xw x).2.1 0, 4, .inl (fun _ => 0))), (r9 5, .inl ((xw x).2.1 0, 4, .inl (fun _ => 0))), (q10, .inr (6, [.ref (r10 1), .int 1])), (r10 1, .inl ((xw x).2.1 0, 100, .inl (upd (fun _ => 0) 80 1)))]) rfl ?_
  refine al_iinc (w := 1) (lv' := [(1, .int 1), (0, .ref h0)]) 0 ok dx_House_init_102 rfl (by decide) (by decide) rfl ?_
  refine al_goto 83 ok dx_House_init_105 (by decide) ?_
  refine al_iload_n 0 ok dx_House_init_83 rfl ?_
  refine al_bipush 6 ok dx_House_init_84 (by decide) ?_
  refine al_geF 108 ok dx_House_init_86 (by decide) (by decide) ?_
  refine al_aload_n 1 ok dx_House_init_89 rfl ?_
  refine al_get (k := 7) ok dx_House_init_90 rfl zc_i2 (by decide) wd_182 rfl ?_
  refine al_iload_n 0 ok dx_House_init_93 rfl ?_
  refine al_new (ci := 6) (c1 := 23) (s1 := 298) [.null, .int 0] ok dx_House_init_94 rfl zc_i6 zc_y6 zc_t6 wd_136 wd_137 wd_104 al_d6 rfl rfl (by decide) (by decide) (fun q11 => ?_)
  refine al_dup ok dx_House_init_97 rfl ?_
  refine al_callI (c1 := 24) (s1 := 398) ok dx_House_init_98 (a_Shades_init (h0 := q11)) wd_138 wd_139 wd_140 wd_104 rfl (by decide) (by decide +kernel) (by decide) (by decide) (Nat.le_of_ble_eq_true rfl) rfl rfl (by decide) (by decide) (fun r11 er11 => ?_)
  refine al_X (X' := (h0, .inr (2, [.ref q1, .ref q2, .ref q3, .ref q4, .ref q5, .ref q6, .ref q7, .ref q8, .ref q9, .int 0, .int 0, .int 0, .int 0, .int 0])) :: [(q1, .inl ((xw x).2.1 0, 4, .inl (fun _ => 0))), (q2, .inl ((xw x).2.1 0, 4, .inl (fun _ => 0))), (q3, .inl ((xw x).2.1 0, 4, .inl (fun _ => 0))), (q4, .inl ((xw x).2.1 0, 4, .inl (fun _ => 0))), (q5, .inl ((xw x).2.1 0, 4, .inl (fun _ => 0))), (q6, .inl ((xw x).2.1 5, 4, .inr (.inr (.inr (.inr (fun i => if i < 4 then some (r6 i) else none)))))), (r6 0, .inl ((xw x).2.1 0, 8, .inl (fun _ => 0))), (r6 1, .inl ((xw x).2.1 0, 8, .inl (fun _ => 0))), (r6 2, .inl ((xw x).2.1 0, 8, .inl (fun _ => 0))), (r6 3, .inl ((xw x).2.1 0, 8, .inl (fun _ => 0))), (q7, .inr (6, [.ref (r7 1), .int 1])), (r7 1, .inl ((xw x).2.1 0, 100, .inl (upd (fun _ => 0) 80 1))), (q8, .inl ((xw x).2.1 3, 6, .inr (.inr (.inr (.inr (va_up (fun _ => none) 0 (some (q10)))))))), (q9, .inl ((xw x).2.1 5, 6, .inr (.inr (.inr (.inr (fun i => if i < 6 then some (r9 i) else none)))))), (r9 0, .inl ((xw x).2.1 0, 4, .inl (fun _ => 0))), (r9 1, .inl ((xw x).2.1 0, 4, .inl (fun _ => 0))), (r9 2, .inl ((xw x).2.1 0, 4, .inl (fun _ => 0))), (r9 3, .inl ((xw x).2.1 0, 4, .inl (fun _ => 0))), (r9 4, .inl ((xw x).2.1 0, 4, .inl (fun _ => 0))), (r9 5, .inl ((xw x).2.1 0, 4, .inl (fun _ => 0))), (q10, .inr (6, [.ref (r10 1), .int 1])), (r10 1, .inl ((xw x).2.1 0, 100, .inl (upd (fun _ => 0) 80 1))), (q11, .inr (6, [.ref (r11 1), .int 1])), (r11 1, .inl ((xw x).2.1 0, 100, .inl (upd (fun _ => 0) 80 1)))]) (by simp only [er11] <;> rfl) ?_
  refine al_aastS 13 23 ok dx_House_init_101 rfl rfl rfl ?_
  refine al_X (X' := (h0, .inr (2, [.ref q1, .ref q2, .ref q3, .ref q4, .ref q5, .ref q6, .ref q7, .ref q8, .ref q9, .int 0, .int 0, .int 0, .int 0, .int 0])) :: [(q1, .inl ((xw x).2.1 0, 4, .inl (fun _ => 0))), (q2, .inl ((xw x).2.1 0, 4, .inl (fun _ => 0))), (q3, .inl ((xw x).2.1 0, 4, .inl (fun _ => 0))), (q4, .inl ((xw x).2.1 0, 4, .inl (fun _ => 0))), (q5, .inl ((xw x).2.1 0, 4, .inl (fun _ => 0))), (q6, .inl ((xw x).2.1 5, 4, .inr (.inr (.inr (.inr (fun i => if i < 4 then some (r6 i) else none)))))), (r6 0, .inl ((xw x).2.1 0, 8, .inl (fun _ => 0))), (r6 1, .inl ((xw x).2.1 0, 8, .inl (fun _ => 0))), (r6 2, .inl ((xw x).2.1 0, 8, .inl (fun _ => 0))), (r6 3, .inl ((xw x).2.1 0, 8, .inl (fun _ => 0))), (q7, .inr (6, [.ref (r7 1), .int 1])), (r7 1, .inl ((xw x).2.1 0, 100, .inl (upd (fun _ => 0) 80 1))), (q8, .inl ((xw x).2.1 3, 6, .inr (.inr (.inr (.inr (va_up (va_up (fun _ => none) 0 (some (q10))) 1 (some (q11)))))))), (q9, .inl ((xw x).2.1 5, 6, .inr (.inr (.inr (.inr (fun i => if i < 6 then some (r9 i) else none)))))), (r9 0, .inl ((xw x).2.1 0, 4, .inl (fun _ => 0))), (r9 1, .inl ((xw x).2.1 0, 4, .inl (fun _ => 0))), (r9 2, .inl ((xw x).2.1 0, 4, .inl (fun _ => 0))), (r9 3, .inl ((xw x).2.1 0, 4, .inl (fun _ => 0))), (r9 4, .inl ((xw x).2.1 0, 4, .inl (fun _ => 0))), (r9 5, .inl ((xw x).2.1 0, 4, .inl (fun _ => 0))), (q10, .inr (6, [.ref (r10 1), .int 1])), (r10 1, .inl ((xw x).2.1 0, 100, .inl (upd (fun _ => 0) 80 1))), (q11, .inr (6, [.ref (r11 1), .int 1])), (r11 1, .inl ((xw x).2.1 0, 100, .inl (upd (fun _ => 0) 80 1)))]) rfl ?_
  refine al_iinc (w := 2) (lv' := [(1, .int 2), (0, .ref h0)]) 0 ok dx_House_init_102 rfl (by decide) (by decide) rfl ?_
  refine al_goto 83 ok dx_House_init_105 (by decide) ?_
  refine al_iload_n 0 ok dx_House_init_83 rfl ?_
  refine al_bipush 6 ok dx_House_init_84 (by decide) ?_
  refine al_geF 108 ok dx_House_init_86 (by decide) (by decide) ?_
  refine al_aload_n 1 ok dx_House_init_89 rfl ?_
  refine al_get (k := 7) ok dx_House_init_90 rfl zc_i2 (by decide) wd_182 rfl ?_
  refine al_iload_n 0 ok dx_House_init_93 rfl ?_
  refine al_new (ci := 6) (c1 := 25) (s1 := 400) [.null, .int 0] ok dx_House_init_94 rfl zc_i6 zc_y6 zc_t6 wd_136 wd_137 wd_104 al_d6 rfl rfl (by decide) (by decide) (fun q12 => ?_)
  refine al_dup ok dx_House_init_97 rfl ?_
  refine al_callI (c1 := 26) (s1 := 500) ok dx_House_init_98 (a_Shades_init (h0 := q12)) wd_138 wd_139 wd_140 wd_104 rfl (by decide) (by decide +kernel) (by decide) (by decide) (Nat.le_of_ble_eq_true rfl) rfl rfl (by decide) (by decide) (fun r12 er12 => ?_)
  refine al_X (X' := (h0, .inr (2, [.ref q1, .ref q2, .ref q3, .ref q4, .ref q5, .ref q6, .ref q7, .ref q8, .ref q9, .int 0, .int 0, .int 0, .int 0, .int 0])) :: [(q1, .inl ((xw x).2.1 0, 4, .inl (fun _ => 0))), (q2, .inl ((xw x).2.1 0, 4, .inl (fun _ => 0))), (q3, .inl ((xw x).2.1 0, 4, .inl (fun _ => 0))), (q4, .inl ((xw x).2.1 0, 4, .inl (fun _ => 0))), (q5, .inl ((xw x).2.1 0, 4, .inl (fun _ => 0))), (q6, .inl ((xw x).2.1 5, 4, .inr (.inr (.inr (.inr (fun i => if i < 4 then some (r6 i) else none)))))), (r6 0, .inl ((xw x).2.1 0, 8, .inl (fun _ => 0))), (r6 1, .inl ((xw x).2.1 0, 8, .inl (fun _ => 0))), (r6 2, .inl ((xw x).2.1 0, 8, .inl (fun _ => 0))), (r6 3, .inl ((xw x).2.1 0, 8, .inl (fun _ => 0))), (q7, .inr (6, [.ref (r7 1), .int 1])), (r7 1, .inl ((xw x).2.1 0, 100, .inl (upd (fun _ => 0) 80 1))), (q8, .inl ((xw x).2.1 3, 6, .inr (.inr (.inr (.inr (va_up (va_up (fun _ => none) 0 (some (q10))) 1 (some (q11)))))))), (q9, .inl ((xw x).2.1 5, 6, .inr (.inr (.inr (.inr (fun i => if i < 6 then some (r9 i) else none)))))), (r9 0, .inl ((xw x).2.1 0, 4, .inl (fun _ => 0))), (r9 1, .inl ((xw x).2.1 0, 4, .inl (fun _ => 0))), (r9 2, .inl ((xw x).2.1 0, 4, .inl (fun _ => 0))), (r9 3, .inl ((xw x).2.1 0, 4, .inl (fun _ => 0))), (r9 4, .inl ((xw x).2.1 0, 4, .inl (fun _ => 0))), (r9 5, .inl ((xw x).2.1 0, 4, .inl (fun _ => 0))), (q10, .inr (6, [.ref (r10 1), .int 1])), (r10 1, .inl ((xw x).2.1 0, 100, .inl (upd (fun _ => 0) 80 1))), (q11, .inr (6, [.ref (r11 1), .int 1])), (r11 1, .inl ((xw x).2.1 0, 100, .inl (upd (fun _ => 0) 80 1))), (q12, .inr (6, [.ref (r12 1), .int 1])), (r12 1, .inl ((xw x).2.1 0, 100, .inl (upd (fun _ => 0) 80 1)))]) (by simp only [er12] <;> rfl) ?_
  refine al_aastS 13 25 ok dx_House_init_101 rfl rfl rfl ?_
  refine al_X (X' := (h0, .inr (2, [.ref q1, .ref q2, .ref q3, .ref q4, .ref q5, .ref q6, .ref q7, .ref q8, .ref q9, .int 0, .int 0, .int 0, .int 0, .int 0])) :: [(q1, .inl ((xw x).2.1 0, 4, .inl (fun _ => 0))), (q2, .inl ((xw x).2.1 0, 4, .inl (fun _ => 0))), (q3, .inl ((xw x).2.1 0, 4, .inl (fun _ => 0))), (q4, .inl ((xw x).2.1 0, 4, .inl (fun _ => 0))), (q5, .inl ((xw x).2.1 0, 4, .inl (fun _ => 0))), (q6, .inl ((xw x).2.1 5, 4, .inr (.inr (.inr (.inr (fun i => if i < 4 then some (r6 i) else none)))))), (r6 0, .inl ((xw x).2.1 0, 8, .inl (fun _ => 0))), (r6 1, .inl ((xw x).2.1 0, 8, .inl (fun _ => 0))), (r6 2, .inl ((xw x).2.1 0, 8, .inl (fun _ => 0))), (r6 3, .inl ((xw x).2.1 0, 8, .inl (fun _ => 0))), (q7, .inr (6, [.ref (r7 1), .int 1])), (r7 1, .inl ((xw x).2.1 0, 100, .inl (upd (fun _ => 0) 80 1))), (q8, .inl ((xw x).2.1 3, 6, .inr (.inr (.inr (.inr (va_up (va_up (va_up (fun _ => none) 0 (some (q10))) 1 (some (q11))) 2 (some (q12)))))))), (q9, .inl ((xw x).2.1 5, 6, .inr (.inr (.inr (.inr (fun i => if i < 6 then some (r9 i) else none)))))), (r9 0, .inl ((xw x).2.1 0, 4, .inl (fun _ => 0))), (r9 1, .inl ((xw x).2.1 0, 4, .inl (fun _ => 0))), (r9 2, .inl ((xw x).2.1 0, 4, .inl (fun _ => 0))), (r9 3, .inl ((xw x).2.1 0, 4, .inl (fun _ => 0))), (r9 4, .inl ((xw x).2.1 0, 4, .inl (fun _ => 0))), (r9 5, .inl ((xw x).2.1 0, 4, .inl (fun _ => 0))), (q10, .inr (6, [.ref (r10 1), .int 1])), (r10 1, .inl ((xw x).2.1 0, 100, .inl (upd (fun _ => 0) 80 1))), (q11, .inr (6, [.ref (r11 1), .int 1])), (r11 1, .inl ((xw x).2.1 0, 100, .inl (upd (fun _ => 0) 80 1))), (q12, .inr (6, [.ref (r12 1), .int 1])), (r12 1, .inl ((xw x).2.1 0, 100, .inl (upd (fun _ => 0) 80 1)))]) rfl ?_
  refine al_iinc (w := 3) (lv' := [(1, .int 3), (0, .ref h0)]) 0 ok dx_House_init_102 rfl (by decide) (by decide) rfl ?_
  refine al_goto 83 ok dx_House_init_105 (by decide) ?_
  refine al_iload_n 0 ok dx_House_init_83 rfl ?_
  refine al_bipush 6 ok dx_House_init_84 (by decide) ?_
  refine al_geF 108 ok dx_House_init_86 (by decide) (by decide) ?_
  refine al_aload_n 1 ok dx_House_init_89 rfl ?_
  refine al_get (k := 7) ok dx_House_init_90 rfl zc_i2 (by decide) wd_182 rfl ?_
  refine al_iload_n 0 ok dx_House_init_93 rfl ?_
  refine al_new (ci := 6) (c1 := 27) (s1 := 502) [.null, .int 0] ok dx_House_init_94 rfl zc_i6 zc_y6 zc_t6 wd_136 wd_137 wd_104 al_d6 rfl rfl (by decide) (by decide) (fun q13 => ?_)
  refine al_dup ok dx_House_init_97 rfl ?_
  refine al_callI (c1 := 28) (s1 := 602) ok dx_House_init_98 (a_Shades_init (h0 := q13)) wd_138 wd_139 wd_140 wd_104 rfl (by decide) (by decide +kernel) (by decide) (by decide) (Nat.le_of_ble_eq_true rfl) rfl rfl (by decide) (by decide) (fun r13 er13 => ?_)
  refine al_X (X' := (h0, .inr (2, [.ref q1, .ref q2, .ref q3, .ref q4, .ref q5, .ref q6, .ref q7, .ref q8, .ref q9, .int 0, .int 0, .int 0, .int 0, .int 0])) :: [(q1, .inl ((xw x).2.1 0, 4, .inl (fun _ => 0))), (q2, .inl ((xw x).2.1 0, 4, .inl (fun _ => 0))), (q3, .inl ((xw x).2.1 0, 4, .inl (fun _ => 0))), (q4, .inl ((xw x).2.1 0, 4, .inl (fun _ => 0))), (q5, .inl ((xw x).2.1 0, 4, .inl (fun _ => 0))), (q6, .inl ((xw x).2.1 5, 4, .inr (.inr (.inr (.inr (fun i => if i < 4 then some (r6 i) else none)))))), (r6 0, .inl ((xw x).2.1 0, 8, .inl (fun _ => 0))), (r6 1, .inl ((xw x).2.1 0, 8, .inl (fun _ => 0))), (r6 2, .inl ((xw x).2.1 0, 8, .inl (fun _ => 0))), (r6 3, .inl ((xw x).2.1 0, 8, .inl (fun _ => 0))), (q7, .inr (6, [.ref (r7 1), .int 1])), (r7 1, .inl ((xw x).2.1 0, 100, .inl (upd (fun _ => 0) 80 1))), (q8, .inl ((xw x).2.1 3, 6, .inr (.inr (.inr (.inr (va_up (va_up (va_up (fun _ => none) 0 (some (q10))) 1 (some (q11))) 2 (some (q12)))))))), (q9, .inl ((xw x).2.1 5, 6, .inr (.inr (.inr (.inr (fun i => if i < 6 then some (r9 i) else none)))))), (r9 0, .inl ((xw x).2.1 0, 4, .inl (fun _ => 0))), (r9 1, .inl ((xw x).2.1 0, 4, .inl (fun _ => 0))), (r9 2, .inl ((xw x).2.1 0, 4, .inl (fun _ => 0))), (r9 3, .inl ((xw x).2.1 0, 4, .inl (fun _ => 0))), (r9 4, .inl ((xw x).2.1 0, 4, .inl (fun _ => 0))), (r9 5, .inl ((xw x).2.1 0, 4, .inl (fun _ => 0))), (q10, .inr (6, [.ref (r10 1), .int 1])), (r10 1, .inl ((xw x).2.1 0, 100, .inl (upd (fun _ => 0) 80 1))), (q11, .inr (6, [.ref (r11 1), .int 1])), (r11 1, .inl ((xw x).2.1 0, 100, .inl (upd (fun _ => 0) 80 1))), (q12, .inr (6, [.ref (r12 1), .int 1])), (r12 1, .inl ((xw x).2.1 0, 100, .inl (upd (fun _ => 0) 80 1))), (q13, .inr (6, [.ref (r13 1), .int 1])), (r13 1, .inl ((xw x).2.1 0, 100, .inl (upd (fun _ => 0) 80 1)))]) (by simp only [er13] <;> rfl) ?_
  refine al_aastS 13 27 ok dx_House_init_101 rfl rfl rfl ?_
  refine al_X (X' := (h0, .inr (2, [.ref q1, .ref q2, .ref q3, .ref q4, .ref q5, .ref q6, .ref q7, .ref q8, .ref q9, .int 0, .int 0, .int 0, .int 0, .int 0])) :: [(q1, .inl ((xw x).2.1 0, 4, .inl (fun _ => 0))), (q2, .inl ((xw x).2.1 0, 4, .inl (fun _ => 0))), (q3, .inl ((xw x).2.1 0, 4, .inl (fun _ => 0))), (q4, .inl ((xw x).2.1 0, 4, .inl (fun _ => 0))), (q5, .inl ((xw x).2.1 0, 4, .inl (fun _ => 0))), (q6, .inl ((xw x).2.1 5, 4, .inr (.inr (.inr (.inr (fun i => if i < 4 then some (r6 i) else none)))))), (r6 0, .inl ((xw x).2.1 0, 8, .inl (fun _ => 0))), (r6 1, .inl ((xw x).2.1 0, 8, .inl (fun _ => 0))), (r6 2, .inl ((xw x).2.1 0, 8, .inl (fun _ => 0))), (r6 3, .inl ((xw x).2.1 0, 8, .inl (fun _ => 0))), (q7, .inr (6, [.ref (r7 1), .int 1])), (r7 1, .inl ((xw x).2.1 0, 100, .inl (upd (fun _ => 0) 80 1))), (q8, .inl ((xw x).2.1 3, 6, .inr (.inr (.inr (.inr (va_up (va_up (va_up (va_up (fun _ => none) 0 (some (q10))) 1 (some (q11))) 2 (some (q12))) 3 (some (q13)))))))), (q9, .inl ((xw x).2.1 5, 6, .inr (.inr (.inr (.inr (fun i => if i < 6 then some (r9 i) else none)))))), (r9 0, .inl ((xw x).2.1 0, 4, .inl (fun _ => 0))), (r9 1, .inl ((xw x).2.1 0, 4, .inl (fun _ => 0))), (r9 2, .inl ((xw x).2.1 0, 4, .inl (fun _ => 0))), (r9 3, .inl ((xw x).2.1 0, 4, .inl (fun _ => 0))), (r9 4, .inl ((xw x).2.1 0, 4, .inl (fun _ => 0))), (r9 5, .inl ((xw x).2.1 0, 4, .inl (fun _ => 0))), (q10, .inr (6, [.ref (r10 1), .int 1])), (r10 1, .inl ((xw x).2.1 0, 100, .inl (upd (fun _ => 0) 80 1))), (q11, .inr (6, [.ref (r11 1), .int 1])), (r11 1, .inl ((xw x).2.1 0, 100, .inl (upd (fun _ => 0) 80 1))), (q12, .inr (6, [.ref (r12 1), .int 1])), (r12 1, .inl ((xw x).2.1 0, 100, .inl (upd (fun _ => 0) 80 1))), (q13, .inr (6, [.ref (r13 1), .int 1])), (r13 1, .inl ((xw x).2.1 0, 100, .inl (upd (fun _ => 0) 80 1)))]) rfl ?_
  refine al_iinc (w := 4) (lv' := [(1, .int 4), (0, .ref h0)]) 0 ok dx_House_init_102 rfl (by decide) (by decide) rfl ?_
  refine al_goto 83 ok dx_House_init_105 (by decide) ?_
  refine al_iload_n 0 ok dx_House_init_83 rfl ?_
  refine al_bipush 6 ok dx_House_init_84 (by decide) ?_
  refine al_geF 108 ok dx_House_init_86 (by decide) (by decide) ?_
  refine al_aload_n 1 ok dx_House_init_89 rfl ?_
  refine al_get (k := 7) ok dx_House_init_90 rfl zc_i2 (by decide) wd_182 rfl ?_
  refine al_iload_n 0 ok dx_House_init_93 rfl ?_
  refine al_new (ci := 6) (c1 := 29) (s1 := 604) [.null, .int 0] ok dx_House_init_94 rfl zc_i6 zc_y6 zc_t6 wd_136 wd_137 wd_104 al_d6 rfl rfl (by decide) (by decide) (fun q14 => ?_)
  refine al_dup ok dx_House_init_97 rfl ?_
  refine al_callI (c1 := 30) (s1 := 704) ok dx_House_init_98 (a_Shades_init (h0 := q14)) wd_138 wd_139 wd_140 wd_104 rfl (by decide) (by decide +kernel) (by decide) (by decide) (Nat.le_of_ble_eq_true rfl) rfl rfl (by decide) (by decide) (fun r14 er14 => ?_)
  refine al_X (X' := (h0, .inr (2, [.ref q1, .ref q2, .ref q3, .ref q4, .ref q5, .ref q6, .ref q7, .ref q8, .ref q9, .int 0, .int 0, .int 0, .int 0, .int 0])) :: [(q1, .inl ((xw x).2.1 0, 4, .inl (fun _ => 0))), (q2, .inl ((xw x).2.1 0, 4, .inl (fun _ => 0))), (q3, .inl ((xw x).2.1 0, 4, .inl (fun _ => 0))), (q4, .inl ((xw x).2.1 0, 4, .inl (fun _ => 0))), (q5, .inl ((xw x).2.1 0, 4, .inl (fun _ => 0))), (q6, .inl ((xw x).2.1 5, 4, .inr (.inr (.inr (.inr (fun i => if i < 4 then some (r6 i) else none)))))), (r6 0, .inl ((xw x).2.1 0, 8, .inl (fun _ => 0))), (r6 1, .inl ((xw x).2.1 0, 8, .inl (fun _ => 0))), (r6 2, .inl ((xw x).2.1 0, 8, .inl (fun _ => 0))), (r6 3, .inl ((xw x).2.1 0, 8, .inl (fun _ => 0))), (q7, .inr (6, [.ref (r7 1), .int 1])), (r7 1, .inl ((xw x).2.1 0, 100, .inl (upd (fun _ => 0) 80 1))), (q8, .inl ((xw x).2.1 3, 6, .inr (.inr (.inr (.inr (va_up (va_up (va_up (va_up (fun _ => none) 0 (some (q10))) 1 (some (q11))) 2 (some (q12))) 3 (some (q13)))))))), (q9, .inl ((xw x).2.1 5, 6, .inr (.inr (.inr (.inr (fun i => if i < 6 then some (r9 i) else none)))))), (r9 0, .inl ((xw x).2.1 0, 4, .inl (fun _ => 0))), (r9 1, .inl ((xw x).2.1 0, 4, .inl (fun _ => 0))), (r9 2, .inl ((xw x).2.1 0, 4, .inl (fun _ => 0))), (r9 3, .inl ((xw x).2.1 0, 4, .inl (fun _ => 0))), (r9 4, .inl ((xw x).2.1 0, 4, .inl (fun _ => 0))), (r9 5, .inl ((xw x).2.1 0, 4, .inl (fun _ => 0))), (q10, .inr (6, [.ref (r10 1), .int 1])), (r10 1, .inl ((xw x).2.1 0, 100, .inl (upd (fun _ => 0) 80 1))), (q11, .inr (6, [.ref (r11 1), .int 1])), (r11 1, .inl ((xw x).2.1 0, 100, .inl (upd (fun _ => 0) 80 1))), (q12, .inr (6, [.ref (r12 1), .int 1])), (r12 1, .inl ((xw x).2.1 0, 100, .inl (upd (fun _ => 0) 80 1))), (q13, .inr (6, [.ref (r13 1), .int 1])), (r13 1, .inl ((xw x).2.1 0, 100, .inl (upd (fun _ => 0) 80 1))), (q14, .inr (6, [.ref (r14 1), .int 1])), (r14 1, .inl ((xw x).2.1 0, 100, .inl (upd (fun _ => 0) 80 1)))]) (by simp only [er14] <;> rfl) ?_
  refine al_aastS 13 29 ok dx_House_init_101 rfl rfl rfl ?_
  refine al_X (X' := (h0, .inr (2, [.ref q1, .ref q2, .ref q3, .ref q4, .ref q5, .ref q6, .ref q7, .ref q8, .ref q9, .int 0, .int 0, .int 0, .int 0, .int 0])) :: [(q1, .inl ((xw x).2.1 0, 4, .inl (fun _ => 0))), (q2, .inl ((xw x).2.1 0, 4, .inl (fun _ => 0))), (q3, .inl ((xw x).2.1 0, 4, .inl (fun _ => 0))), (q4, .inl ((xw x).2.1 0, 4, .inl (fun _ => 0))), (q5, .inl ((xw x).2.1 0, 4, .inl (fun _ => 0))), (q6, .inl ((xw x).2.1 5, 4, .inr (.inr (.inr (.inr (fun i => if i < 4 then some (r6 i) else none)))))), (r6 0, .inl ((xw x).2.1 0, 8, .inl (fun _ => 0))), (r6 1, .inl ((xw x).2.1 0, 8, .inl (fun _ => 0))), (r6 2, .inl ((xw x).2.1 0, 8, .inl (fun _ => 0))), (r6 3, .inl ((xw x).2.1 0, 8, .inl (fun _ => 0))), (q7, .inr (6, [.ref (r7 1), .int 1])), (r7 1, .inl ((xw x).2.1 0, 100, .inl (upd (fun _ => 0) 80 1))), (q8, .inl ((xw x).2.1 3, 6, .inr (.inr (.inr (.inr (va_up (va_up (va_up (va_up (va_up (fun _ => none) 0 (some (q10))) 1 (some (q11))) 2 (some (q12))) 3 (some (q13))) 4 (some (q14)))))))), (q9, .inl ((xw x).2.1 5, 6, .inr (.inr (.inr (.inr (fun i => if i < 6 then some (r9 i) else none)))))), (r9 0, .inl ((xw x).2.1 0, 4, .inl (fun _ => 0))), (r9 1, .inl ((xw x).2.1 0, 4, .inl (fun _ => 0))), (r9 2, .inl ((xw x).2.1 0, 4, .inl (fun _ => 0))), (r9 3, .inl ((xw x).2.1 0, 4, .inl (fun _ => 0))), (r9 4, .inl ((xw x).2.1 0, 4, .inl (fun _ => 0))), (r9 5, .inl ((xw x).2.1 0, 4, .inl (fun _ => 0))), (q10, .inr (6, [.ref (r10 1), .int 1])), (r10 1, .inl ((xw x).2.1 0, 100, .inl (upd (fun _ => 0) 80 1))), (q11, .inr (6, [.ref (r11 1), .int 1])), (r11 1, .inl ((xw x).2.1 0, 100, .inl (upd (fun _ => 0) 80 1))), (q12, .inr (6, [.ref (r12 1), .int 1])), (r12 1, .inl ((xw x).2.1 0, 100, .inl (upd (fun _ => 0) 80 1))), (q13, .inr (6, [.ref (r13 1), .int 1])), (r13 1, .inl ((xw x).2.1 0, 100, .inl (upd (fun _ => 0) 80 1))), (q14, .inr (6, [.ref (r14 1), .int 1])), (r14 1, .inl ((xw x).2.1 0, 100, .inl (upd (fun _ => 0) 80 1)))]) rfl ?_
  refine al_iinc (w := 5) (lv' := [(1, .int 5), (0, .ref h0)]) 0 ok dx_House_init_102 rfl (by decide) (by decide) rfl ?_
  refine al_goto 83 ok dx_House_init_105 (by decide) ?_
  refine al_iload_n 0 ok dx_House_init_83 rfl ?_
  refine al_bipush 6 ok dx_House_init_84 (by decide) ?_
  refine al_geF 108 ok dx_House_init_86 (by decide) (by decide) ?_
  refine al_aload_n 1 ok dx_House_init_89 rfl ?_
  refine al_get (k := 7) ok dx_House_init_90 rfl zc_i2 (by decide) wd_182 rfl ?_
  refine al_iload_n 0 ok dx_House_init_93 rfl ?_
  refine al_new (ci := 6) (c1 := 31) (s1 := 706) [.null, .int 0] ok dx_House_init_94 rfl zc_i6 zc_y6 zc_t6 wd_136 wd_137 wd_104 al_d6 rfl rfl (by decide) (by decide) (fun q15 => ?_)
  refine al_dup ok dx_House_init_97 rfl ?_
  refine al_callI (c1 := 32) (s1 := 806) ok dx_House_init_98 (a_Shades_init (h0 := q15)) wd_138 wd_139 wd_140 wd_104 rfl (by decide) (by decide +kernel) (by decide) (by decide) (Nat.le_of_ble_eq_true rfl) rfl rfl (by decide) (by decide) (fun r15 er15 => ?_)
  refine al_X (X' := (h0, .inr (2, [.ref q1, .ref q2, .ref q3, .ref q4, .ref q5, .ref q6, .ref q7, .ref q8, .ref q9, .int 0, .int 0, .int 0, .int 0, .int 0])) :: [(q1, .inl ((xw x).2.1 0, 4, .inl (fun _ => 0))), (q2, .inl ((xw x).2.1 0, 4, .inl (fun _ => 0))), (q3, .inl ((xw x).2.1 0, 4, .inl (fun _ => 0))), (q4, .inl ((xw x).2.1 0, 4, .inl (fun _ => 0))), (q5, .inl ((xw x).2.1 0, 4, .inl (fun _ => 0))), (q6, .inl ((xw x).2.1 5, 4, .inr (.inr (.inr (.inr (fun i => if i < 4 then some (r6 i) else none)))))), (r6 0, .inl ((xw x).2.1 0, 8, .inl (fun _ => 0))), (r6 1, .inl ((xw x).2.1 0, 8, .inl (fun _ => 0))), (r6 2, .inl ((xw x).2.1 0, 8, .inl (fun _ => 0))), (r6 3, .inl ((xw x).2.1 0, 8, .inl (fun _ => 0))), (q7, .inr (6, [.ref (r7 1), .int 1])), (r7 1, .inl ((xw x).2.1 0, 100, .inl (upd (fun _ => 0) 80 1))), (q8, .inl ((xw x).2.1 3, 6, .inr (.inr (.inr (.inr (va_up (va_up (va_up (va_up (va_up (fun _ => none) 0 (some (q10))) 1 (some (q11))) 2 (some (q12))) 3 (some (q13))) 4 (some (q14)))))))), (q9, .inl ((xw x).2.1 5, 6, .inr (.inr (.inr (.inr (fun i => if i < 6 then some (r9 i) else none)))))), (r9 0, .inl ((xw x).2.1 0, 4, .inl (fun _ => 0))), (r9 1, .inl ((xw x).2.1 0, 4, .inl (fun _ => 0))), (r9 2, .inl ((xw x).2.1 0, 4, .inl (fun _ => 0))), (r9 3, .inl ((xw x).2.1 0, 4, .inl (fun _ => 0))), (r9 4, .inl ((xw x).2.1 0, 4, .inl (fun _ => 0))), (r9 5, .inl ((xw x).2.1 0, 4, .inl (fun _ => 0))), (q10, .inr (6, [.ref (r10 1), .int 1])), (r10 1, .inl ((xw x).2.1 0, 100, .inl (upd (fun _ => 0) 80 1))), (q11, .inr (6, [.ref (r11 1), .int 1])), (r11 1, .inl ((xw x).2.1 0, 100, .inl (upd (fun _ => 0) 80 1))), (q12, .inr (6, [.ref (r12 1), .int 1])), (r12 1, .inl ((xw x).2.1 0, 100, .inl (upd (fun _ => 0) 80 1))), (q13, .inr (6, [.ref (r13 1), .int 1])), (r13 1, .inl ((xw x).2.1 0, 100, .inl (upd (fun _ => 0) 80 1))), (q14, .inr (6, [.ref (r14 1), .int 1])), (r14 1, .inl ((xw x).2.1 0, 100, .inl (upd (fun _ => 0) 80 1))), (q15, .inr (6, [.ref (r15 1), .int 1])), (r15 1, .inl ((xw x).2.1 0, 100, .inl (upd (fun _ => 0) 80 1)))]) (by simp only [er15] <;> rfl) ?_
  refine al_aastS 13 31 ok dx_House_init_101 rfl rfl rfl ?_
  refine al_X (X' := (h0, .inr (2, [.ref q1, .ref q2, .ref q3, .ref q4, .ref q5, .ref q6, .ref q7, .ref q8, .ref q9, .int 0, .int 0, .int 0, .int 0, .int 0])) :: [(q1, .inl ((xw x).2.1 0, 4, .inl (fun _ => 0))), (q2, .inl ((xw x).2.1 0, 4, .inl (fun _ => 0))), (q3, .inl ((xw x).2.1 0, 4, .inl (fun _ => 0))), (q4, .inl ((xw x).2.1 0, 4, .inl (fun _ => 0))), (q5, .inl ((xw x).2.1 0, 4, .inl (fun _ => 0))), (q6, .inl ((xw x).2.1 5, 4, .inr (.inr (.inr (.inr (fun i => if i < 4 then some (r6 i) else none)))))), (r6 0, .inl ((xw x).2.1 0, 8, .inl (fun _ => 0))), (r6 1, .inl ((xw x).2.1 0, 8, .inl (fun _ => 0))), (r6 2, .inl ((xw x).2.1 0, 8, .inl (fun _ => 0))), (r6 3, .inl ((xw x).2.1 0, 8, .inl (fun _ => 0))), (q7, .inr (6, [.ref (r7 1), .int 1])), (r7 1, .inl ((xw x).2.1 0, 100, .inl (upd (fun _ => 0) 80 1))), (q8, .inl ((xw x).2.1 3, 6, .inr (.inr (.inr (.inr (va_up (va_up (va_up (va_up (va_up (va_up (fun _ => none) 0 (some (q10))) 1 (some (q11))) 2 (some (q12))) 3 (some (q13))) 4 (some (q14))) 5 (some (q15)))))))), (q9, .inl ((xw x).2.1 5, 6, .inr (.inr (.inr (.inr (fun i => if i < 6 then some (r9 i) else none)))))), (r9 0, .inl ((xw x).2.1 0, 4, .inl (fun _ => 0))), (r9 1, .inl ((xw x).2.1 0, 4, .inl (fun _ => 0))), (r9 2, .inl ((xw x).2.1 0, 4, .inl (fun _ => 0))), (r9 3, .inl ((xw x).2.1 0, 4, .inl (fun _ => 0))), (r9 4, .inl ((xw x).2.1 0, 4, .inl (fun _ => 0))), (r9 5, .inl ((xw x).2.1 0, 4, .inl (fun _ => 0))), (q10, .inr (6, [.ref (r10 1), .int 1])), (r10 1, .inl ((xw x).2.1 0, 100, .inl (upd (fun _ => 0) 80 1))), (q11, .inr (6, [.ref (r11 1), .int 1])), (r11 1, .inl ((xw x).2.1 0, 100, .inl (upd (fun _ => 0) 80 1))), (q12, .inr (6, [.ref (r12 1), .int 1])), (r12 1, .inl ((xw x).2.1 0, 100, .inl (upd (fun _ => 0) 80 1))), (q13, .inr (6, [.ref (r13 1), .int 1])), (r13 1, .inl ((xw x).2.1 0, 100, .inl (upd (fun _ => 0) 80 1))), (q14, .inr (6, [.ref (r14 1), .int 1])), (r14 1, .inl ((xw x).2.1 0, 100, .inl (upd (fun _ => 0) 80 1))), (q15, .inr (6, [.ref (r15 1), .int 1])), (r15 1, .inl ((xw x).2.1 0, 100, .inl (upd (fun _ => 0) 80 1)))]) rfl ?_
  refine al_iinc (w := 6) (lv' := [(1, .int 6), (0, .ref h0)]) 0 ok dx_House_init_102 rfl (by decide) (by decide) rfl ?_
  refine al_goto 83 ok dx_House_init_105 (by decide) ?_
  refine al_iload_n 0 ok dx_House_init_83 rfl ?_
  refine al_bipush 6 ok dx_House_init_84 (by decide) ?_
  refine al_geT 108 ok dx_House_init_86 (by decide) (by decide) ?_
  exact al_vret (fun i => [h0, q1, q2, q3, q4, q5, q6, r6 0, r6 1, r6 2, r6 3, q7, r7 1, q8, q9, r9 0, r9 1, r9 2, r9 3, r9 4, r9 5, q10, r10 1, q11, r11 1, q12, r12 1, q13, r13 1, q14, r14 1, q15, r15 1].getD i 0) hr ok dx_House_init_108 rfl (fun H hP hD => by refine al_same ?_ hP hD; exact al_sc rfl (Or.inl rfl) (al_sc rfl (Or.inl rfl) (al_sc rfl (Or.inl rfl) (al_sc rfl (Or.inl rfl) (al_sc rfl (Or.inl rfl) (al_sc rfl (Or.inl rfl) (al_sc rfl (al_rows (fun j hj => by rcases (show j = 0 ∨ j = 1 ∨ j = 2 ∨ j = 3 by omega) with rfl | rfl | rfl | rfl <;> rfl)) (al_sc rfl (Or.inl rfl) (al_sc rfl (Or.inl rfl) (al_sc rfl (Or.inl rfl) (al_sc rfl (Or.inl rfl) (al_sc rfl (Or.inl rfl) (al_sc rfl (Or.inl rfl) (al_sc rfl (Or.inl rfl) (al_sc rfl (al_rows (fun j hj => by rcases (show j = 0 ∨ j = 1 ∨ j = 2 ∨ j = 3 ∨ j = 4 ∨ j = 5 by omega) with rfl | rfl | rfl | rfl | rfl | rfl <;> rfl)) (al_sc rfl (Or.inl rfl) (al_sc rfl (Or.inl rfl) (al_sc rfl (Or.inl rfl) (al_sc rfl (Or.inl rfl) (al_sc rfl (Or.inl rfl) (al_sc rfl (Or.inl rfl) (al_sc rfl (Or.inl rfl) (al_sc rfl (Or.inl rfl) (al_sc rfl (Or.inl rfl) (al_sc rfl (Or.inl rfl) (al_sc rfl (Or.inl rfl) (al_sc rfl (Or.inl rfl) (al_sc rfl (Or.inl rfl) (al_sc rfl (Or.inl rfl) (al_sc rfl (Or.inl rfl) (al_sc rfl (Or.inl rfl) (al_sc rfl (Or.inl rfl) (al_sc rfl (Or.inl rfl) al_sn)))))))))))))))))))))))))))))))))
