def zm_sh : Nat → Nat × Nat := fun p => match p with
  | 0 => (20, 0)
  | 1 => (0, 81)
  | 2 => (0, 162)
  | 3 => (2, 2)
  | 4 => (0, 3)
  | 5 => (1, 7936)
  | 6 => (0, 124)
  | 7 => (0, 32)
  | 8 => (0, 4)
  | 9 => (1, 16)
  | 10 => (0, 4)
  | 11 => (0, 4)
  | 12 => (0, 4)
  | 13 => (0, 22)
  | 14 => (0, 22)
  | 15 => (0, 4)
  | 16 => (0, 4)
  | 17 => (0, 200)
  | 18 => (0, 12)
  | 19 => (0, 32)
  | 20 => (0, 4)
  | _ => (9, 0)
def zm_fl : Nat → List (Option Nat) := fun c => if c = 10 then [some 1, some 2, some 3, some 4, some 5, some 6, none, some 7, some 8, some 9, some 10, some 11, some 12, none, some 13, some 14, none, none, some 15, some 16, some 17, none, none, none, none, none, some 18, some 19, some 20, none, none, none] else []
abbrev zm_sy : sm_Sy := (zm_sh, zm_fl, 21)
theorem zm_ok : ∀ p, (zm_sy.1 p).1 ≠ 9 → p < zm_sy.2.2 := by
  intro p h
  rcases Nat.lt_or_ge p 21 with q | q
  · exact q
  · obtain ⟨k, rfl⟩ := Nat.exists_eq_add_of_le q
    exact absurd (show (zm_sh (21 + k)).1 = 9 by simp [zm_sh, Nat.add_comm]) h
def ym_in : MethodName := ⟨"LentShadesModel", "in", "(JJJ)Z"⟩
def ym_bad : MethodName := ⟨"LentShadesModel", "bad", "(I)I"⟩
def ym_no : MethodName := ⟨"LentShadesModel", "no", "()I"⟩
def ym_full : MethodName := ⟨"LentShadesModel", "full", "()I"⟩
def ym_set : MethodName := ⟨"LentShadesModel", "set", "(IJ)V"⟩
def ym_copy : MethodName := ⟨"LentShadesModel", "copy", "(II)V"⟩
def ym_trim : MethodName := ⟨"LentShadesModel", "trim", "(I)V"⟩
def ym_times : MethodName := ⟨"LentShadesModel", "times", "(IJ)V"⟩
def ym_compare : MethodName := ⟨"LentShadesModel", "compare", "(II)I"⟩
def ym_add : MethodName := ⟨"LentShadesModel", "add", "(II)V"⟩
def ym_take : MethodName := ⟨"LentShadesModel", "take", "(II)V"⟩
def ym_halve : MethodName := ⟨"LentShadesModel", "halve", "(I)V"⟩
theorem zb_m10 : (Int8.ofInt (-10)).toInt32 = ((-10) : Int32) := by decide
theorem zb_m5 : (Int8.ofInt (-5)).toInt32 = ((-5) : Int32) := by decide
theorem zb_m4 : (Int8.ofInt (-4)).toInt32 = ((-4) : Int32) := by decide
theorem zb_m3 : (Int8.ofInt (-3)).toInt32 = ((-3) : Int32) := by decide
theorem zb_m2 : (Int8.ofInt (-2)).toInt32 = ((-2) : Int32) := by decide
theorem zb_6 : (Int8.ofInt 6).toInt32 = (6 : Int32) := by decide
theorem zb_7 : (Int8.ofInt 7).toInt32 = (7 : Int32) := by decide
theorem zb_8 : (Int8.ofInt 8).toInt32 = (8 : Int32) := by decide
theorem zb_9 : (Int8.ofInt 9).toInt32 = (9 : Int32) := by decide
theorem zb_10 : (Int8.ofInt 10).toInt32 = (10 : Int32) := by decide
theorem zb_12 : (Int8.ofInt 12).toInt32 = (12 : Int32) := by decide
theorem zb_14 : (Int8.ofInt 14).toInt32 = (14 : Int32) := by decide
theorem zb_16 : (Int8.ofInt 16).toInt32 = (16 : Int32) := by decide
theorem zb_18 : (Int8.ofInt 18).toInt32 = (18 : Int32) := by decide
theorem zb_19 : (Int8.ofInt 19).toInt32 = (19 : Int32) := by decide
theorem zb_23 : (Int8.ofInt 23).toInt32 = (23 : Int32) := by decide
theorem zb_24 : (Int8.ofInt 24).toInt32 = (24 : Int32) := by decide
theorem zb_27 : (Int8.ofInt 27).toInt32 = (27 : Int32) := by decide
theorem zb_29 : (Int8.ofInt 29).toInt32 = (29 : Int32) := by decide
theorem zb_32 : (Int8.ofInt 32).toInt32 = (32 : Int32) := by decide
theorem zb_35 : (Int8.ofInt 35).toInt32 = (35 : Int32) := by decide
theorem zb_48 : (Int8.ofInt 48).toInt32 = (48 : Int32) := by decide
theorem zb_52 : (Int8.ofInt 52).toInt32 = (52 : Int32) := by decide
theorem zb_54 : (Int8.ofInt 54).toInt32 = (54 : Int32) := by decide
theorem zb_59 : (Int8.ofInt 59).toInt32 = (59 : Int32) := by decide
theorem zb_64 : (Int8.ofInt 64).toInt32 = (64 : Int32) := by decide
theorem zb_76 : (Int8.ofInt 76).toInt32 = (76 : Int32) := by decide
theorem zb_77 : (Int8.ofInt 77).toInt32 = (77 : Int32) := by decide
theorem zb_78 : (Int8.ofInt 78).toInt32 = (78 : Int32) := by decide
theorem zb_79 : (Int8.ofInt 79).toInt32 = (79 : Int32) := by decide
theorem zb_80 : (Int8.ofInt 80).toInt32 = (80 : Int32) := by decide
theorem zb_81 : (Int8.ofInt 81).toInt32 = (81 : Int32) := by decide
theorem zb_99 : (Int8.ofInt 99).toInt32 = (99 : Int32) := by decide
theorem zb_100 : (Int8.ofInt 100).toInt32 = (100 : Int32) := by decide
theorem zb_103 : (Int8.ofInt 103).toInt32 = (103 : Int32) := by decide
theorem zb_104 : (Int8.ofInt 104).toInt32 = (104 : Int32) := by decide
theorem zb_105 : (Int8.ofInt 105).toInt32 = (105 : Int32) := by decide
theorem zb_108 : (Int8.ofInt 108).toInt32 = (108 : Int32) := by decide
theorem zb_110 : (Int8.ofInt 110).toInt32 = (110 : Int32) := by decide
theorem zb_111 : (Int8.ofInt 111).toInt32 = (111 : Int32) := by decide
theorem zb_116 : (Int8.ofInt 116).toInt32 = (116 : Int32) := by decide
theorem zb_117 : (Int8.ofInt 117).toInt32 = (117 : Int32) := by decide
theorem zk_m1 : Int32.ofInt (-1) = ((-1) : Int32) := by decide
theorem zk_0 : Int32.ofInt 0 = (0 : Int32) := by decide
theorem zk_1 : Int32.ofInt 1 = (1 : Int32) := by decide
theorem zk_2 : Int32.ofInt 2 = (2 : Int32) := by decide
theorem zk_3 : Int32.ofInt 3 = (3 : Int32) := by decide
theorem zk_4 : Int32.ofInt 4 = (4 : Int32) := by decide
theorem zk_5 : Int32.ofInt 5 = (5 : Int32) := by decide
theorem zl_0 : Int64.ofNat ((0 : Fin 2) : Nat) = (0 : Int64) := by decide
theorem zl_1 : Int64.ofNat ((1 : Fin 2) : Nat) = (1 : Int64) := by decide
theorem zs_200 : (Int16.ofInt 200).toInt32 = (200 : Int32) := by decide
theorem zs_256 : (Int16.ofInt 256).toInt32 = (256 : Int32) := by decide
theorem zs_320 : (Int16.ofInt 320).toInt32 = (320 : Int32) := by decide
theorem zs_384 : (Int16.ofInt 384).toInt32 = (384 : Int32) := by decide
theorem zs_1000 : (Int16.ofInt 1000).toInt32 = (1000 : Int32) := by decide
theorem wd_1006 : (Jvm.Cond.fieldLink "LentShadesModel" (20 : Nat) "LentShadesModel" "refused" "[I") ∈ sm_GW := sm_w 1006 (by decide +kernel) (by decide +kernel)
theorem wd_1008 : (Jvm.Cond.fieldLink "LentShadesModel" (27 : Nat) "LentShadesModel" "sizes" "[I") ∈ sm_GW := sm_w 1008 (by decide +kernel) (by decide +kernel)
theorem wd_1007 : (Jvm.Cond.fieldLink "LentShadesModel" (23 : Nat) "LentShadesModel" "limbs" "[J") ∈ sm_GW := sm_w 1007 (by decide +kernel) (by decide +kernel)
theorem wd_1002 : (Jvm.Cond.constantLong "LentShadesModel" (76 : Nat) (1073741824 : Int64)) ∈ sm_GW := sm_w 1002 (by decide +kernel) (by decide +kernel)
theorem wd_1134 : (Jvm.Cond.methodLink "LentShadesModel" (78 : Nat) ({ cls := "LentShadesModel", name := "trim", desc := "(I)V" } : Jvm.MethodName)) ∈ sm_GW := sm_w 1134 (by decide +kernel) (by decide +kernel)
theorem wd_1244 : (Jvm.Cond.constantLong "LentShadesModel" (82 : Nat) (2 : Int64)) ∈ sm_GW := sm_w 1244 (by decide +kernel) (by decide +kernel)
theorem wd_1126 : (Jvm.Cond.methodLink "LentShadesModel" (84 : Nat) ({ cls := "LentShadesModel", name := "copy", desc := "(II)V" } : Jvm.MethodName)) ∈ sm_GW := sm_w 1126 (by decide +kernel) (by decide +kernel)
theorem wd_1240 : (Jvm.Cond.methodLink "LentShadesModel" (88 : Nat) ({ cls := "LentShadesModel", name := "isEven", desc := "(I)Z" } : Jvm.MethodName)) ∈ sm_GW := sm_w 1240 (by decide +kernel) (by decide +kernel)
theorem wd_1245 : (Jvm.Cond.methodLink "LentShadesModel" (92 : Nat) ({ cls := "LentShadesModel", name := "halve", desc := "(I)V" } : Jvm.MethodName)) ∈ sm_GW := sm_w 1245 (by decide +kernel) (by decide +kernel)
theorem wd_1224 : (Jvm.Cond.methodLink "LentShadesModel" (95 : Nat) ({ cls := "LentShadesModel", name := "compare", desc := "(II)I" } : Jvm.MethodName)) ∈ sm_GW := sm_w 1224 (by decide +kernel) (by decide +kernel)
theorem wd_1249 : (Jvm.Cond.methodLink "LentShadesModel" (99 : Nat) ({ cls := "LentShadesModel", name := "take", desc := "(II)V" } : Jvm.MethodName)) ∈ sm_GW := sm_w 1249 (by decide +kernel) (by decide +kernel)
theorem wd_1130 : (Jvm.Cond.methodLink "LentShadesModel" (102 : Nat) ({ cls := "LentShadesModel", name := "times", desc := "(IJ)V" } : Jvm.MethodName)) ∈ sm_GW := sm_w 1130 (by decide +kernel) (by decide +kernel)
theorem wd_998 : (Jvm.Cond.methodLink "LentShadesModel" (72 : Nat) ({ cls := "LentShadesModel", name := "set", desc := "(IJ)V" } : Jvm.MethodName)) ∈ sm_GW := sm_w 998 (by decide +kernel) (by decide +kernel)
theorem wd_1257 : (Jvm.Cond.methodLink "LentShadesModel" (105 : Nat) ({ cls := "LentShadesModel", name := "addOne", desc := "()V" } : Jvm.MethodName)) ∈ sm_GW := sm_w 1257 (by decide +kernel) (by decide +kernel)
theorem wd_1236 : (Jvm.Cond.methodLink "LentShadesModel" (112 : Nat) ({ cls := "LentShadesModel", name := "findDivisor", desc := "(II)V" } : Jvm.MethodName)) ∈ sm_GW := sm_w 1236 (by decide +kernel) (by decide +kernel)
theorem wd_1253 : (Jvm.Cond.methodLink "LentShadesModel" (115 : Nat) ({ cls := "LentShadesModel", name := "divide", desc := "(I)V" } : Jvm.MethodName)) ∈ sm_GW := sm_w 1253 (by decide +kernel) (by decide +kernel)
theorem wd_1009 : (Jvm.Cond.fieldLink "LentShadesModel" (108 : Nat) "LentShadesModel" "sign" "I") ∈ sm_GW := sm_w 1009 (by decide +kernel) (by decide +kernel)
theorem wd_1003 : (Jvm.Cond.fieldLink "LentShadesModel" (7 : Nat) "LentShadesModel" "now" "[I") ∈ sm_GW := sm_w 1003 (by decide +kernel) (by decide +kernel)
theorem wd_1114 : (Jvm.Cond.methodLink "LentShadesModel" (122 : Nat) ({ cls := "LentShadesModel", name := "cloths", desc := "()I" } : Jvm.MethodName)) ∈ sm_GW := sm_w 1114 (by decide +kernel) (by decide +kernel)
theorem wd_1105 : (Jvm.Cond.methodLink "LentShadesModel" (126 : Nat) ({ cls := "LentShadesModel", name := "in", desc := "(JJJ)Z" } : Jvm.MethodName)) ∈ sm_GW := sm_w 1105 (by decide +kernel) (by decide +kernel)
theorem wd_1142 : (Jvm.Cond.methodLink "LentShadesModel" (130 : Nat) ({ cls := "LentShadesModel", name := "things", desc := "()I" } : Jvm.MethodName)) ∈ sm_GW := sm_w 1142 (by decide +kernel) (by decide +kernel)
theorem wd_1154 : (Jvm.Cond.methodLink "LentShadesModel" (133 : Nat) ({ cls := "LentShadesModel", name := "isCloth", desc := "(I)Z" } : Jvm.MethodName)) ∈ sm_GW := sm_w 1154 (by decide +kernel) (by decide +kernel)
theorem wd_1104 : (Jvm.Cond.constantLong "LentShadesModel" (136 : Nat) (4 : Int64)) ∈ sm_GW := sm_w 1104 (by decide +kernel) (by decide +kernel)
theorem wd_1108 : (Jvm.Cond.constantLong "LentShadesModel" (138 : Nat) (3 : Int64)) ∈ sm_GW := sm_w 1108 (by decide +kernel) (by decide +kernel)
theorem wd_1109 : (Jvm.Cond.constantLong "LentShadesModel" (140 : Nat) (12 : Int64)) ∈ sm_GW := sm_w 1109 (by decide +kernel) (by decide +kernel)
theorem wd_1122 : (Jvm.Cond.methodLink "LentShadesModel" (149 : Nat) ({ cls := "LentShadesModel", name := "layCloth", desc := "(III)V" } : Jvm.MethodName)) ∈ sm_GW := sm_w 1122 (by decide +kernel) (by decide +kernel)
theorem wd_1118 : (Jvm.Cond.methodLink "LentShadesModel" (146 : Nat) ({ cls := "LentShadesModel", name := "full", desc := "()I" } : Jvm.MethodName)) ∈ sm_GW := sm_w 1118 (by decide +kernel) (by decide +kernel)
theorem wd_1110 : (Jvm.Cond.methodLink "LentShadesModel" (142 : Nat) ({ cls := "LentShadesModel", name := "bad", desc := "(I)I" } : Jvm.MethodName)) ∈ sm_GW := sm_w 1110 (by decide +kernel) (by decide +kernel)
theorem wd_1150 : (Jvm.Cond.methodLink "LentShadesModel" (153 : Nat) ({ cls := "LentShadesModel", name := "isNumber", desc := "(I)Z" } : Jvm.MethodName)) ∈ sm_GW := sm_w 1150 (by decide +kernel) (by decide +kernel)
theorem wd_1158 : (Jvm.Cond.methodLink "LentShadesModel" (156 : Nat) ({ cls := "LentShadesModel", name := "putHours", desc := "([IIIII)V" } : Jvm.MethodName)) ∈ sm_GW := sm_w 1158 (by decide +kernel) (by decide +kernel)
theorem wd_1165 : (Jvm.Cond.methodLink "LentShadesModel" (160 : Nat) ({ cls := "LentShadesModel", name := "isThing", desc := "(I)Z" } : Jvm.MethodName)) ∈ sm_GW := sm_w 1165 (by decide +kernel) (by decide +kernel)
theorem wd_1010 : (Jvm.Cond.fieldLink "LentShadesModel" (30 : Nat) "LentShadesModel" "table" "[I") ∈ sm_GW := sm_w 1010 (by decide +kernel) (by decide +kernel)
theorem wd_1011 : (Jvm.Cond.fieldLink "LentShadesModel" (33 : Nat) "LentShadesModel" "colours" "[I") ∈ sm_GW := sm_w 1011 (by decide +kernel) (by decide +kernel)
theorem wd_1189 : (Jvm.Cond.methodLink "LentShadesModel" (163 : Nat) ({ cls := "LentShadesModel", name := "kindOf", desc := "(I)I" } : Jvm.MethodName)) ∈ sm_GW := sm_w 1189 (by decide +kernel) (by decide +kernel)
theorem wd_1201 : (Jvm.Cond.methodLink "LentShadesModel" (166 : Nat) ({ cls := "LentShadesModel", name := "gives", desc := "(I)Z" } : Jvm.MethodName)) ∈ sm_GW := sm_w 1201 (by decide +kernel) (by decide +kernel)
theorem wd_1197 : (Jvm.Cond.methodLink "LentShadesModel" (169 : Nat) ({ cls := "LentShadesModel", name := "takes", desc := "(II)I" } : Jvm.MethodName)) ∈ sm_GW := sm_w 1197 (by decide +kernel) (by decide +kernel)
theorem wd_1193 : (Jvm.Cond.methodLink "LentShadesModel" (172 : Nat) ({ cls := "LentShadesModel", name := "takesAll", desc := "(I)I" } : Jvm.MethodName)) ∈ sm_GW := sm_w 1193 (by decide +kernel) (by decide +kernel)
theorem wd_1212 : (Jvm.Cond.methodLink "LentShadesModel" (175 : Nat) ({ cls := "LentShadesModel", name := "lay", desc := "(II)V" } : Jvm.MethodName)) ∈ sm_GW := sm_w 1212 (by decide +kernel) (by decide +kernel)
theorem wd_1216 : (Jvm.Cond.methodLink "LentShadesModel" (178 : Nat) ({ cls := "LentShadesModel", name := "add", desc := "(II)V" } : Jvm.MethodName)) ∈ sm_GW := sm_w 1216 (by decide +kernel) (by decide +kernel)
theorem wd_1185 : (Jvm.Cond.methodLink "LentShadesModel" (181 : Nat) ({ cls := "LentShadesModel", name := "isMean", desc := "(I)Z" } : Jvm.MethodName)) ∈ sm_GW := sm_w 1185 (by decide +kernel) (by decide +kernel)
theorem wd_1205 : (Jvm.Cond.methodLink "LentShadesModel" (184 : Nat) ({ cls := "LentShadesModel", name := "divisor", desc := "(II)I" } : Jvm.MethodName)) ∈ sm_GW := sm_w 1205 (by decide +kernel) (by decide +kernel)
theorem wd_1220 : (Jvm.Cond.methodLink "LentShadesModel" (190 : Nat) ({ cls := "LentShadesModel", name := "layGreatest", desc := "(II)V" } : Jvm.MethodName)) ∈ sm_GW := sm_w 1220 (by decide +kernel) (by decide +kernel)
theorem wd_1208 : (Jvm.Cond.methodLink "LentShadesModel" (187 : Nat) ({ cls := "LentShadesModel", name := "layMean", desc := "(II)V" } : Jvm.MethodName)) ∈ sm_GW := sm_w 1208 (by decide +kernel) (by decide +kernel)
theorem wd_1181 : (Jvm.Cond.methodLink "LentShadesModel" (193 : Nat) ({ cls := "LentShadesModel", name := "night", desc := "()V" } : Jvm.MethodName)) ∈ sm_GW := sm_w 1181 (by decide +kernel) (by decide +kernel)
theorem wd_1232 : (Jvm.Cond.methodLink "LentShadesModel" (118 : Nat) ({ cls := "LentShadesModel", name := "tell", desc := "(IIZ)V" } : Jvm.MethodName)) ∈ sm_GW := sm_w 1232 (by decide +kernel) (by decide +kernel)
theorem wd_1173 : (Jvm.Cond.methodLink "LentShadesModel" (196 : Nat) ({ cls := "LentShadesModel", name := "takeNow", desc := "()V" } : Jvm.MethodName)) ∈ sm_GW := sm_w 1173 (by decide +kernel) (by decide +kernel)
theorem wd_1177 : (Jvm.Cond.methodLink "LentShadesModel" (199 : Nat) ({ cls := "LentShadesModel", name := "nights", desc := "(I)V" } : Jvm.MethodName)) ∈ sm_GW := sm_w 1177 (by decide +kernel) (by decide +kernel)
theorem wd_1228 : (Jvm.Cond.methodLink "LentShadesModel" (202 : Nat) ({ cls := "LentShadesModel", name := "tellOver", desc := "(IJ)I" } : Jvm.MethodName)) ∈ sm_GW := sm_w 1228 (by decide +kernel) (by decide +kernel)
theorem wd_1265 : (Jvm.Cond.methodLink "LentShadesModel" (206 : Nat) ({ cls := "LentShadesModel", name := "no", desc := "()I" } : Jvm.MethodName)) ∈ sm_GW := sm_w 1265 (by decide +kernel) (by decide +kernel)
theorem wd_1269 : (Jvm.Cond.methodLink "LentShadesModel" (209 : Nat) ({ cls := "LentShadesModel", name := "copyState", desc := "(II)V" } : Jvm.MethodName)) ∈ sm_GW := sm_w 1269 (by decide +kernel) (by decide +kernel)
theorem wd_1281 : (Jvm.Cond.methodLink "LentShadesModel" (212 : Nat) ({ cls := "LentShadesModel", name := "hasLeast", desc := "(II)Z" } : Jvm.MethodName)) ∈ sm_GW := sm_w 1281 (by decide +kernel) (by decide +kernel)
theorem wd_1012 : (Jvm.Cond.fieldLink "LentShadesModel" (36 : Nat) "LentShadesModel" "rows" "[J") ∈ sm_GW := sm_w 1012 (by decide +kernel) (by decide +kernel)
theorem wd_1013 : (Jvm.Cond.fieldLink "LentShadesModel" (39 : Nat) "LentShadesModel" "leftRows" "[I") ∈ sm_GW := sm_w 1013 (by decide +kernel) (by decide +kernel)
theorem wd_1014 : (Jvm.Cond.fieldLink "LentShadesModel" (42 : Nat) "LentShadesModel" "leftColumns" "[I") ∈ sm_GW := sm_w 1014 (by decide +kernel) (by decide +kernel)
theorem wd_1015 : (Jvm.Cond.fieldLink "LentShadesModel" (45 : Nat) "LentShadesModel" "picked" "[I") ∈ sm_GW := sm_w 1015 (by decide +kernel) (by decide +kernel)
theorem wd_1301 : (Jvm.Cond.methodLink "LentShadesModel" (216 : Nat) ({ cls := "LentShadesModel", name := "productBy", desc := "(II)J" } : Jvm.MethodName)) ∈ sm_GW := sm_w 1301 (by decide +kernel) (by decide +kernel)
theorem wd_1289 : (Jvm.Cond.methodLink "LentShadesModel" (220 : Nat) ({ cls := "LentShadesModel", name := "isAnyVain", desc := "()Z" } : Jvm.MethodName)) ∈ sm_GW := sm_w 1289 (by decide +kernel) (by decide +kernel)
theorem wd_1293 : (Jvm.Cond.methodLink "LentShadesModel" (224 : Nat) ({ cls := "LentShadesModel", name := "layRows", desc := "()V" } : Jvm.MethodName)) ∈ sm_GW := sm_w 1293 (by decide +kernel) (by decide +kernel)
theorem wd_1297 : (Jvm.Cond.methodLink "LentShadesModel" (227 : Nat) ({ cls := "LentShadesModel", name := "whole", desc := "(II)J" } : Jvm.MethodName)) ∈ sm_GW := sm_w 1297 (by decide +kernel) (by decide +kernel)
theorem wd_1305 : (Jvm.Cond.methodLink "LentShadesModel" (230 : Nat) ({ cls := "LentShadesModel", name := "layFixed", desc := "(I)V" } : Jvm.MethodName)) ∈ sm_GW := sm_w 1305 (by decide +kernel) (by decide +kernel)
theorem wd_1016 : (Jvm.Cond.fieldLink "LentShadesModel" (233 : Nat) "LentShadesModel" "pairs" "I") ∈ sm_GW := sm_w 1016 (by decide +kernel) (by decide +kernel)
theorem wd_1017 : (Jvm.Cond.fieldLink "LentShadesModel" (48 : Nat) "LentShadesModel" "lesser" "[I") ∈ sm_GW := sm_w 1017 (by decide +kernel) (by decide +kernel)
theorem wd_1018 : (Jvm.Cond.fieldLink "LentShadesModel" (51 : Nat) "LentShadesModel" "other" "[I") ∈ sm_GW := sm_w 1018 (by decide +kernel) (by decide +kernel)
theorem wd_1321 : (Jvm.Cond.methodLink "LentShadesModel" (236 : Nat) ({ cls := "LentShadesModel", name := "hasMost", desc := "(II)Z" } : Jvm.MethodName)) ∈ sm_GW := sm_w 1321 (by decide +kernel) (by decide +kernel)
theorem wd_1019 : (Jvm.Cond.fieldLink "LentShadesModel" (239 : Nat) "LentShadesModel" "firstMove" "I") ∈ sm_GW := sm_w 1019 (by decide +kernel) (by decide +kernel)
theorem wd_1020 : (Jvm.Cond.fieldLink "LentShadesModel" (242 : Nat) "LentShadesModel" "secondMove" "I") ∈ sm_GW := sm_w 1020 (by decide +kernel) (by decide +kernel)
theorem wd_1317 : (Jvm.Cond.methodLink "LentShadesModel" (245 : Nat) ({ cls := "LentShadesModel", name := "comesSo", desc := "(IIIIII)Z" } : Jvm.MethodName)) ∈ sm_GW := sm_w 1317 (by decide +kernel) (by decide +kernel)
theorem wd_1325 : (Jvm.Cond.methodLink "LentShadesModel" (249 : Nat) ({ cls := "LentShadesModel", name := "findPairs", desc := "()V" } : Jvm.MethodName)) ∈ sm_GW := sm_w 1325 (by decide +kernel) (by decide +kernel)
theorem wd_1313 : (Jvm.Cond.methodLink "LentShadesModel" (252 : Nat) ({ cls := "LentShadesModel", name := "findMoves", desc := "(IIII)I" } : Jvm.MethodName)) ∈ sm_GW := sm_w 1313 (by decide +kernel) (by decide +kernel)
theorem wd_1329 : (Jvm.Cond.methodLink "LentShadesModel" (256 : Nat) ({ cls := "LentShadesModel", name := "tellMove", desc := "(I)I" } : Jvm.MethodName)) ∈ sm_GW := sm_w 1329 (by decide +kernel) (by decide +kernel)
theorem wd_1021 : (Jvm.Cond.fieldLink "LentShadesModel" (54 : Nat) "LentShadesModel" "order" "[I") ∈ sm_GW := sm_w 1021 (by decide +kernel) (by decide +kernel)
theorem wd_1022 : (Jvm.Cond.fieldLink "LentShadesModel" (57 : Nat) "LentShadesModel" "firstOrder" "[I") ∈ sm_GW := sm_w 1022 (by decide +kernel) (by decide +kernel)
theorem wd_1341 : (Jvm.Cond.methodLink "LentShadesModel" (259 : Nat) ({ cls := "LentShadesModel", name := "layOrder", desc := "(I)Z" } : Jvm.MethodName)) ∈ sm_GW := sm_w 1341 (by decide +kernel) (by decide +kernel)
theorem wd_1345 : (Jvm.Cond.methodLink "LentShadesModel" (262 : Nat) ({ cls := "LentShadesModel", name := "comesOutWell", desc := "()Z" } : Jvm.MethodName)) ∈ sm_GW := sm_w 1345 (by decide +kernel) (by decide +kernel)
theorem wd_1353 : (Jvm.Cond.constantLong "LentShadesModel" (265 : Nat) (99 : Int64)) ∈ sm_GW := sm_w 1353 (by decide +kernel) (by decide +kernel)
theorem wd_1354 : (Jvm.Cond.methodLink "LentShadesModel" (267 : Nat) ({ cls := "LentShadesModel", name := "mayTouch", desc := "(I)Z" } : Jvm.MethodName)) ∈ sm_GW := sm_w 1354 (by decide +kernel) (by decide +kernel)
theorem wd_1358 : (Jvm.Cond.methodLink "LentShadesModel" (270 : Nat) ({ cls := "LentShadesModel", name := "isMeanOf", desc := "(III)Z" } : Jvm.MethodName)) ∈ sm_GW := sm_w 1358 (by decide +kernel) (by decide +kernel)
theorem wd_1382 : (Jvm.Cond.methodLink "LentShadesModel" (274 : Nat) ({ cls := "LentShadesModel", name := "borrows", desc := "(II)I" } : Jvm.MethodName)) ∈ sm_GW := sm_w 1382 (by decide +kernel) (by decide +kernel)
theorem wd_1378 : (Jvm.Cond.methodLink "LentShadesModel" (277 : Nat) ({ cls := "LentShadesModel", name := "findServed", desc := "()I" } : Jvm.MethodName)) ∈ sm_GW := sm_w 1378 (by decide +kernel) (by decide +kernel)
theorem wd_1386 : (Jvm.Cond.methodLink "LentShadesModel" (280 : Nat) ({ cls := "LentShadesModel", name := "manyIn", desc := "(I)I" } : Jvm.MethodName)) ∈ sm_GW := sm_w 1386 (by decide +kernel) (by decide +kernel)
theorem wd_1389 : (Jvm.Cond.methodLink "LentShadesModel" (283 : Nat) ({ cls := "LentShadesModel", name := "meet", desc := "(II)Z" } : Jvm.MethodName)) ∈ sm_GW := sm_w 1389 (by decide +kernel) (by decide +kernel)
theorem wd_1405 : (Jvm.Cond.constantLong "LentShadesModel" (286 : Nat) (8 : Int64)) ∈ sm_GW := sm_w 1405 (by decide +kernel) (by decide +kernel)
theorem wd_1024 : (Jvm.Cond.fieldLink "LentShadesModel" (288 : Nat) "LentShadesModel" "bytesLong" "I") ∈ sm_GW := sm_w 1024 (by decide +kernel) (by decide +kernel)
theorem wd_1023 : (Jvm.Cond.fieldLink "LentShadesModel" (60 : Nat) "LentShadesModel" "bytes" "[I") ∈ sm_GW := sm_w 1023 (by decide +kernel) (by decide +kernel)
theorem wd_1406 : (Jvm.Cond.constantLong "LentShadesModel" (291 : Nat) (255 : Int64)) ∈ sm_GW := sm_w 1406 (by decide +kernel) (by decide +kernel)
theorem wd_1422 : (Jvm.Cond.constantLong "LentShadesModel" (293 : Nat) (97 : Int64)) ∈ sm_GW := sm_w 1422 (by decide +kernel) (by decide +kernel)
theorem wd_1423 : (Jvm.Cond.constantLong "LentShadesModel" (295 : Nat) (122 : Int64)) ∈ sm_GW := sm_w 1423 (by decide +kernel) (by decide +kernel)
theorem wd_1427 : (Jvm.Cond.constantLong "LentShadesModel" (297 : Nat) (48 : Int64)) ∈ sm_GW := sm_w 1427 (by decide +kernel) (by decide +kernel)
theorem wd_1428 : (Jvm.Cond.constantLong "LentShadesModel" (299 : Nat) (57 : Int64)) ∈ sm_GW := sm_w 1428 (by decide +kernel) (by decide +kernel)
theorem wd_1025 : (Jvm.Cond.fieldLink "LentShadesModel" (301 : Nat) "LentShadesModel" "tokenAt" "I") ∈ sm_GW := sm_w 1025 (by decide +kernel) (by decide +kernel)
theorem wd_1026 : (Jvm.Cond.fieldLink "LentShadesModel" (304 : Nat) "LentShadesModel" "tokenLong" "I") ∈ sm_GW := sm_w 1026 (by decide +kernel) (by decide +kernel)
theorem wd_1027 : (Jvm.Cond.fieldLink "LentShadesModel" (307 : Nat) "LentShadesModel" "token" "I") ∈ sm_GW := sm_w 1027 (by decide +kernel) (by decide +kernel)
theorem wd_1028 : (Jvm.Cond.fieldLink "LentShadesModel" (310 : Nat) "LentShadesModel" "value" "I") ∈ sm_GW := sm_w 1028 (by decide +kernel) (by decide +kernel)
theorem wd_1419 : (Jvm.Cond.methodLink "LentShadesModel" (313 : Nat) ({ cls := "LentShadesModel", name := "isSmall", desc := "(I)Z" } : Jvm.MethodName)) ∈ sm_GW := sm_w 1419 (by decide +kernel) (by decide +kernel)
theorem wd_1424 : (Jvm.Cond.methodLink "LentShadesModel" (316 : Nat) ({ cls := "LentShadesModel", name := "isFigure", desc := "(I)Z" } : Jvm.MethodName)) ∈ sm_GW := sm_w 1424 (by decide +kernel) (by decide +kernel)
theorem wd_1415 : (Jvm.Cond.methodLink "LentShadesModel" (319 : Nat) ({ cls := "LentShadesModel", name := "look", desc := "(I)V" } : Jvm.MethodName)) ∈ sm_GW := sm_w 1415 (by decide +kernel) (by decide +kernel)
theorem wd_1034 : (Jvm.Cond.fieldLink "LentShadesModel" (322 : Nat) "LentShadesModel" "taken" "I") ∈ sm_GW := sm_w 1034 (by decide +kernel) (by decide +kernel)
theorem wd_1441 : (Jvm.Cond.methodLink "LentShadesModel" (325 : Nat) ({ cls := "LentShadesModel", name := "goOn", desc := "()V" } : Jvm.MethodName)) ∈ sm_GW := sm_w 1441 (by decide +kernel) (by decide +kernel)
theorem wd_1032 : (Jvm.Cond.fieldLink "LentShadesModel" (328 : Nat) "LentShadesModel" "readCloths" "I") ∈ sm_GW := sm_w 1032 (by decide +kernel) (by decide +kernel)
theorem wd_1033 : (Jvm.Cond.fieldLink "LentShadesModel" (331 : Nat) "LentShadesModel" "readThings" "I") ∈ sm_GW := sm_w 1033 (by decide +kernel) (by decide +kernel)
theorem wd_1445 : (Jvm.Cond.methodLink "LentShadesModel" (334 : Nat) ({ cls := "LentShadesModel", name := "takesOne", desc := "(II)Z" } : Jvm.MethodName)) ∈ sm_GW := sm_w 1445 (by decide +kernel) (by decide +kernel)
theorem wd_1029 : (Jvm.Cond.fieldLink "LentShadesModel" (63 : Nat) "LentShadesModel" "readCloth" "[I") ∈ sm_GW := sm_w 1029 (by decide +kernel) (by decide +kernel)
theorem wd_1031 : (Jvm.Cond.fieldLink "LentShadesModel" (69 : Nat) "LentShadesModel" "readColour" "[I") ∈ sm_GW := sm_w 1031 (by decide +kernel) (by decide +kernel)
theorem wd_1457 : (Jvm.Cond.methodLink "LentShadesModel" (337 : Nat) ({ cls := "LentShadesModel", name := "isReadNumber", desc := "(I)Z" } : Jvm.MethodName)) ∈ sm_GW := sm_w 1457 (by decide +kernel) (by decide +kernel)
theorem wd_1030 : (Jvm.Cond.fieldLink "LentShadesModel" (66 : Nat) "LentShadesModel" "readHours" "[I") ∈ sm_GW := sm_w 1030 (by decide +kernel) (by decide +kernel)
theorem wd_1433 : (Jvm.Cond.methodLink "LentShadesModel" (340 : Nat) ({ cls := "LentShadesModel", name := "isWord", desc := "(IIIII)Z" } : Jvm.MethodName)) ∈ sm_GW := sm_w 1433 (by decide +kernel) (by decide +kernel)
theorem wd_1453 : (Jvm.Cond.methodLink "LentShadesModel" (350 : Nat) ({ cls := "LentShadesModel", name := "readsTouch", desc := "()Z" } : Jvm.MethodName)) ∈ sm_GW := sm_w 1453 (by decide +kernel) (by decide +kernel)
theorem wd_1449 : (Jvm.Cond.methodLink "LentShadesModel" (347 : Nat) ({ cls := "LentShadesModel", name := "readsThing", desc := "()Z" } : Jvm.MethodName)) ∈ sm_GW := sm_w 1449 (by decide +kernel) (by decide +kernel)
theorem wd_1437 : (Jvm.Cond.methodLink "LentShadesModel" (344 : Nat) ({ cls := "LentShadesModel", name := "readsCloth", desc := "()Z" } : Jvm.MethodName)) ∈ sm_GW := sm_w 1437 (by decide +kernel) (by decide +kernel)
theorem wd_1461 : (Jvm.Cond.methodLink "LentShadesModel" (356 : Nat) ({ cls := "LentShadesModel", name := "putRead", desc := "()V" } : Jvm.MethodName)) ∈ sm_GW := sm_w 1461 (by decide +kernel) (by decide +kernel)
theorem wd_1429 : (Jvm.Cond.methodLink "LentShadesModel" (353 : Nat) ({ cls := "LentShadesModel", name := "readsItem", desc := "()Z" } : Jvm.MethodName)) ∈ sm_GW := sm_w 1429 (by decide +kernel) (by decide +kernel)
theorem wd_1477 : (Jvm.Cond.methodLink "LentShadesModel" (359 : Nat) ({ cls := "LentShadesModel", name := "copyAll", desc := "(IIII)V" } : Jvm.MethodName)) ∈ sm_GW := sm_w 1477 (by decide +kernel) (by decide +kernel)
theorem wd_1005 : (Jvm.Cond.fieldLink "LentShadesModel" (16 : Nat) "LentShadesModel" "isKept" "[Z") ∈ sm_GW := sm_w 1005 (by decide +kernel) (by decide +kernel)
theorem wd_1004 : (Jvm.Cond.fieldLink "LentShadesModel" (13 : Nat) "LentShadesModel" "kept" "[I") ∈ sm_GW := sm_w 1004 (by decide +kernel) (by decide +kernel)
theorem wd_1493 : (Jvm.Cond.constantLong "LentShadesModel" (363 : Nat) (5 : Int64)) ∈ sm_GW := sm_w 1493 (by decide +kernel) (by decide +kernel)
theorem wd_1494 : (Jvm.Cond.methodLink "LentShadesModel" (365 : Nat) ({ cls := "LentShadesModel", name := "counted", desc := "(I)I" } : Jvm.MethodName)) ∈ sm_GW := sm_w 1494 (by decide +kernel) (by decide +kernel)
theorem wd_1503 : (Jvm.Cond.constantLong "LentShadesModel" (368 : Nat) (31 : Int64)) ∈ sm_GW := sm_w 1503 (by decide +kernel) (by decide +kernel)
theorem wd_1502 : (Jvm.Cond.constantLong "LentShadesModel" (370 : Nat) (673 : Int64)) ∈ sm_GW := sm_w 1502 (by decide +kernel) (by decide +kernel)
theorem wd_1504 : (Jvm.Cond.methodLink "LentShadesModel" (372 : Nat) ({ cls := "LentShadesModel", name := "sums", desc := "(JII)J" } : Jvm.MethodName)) ∈ sm_GW := sm_w 1504 (by decide +kernel) (by decide +kernel)
theorem wd_1107 : (Jvm.Cond.code ({ cls := "LentShadesModel", name := "in", desc := "(JJJ)Z" } : Jvm.MethodName) prog_12_method_3_code (6 : Nat) (Option.some Jvm.ClassFile.FieldType.boolean)) ∈ sm_GW := sm_w 1107 (by decide +kernel) (by decide +kernel)
theorem wd_112 : (Jvm.Cond.initialized "LentShadesModel") ∈ sm_GW := sm_w 112 (by decide +kernel) (by decide +kernel)
theorem wd_1106 : (Jvm.Cond.static ({ cls := "LentShadesModel", name := "in", desc := "(JJJ)Z" } : Jvm.MethodName)) ∈ sm_GW := sm_w 1106 (by decide +kernel) (by decide +kernel)
theorem wd_1113 : (Jvm.Cond.code ({ cls := "LentShadesModel", name := "bad", desc := "(I)I" } : Jvm.MethodName) prog_12_method_4_code (2 : Nat) (Option.some Jvm.ClassFile.FieldType.int)) ∈ sm_GW := sm_w 1113 (by decide +kernel) (by decide +kernel)
theorem wd_1112 : (Jvm.Cond.instanceMethod ({ cls := "LentShadesModel", name := "bad", desc := "(I)I" } : Jvm.MethodName)) ∈ sm_GW := sm_w 1112 (by decide +kernel) (by decide +kernel)
theorem wd_36 : (Jvm.Cond.selects "LentShadesModel" ({ cls := "LentShadesModel", name := "bad", desc := "(I)I" } : Jvm.MethodName) ({ cls := "LentShadesModel", name := "bad", desc := "(I)I" } : Jvm.MethodName)) ∈ sm_GW := sm_w 36 (by decide +kernel) (by decide +kernel)
theorem wd_1268 : (Jvm.Cond.code ({ cls := "LentShadesModel", name := "no", desc := "()I" } : Jvm.MethodName) prog_12_method_5_code (1 : Nat) (Option.some Jvm.ClassFile.FieldType.int)) ∈ sm_GW := sm_w 1268 (by decide +kernel) (by decide +kernel)
theorem wd_1267 : (Jvm.Cond.instanceMethod ({ cls := "LentShadesModel", name := "no", desc := "()I" } : Jvm.MethodName)) ∈ sm_GW := sm_w 1267 (by decide +kernel) (by decide +kernel)
theorem wd_68 : (Jvm.Cond.selects "LentShadesModel" ({ cls := "LentShadesModel", name := "no", desc := "()I" } : Jvm.MethodName) ({ cls := "LentShadesModel", name := "no", desc := "()I" } : Jvm.MethodName)) ∈ sm_GW := sm_w 68 (by decide +kernel) (by decide +kernel)
theorem wd_1121 : (Jvm.Cond.code ({ cls := "LentShadesModel", name := "full", desc := "()I" } : Jvm.MethodName) prog_12_method_6_code (1 : Nat) (Option.some Jvm.ClassFile.FieldType.int)) ∈ sm_GW := sm_w 1121 (by decide +kernel) (by decide +kernel)
theorem wd_1120 : (Jvm.Cond.instanceMethod ({ cls := "LentShadesModel", name := "full", desc := "()I" } : Jvm.MethodName)) ∈ sm_GW := sm_w 1120 (by decide +kernel) (by decide +kernel)
theorem wd_38 : (Jvm.Cond.selects "LentShadesModel" ({ cls := "LentShadesModel", name := "full", desc := "()I" } : Jvm.MethodName) ({ cls := "LentShadesModel", name := "full", desc := "()I" } : Jvm.MethodName)) ∈ sm_GW := sm_w 38 (by decide +kernel) (by decide +kernel)
theorem wd_1001 : (Jvm.Cond.code ({ cls := "LentShadesModel", name := "set", desc := "(IJ)V" } : Jvm.MethodName) prog_12_method_7_code (6 : Nat) (Option.none : Option Jvm.ClassFile.FieldType)) ∈ sm_GW := sm_w 1001 (by decide +kernel) (by decide +kernel)
theorem wd_1000 : (Jvm.Cond.instanceMethod ({ cls := "LentShadesModel", name := "set", desc := "(IJ)V" } : Jvm.MethodName)) ∈ sm_GW := sm_w 1000 (by decide +kernel) (by decide +kernel)
theorem wd_35 : (Jvm.Cond.selects "LentShadesModel" ({ cls := "LentShadesModel", name := "set", desc := "(IJ)V" } : Jvm.MethodName) ({ cls := "LentShadesModel", name := "set", desc := "(IJ)V" } : Jvm.MethodName)) ∈ sm_GW := sm_w 35 (by decide +kernel) (by decide +kernel)
theorem wd_1129 : (Jvm.Cond.code ({ cls := "LentShadesModel", name := "copy", desc := "(II)V" } : Jvm.MethodName) prog_12_method_8_code (4 : Nat) (Option.none : Option Jvm.ClassFile.FieldType)) ∈ sm_GW := sm_w 1129 (by decide +kernel) (by decide +kernel)
theorem wd_1128 : (Jvm.Cond.instanceMethod ({ cls := "LentShadesModel", name := "copy", desc := "(II)V" } : Jvm.MethodName)) ∈ sm_GW := sm_w 1128 (by decide +kernel) (by decide +kernel)
theorem wd_40 : (Jvm.Cond.selects "LentShadesModel" ({ cls := "LentShadesModel", name := "copy", desc := "(II)V" } : Jvm.MethodName) ({ cls := "LentShadesModel", name := "copy", desc := "(II)V" } : Jvm.MethodName)) ∈ sm_GW := sm_w 40 (by decide +kernel) (by decide +kernel)
theorem wd_1137 : (Jvm.Cond.code ({ cls := "LentShadesModel", name := "trim", desc := "(I)V" } : Jvm.MethodName) prog_12_method_9_code (2 : Nat) (Option.none : Option Jvm.ClassFile.FieldType)) ∈ sm_GW := sm_w 1137 (by decide +kernel) (by decide +kernel)
theorem wd_1136 : (Jvm.Cond.instanceMethod ({ cls := "LentShadesModel", name := "trim", desc := "(I)V" } : Jvm.MethodName)) ∈ sm_GW := sm_w 1136 (by decide +kernel) (by decide +kernel)
theorem wd_42 : (Jvm.Cond.selects "LentShadesModel" ({ cls := "LentShadesModel", name := "trim", desc := "(I)V" } : Jvm.MethodName) ({ cls := "LentShadesModel", name := "trim", desc := "(I)V" } : Jvm.MethodName)) ∈ sm_GW := sm_w 42 (by decide +kernel) (by decide +kernel)
theorem wd_1133 : (Jvm.Cond.code ({ cls := "LentShadesModel", name := "times", desc := "(IJ)V" } : Jvm.MethodName) prog_12_method_10_code (9 : Nat) (Option.none : Option Jvm.ClassFile.FieldType)) ∈ sm_GW := sm_w 1133 (by decide +kernel) (by decide +kernel)
theorem wd_1132 : (Jvm.Cond.instanceMethod ({ cls := "LentShadesModel", name := "times", desc := "(IJ)V" } : Jvm.MethodName)) ∈ sm_GW := sm_w 1132 (by decide +kernel) (by decide +kernel)
theorem wd_41 : (Jvm.Cond.selects "LentShadesModel" ({ cls := "LentShadesModel", name := "times", desc := "(IJ)V" } : Jvm.MethodName) ({ cls := "LentShadesModel", name := "times", desc := "(IJ)V" } : Jvm.MethodName)) ∈ sm_GW := sm_w 41 (by decide +kernel) (by decide +kernel)
theorem wd_1227 : (Jvm.Cond.code ({ cls := "LentShadesModel", name := "compare", desc := "(II)I" } : Jvm.MethodName) prog_12_method_11_code (6 : Nat) (Option.some Jvm.ClassFile.FieldType.int)) ∈ sm_GW := sm_w 1227 (by decide +kernel) (by decide +kernel)
theorem wd_1226 : (Jvm.Cond.instanceMethod ({ cls := "LentShadesModel", name := "compare", desc := "(II)I" } : Jvm.MethodName)) ∈ sm_GW := sm_w 1226 (by decide +kernel) (by decide +kernel)
theorem wd_59 : (Jvm.Cond.selects "LentShadesModel" ({ cls := "LentShadesModel", name := "compare", desc := "(II)I" } : Jvm.MethodName) ({ cls := "LentShadesModel", name := "compare", desc := "(II)I" } : Jvm.MethodName)) ∈ sm_GW := sm_w 59 (by decide +kernel) (by decide +kernel)
theorem wd_1219 : (Jvm.Cond.code ({ cls := "LentShadesModel", name := "add", desc := "(II)V" } : Jvm.MethodName) prog_12_method_12_code (9 : Nat) (Option.none : Option Jvm.ClassFile.FieldType)) ∈ sm_GW := sm_w 1219 (by decide +kernel) (by decide +kernel)
theorem wd_1218 : (Jvm.Cond.instanceMethod ({ cls := "LentShadesModel", name := "add", desc := "(II)V" } : Jvm.MethodName)) ∈ sm_GW := sm_w 1218 (by decide +kernel) (by decide +kernel)
theorem wd_57 : (Jvm.Cond.selects "LentShadesModel" ({ cls := "LentShadesModel", name := "add", desc := "(II)V" } : Jvm.MethodName) ({ cls := "LentShadesModel", name := "add", desc := "(II)V" } : Jvm.MethodName)) ∈ sm_GW := sm_w 57 (by decide +kernel) (by decide +kernel)
theorem wd_1252 : (Jvm.Cond.code ({ cls := "LentShadesModel", name := "take", desc := "(II)V" } : Jvm.MethodName) prog_12_method_13_code (8 : Nat) (Option.none : Option Jvm.ClassFile.FieldType)) ∈ sm_GW := sm_w 1252 (by decide +kernel) (by decide +kernel)
theorem wd_1251 : (Jvm.Cond.instanceMethod ({ cls := "LentShadesModel", name := "take", desc := "(II)V" } : Jvm.MethodName)) ∈ sm_GW := sm_w 1251 (by decide +kernel) (by decide +kernel)
theorem wd_65 : (Jvm.Cond.selects "LentShadesModel" ({ cls := "LentShadesModel", name := "take", desc := "(II)V" } : Jvm.MethodName) ({ cls := "LentShadesModel", name := "take", desc := "(II)V" } : Jvm.MethodName)) ∈ sm_GW := sm_w 65 (by decide +kernel) (by decide +kernel)
theorem wd_1248 : (Jvm.Cond.code ({ cls := "LentShadesModel", name := "halve", desc := "(I)V" } : Jvm.MethodName) prog_12_method_14_code (7 : Nat) (Option.none : Option Jvm.ClassFile.FieldType)) ∈ sm_GW := sm_w 1248 (by decide +kernel) (by decide +kernel)
theorem wd_1247 : (Jvm.Cond.instanceMethod ({ cls := "LentShadesModel", name := "halve", desc := "(I)V" } : Jvm.MethodName)) ∈ sm_GW := sm_w 1247 (by decide +kernel) (by decide +kernel)
theorem wd_64 : (Jvm.Cond.selects "LentShadesModel" ({ cls := "LentShadesModel", name := "halve", desc := "(I)V" } : Jvm.MethodName) ({ cls := "LentShadesModel", name := "halve", desc := "(I)V" } : Jvm.MethodName)) ∈ sm_GW := sm_w 64 (by decide +kernel) (by decide +kernel)
theorem mwm_in : sm_MS ym_in prog_12_method_3_code 6 (some .boolean) 3 := ⟨wd_1106, wd_112, wd_1107, by decide +kernel, by decide +kernel⟩
theorem mwm_bad : sm_MW ym_bad prog_12_method_4_code 2 (some .int) 1 := ⟨wd_1112, wd_36, wd_112, wd_1113, by decide +kernel, by decide +kernel⟩
theorem mwm_no : sm_MW ym_no prog_12_method_5_code 1 (some .int) 0 := ⟨wd_1267, wd_68, wd_112, wd_1268, by decide +kernel, by decide +kernel⟩
theorem mwm_full : sm_MW ym_full prog_12_method_6_code 1 (some .int) 0 := ⟨wd_1120, wd_38, wd_112, wd_1121, by decide +kernel, by decide +kernel⟩
theorem mwm_set : sm_MW ym_set prog_12_method_7_code 6 none 2 := ⟨wd_1000, wd_35, wd_112, wd_1001, by decide +kernel, by decide +kernel⟩
theorem mwm_copy : sm_MW ym_copy prog_12_method_8_code 4 none 2 := ⟨wd_1128, wd_40, wd_112, wd_1129, by decide +kernel, by decide +kernel⟩
theorem mwm_trim : sm_MW ym_trim prog_12_method_9_code 2 none 1 := ⟨wd_1136, wd_42, wd_112, wd_1137, by decide +kernel, by decide +kernel⟩
theorem mwm_times : sm_MW ym_times prog_12_method_10_code 9 none 2 := ⟨wd_1132, wd_41, wd_112, wd_1133, by decide +kernel, by decide +kernel⟩
theorem mwm_compare : sm_MW ym_compare prog_12_method_11_code 6 (some .int) 2 := ⟨wd_1226, wd_59, wd_112, wd_1227, by decide +kernel, by decide +kernel⟩
theorem mwm_add : sm_MW ym_add prog_12_method_12_code 9 none 2 := ⟨wd_1218, wd_57, wd_112, wd_1219, by decide +kernel, by decide +kernel⟩
theorem mwm_take : sm_MW ym_take prog_12_method_13_code 8 none 2 := ⟨wd_1251, wd_65, wd_112, wd_1252, by decide +kernel, by decide +kernel⟩
theorem mwm_halve : sm_MW ym_halve prog_12_method_14_code 7 none 1 := ⟨wd_1247, wd_64, wd_112, wd_1248, by decide +kernel, by decide +kernel⟩
