def zm_sh : Nat → Nat × Nat := fun p => match p with
  | 0 => (20, 0)
  | 1 => (0, 81)
  | 2 => (0, 162)
  | 3 => (2, 2)
  | 4 => (0, 3)
  | 5 => (1, 7936)
  | 6 => (0, 124)
  | 7 => (0, 32)
  | 8 => (0, 4)
  | 9 => (1, 16)
  | 10 => (0, 4)
  | 11 => (0, 4)
  | 12 => (0, 4)
  | 13 => (0, 22)
  | 14 => (0, 22)
  | 15 => (0, 4)
  | 16 => (0, 4)
  | 17 => (0, 200)
  | 18 => (0, 12)
  | 19 => (0, 32)
  | 20 => (0, 4)
  | _ => (9, 0)
def zm_fl : Nat → List (Option Nat) := fun c => if c = 10 then [some 1, some 2, some 3, some 4, some 5, some 6, none, some 7, some 8, some 9, some 10, some 11, some 12, none, some 13, some 14, none, none, some 15, some 16, some 17, none, none, none, none, none, some 18, some 19, some 20, none, none, none] else []
abbrev zm_sy : sm_Sy := (zm_sh, zm_fl, 21, fun _ _ => True)
theorem zm_ok : ∀ p, (zm_sy.1 p).1 ≠ 9 → p < zm_sy.2.2.1 := by
  intro p h
  rcases Nat.lt_or_ge p 21 with q | q
  · exact q
  · obtain ⟨k, rfl⟩ := Nat.exists_eq_add_of_le q
    exact absurd (show (zm_sh (21 + k)).1 = 9 by simp [zm_sh, Nat.add_comm]) h
theorem zm_stb : ∀ wc, sm_stb zm_sy wc := fun _ _ _ _ _ _ => trivial
def ym_in : MethodName := ⟨"LentShadesModel", "in", "(JJJ)Z"⟩
def ym_bad : MethodName := ⟨"LentShadesModel", "bad", "(I)I"⟩
def ym_no : MethodName := ⟨"LentShadesModel", "no", "()I"⟩
def ym_full : MethodName := ⟨"LentShadesModel", "full", "()I"⟩
def ym_set : MethodName := ⟨"LentShadesModel", "set", "(IJ)V"⟩
def ym_copy : MethodName := ⟨"LentShadesModel", "copy", "(II)V"⟩
def ym_trim : MethodName := ⟨"LentShadesModel", "trim", "(I)V"⟩
def ym_times : MethodName := ⟨"LentShadesModel", "times", "(IJ)V"⟩
def ym_compare : MethodName := ⟨"LentShadesModel", "compare", "(II)I"⟩
def ym_add : MethodName := ⟨"LentShadesModel", "add", "(II)V"⟩
def ym_take : MethodName := ⟨"LentShadesModel", "take", "(II)V"⟩
def ym_halve : MethodName := ⟨"LentShadesModel", "halve", "(I)V"⟩
def ym_isEven : MethodName := ⟨"LentShadesModel", "isEven", "(I)Z"⟩
def ym_findDivisor : MethodName := ⟨"LentShadesModel", "findDivisor", "(II)V"⟩
def ym_addOne : MethodName := ⟨"LentShadesModel", "addOne", "()V"⟩
def ym_divide : MethodName := ⟨"LentShadesModel", "divide", "(I)V"⟩
def ym_tell : MethodName := ⟨"LentShadesModel", "tell", "(IIZ)V"⟩
def ym_cloths : MethodName := ⟨"LentShadesModel", "cloths", "()I"⟩
def ym_things : MethodName := ⟨"LentShadesModel", "things", "()I"⟩
def ym_isCloth : MethodName := ⟨"LentShadesModel", "isCloth", "(I)Z"⟩
def ym_isThing : MethodName := ⟨"LentShadesModel", "isThing", "(I)Z"⟩
def ym_isNumber : MethodName := ⟨"LentShadesModel", "isNumber", "(I)Z"⟩
def ym_kindOf : MethodName := ⟨"LentShadesModel", "kindOf", "(I)I"⟩
def ym_layCloth : MethodName := ⟨"LentShadesModel", "layCloth", "(III)V"⟩
def ym_cloth : MethodName := ⟨"LentShadesModel", "cloth", "(III)I"⟩
def ym_thing : MethodName := ⟨"LentShadesModel", "thing", "(I)I"⟩
def ym_putHours : MethodName := ⟨"LentShadesModel", "putHours", "([IIIII)V"⟩
def ym_touch : MethodName := ⟨"LentShadesModel", "touch", "(III)I"⟩
def ym_colour : MethodName := ⟨"LentShadesModel", "colour", "(II)I"⟩
def ym_takeNow : MethodName := ⟨"LentShadesModel", "takeNow", "()V"⟩
def ym_gives : MethodName := ⟨"LentShadesModel", "gives", "(I)Z"⟩
def ym_takes : MethodName := ⟨"LentShadesModel", "takes", "(II)I"⟩
def ym_takesAll : MethodName := ⟨"LentShadesModel", "takesAll", "(I)I"⟩
def ym_lay : MethodName := ⟨"LentShadesModel", "lay", "(II)V"⟩
def ym_divisor : MethodName := ⟨"LentShadesModel", "divisor", "(II)I"⟩
def ym_isMean : MethodName := ⟨"LentShadesModel", "isMean", "(I)Z"⟩
def ym_layMean : MethodName := ⟨"LentShadesModel", "layMean", "(II)V"⟩
def ym_layGreatest : MethodName := ⟨"LentShadesModel", "layGreatest", "(II)V"⟩
def ym_night : MethodName := ⟨"LentShadesModel", "night", "()V"⟩
def ym_nights : MethodName := ⟨"LentShadesModel", "nights", "(I)V"⟩
def ym_hasLeast : MethodName := ⟨"LentShadesModel", "hasLeast", "(II)Z"⟩
def ym_hasMost : MethodName := ⟨"LentShadesModel", "hasMost", "(II)Z"⟩
def ym_tellOver : MethodName := ⟨"LentShadesModel", "tellOver", "(IJ)I"⟩
def ym_shade : MethodName := ⟨"LentShadesModel", "shade", "(II)I"⟩
def ym_copyState : MethodName := ⟨"LentShadesModel", "copyState", "(II)V"⟩
def ym_sleep : MethodName := ⟨"LentShadesModel", "sleep", "()I"⟩
def ym_undo : MethodName := ⟨"LentShadesModel", "undo", "()I"⟩
def ym_soRed : MethodName := ⟨"LentShadesModel", "soRed", "(II)I"⟩
def ym_layRows : MethodName := ⟨"LentShadesModel", "layRows", "()V"⟩
def ym_productBy : MethodName := ⟨"LentShadesModel", "productBy", "(II)J"⟩
def ym_whole : MethodName := ⟨"LentShadesModel", "whole", "(II)J"⟩
def ym_isAnyVain : MethodName := ⟨"LentShadesModel", "isAnyVain", "()Z"⟩
def ym_layFixed : MethodName := ⟨"LentShadesModel", "layFixed", "(I)V"⟩
def ym_rest : MethodName := ⟨"LentShadesModel", "rest", "(I)I"⟩
def ym_findPairs : MethodName := ⟨"LentShadesModel", "findPairs", "()V"⟩
def ym_comesSo : MethodName := ⟨"LentShadesModel", "comesSo", "(IIIIII)Z"⟩
def ym_findMoves : MethodName := ⟨"LentShadesModel", "findMoves", "(IIII)I"⟩
def ym_tellMove : MethodName := ⟨"LentShadesModel", "tellMove", "(I)I"⟩
def ym_moves : MethodName := ⟨"LentShadesModel", "moves", "(IIIII)I"⟩
def ym_bound : MethodName := ⟨"LentShadesModel", "bound", "(III)I"⟩
def ym_layOrder : MethodName := ⟨"LentShadesModel", "layOrder", "(I)Z"⟩
def ym_comesOutWell : MethodName := ⟨"LentShadesModel", "comesOutWell", "()Z"⟩
def ym_chest : MethodName := ⟨"LentShadesModel", "chest", "(I)I"⟩
def ym_mayTouch : MethodName := ⟨"LentShadesModel", "mayTouch", "(I)Z"⟩
def ym_isMeanOf : MethodName := ⟨"LentShadesModel", "isMeanOf", "(III)Z"⟩
def ym_morning : MethodName := ⟨"LentShadesModel", "morning", "(III)I"⟩
def ym_surely : MethodName := ⟨"LentShadesModel", "surely", "(II)I"⟩
def ym_borrower : MethodName := ⟨"LentShadesModel", "borrower", "(IIII)I"⟩
def ym_refuse : MethodName := ⟨"LentShadesModel", "refuse", "()I"⟩
def ym_borrows : MethodName := ⟨"LentShadesModel", "borrows", "(II)I"⟩
def ym_findServed : MethodName := ⟨"LentShadesModel", "findServed", "()I"⟩
def ym_meet : MethodName := ⟨"LentShadesModel", "meet", "(II)Z"⟩
def ym_manyIn : MethodName := ⟨"LentShadesModel", "manyIn", "(I)I"⟩
def ym_lent : MethodName := ⟨"LentShadesModel", "lent", "(I)I"⟩
def ym_colours : MethodName := ⟨"LentShadesModel", "colours", "()I"⟩
def ym_least : MethodName := ⟨"LentShadesModel", "least", "(IIII)I"⟩
def ym_type : MethodName := ⟨"LentShadesModel", "type", "(JI)I"⟩
def ym_clear : MethodName := ⟨"LentShadesModel", "clear", "()I"⟩
def ym_isSmall : MethodName := ⟨"LentShadesModel", "isSmall", "(I)Z"⟩
def ym_isFigure : MethodName := ⟨"LentShadesModel", "isFigure", "(I)Z"⟩
def ym_look : MethodName := ⟨"LentShadesModel", "look", "(I)V"⟩
def ym_goOn : MethodName := ⟨"LentShadesModel", "goOn", "()V"⟩
def ym_isWord : MethodName := ⟨"LentShadesModel", "isWord", "(IIIII)Z"⟩
def ym_takesOne : MethodName := ⟨"LentShadesModel", "takesOne", "(II)Z"⟩
def ym_isReadNumber : MethodName := ⟨"LentShadesModel", "isReadNumber", "(I)Z"⟩
def ym_readsCloth : MethodName := ⟨"LentShadesModel", "readsCloth", "()Z"⟩
def ym_readsThing : MethodName := ⟨"LentShadesModel", "readsThing", "()Z"⟩
def ym_readsTouch : MethodName := ⟨"LentShadesModel", "readsTouch", "()Z"⟩
def ym_readsItem : MethodName := ⟨"LentShadesModel", "readsItem", "()Z"⟩
def ym_putRead : MethodName := ⟨"LentShadesModel", "putRead", "()V"⟩
def ym_read : MethodName := ⟨"LentShadesModel", "read", "()I"⟩
def ym_sign : MethodName := ⟨"LentShadesModel", "sign", "(I)I"⟩
def ym_limb : MethodName := ⟨"LentShadesModel", "limb", "(II)I"⟩
def ym_copyAll : MethodName := ⟨"LentShadesModel", "copyAll", "(IIII)V"⟩
def ym_image : MethodName := ⟨"LentShadesModel", "image", "(I)I"⟩
def ym_from : MethodName := ⟨"LentShadesModel", "from", "(I)I"⟩
def ym_status : MethodName := ⟨"LentShadesModel", "status", "(I)I"⟩
def ym_counted : MethodName := ⟨"LentShadesModel", "counted", "(I)I"⟩
def ym_count : MethodName := ⟨"LentShadesModel", "count", "(I)I"⟩
def ym_sums : MethodName := ⟨"LentShadesModel", "sums", "(JII)J"⟩
def ym_digest : MethodName := ⟨"LentShadesModel", "digest", "()J"⟩
theorem zb_m10 : (Int8.ofInt (-10)).toInt32 = ((-10) : Int32) := by decide
theorem zb_m5 : (Int8.ofInt (-5)).toInt32 = ((-5) : Int32) := by decide
theorem zb_m4 : (Int8.ofInt (-4)).toInt32 = ((-4) : Int32) := by decide
theorem zb_m3 : (Int8.ofInt (-3)).toInt32 = ((-3) : Int32) := by decide
theorem zb_m2 : (Int8.ofInt (-2)).toInt32 = ((-2) : Int32) := by decide
theorem zb_6 : (Int8.ofInt 6).toInt32 = (6 : Int32) := by decide
theorem zb_7 : (Int8.ofInt 7).toInt32 = (7 : Int32) := by decide
theorem zb_8 : (Int8.ofInt 8).toInt32 = (8 : Int32) := by decide
theorem zb_9 : (Int8.ofInt 9).toInt32 = (9 : Int32) := by decide
theorem zb_10 : (Int8.ofInt 10).toInt32 = (10 : Int32) := by decide
theorem zb_12 : (Int8.ofInt 12).toInt32 = (12 : Int32) := by decide
theorem zb_14 : (Int8.ofInt 14).toInt32 = (14 : Int32) := by decide
theorem zb_16 : (Int8.ofInt 16).toInt32 = (16 : Int32) := by decide
theorem zb_18 : (Int8.ofInt 18).toInt32 = (18 : Int32) := by decide
theorem zb_19 : (Int8.ofInt 19).toInt32 = (19 : Int32) := by decide
theorem zb_23 : (Int8.ofInt 23).toInt32 = (23 : Int32) := by decide
theorem zb_24 : (Int8.ofInt 24).toInt32 = (24 : Int32) := by decide
theorem zb_27 : (Int8.ofInt 27).toInt32 = (27 : Int32) := by decide
theorem zb_29 : (Int8.ofInt 29).toInt32 = (29 : Int32) := by decide
theorem zb_32 : (Int8.ofInt 32).toInt32 = (32 : Int32) := by decide
theorem zb_35 : (Int8.ofInt 35).toInt32 = (35 : Int32) := by decide
theorem zb_48 : (Int8.ofInt 48).toInt32 = (48 : Int32) := by decide
theorem zb_52 : (Int8.ofInt 52).toInt32 = (52 : Int32) := by decide
theorem zb_54 : (Int8.ofInt 54).toInt32 = (54 : Int32) := by decide
theorem zb_59 : (Int8.ofInt 59).toInt32 = (59 : Int32) := by decide
theorem zb_64 : (Int8.ofInt 64).toInt32 = (64 : Int32) := by decide
theorem zb_76 : (Int8.ofInt 76).toInt32 = (76 : Int32) := by decide
theorem zb_77 : (Int8.ofInt 77).toInt32 = (77 : Int32) := by decide
theorem zb_78 : (Int8.ofInt 78).toInt32 = (78 : Int32) := by decide
theorem zb_79 : (Int8.ofInt 79).toInt32 = (79 : Int32) := by decide
theorem zb_80 : (Int8.ofInt 80).toInt32 = (80 : Int32) := by decide
theorem zb_81 : (Int8.ofInt 81).toInt32 = (81 : Int32) := by decide
theorem zb_99 : (Int8.ofInt 99).toInt32 = (99 : Int32) := by decide
theorem zb_100 : (Int8.ofInt 100).toInt32 = (100 : Int32) := by decide
theorem zb_103 : (Int8.ofInt 103).toInt32 = (103 : Int32) := by decide
theorem zb_104 : (Int8.ofInt 104).toInt32 = (104 : Int32) := by decide
theorem zb_105 : (Int8.ofInt 105).toInt32 = (105 : Int32) := by decide
theorem zb_108 : (Int8.ofInt 108).toInt32 = (108 : Int32) := by decide
theorem zb_110 : (Int8.ofInt 110).toInt32 = (110 : Int32) := by decide
theorem zb_111 : (Int8.ofInt 111).toInt32 = (111 : Int32) := by decide
theorem zb_116 : (Int8.ofInt 116).toInt32 = (116 : Int32) := by decide
theorem zb_117 : (Int8.ofInt 117).toInt32 = (117 : Int32) := by decide
theorem zk_m1 : Int32.ofInt (-1) = ((-1) : Int32) := by decide
theorem zk_0 : Int32.ofInt 0 = (0 : Int32) := by decide
theorem zk_1 : Int32.ofInt 1 = (1 : Int32) := by decide
theorem zk_2 : Int32.ofInt 2 = (2 : Int32) := by decide
theorem zk_3 : Int32.ofInt 3 = (3 : Int32) := by decide
theorem zk_4 : Int32.ofInt 4 = (4 : Int32) := by decide
theorem zk_5 : Int32.ofInt 5 = (5 : Int32) := by decide
theorem zl_0 : Int64.ofNat ((0 : Fin 2) : Nat) = (0 : Int64) := by decide
theorem zl_1 : Int64.ofNat ((1 : Fin 2) : Nat) = (1 : Int64) := by decide
theorem zs_200 : (Int16.ofInt 200).toInt32 = (200 : Int32) := by decide
theorem zs_256 : (Int16.ofInt 256).toInt32 = (256 : Int32) := by decide
theorem zs_320 : (Int16.ofInt 320).toInt32 = (320 : Int32) := by decide
theorem zs_384 : (Int16.ofInt 384).toInt32 = (384 : Int32) := by decide
theorem zs_1000 : (Int16.ofInt 1000).toInt32 = (1000 : Int32) := by decide
theorem wd_1006 : (Jvm.Cond.fieldLink "LentShadesModel" (20 : Nat) "LentShadesModel" "refused" "[I") ∈ sm_GW := sm_w 1006 (by decide +kernel) (by decide +kernel)
theorem wd_1008 : (Jvm.Cond.fieldLink "LentShadesModel" (27 : Nat) "LentShadesModel" "sizes" "[I") ∈ sm_GW := sm_w 1008 (by decide +kernel) (by decide +kernel)
theorem wd_1007 : (Jvm.Cond.fieldLink "LentShadesModel" (23 : Nat) "LentShadesModel" "limbs" "[J") ∈ sm_GW := sm_w 1007 (by decide +kernel) (by decide +kernel)
theorem wd_1002 : (Jvm.Cond.constantLong "LentShadesModel" (76 : Nat) (1073741824 : Int64)) ∈ sm_GW := sm_w 1002 (by decide +kernel) (by decide +kernel)
theorem wd_1134 : (Jvm.Cond.methodLink "LentShadesModel" (78 : Nat) ({ cls := "LentShadesModel", name := "trim", desc := "(I)V" } : Jvm.MethodName)) ∈ sm_GW := sm_w 1134 (by decide +kernel) (by decide +kernel)
theorem wd_1244 : (Jvm.Cond.constantLong "LentShadesModel" (82 : Nat) (2 : Int64)) ∈ sm_GW := sm_w 1244 (by decide +kernel) (by decide +kernel)
theorem wd_1126 : (Jvm.Cond.methodLink "LentShadesModel" (84 : Nat) ({ cls := "LentShadesModel", name := "copy", desc := "(II)V" } : Jvm.MethodName)) ∈ sm_GW := sm_w 1126 (by decide +kernel) (by decide +kernel)
theorem wd_1240 : (Jvm.Cond.methodLink "LentShadesModel" (88 : Nat) ({ cls := "LentShadesModel", name := "isEven", desc := "(I)Z" } : Jvm.MethodName)) ∈ sm_GW := sm_w 1240 (by decide +kernel) (by decide +kernel)
theorem wd_1245 : (Jvm.Cond.methodLink "LentShadesModel" (92 : Nat) ({ cls := "LentShadesModel", name := "halve", desc := "(I)V" } : Jvm.MethodName)) ∈ sm_GW := sm_w 1245 (by decide +kernel) (by decide +kernel)
theorem wd_1224 : (Jvm.Cond.methodLink "LentShadesModel" (95 : Nat) ({ cls := "LentShadesModel", name := "compare", desc := "(II)I" } : Jvm.MethodName)) ∈ sm_GW := sm_w 1224 (by decide +kernel) (by decide +kernel)
theorem wd_1249 : (Jvm.Cond.methodLink "LentShadesModel" (99 : Nat) ({ cls := "LentShadesModel", name := "take", desc := "(II)V" } : Jvm.MethodName)) ∈ sm_GW := sm_w 1249 (by decide +kernel) (by decide +kernel)
theorem wd_1130 : (Jvm.Cond.methodLink "LentShadesModel" (102 : Nat) ({ cls := "LentShadesModel", name := "times", desc := "(IJ)V" } : Jvm.MethodName)) ∈ sm_GW := sm_w 1130 (by decide +kernel) (by decide +kernel)
theorem wd_998 : (Jvm.Cond.methodLink "LentShadesModel" (72 : Nat) ({ cls := "LentShadesModel", name := "set", desc := "(IJ)V" } : Jvm.MethodName)) ∈ sm_GW := sm_w 998 (by decide +kernel) (by decide +kernel)
theorem wd_1257 : (Jvm.Cond.methodLink "LentShadesModel" (105 : Nat) ({ cls := "LentShadesModel", name := "addOne", desc := "()V" } : Jvm.MethodName)) ∈ sm_GW := sm_w 1257 (by decide +kernel) (by decide +kernel)
theorem wd_1236 : (Jvm.Cond.methodLink "LentShadesModel" (112 : Nat) ({ cls := "LentShadesModel", name := "findDivisor", desc := "(II)V" } : Jvm.MethodName)) ∈ sm_GW := sm_w 1236 (by decide +kernel) (by decide +kernel)
theorem wd_1253 : (Jvm.Cond.methodLink "LentShadesModel" (115 : Nat) ({ cls := "LentShadesModel", name := "divide", desc := "(I)V" } : Jvm.MethodName)) ∈ sm_GW := sm_w 1253 (by decide +kernel) (by decide +kernel)
theorem wd_1009 : (Jvm.Cond.fieldLink "LentShadesModel" (108 : Nat) "LentShadesModel" "sign" "I") ∈ sm_GW := sm_w 1009 (by decide +kernel) (by decide +kernel)
theorem wd_1003 : (Jvm.Cond.fieldLink "LentShadesModel" (7 : Nat) "LentShadesModel" "now" "[I") ∈ sm_GW := sm_w 1003 (by decide +kernel) (by decide +kernel)
theorem wd_1114 : (Jvm.Cond.methodLink "LentShadesModel" (122 : Nat) ({ cls := "LentShadesModel", name := "cloths", desc := "()I" } : Jvm.MethodName)) ∈ sm_GW := sm_w 1114 (by decide +kernel) (by decide +kernel)
theorem wd_1105 : (Jvm.Cond.methodLink "LentShadesModel" (126 : Nat) ({ cls := "LentShadesModel", name := "in", desc := "(JJJ)Z" } : Jvm.MethodName)) ∈ sm_GW := sm_w 1105 (by decide +kernel) (by decide +kernel)
theorem wd_1142 : (Jvm.Cond.methodLink "LentShadesModel" (130 : Nat) ({ cls := "LentShadesModel", name := "things", desc := "()I" } : Jvm.MethodName)) ∈ sm_GW := sm_w 1142 (by decide +kernel) (by decide +kernel)
theorem wd_1154 : (Jvm.Cond.methodLink "LentShadesModel" (133 : Nat) ({ cls := "LentShadesModel", name := "isCloth", desc := "(I)Z" } : Jvm.MethodName)) ∈ sm_GW := sm_w 1154 (by decide +kernel) (by decide +kernel)
theorem wd_1104 : (Jvm.Cond.constantLong "LentShadesModel" (136 : Nat) (4 : Int64)) ∈ sm_GW := sm_w 1104 (by decide +kernel) (by decide +kernel)
theorem wd_1108 : (Jvm.Cond.constantLong "LentShadesModel" (138 : Nat) (3 : Int64)) ∈ sm_GW := sm_w 1108 (by decide +kernel) (by decide +kernel)
theorem wd_1109 : (Jvm.Cond.constantLong "LentShadesModel" (140 : Nat) (12 : Int64)) ∈ sm_GW := sm_w 1109 (by decide +kernel) (by decide +kernel)
theorem wd_1122 : (Jvm.Cond.methodLink "LentShadesModel" (149 : Nat) ({ cls := "LentShadesModel", name := "layCloth", desc := "(III)V" } : Jvm.MethodName)) ∈ sm_GW := sm_w 1122 (by decide +kernel) (by decide +kernel)
theorem wd_1118 : (Jvm.Cond.methodLink "LentShadesModel" (146 : Nat) ({ cls := "LentShadesModel", name := "full", desc := "()I" } : Jvm.MethodName)) ∈ sm_GW := sm_w 1118 (by decide +kernel) (by decide +kernel)
theorem wd_1110 : (Jvm.Cond.methodLink "LentShadesModel" (142 : Nat) ({ cls := "LentShadesModel", name := "bad", desc := "(I)I" } : Jvm.MethodName)) ∈ sm_GW := sm_w 1110 (by decide +kernel) (by decide +kernel)
theorem wd_1150 : (Jvm.Cond.methodLink "LentShadesModel" (153 : Nat) ({ cls := "LentShadesModel", name := "isNumber", desc := "(I)Z" } : Jvm.MethodName)) ∈ sm_GW := sm_w 1150 (by decide +kernel) (by decide +kernel)
theorem wd_1158 : (Jvm.Cond.methodLink "LentShadesModel" (156 : Nat) ({ cls := "LentShadesModel", name := "putHours", desc := "([IIIII)V" } : Jvm.MethodName)) ∈ sm_GW := sm_w 1158 (by decide +kernel) (by decide +kernel)
theorem wd_1165 : (Jvm.Cond.methodLink "LentShadesModel" (160 : Nat) ({ cls := "LentShadesModel", name := "isThing", desc := "(I)Z" } : Jvm.MethodName)) ∈ sm_GW := sm_w 1165 (by decide +kernel) (by decide +kernel)
theorem wd_1010 : (Jvm.Cond.fieldLink "LentShadesModel" (30 : Nat) "LentShadesModel" "table" "[I") ∈ sm_GW := sm_w 1010 (by decide +kernel) (by decide +kernel)
theorem wd_1011 : (Jvm.Cond.fieldLink "LentShadesModel" (33 : Nat) "LentShadesModel" "colours" "[I") ∈ sm_GW := sm_w 1011 (by decide +kernel) (by decide +kernel)
theorem wd_1189 : (Jvm.Cond.methodLink "LentShadesModel" (163 : Nat) ({ cls := "LentShadesModel", name := "kindOf", desc := "(I)I" } : Jvm.MethodName)) ∈ sm_GW := sm_w 1189 (by decide +kernel) (by decide +kernel)
theorem wd_1201 : (Jvm.Cond.methodLink "LentShadesModel" (166 : Nat) ({ cls := "LentShadesModel", name := "gives", desc := "(I)Z" } : Jvm.MethodName)) ∈ sm_GW := sm_w 1201 (by decide +kernel) (by decide +kernel)
theorem wd_1197 : (Jvm.Cond.methodLink "LentShadesModel" (169 : Nat) ({ cls := "LentShadesModel", name := "takes", desc := "(II)I" } : Jvm.MethodName)) ∈ sm_GW := sm_w 1197 (by decide +kernel) (by decide +kernel)
theorem wd_1193 : (Jvm.Cond.methodLink "LentShadesModel" (172 : Nat) ({ cls := "LentShadesModel", name := "takesAll", desc := "(I)I" } : Jvm.MethodName)) ∈ sm_GW := sm_w 1193 (by decide +kernel) (by decide +kernel)
theorem wd_1212 : (Jvm.Cond.methodLink "LentShadesModel" (175 : Nat) ({ cls := "LentShadesModel", name := "lay", desc := "(II)V" } : Jvm.MethodName)) ∈ sm_GW := sm_w 1212 (by decide +kernel) (by decide +kernel)
theorem wd_1216 : (Jvm.Cond.methodLink "LentShadesModel" (178 : Nat) ({ cls := "LentShadesModel", name := "add", desc := "(II)V" } : Jvm.MethodName)) ∈ sm_GW := sm_w 1216 (by decide +kernel) (by decide +kernel)
theorem wd_1185 : (Jvm.Cond.methodLink "LentShadesModel" (181 : Nat) ({ cls := "LentShadesModel", name := "isMean", desc := "(I)Z" } : Jvm.MethodName)) ∈ sm_GW := sm_w 1185 (by decide +kernel) (by decide +kernel)
theorem wd_1205 : (Jvm.Cond.methodLink "LentShadesModel" (184 : Nat) ({ cls := "LentShadesModel", name := "divisor", desc := "(II)I" } : Jvm.MethodName)) ∈ sm_GW := sm_w 1205 (by decide +kernel) (by decide +kernel)
theorem wd_1220 : (Jvm.Cond.methodLink "LentShadesModel" (190 : Nat) ({ cls := "LentShadesModel", name := "layGreatest", desc := "(II)V" } : Jvm.MethodName)) ∈ sm_GW := sm_w 1220 (by decide +kernel) (by decide +kernel)
theorem wd_1208 : (Jvm.Cond.methodLink "LentShadesModel" (187 : Nat) ({ cls := "LentShadesModel", name := "layMean", desc := "(II)V" } : Jvm.MethodName)) ∈ sm_GW := sm_w 1208 (by decide +kernel) (by decide +kernel)
theorem wd_1181 : (Jvm.Cond.methodLink "LentShadesModel" (193 : Nat) ({ cls := "LentShadesModel", name := "night", desc := "()V" } : Jvm.MethodName)) ∈ sm_GW := sm_w 1181 (by decide +kernel) (by decide +kernel)
theorem wd_1232 : (Jvm.Cond.methodLink "LentShadesModel" (118 : Nat) ({ cls := "LentShadesModel", name := "tell", desc := "(IIZ)V" } : Jvm.MethodName)) ∈ sm_GW := sm_w 1232 (by decide +kernel) (by decide +kernel)
theorem wd_1173 : (Jvm.Cond.methodLink "LentShadesModel" (196 : Nat) ({ cls := "LentShadesModel", name := "takeNow", desc := "()V" } : Jvm.MethodName)) ∈ sm_GW := sm_w 1173 (by decide +kernel) (by decide +kernel)
theorem wd_1177 : (Jvm.Cond.methodLink "LentShadesModel" (199 : Nat) ({ cls := "LentShadesModel", name := "nights", desc := "(I)V" } : Jvm.MethodName)) ∈ sm_GW := sm_w 1177 (by decide +kernel) (by decide +kernel)
theorem wd_1228 : (Jvm.Cond.methodLink "LentShadesModel" (202 : Nat) ({ cls := "LentShadesModel", name := "tellOver", desc := "(IJ)I" } : Jvm.MethodName)) ∈ sm_GW := sm_w 1228 (by decide +kernel) (by decide +kernel)
theorem wd_1265 : (Jvm.Cond.methodLink "LentShadesModel" (206 : Nat) ({ cls := "LentShadesModel", name := "no", desc := "()I" } : Jvm.MethodName)) ∈ sm_GW := sm_w 1265 (by decide +kernel) (by decide +kernel)
theorem wd_1269 : (Jvm.Cond.methodLink "LentShadesModel" (209 : Nat) ({ cls := "LentShadesModel", name := "copyState", desc := "(II)V" } : Jvm.MethodName)) ∈ sm_GW := sm_w 1269 (by decide +kernel) (by decide +kernel)
theorem wd_1281 : (Jvm.Cond.methodLink "LentShadesModel" (212 : Nat) ({ cls := "LentShadesModel", name := "hasLeast", desc := "(II)Z" } : Jvm.MethodName)) ∈ sm_GW := sm_w 1281 (by decide +kernel) (by decide +kernel)
theorem wd_1012 : (Jvm.Cond.fieldLink "LentShadesModel" (36 : Nat) "LentShadesModel" "rows" "[J") ∈ sm_GW := sm_w 1012 (by decide +kernel) (by decide +kernel)
theorem wd_1013 : (Jvm.Cond.fieldLink "LentShadesModel" (39 : Nat) "LentShadesModel" "leftRows" "[I") ∈ sm_GW := sm_w 1013 (by decide +kernel) (by decide +kernel)
theorem wd_1014 : (Jvm.Cond.fieldLink "LentShadesModel" (42 : Nat) "LentShadesModel" "leftColumns" "[I") ∈ sm_GW := sm_w 1014 (by decide +kernel) (by decide +kernel)
theorem wd_1015 : (Jvm.Cond.fieldLink "LentShadesModel" (45 : Nat) "LentShadesModel" "picked" "[I") ∈ sm_GW := sm_w 1015 (by decide +kernel) (by decide +kernel)
theorem wd_1301 : (Jvm.Cond.methodLink "LentShadesModel" (216 : Nat) ({ cls := "LentShadesModel", name := "productBy", desc := "(II)J" } : Jvm.MethodName)) ∈ sm_GW := sm_w 1301 (by decide +kernel) (by decide +kernel)
theorem wd_1289 : (Jvm.Cond.methodLink "LentShadesModel" (220 : Nat) ({ cls := "LentShadesModel", name := "isAnyVain", desc := "()Z" } : Jvm.MethodName)) ∈ sm_GW := sm_w 1289 (by decide +kernel) (by decide +kernel)
theorem wd_1293 : (Jvm.Cond.methodLink "LentShadesModel" (224 : Nat) ({ cls := "LentShadesModel", name := "layRows", desc := "()V" } : Jvm.MethodName)) ∈ sm_GW := sm_w 1293 (by decide +kernel) (by decide +kernel)
theorem wd_1297 : (Jvm.Cond.methodLink "LentShadesModel" (227 : Nat) ({ cls := "LentShadesModel", name := "whole", desc := "(II)J" } : Jvm.MethodName)) ∈ sm_GW := sm_w 1297 (by decide +kernel) (by decide +kernel)
theorem wd_1305 : (Jvm.Cond.methodLink "LentShadesModel" (230 : Nat) ({ cls := "LentShadesModel", name := "layFixed", desc := "(I)V" } : Jvm.MethodName)) ∈ sm_GW := sm_w 1305 (by decide +kernel) (by decide +kernel)
theorem wd_1016 : (Jvm.Cond.fieldLink "LentShadesModel" (233 : Nat) "LentShadesModel" "pairs" "I") ∈ sm_GW := sm_w 1016 (by decide +kernel) (by decide +kernel)
theorem wd_1017 : (Jvm.Cond.fieldLink "LentShadesModel" (48 : Nat) "LentShadesModel" "lesser" "[I") ∈ sm_GW := sm_w 1017 (by decide +kernel) (by decide +kernel)
theorem wd_1018 : (Jvm.Cond.fieldLink "LentShadesModel" (51 : Nat) "LentShadesModel" "other" "[I") ∈ sm_GW := sm_w 1018 (by decide +kernel) (by decide +kernel)
theorem wd_1321 : (Jvm.Cond.methodLink "LentShadesModel" (236 : Nat) ({ cls := "LentShadesModel", name := "hasMost", desc := "(II)Z" } : Jvm.MethodName)) ∈ sm_GW := sm_w 1321 (by decide +kernel) (by decide +kernel)
theorem wd_1019 : (Jvm.Cond.fieldLink "LentShadesModel" (239 : Nat) "LentShadesModel" "firstMove" "I") ∈ sm_GW := sm_w 1019 (by decide +kernel) (by decide +kernel)
theorem wd_1020 : (Jvm.Cond.fieldLink "LentShadesModel" (242 : Nat) "LentShadesModel" "secondMove" "I") ∈ sm_GW := sm_w 1020 (by decide +kernel) (by decide +kernel)
theorem wd_1317 : (Jvm.Cond.methodLink "LentShadesModel" (245 : Nat) ({ cls := "LentShadesModel", name := "comesSo", desc := "(IIIIII)Z" } : Jvm.MethodName)) ∈ sm_GW := sm_w 1317 (by decide +kernel) (by decide +kernel)
theorem wd_1325 : (Jvm.Cond.methodLink "LentShadesModel" (249 : Nat) ({ cls := "LentShadesModel", name := "findPairs", desc := "()V" } : Jvm.MethodName)) ∈ sm_GW := sm_w 1325 (by decide +kernel) (by decide +kernel)
theorem wd_1313 : (Jvm.Cond.methodLink "LentShadesModel" (252 : Nat) ({ cls := "LentShadesModel", name := "findMoves", desc := "(IIII)I" } : Jvm.MethodName)) ∈ sm_GW := sm_w 1313 (by decide +kernel) (by decide +kernel)
theorem wd_1329 : (Jvm.Cond.methodLink "LentShadesModel" (256 : Nat) ({ cls := "LentShadesModel", name := "tellMove", desc := "(I)I" } : Jvm.MethodName)) ∈ sm_GW := sm_w 1329 (by decide +kernel) (by decide +kernel)
theorem wd_1021 : (Jvm.Cond.fieldLink "LentShadesModel" (54 : Nat) "LentShadesModel" "order" "[I") ∈ sm_GW := sm_w 1021 (by decide +kernel) (by decide +kernel)
theorem wd_1022 : (Jvm.Cond.fieldLink "LentShadesModel" (57 : Nat) "LentShadesModel" "firstOrder" "[I") ∈ sm_GW := sm_w 1022 (by decide +kernel) (by decide +kernel)
theorem wd_1341 : (Jvm.Cond.methodLink "LentShadesModel" (259 : Nat) ({ cls := "LentShadesModel", name := "layOrder", desc := "(I)Z" } : Jvm.MethodName)) ∈ sm_GW := sm_w 1341 (by decide +kernel) (by decide +kernel)
theorem wd_1345 : (Jvm.Cond.methodLink "LentShadesModel" (262 : Nat) ({ cls := "LentShadesModel", name := "comesOutWell", desc := "()Z" } : Jvm.MethodName)) ∈ sm_GW := sm_w 1345 (by decide +kernel) (by decide +kernel)
theorem wd_1353 : (Jvm.Cond.constantLong "LentShadesModel" (265 : Nat) (99 : Int64)) ∈ sm_GW := sm_w 1353 (by decide +kernel) (by decide +kernel)
theorem wd_1354 : (Jvm.Cond.methodLink "LentShadesModel" (267 : Nat) ({ cls := "LentShadesModel", name := "mayTouch", desc := "(I)Z" } : Jvm.MethodName)) ∈ sm_GW := sm_w 1354 (by decide +kernel) (by decide +kernel)
theorem wd_1358 : (Jvm.Cond.methodLink "LentShadesModel" (270 : Nat) ({ cls := "LentShadesModel", name := "isMeanOf", desc := "(III)Z" } : Jvm.MethodName)) ∈ sm_GW := sm_w 1358 (by decide +kernel) (by decide +kernel)
theorem wd_1382 : (Jvm.Cond.methodLink "LentShadesModel" (274 : Nat) ({ cls := "LentShadesModel", name := "borrows", desc := "(II)I" } : Jvm.MethodName)) ∈ sm_GW := sm_w 1382 (by decide +kernel) (by decide +kernel)
theorem wd_1378 : (Jvm.Cond.methodLink "LentShadesModel" (277 : Nat) ({ cls := "LentShadesModel", name := "findServed", desc := "()I" } : Jvm.MethodName)) ∈ sm_GW := sm_w 1378 (by decide +kernel) (by decide +kernel)
theorem wd_1386 : (Jvm.Cond.methodLink "LentShadesModel" (280 : Nat) ({ cls := "LentShadesModel", name := "manyIn", desc := "(I)I" } : Jvm.MethodName)) ∈ sm_GW := sm_w 1386 (by decide +kernel) (by decide +kernel)
theorem wd_1389 : (Jvm.Cond.methodLink "LentShadesModel" (283 : Nat) ({ cls := "LentShadesModel", name := "meet", desc := "(II)Z" } : Jvm.MethodName)) ∈ sm_GW := sm_w 1389 (by decide +kernel) (by decide +kernel)
theorem wd_1405 : (Jvm.Cond.constantLong "LentShadesModel" (286 : Nat) (8 : Int64)) ∈ sm_GW := sm_w 1405 (by decide +kernel) (by decide +kernel)
theorem wd_1024 : (Jvm.Cond.fieldLink "LentShadesModel" (288 : Nat) "LentShadesModel" "bytesLong" "I") ∈ sm_GW := sm_w 1024 (by decide +kernel) (by decide +kernel)
theorem wd_1023 : (Jvm.Cond.fieldLink "LentShadesModel" (60 : Nat) "LentShadesModel" "bytes" "[I") ∈ sm_GW := sm_w 1023 (by decide +kernel) (by decide +kernel)
theorem wd_1406 : (Jvm.Cond.constantLong "LentShadesModel" (291 : Nat) (255 : Int64)) ∈ sm_GW := sm_w 1406 (by decide +kernel) (by decide +kernel)
theorem wd_1422 : (Jvm.Cond.constantLong "LentShadesModel" (293 : Nat) (97 : Int64)) ∈ sm_GW := sm_w 1422 (by decide +kernel) (by decide +kernel)
theorem wd_1423 : (Jvm.Cond.constantLong "LentShadesModel" (295 : Nat) (122 : Int64)) ∈ sm_GW := sm_w 1423 (by decide +kernel) (by decide +kernel)
theorem wd_1427 : (Jvm.Cond.constantLong "LentShadesModel" (297 : Nat) (48 : Int64)) ∈ sm_GW := sm_w 1427 (by decide +kernel) (by decide +kernel)
theorem wd_1428 : (Jvm.Cond.constantLong "LentShadesModel" (299 : Nat) (57 : Int64)) ∈ sm_GW := sm_w 1428 (by decide +kernel) (by decide +kernel)
theorem wd_1025 : (Jvm.Cond.fieldLink "LentShadesModel" (301 : Nat) "LentShadesModel" "tokenAt" "I") ∈ sm_GW := sm_w 1025 (by decide +kernel) (by decide +kernel)
theorem wd_1026 : (Jvm.Cond.fieldLink "LentShadesModel" (304 : Nat) "LentShadesModel" "tokenLong" "I") ∈ sm_GW := sm_w 1026 (by decide +kernel) (by decide +kernel)
theorem wd_1027 : (Jvm.Cond.fieldLink "LentShadesModel" (307 : Nat) "LentShadesModel" "token" "I") ∈ sm_GW := sm_w 1027 (by decide +kernel) (by decide +kernel)
theorem wd_1028 : (Jvm.Cond.fieldLink "LentShadesModel" (310 : Nat) "LentShadesModel" "value" "I") ∈ sm_GW := sm_w 1028 (by decide +kernel) (by decide +kernel)
theorem wd_1419 : (Jvm.Cond.methodLink "LentShadesModel" (313 : Nat) ({ cls := "LentShadesModel", name := "isSmall", desc := "(I)Z" } : Jvm.MethodName)) ∈ sm_GW := sm_w 1419 (by decide +kernel) (by decide +kernel)
theorem wd_1424 : (Jvm.Cond.methodLink "LentShadesModel" (316 : Nat) ({ cls := "LentShadesModel", name := "isFigure", desc := "(I)Z" } : Jvm.MethodName)) ∈ sm_GW := sm_w 1424 (by decide +kernel) (by decide +kernel)
theorem wd_1415 : (Jvm.Cond.methodLink "LentShadesModel" (319 : Nat) ({ cls := "LentShadesModel", name := "look", desc := "(I)V" } : Jvm.MethodName)) ∈ sm_GW := sm_w 1415 (by decide +kernel) (by decide +kernel)
theorem wd_1034 : (Jvm.Cond.fieldLink "LentShadesModel" (322 : Nat) "LentShadesModel" "taken" "I") ∈ sm_GW := sm_w 1034 (by decide +kernel) (by decide +kernel)
theorem wd_1441 : (Jvm.Cond.methodLink "LentShadesModel" (325 : Nat) ({ cls := "LentShadesModel", name := "goOn", desc := "()V" } : Jvm.MethodName)) ∈ sm_GW := sm_w 1441 (by decide +kernel) (by decide +kernel)
theorem wd_1032 : (Jvm.Cond.fieldLink "LentShadesModel" (328 : Nat) "LentShadesModel" "readCloths" "I") ∈ sm_GW := sm_w 1032 (by decide +kernel) (by decide +kernel)
theorem wd_1033 : (Jvm.Cond.fieldLink "LentShadesModel" (331 : Nat) "LentShadesModel" "readThings" "I") ∈ sm_GW := sm_w 1033 (by decide +kernel) (by decide +kernel)
theorem wd_1445 : (Jvm.Cond.methodLink "LentShadesModel" (334 : Nat) ({ cls := "LentShadesModel", name := "takesOne", desc := "(II)Z" } : Jvm.MethodName)) ∈ sm_GW := sm_w 1445 (by decide +kernel) (by decide +kernel)
theorem wd_1029 : (Jvm.Cond.fieldLink "LentShadesModel" (63 : Nat) "LentShadesModel" "readCloth" "[I") ∈ sm_GW := sm_w 1029 (by decide +kernel) (by decide +kernel)
theorem wd_1031 : (Jvm.Cond.fieldLink "LentShadesModel" (69 : Nat) "LentShadesModel" "readColour" "[I") ∈ sm_GW := sm_w 1031 (by decide +kernel) (by decide +kernel)
theorem wd_1457 : (Jvm.Cond.methodLink "LentShadesModel" (337 : Nat) ({ cls := "LentShadesModel", name := "isReadNumber", desc := "(I)Z" } : Jvm.MethodName)) ∈ sm_GW := sm_w 1457 (by decide +kernel) (by decide +kernel)
theorem wd_1030 : (Jvm.Cond.fieldLink "LentShadesModel" (66 : Nat) "LentShadesModel" "readHours" "[I") ∈ sm_GW := sm_w 1030 (by decide +kernel) (by decide +kernel)
theorem wd_1433 : (Jvm.Cond.methodLink "LentShadesModel" (340 : Nat) ({ cls := "LentShadesModel", name := "isWord", desc := "(IIIII)Z" } : Jvm.MethodName)) ∈ sm_GW := sm_w 1433 (by decide +kernel) (by decide +kernel)
theorem wd_1453 : (Jvm.Cond.methodLink "LentShadesModel" (350 : Nat) ({ cls := "LentShadesModel", name := "readsTouch", desc := "()Z" } : Jvm.MethodName)) ∈ sm_GW := sm_w 1453 (by decide +kernel) (by decide +kernel)
theorem wd_1449 : (Jvm.Cond.methodLink "LentShadesModel" (347 : Nat) ({ cls := "LentShadesModel", name := "readsThing", desc := "()Z" } : Jvm.MethodName)) ∈ sm_GW := sm_w 1449 (by decide +kernel) (by decide +kernel)
theorem wd_1437 : (Jvm.Cond.methodLink "LentShadesModel" (344 : Nat) ({ cls := "LentShadesModel", name := "readsCloth", desc := "()Z" } : Jvm.MethodName)) ∈ sm_GW := sm_w 1437 (by decide +kernel) (by decide +kernel)
theorem wd_1461 : (Jvm.Cond.methodLink "LentShadesModel" (356 : Nat) ({ cls := "LentShadesModel", name := "putRead", desc := "()V" } : Jvm.MethodName)) ∈ sm_GW := sm_w 1461 (by decide +kernel) (by decide +kernel)
theorem wd_1429 : (Jvm.Cond.methodLink "LentShadesModel" (353 : Nat) ({ cls := "LentShadesModel", name := "readsItem", desc := "()Z" } : Jvm.MethodName)) ∈ sm_GW := sm_w 1429 (by decide +kernel) (by decide +kernel)
theorem wd_1477 : (Jvm.Cond.methodLink "LentShadesModel" (359 : Nat) ({ cls := "LentShadesModel", name := "copyAll", desc := "(IIII)V" } : Jvm.MethodName)) ∈ sm_GW := sm_w 1477 (by decide +kernel) (by decide +kernel)
theorem wd_1005 : (Jvm.Cond.fieldLink "LentShadesModel" (16 : Nat) "LentShadesModel" "isKept" "[Z") ∈ sm_GW := sm_w 1005 (by decide +kernel) (by decide +kernel)
theorem wd_1004 : (Jvm.Cond.fieldLink "LentShadesModel" (13 : Nat) "LentShadesModel" "kept" "[I") ∈ sm_GW := sm_w 1004 (by decide +kernel) (by decide +kernel)
theorem wd_1493 : (Jvm.Cond.constantLong "LentShadesModel" (363 : Nat) (5 : Int64)) ∈ sm_GW := sm_w 1493 (by decide +kernel) (by decide +kernel)
theorem wd_1494 : (Jvm.Cond.methodLink "LentShadesModel" (365 : Nat) ({ cls := "LentShadesModel", name := "counted", desc := "(I)I" } : Jvm.MethodName)) ∈ sm_GW := sm_w 1494 (by decide +kernel) (by decide +kernel)
theorem wd_1503 : (Jvm.Cond.constantLong "LentShadesModel" (368 : Nat) (31 : Int64)) ∈ sm_GW := sm_w 1503 (by decide +kernel) (by decide +kernel)
theorem wd_1502 : (Jvm.Cond.constantLong "LentShadesModel" (370 : Nat) (673 : Int64)) ∈ sm_GW := sm_w 1502 (by decide +kernel) (by decide +kernel)
theorem wd_1504 : (Jvm.Cond.methodLink "LentShadesModel" (372 : Nat) ({ cls := "LentShadesModel", name := "sums", desc := "(JII)J" } : Jvm.MethodName)) ∈ sm_GW := sm_w 1504 (by decide +kernel) (by decide +kernel)
theorem wd_1107 : (Jvm.Cond.code ({ cls := "LentShadesModel", name := "in", desc := "(JJJ)Z" } : Jvm.MethodName) prog_12_method_3_code (6 : Nat) (Option.some Jvm.ClassFile.FieldType.boolean)) ∈ sm_GW := sm_w 1107 (by decide +kernel) (by decide +kernel)
theorem wd_112 : (Jvm.Cond.initialized "LentShadesModel") ∈ sm_GW := sm_w 112 (by decide +kernel) (by decide +kernel)
theorem wd_1106 : (Jvm.Cond.static ({ cls := "LentShadesModel", name := "in", desc := "(JJJ)Z" } : Jvm.MethodName)) ∈ sm_GW := sm_w 1106 (by decide +kernel) (by decide +kernel)
theorem wd_1113 : (Jvm.Cond.code ({ cls := "LentShadesModel", name := "bad", desc := "(I)I" } : Jvm.MethodName) prog_12_method_4_code (2 : Nat) (Option.some Jvm.ClassFile.FieldType.int)) ∈ sm_GW := sm_w 1113 (by decide +kernel) (by decide +kernel)
theorem wd_1112 : (Jvm.Cond.instanceMethod ({ cls := "LentShadesModel", name := "bad", desc := "(I)I" } : Jvm.MethodName)) ∈ sm_GW := sm_w 1112 (by decide +kernel) (by decide +kernel)
theorem wd_36 : (Jvm.Cond.selects "LentShadesModel" ({ cls := "LentShadesModel", name := "bad", desc := "(I)I" } : Jvm.MethodName) ({ cls := "LentShadesModel", name := "bad", desc := "(I)I" } : Jvm.MethodName)) ∈ sm_GW := sm_w 36 (by decide +kernel) (by decide +kernel)
theorem wd_1268 : (Jvm.Cond.code ({ cls := "LentShadesModel", name := "no", desc := "()I" } : Jvm.MethodName) prog_12_method_5_code (1 : Nat) (Option.some Jvm.ClassFile.FieldType.int)) ∈ sm_GW := sm_w 1268 (by decide +kernel) (by decide +kernel)
theorem wd_1267 : (Jvm.Cond.instanceMethod ({ cls := "LentShadesModel", name := "no", desc := "()I" } : Jvm.MethodName)) ∈ sm_GW := sm_w 1267 (by decide +kernel) (by decide +kernel)
theorem wd_68 : (Jvm.Cond.selects "LentShadesModel" ({ cls := "LentShadesModel", name := "no", desc := "()I" } : Jvm.MethodName) ({ cls := "LentShadesModel", name := "no", desc := "()I" } : Jvm.MethodName)) ∈ sm_GW := sm_w 68 (by decide +kernel) (by decide +kernel)
theorem wd_1121 : (Jvm.Cond.code ({ cls := "LentShadesModel", name := "full", desc := "()I" } : Jvm.MethodName) prog_12_method_6_code (1 : Nat) (Option.some Jvm.ClassFile.FieldType.int)) ∈ sm_GW := sm_w 1121 (by decide +kernel) (by decide +kernel)
theorem wd_1120 : (Jvm.Cond.instanceMethod ({ cls := "LentShadesModel", name := "full", desc := "()I" } : Jvm.MethodName)) ∈ sm_GW := sm_w 1120 (by decide +kernel) (by decide +kernel)
theorem wd_38 : (Jvm.Cond.selects "LentShadesModel" ({ cls := "LentShadesModel", name := "full", desc := "()I" } : Jvm.MethodName) ({ cls := "LentShadesModel", name := "full", desc := "()I" } : Jvm.MethodName)) ∈ sm_GW := sm_w 38 (by decide +kernel) (by decide +kernel)
theorem wd_1001 : (Jvm.Cond.code ({ cls := "LentShadesModel", name := "set", desc := "(IJ)V" } : Jvm.MethodName) prog_12_method_7_code (6 : Nat) (Option.none : Option Jvm.ClassFile.FieldType)) ∈ sm_GW := sm_w 1001 (by decide +kernel) (by decide +kernel)
theorem wd_1000 : (Jvm.Cond.instanceMethod ({ cls := "LentShadesModel", name := "set", desc := "(IJ)V" } : Jvm.MethodName)) ∈ sm_GW := sm_w 1000 (by decide +kernel) (by decide +kernel)
theorem wd_35 : (Jvm.Cond.selects "LentShadesModel" ({ cls := "LentShadesModel", name := "set", desc := "(IJ)V" } : Jvm.MethodName) ({ cls := "LentShadesModel", name := "set", desc := "(IJ)V" } : Jvm.MethodName)) ∈ sm_GW := sm_w 35 (by decide +kernel) (by decide +kernel)
theorem wd_1129 : (Jvm.Cond.code ({ cls := "LentShadesModel", name := "copy", desc := "(II)V" } : Jvm.MethodName) prog_12_method_8_code (4 : Nat) (Option.none : Option Jvm.ClassFile.FieldType)) ∈ sm_GW := sm_w 1129 (by decide +kernel) (by decide +kernel)
theorem wd_1128 : (Jvm.Cond.instanceMethod ({ cls := "LentShadesModel", name := "copy", desc := "(II)V" } : Jvm.MethodName)) ∈ sm_GW := sm_w 1128 (by decide +kernel) (by decide +kernel)
theorem wd_40 : (Jvm.Cond.selects "LentShadesModel" ({ cls := "LentShadesModel", name := "copy", desc := "(II)V" } : Jvm.MethodName) ({ cls := "LentShadesModel", name := "copy", desc := "(II)V" } : Jvm.MethodName)) ∈ sm_GW := sm_w 40 (by decide +kernel) (by decide +kernel)
theorem wd_1137 : (Jvm.Cond.code ({ cls := "LentShadesModel", name := "trim", desc := "(I)V" } : Jvm.MethodName) prog_12_method_9_code (2 : Nat) (Option.none : Option Jvm.ClassFile.FieldType)) ∈ sm_GW := sm_w 1137 (by decide +kernel) (by decide +kernel)
theorem wd_1136 : (Jvm.Cond.instanceMethod ({ cls := "LentShadesModel", name := "trim", desc := "(I)V" } : Jvm.MethodName)) ∈ sm_GW := sm_w 1136 (by decide +kernel) (by decide +kernel)
theorem wd_42 : (Jvm.Cond.selects "LentShadesModel" ({ cls := "LentShadesModel", name := "trim", desc := "(I)V" } : Jvm.MethodName) ({ cls := "LentShadesModel", name := "trim", desc := "(I)V" } : Jvm.MethodName)) ∈ sm_GW := sm_w 42 (by decide +kernel) (by decide +kernel)
theorem wd_1133 : (Jvm.Cond.code ({ cls := "LentShadesModel", name := "times", desc := "(IJ)V" } : Jvm.MethodName) prog_12_method_10_code (9 : Nat) (Option.none : Option Jvm.ClassFile.FieldType)) ∈ sm_GW := sm_w 1133 (by decide +kernel) (by decide +kernel)
theorem wd_1132 : (Jvm.Cond.instanceMethod ({ cls := "LentShadesModel", name := "times", desc := "(IJ)V" } : Jvm.MethodName)) ∈ sm_GW := sm_w 1132 (by decide +kernel) (by decide +kernel)
theorem wd_41 : (Jvm.Cond.selects "LentShadesModel" ({ cls := "LentShadesModel", name := "times", desc := "(IJ)V" } : Jvm.MethodName) ({ cls := "LentShadesModel", name := "times", desc := "(IJ)V" } : Jvm.MethodName)) ∈ sm_GW := sm_w 41 (by decide +kernel) (by decide +kernel)
theorem wd_1227 : (Jvm.Cond.code ({ cls := "LentShadesModel", name := "compare", desc := "(II)I" } : Jvm.MethodName) prog_12_method_11_code (6 : Nat) (Option.some Jvm.ClassFile.FieldType.int)) ∈ sm_GW := sm_w 1227 (by decide +kernel) (by decide +kernel)
theorem wd_1226 : (Jvm.Cond.instanceMethod ({ cls := "LentShadesModel", name := "compare", desc := "(II)I" } : Jvm.MethodName)) ∈ sm_GW := sm_w 1226 (by decide +kernel) (by decide +kernel)
theorem wd_59 : (Jvm.Cond.selects "LentShadesModel" ({ cls := "LentShadesModel", name := "compare", desc := "(II)I" } : Jvm.MethodName) ({ cls := "LentShadesModel", name := "compare", desc := "(II)I" } : Jvm.MethodName)) ∈ sm_GW := sm_w 59 (by decide +kernel) (by decide +kernel)
theorem wd_1219 : (Jvm.Cond.code ({ cls := "LentShadesModel", name := "add", desc := "(II)V" } : Jvm.MethodName) prog_12_method_12_code (9 : Nat) (Option.none : Option Jvm.ClassFile.FieldType)) ∈ sm_GW := sm_w 1219 (by decide +kernel) (by decide +kernel)
theorem wd_1218 : (Jvm.Cond.instanceMethod ({ cls := "LentShadesModel", name := "add", desc := "(II)V" } : Jvm.MethodName)) ∈ sm_GW := sm_w 1218 (by decide +kernel) (by decide +kernel)
theorem wd_57 : (Jvm.Cond.selects "LentShadesModel" ({ cls := "LentShadesModel", name := "add", desc := "(II)V" } : Jvm.MethodName) ({ cls := "LentShadesModel", name := "add", desc := "(II)V" } : Jvm.MethodName)) ∈ sm_GW := sm_w 57 (by decide +kernel) (by decide +kernel)
theorem wd_1252 : (Jvm.Cond.code ({ cls := "LentShadesModel", name := "take", desc := "(II)V" } : Jvm.MethodName) prog_12_method_13_code (8 : Nat) (Option.none : Option Jvm.ClassFile.FieldType)) ∈ sm_GW := sm_w 1252 (by decide +kernel) (by decide +kernel)
theorem wd_1251 : (Jvm.Cond.instanceMethod ({ cls := "LentShadesModel", name := "take", desc := "(II)V" } : Jvm.MethodName)) ∈ sm_GW := sm_w 1251 (by decide +kernel) (by decide +kernel)
theorem wd_65 : (Jvm.Cond.selects "LentShadesModel" ({ cls := "LentShadesModel", name := "take", desc := "(II)V" } : Jvm.MethodName) ({ cls := "LentShadesModel", name := "take", desc := "(II)V" } : Jvm.MethodName)) ∈ sm_GW := sm_w 65 (by decide +kernel) (by decide +kernel)
theorem wd_1248 : (Jvm.Cond.code ({ cls := "LentShadesModel", name := "halve", desc := "(I)V" } : Jvm.MethodName) prog_12_method_14_code (7 : Nat) (Option.none : Option Jvm.ClassFile.FieldType)) ∈ sm_GW := sm_w 1248 (by decide +kernel) (by decide +kernel)
theorem wd_1247 : (Jvm.Cond.instanceMethod ({ cls := "LentShadesModel", name := "halve", desc := "(I)V" } : Jvm.MethodName)) ∈ sm_GW := sm_w 1247 (by decide +kernel) (by decide +kernel)
theorem wd_64 : (Jvm.Cond.selects "LentShadesModel" ({ cls := "LentShadesModel", name := "halve", desc := "(I)V" } : Jvm.MethodName) ({ cls := "LentShadesModel", name := "halve", desc := "(I)V" } : Jvm.MethodName)) ∈ sm_GW := sm_w 64 (by decide +kernel) (by decide +kernel)
theorem wd_1243 : (Jvm.Cond.code ({ cls := "LentShadesModel", name := "isEven", desc := "(I)Z" } : Jvm.MethodName) prog_12_method_15_code (2 : Nat) (Option.some Jvm.ClassFile.FieldType.boolean)) ∈ sm_GW := sm_w 1243 (by decide +kernel) (by decide +kernel)
theorem wd_1242 : (Jvm.Cond.instanceMethod ({ cls := "LentShadesModel", name := "isEven", desc := "(I)Z" } : Jvm.MethodName)) ∈ sm_GW := sm_w 1242 (by decide +kernel) (by decide +kernel)
theorem wd_63 : (Jvm.Cond.selects "LentShadesModel" ({ cls := "LentShadesModel", name := "isEven", desc := "(I)Z" } : Jvm.MethodName) ({ cls := "LentShadesModel", name := "isEven", desc := "(I)Z" } : Jvm.MethodName)) ∈ sm_GW := sm_w 63 (by decide +kernel) (by decide +kernel)
theorem wd_1239 : (Jvm.Cond.code ({ cls := "LentShadesModel", name := "findDivisor", desc := "(II)V" } : Jvm.MethodName) prog_12_method_16_code (5 : Nat) (Option.none : Option Jvm.ClassFile.FieldType)) ∈ sm_GW := sm_w 1239 (by decide +kernel) (by decide +kernel)
theorem wd_1238 : (Jvm.Cond.instanceMethod ({ cls := "LentShadesModel", name := "findDivisor", desc := "(II)V" } : Jvm.MethodName)) ∈ sm_GW := sm_w 1238 (by decide +kernel) (by decide +kernel)
theorem wd_62 : (Jvm.Cond.selects "LentShadesModel" ({ cls := "LentShadesModel", name := "findDivisor", desc := "(II)V" } : Jvm.MethodName) ({ cls := "LentShadesModel", name := "findDivisor", desc := "(II)V" } : Jvm.MethodName)) ∈ sm_GW := sm_w 62 (by decide +kernel) (by decide +kernel)
theorem wd_1260 : (Jvm.Cond.code ({ cls := "LentShadesModel", name := "addOne", desc := "()V" } : Jvm.MethodName) prog_12_method_18_code (1 : Nat) (Option.none : Option Jvm.ClassFile.FieldType)) ∈ sm_GW := sm_w 1260 (by decide +kernel) (by decide +kernel)
theorem wd_1259 : (Jvm.Cond.instanceMethod ({ cls := "LentShadesModel", name := "addOne", desc := "()V" } : Jvm.MethodName)) ∈ sm_GW := sm_w 1259 (by decide +kernel) (by decide +kernel)
theorem wd_67 : (Jvm.Cond.selects "LentShadesModel" ({ cls := "LentShadesModel", name := "addOne", desc := "()V" } : Jvm.MethodName) ({ cls := "LentShadesModel", name := "addOne", desc := "()V" } : Jvm.MethodName)) ∈ sm_GW := sm_w 67 (by decide +kernel) (by decide +kernel)
theorem wd_1256 : (Jvm.Cond.code ({ cls := "LentShadesModel", name := "divide", desc := "(I)V" } : Jvm.MethodName) prog_12_method_17_code (7 : Nat) (Option.none : Option Jvm.ClassFile.FieldType)) ∈ sm_GW := sm_w 1256 (by decide +kernel) (by decide +kernel)
theorem wd_1255 : (Jvm.Cond.instanceMethod ({ cls := "LentShadesModel", name := "divide", desc := "(I)V" } : Jvm.MethodName)) ∈ sm_GW := sm_w 1255 (by decide +kernel) (by decide +kernel)
theorem wd_66 : (Jvm.Cond.selects "LentShadesModel" ({ cls := "LentShadesModel", name := "divide", desc := "(I)V" } : Jvm.MethodName) ({ cls := "LentShadesModel", name := "divide", desc := "(I)V" } : Jvm.MethodName)) ∈ sm_GW := sm_w 66 (by decide +kernel) (by decide +kernel)
theorem wd_1235 : (Jvm.Cond.code ({ cls := "LentShadesModel", name := "tell", desc := "(IIZ)V" } : Jvm.MethodName) prog_12_method_19_code (4 : Nat) (Option.none : Option Jvm.ClassFile.FieldType)) ∈ sm_GW := sm_w 1235 (by decide +kernel) (by decide +kernel)
theorem wd_1234 : (Jvm.Cond.instanceMethod ({ cls := "LentShadesModel", name := "tell", desc := "(IIZ)V" } : Jvm.MethodName)) ∈ sm_GW := sm_w 1234 (by decide +kernel) (by decide +kernel)
theorem wd_61 : (Jvm.Cond.selects "LentShadesModel" ({ cls := "LentShadesModel", name := "tell", desc := "(IIZ)V" } : Jvm.MethodName) ({ cls := "LentShadesModel", name := "tell", desc := "(IIZ)V" } : Jvm.MethodName)) ∈ sm_GW := sm_w 61 (by decide +kernel) (by decide +kernel)
theorem wd_1117 : (Jvm.Cond.code ({ cls := "LentShadesModel", name := "cloths", desc := "()I" } : Jvm.MethodName) prog_12_method_21_code (1 : Nat) (Option.some Jvm.ClassFile.FieldType.int)) ∈ sm_GW := sm_w 1117 (by decide +kernel) (by decide +kernel)
theorem wd_1116 : (Jvm.Cond.instanceMethod ({ cls := "LentShadesModel", name := "cloths", desc := "()I" } : Jvm.MethodName)) ∈ sm_GW := sm_w 1116 (by decide +kernel) (by decide +kernel)
theorem wd_37 : (Jvm.Cond.selects "LentShadesModel" ({ cls := "LentShadesModel", name := "cloths", desc := "()I" } : Jvm.MethodName) ({ cls := "LentShadesModel", name := "cloths", desc := "()I" } : Jvm.MethodName)) ∈ sm_GW := sm_w 37 (by decide +kernel) (by decide +kernel)
theorem wd_1145 : (Jvm.Cond.code ({ cls := "LentShadesModel", name := "things", desc := "()I" } : Jvm.MethodName) prog_12_method_22_code (1 : Nat) (Option.some Jvm.ClassFile.FieldType.int)) ∈ sm_GW := sm_w 1145 (by decide +kernel) (by decide +kernel)
theorem wd_1144 : (Jvm.Cond.instanceMethod ({ cls := "LentShadesModel", name := "things", desc := "()I" } : Jvm.MethodName)) ∈ sm_GW := sm_w 1144 (by decide +kernel) (by decide +kernel)
theorem wd_43 : (Jvm.Cond.selects "LentShadesModel" ({ cls := "LentShadesModel", name := "things", desc := "()I" } : Jvm.MethodName) ({ cls := "LentShadesModel", name := "things", desc := "()I" } : Jvm.MethodName)) ∈ sm_GW := sm_w 43 (by decide +kernel) (by decide +kernel)
theorem wd_1157 : (Jvm.Cond.code ({ cls := "LentShadesModel", name := "isCloth", desc := "(I)Z" } : Jvm.MethodName) prog_12_method_23_code (2 : Nat) (Option.some Jvm.ClassFile.FieldType.boolean)) ∈ sm_GW := sm_w 1157 (by decide +kernel) (by decide +kernel)
theorem wd_1156 : (Jvm.Cond.instanceMethod ({ cls := "LentShadesModel", name := "isCloth", desc := "(I)Z" } : Jvm.MethodName)) ∈ sm_GW := sm_w 1156 (by decide +kernel) (by decide +kernel)
theorem wd_45 : (Jvm.Cond.selects "LentShadesModel" ({ cls := "LentShadesModel", name := "isCloth", desc := "(I)Z" } : Jvm.MethodName) ({ cls := "LentShadesModel", name := "isCloth", desc := "(I)Z" } : Jvm.MethodName)) ∈ sm_GW := sm_w 45 (by decide +kernel) (by decide +kernel)
theorem wd_1168 : (Jvm.Cond.code ({ cls := "LentShadesModel", name := "isThing", desc := "(I)Z" } : Jvm.MethodName) prog_12_method_24_code (2 : Nat) (Option.some Jvm.ClassFile.FieldType.boolean)) ∈ sm_GW := sm_w 1168 (by decide +kernel) (by decide +kernel)
theorem wd_1167 : (Jvm.Cond.instanceMethod ({ cls := "LentShadesModel", name := "isThing", desc := "(I)Z" } : Jvm.MethodName)) ∈ sm_GW := sm_w 1167 (by decide +kernel) (by decide +kernel)
theorem wd_46 : (Jvm.Cond.selects "LentShadesModel" ({ cls := "LentShadesModel", name := "isThing", desc := "(I)Z" } : Jvm.MethodName) ({ cls := "LentShadesModel", name := "isThing", desc := "(I)Z" } : Jvm.MethodName)) ∈ sm_GW := sm_w 46 (by decide +kernel) (by decide +kernel)
theorem wd_1153 : (Jvm.Cond.code ({ cls := "LentShadesModel", name := "isNumber", desc := "(I)Z" } : Jvm.MethodName) prog_12_method_25_code (2 : Nat) (Option.some Jvm.ClassFile.FieldType.boolean)) ∈ sm_GW := sm_w 1153 (by decide +kernel) (by decide +kernel)
theorem wd_1152 : (Jvm.Cond.instanceMethod ({ cls := "LentShadesModel", name := "isNumber", desc := "(I)Z" } : Jvm.MethodName)) ∈ sm_GW := sm_w 1152 (by decide +kernel) (by decide +kernel)
theorem wd_44 : (Jvm.Cond.selects "LentShadesModel" ({ cls := "LentShadesModel", name := "isNumber", desc := "(I)Z" } : Jvm.MethodName) ({ cls := "LentShadesModel", name := "isNumber", desc := "(I)Z" } : Jvm.MethodName)) ∈ sm_GW := sm_w 44 (by decide +kernel) (by decide +kernel)
theorem wd_1192 : (Jvm.Cond.code ({ cls := "LentShadesModel", name := "kindOf", desc := "(I)I" } : Jvm.MethodName) prog_12_method_26_code (2 : Nat) (Option.some Jvm.ClassFile.FieldType.int)) ∈ sm_GW := sm_w 1192 (by decide +kernel) (by decide +kernel)
theorem wd_1191 : (Jvm.Cond.instanceMethod ({ cls := "LentShadesModel", name := "kindOf", desc := "(I)I" } : Jvm.MethodName)) ∈ sm_GW := sm_w 1191 (by decide +kernel) (by decide +kernel)
theorem wd_51 : (Jvm.Cond.selects "LentShadesModel" ({ cls := "LentShadesModel", name := "kindOf", desc := "(I)I" } : Jvm.MethodName) ({ cls := "LentShadesModel", name := "kindOf", desc := "(I)I" } : Jvm.MethodName)) ∈ sm_GW := sm_w 51 (by decide +kernel) (by decide +kernel)
theorem wd_1125 : (Jvm.Cond.code ({ cls := "LentShadesModel", name := "layCloth", desc := "(III)V" } : Jvm.MethodName) prog_12_method_28_code (5 : Nat) (Option.none : Option Jvm.ClassFile.FieldType)) ∈ sm_GW := sm_w 1125 (by decide +kernel) (by decide +kernel)
theorem wd_1124 : (Jvm.Cond.instanceMethod ({ cls := "LentShadesModel", name := "layCloth", desc := "(III)V" } : Jvm.MethodName)) ∈ sm_GW := sm_w 1124 (by decide +kernel) (by decide +kernel)
theorem wd_39 : (Jvm.Cond.selects "LentShadesModel" ({ cls := "LentShadesModel", name := "layCloth", desc := "(III)V" } : Jvm.MethodName) ({ cls := "LentShadesModel", name := "layCloth", desc := "(III)V" } : Jvm.MethodName)) ∈ sm_GW := sm_w 39 (by decide +kernel) (by decide +kernel)
theorem wd_1103 : (Jvm.Cond.code ({ cls := "LentShadesModel", name := "cloth", desc := "(III)I" } : Jvm.MethodName) prog_12_method_27_code (5 : Nat) (Option.some Jvm.ClassFile.FieldType.int)) ∈ sm_GW := sm_w 1103 (by decide +kernel) (by decide +kernel)
theorem wd_1101 : (Jvm.Cond.instanceMethod ({ cls := "LentShadesModel", name := "cloth", desc := "(III)I" } : Jvm.MethodName)) ∈ sm_GW := sm_w 1101 (by decide +kernel) (by decide +kernel)
theorem wd_1102 : (Jvm.Cond.selects "LentShadesModel" ({ cls := "LentShadesModel", name := "cloth", desc := "(III)I" } : Jvm.MethodName) ({ cls := "LentShadesModel", name := "cloth", desc := "(III)I" } : Jvm.MethodName)) ∈ sm_GW := sm_w 1102 (by decide +kernel) (by decide +kernel)
theorem wd_1141 : (Jvm.Cond.code ({ cls := "LentShadesModel", name := "thing", desc := "(I)I" } : Jvm.MethodName) prog_12_method_29_code (3 : Nat) (Option.some Jvm.ClassFile.FieldType.int)) ∈ sm_GW := sm_w 1141 (by decide +kernel) (by decide +kernel)
theorem wd_1139 : (Jvm.Cond.instanceMethod ({ cls := "LentShadesModel", name := "thing", desc := "(I)I" } : Jvm.MethodName)) ∈ sm_GW := sm_w 1139 (by decide +kernel) (by decide +kernel)
theorem wd_1140 : (Jvm.Cond.selects "LentShadesModel" ({ cls := "LentShadesModel", name := "thing", desc := "(I)I" } : Jvm.MethodName) ({ cls := "LentShadesModel", name := "thing", desc := "(I)I" } : Jvm.MethodName)) ∈ sm_GW := sm_w 1140 (by decide +kernel) (by decide +kernel)
theorem wd_1160 : (Jvm.Cond.code ({ cls := "LentShadesModel", name := "putHours", desc := "([IIIII)V" } : Jvm.MethodName) prog_12_method_30_code (5 : Nat) (Option.none : Option Jvm.ClassFile.FieldType)) ∈ sm_GW := sm_w 1160 (by decide +kernel) (by decide +kernel)
theorem wd_1159 : (Jvm.Cond.static ({ cls := "LentShadesModel", name := "putHours", desc := "([IIIII)V" } : Jvm.MethodName)) ∈ sm_GW := sm_w 1159 (by decide +kernel) (by decide +kernel)
theorem wd_1149 : (Jvm.Cond.code ({ cls := "LentShadesModel", name := "touch", desc := "(III)I" } : Jvm.MethodName) prog_12_method_31_code (5 : Nat) (Option.some Jvm.ClassFile.FieldType.int)) ∈ sm_GW := sm_w 1149 (by decide +kernel) (by decide +kernel)
theorem wd_1147 : (Jvm.Cond.instanceMethod ({ cls := "LentShadesModel", name := "touch", desc := "(III)I" } : Jvm.MethodName)) ∈ sm_GW := sm_w 1147 (by decide +kernel) (by decide +kernel)
theorem wd_1148 : (Jvm.Cond.selects "LentShadesModel" ({ cls := "LentShadesModel", name := "touch", desc := "(III)I" } : Jvm.MethodName) ({ cls := "LentShadesModel", name := "touch", desc := "(III)I" } : Jvm.MethodName)) ∈ sm_GW := sm_w 1148 (by decide +kernel) (by decide +kernel)
theorem wd_1164 : (Jvm.Cond.code ({ cls := "LentShadesModel", name := "colour", desc := "(II)I" } : Jvm.MethodName) prog_12_method_32_code (4 : Nat) (Option.some Jvm.ClassFile.FieldType.int)) ∈ sm_GW := sm_w 1164 (by decide +kernel) (by decide +kernel)
theorem wd_1162 : (Jvm.Cond.instanceMethod ({ cls := "LentShadesModel", name := "colour", desc := "(II)I" } : Jvm.MethodName)) ∈ sm_GW := sm_w 1162 (by decide +kernel) (by decide +kernel)
theorem wd_1163 : (Jvm.Cond.selects "LentShadesModel" ({ cls := "LentShadesModel", name := "colour", desc := "(II)I" } : Jvm.MethodName) ({ cls := "LentShadesModel", name := "colour", desc := "(II)I" } : Jvm.MethodName)) ∈ sm_GW := sm_w 1163 (by decide +kernel) (by decide +kernel)
theorem wd_1176 : (Jvm.Cond.code ({ cls := "LentShadesModel", name := "takeNow", desc := "()V" } : Jvm.MethodName) prog_12_method_33_code (2 : Nat) (Option.none : Option Jvm.ClassFile.FieldType)) ∈ sm_GW := sm_w 1176 (by decide +kernel) (by decide +kernel)
theorem wd_1175 : (Jvm.Cond.instanceMethod ({ cls := "LentShadesModel", name := "takeNow", desc := "()V" } : Jvm.MethodName)) ∈ sm_GW := sm_w 1175 (by decide +kernel) (by decide +kernel)
theorem wd_47 : (Jvm.Cond.selects "LentShadesModel" ({ cls := "LentShadesModel", name := "takeNow", desc := "()V" } : Jvm.MethodName) ({ cls := "LentShadesModel", name := "takeNow", desc := "()V" } : Jvm.MethodName)) ∈ sm_GW := sm_w 47 (by decide +kernel) (by decide +kernel)
theorem wd_1204 : (Jvm.Cond.code ({ cls := "LentShadesModel", name := "gives", desc := "(I)Z" } : Jvm.MethodName) prog_12_method_34_code (2 : Nat) (Option.some Jvm.ClassFile.FieldType.boolean)) ∈ sm_GW := sm_w 1204 (by decide +kernel) (by decide +kernel)
theorem wd_1203 : (Jvm.Cond.instanceMethod ({ cls := "LentShadesModel", name := "gives", desc := "(I)Z" } : Jvm.MethodName)) ∈ sm_GW := sm_w 1203 (by decide +kernel) (by decide +kernel)
theorem wd_54 : (Jvm.Cond.selects "LentShadesModel" ({ cls := "LentShadesModel", name := "gives", desc := "(I)Z" } : Jvm.MethodName) ({ cls := "LentShadesModel", name := "gives", desc := "(I)Z" } : Jvm.MethodName)) ∈ sm_GW := sm_w 54 (by decide +kernel) (by decide +kernel)
theorem wd_1200 : (Jvm.Cond.code ({ cls := "LentShadesModel", name := "takes", desc := "(II)I" } : Jvm.MethodName) prog_12_method_35_code (5 : Nat) (Option.some Jvm.ClassFile.FieldType.int)) ∈ sm_GW := sm_w 1200 (by decide +kernel) (by decide +kernel)
theorem wd_1199 : (Jvm.Cond.instanceMethod ({ cls := "LentShadesModel", name := "takes", desc := "(II)I" } : Jvm.MethodName)) ∈ sm_GW := sm_w 1199 (by decide +kernel) (by decide +kernel)
theorem wd_53 : (Jvm.Cond.selects "LentShadesModel" ({ cls := "LentShadesModel", name := "takes", desc := "(II)I" } : Jvm.MethodName) ({ cls := "LentShadesModel", name := "takes", desc := "(II)I" } : Jvm.MethodName)) ∈ sm_GW := sm_w 53 (by decide +kernel) (by decide +kernel)
theorem wd_1196 : (Jvm.Cond.code ({ cls := "LentShadesModel", name := "takesAll", desc := "(I)I" } : Jvm.MethodName) prog_12_method_36_code (4 : Nat) (Option.some Jvm.ClassFile.FieldType.int)) ∈ sm_GW := sm_w 1196 (by decide +kernel) (by decide +kernel)
theorem wd_1195 : (Jvm.Cond.instanceMethod ({ cls := "LentShadesModel", name := "takesAll", desc := "(I)I" } : Jvm.MethodName)) ∈ sm_GW := sm_w 1195 (by decide +kernel) (by decide +kernel)
theorem wd_52 : (Jvm.Cond.selects "LentShadesModel" ({ cls := "LentShadesModel", name := "takesAll", desc := "(I)I" } : Jvm.MethodName) ({ cls := "LentShadesModel", name := "takesAll", desc := "(I)I" } : Jvm.MethodName)) ∈ sm_GW := sm_w 52 (by decide +kernel) (by decide +kernel)
theorem wd_1215 : (Jvm.Cond.code ({ cls := "LentShadesModel", name := "lay", desc := "(II)V" } : Jvm.MethodName) prog_12_method_37_code (3 : Nat) (Option.none : Option Jvm.ClassFile.FieldType)) ∈ sm_GW := sm_w 1215 (by decide +kernel) (by decide +kernel)
theorem wd_1214 : (Jvm.Cond.instanceMethod ({ cls := "LentShadesModel", name := "lay", desc := "(II)V" } : Jvm.MethodName)) ∈ sm_GW := sm_w 1214 (by decide +kernel) (by decide +kernel)
theorem wd_56 : (Jvm.Cond.selects "LentShadesModel" ({ cls := "LentShadesModel", name := "lay", desc := "(II)V" } : Jvm.MethodName) ({ cls := "LentShadesModel", name := "lay", desc := "(II)V" } : Jvm.MethodName)) ∈ sm_GW := sm_w 56 (by decide +kernel) (by decide +kernel)
theorem wd_1207 : (Jvm.Cond.code ({ cls := "LentShadesModel", name := "divisor", desc := "(II)I" } : Jvm.MethodName) prog_12_method_38_code (5 : Nat) (Option.some Jvm.ClassFile.FieldType.int)) ∈ sm_GW := sm_w 1207 (by decide +kernel) (by decide +kernel)
theorem wd_1206 : (Jvm.Cond.static ({ cls := "LentShadesModel", name := "divisor", desc := "(II)I" } : Jvm.MethodName)) ∈ sm_GW := sm_w 1206 (by decide +kernel) (by decide +kernel)
theorem wd_1188 : (Jvm.Cond.code ({ cls := "LentShadesModel", name := "isMean", desc := "(I)Z" } : Jvm.MethodName) prog_12_method_39_code (2 : Nat) (Option.some Jvm.ClassFile.FieldType.boolean)) ∈ sm_GW := sm_w 1188 (by decide +kernel) (by decide +kernel)
theorem wd_1187 : (Jvm.Cond.instanceMethod ({ cls := "LentShadesModel", name := "isMean", desc := "(I)Z" } : Jvm.MethodName)) ∈ sm_GW := sm_w 1187 (by decide +kernel) (by decide +kernel)
theorem wd_50 : (Jvm.Cond.selects "LentShadesModel" ({ cls := "LentShadesModel", name := "isMean", desc := "(I)Z" } : Jvm.MethodName) ({ cls := "LentShadesModel", name := "isMean", desc := "(I)Z" } : Jvm.MethodName)) ∈ sm_GW := sm_w 50 (by decide +kernel) (by decide +kernel)
theorem wd_1211 : (Jvm.Cond.code ({ cls := "LentShadesModel", name := "layMean", desc := "(II)V" } : Jvm.MethodName) prog_12_method_40_code (4 : Nat) (Option.none : Option Jvm.ClassFile.FieldType)) ∈ sm_GW := sm_w 1211 (by decide +kernel) (by decide +kernel)
theorem wd_1210 : (Jvm.Cond.instanceMethod ({ cls := "LentShadesModel", name := "layMean", desc := "(II)V" } : Jvm.MethodName)) ∈ sm_GW := sm_w 1210 (by decide +kernel) (by decide +kernel)
theorem wd_55 : (Jvm.Cond.selects "LentShadesModel" ({ cls := "LentShadesModel", name := "layMean", desc := "(II)V" } : Jvm.MethodName) ({ cls := "LentShadesModel", name := "layMean", desc := "(II)V" } : Jvm.MethodName)) ∈ sm_GW := sm_w 55 (by decide +kernel) (by decide +kernel)
theorem wd_1223 : (Jvm.Cond.code ({ cls := "LentShadesModel", name := "layGreatest", desc := "(II)V" } : Jvm.MethodName) prog_12_method_41_code (6 : Nat) (Option.none : Option Jvm.ClassFile.FieldType)) ∈ sm_GW := sm_w 1223 (by decide +kernel) (by decide +kernel)
theorem wd_1222 : (Jvm.Cond.instanceMethod ({ cls := "LentShadesModel", name := "layGreatest", desc := "(II)V" } : Jvm.MethodName)) ∈ sm_GW := sm_w 1222 (by decide +kernel) (by decide +kernel)
theorem wd_58 : (Jvm.Cond.selects "LentShadesModel" ({ cls := "LentShadesModel", name := "layGreatest", desc := "(II)V" } : Jvm.MethodName) ({ cls := "LentShadesModel", name := "layGreatest", desc := "(II)V" } : Jvm.MethodName)) ∈ sm_GW := sm_w 58 (by decide +kernel) (by decide +kernel)
theorem wd_1184 : (Jvm.Cond.code ({ cls := "LentShadesModel", name := "night", desc := "()V" } : Jvm.MethodName) prog_12_method_42_code (4 : Nat) (Option.none : Option Jvm.ClassFile.FieldType)) ∈ sm_GW := sm_w 1184 (by decide +kernel) (by decide +kernel)
theorem wd_1183 : (Jvm.Cond.instanceMethod ({ cls := "LentShadesModel", name := "night", desc := "()V" } : Jvm.MethodName)) ∈ sm_GW := sm_w 1183 (by decide +kernel) (by decide +kernel)
theorem wd_49 : (Jvm.Cond.selects "LentShadesModel" ({ cls := "LentShadesModel", name := "night", desc := "()V" } : Jvm.MethodName) ({ cls := "LentShadesModel", name := "night", desc := "()V" } : Jvm.MethodName)) ∈ sm_GW := sm_w 49 (by decide +kernel) (by decide +kernel)
theorem wd_1180 : (Jvm.Cond.code ({ cls := "LentShadesModel", name := "nights", desc := "(I)V" } : Jvm.MethodName) prog_12_method_43_code (3 : Nat) (Option.none : Option Jvm.ClassFile.FieldType)) ∈ sm_GW := sm_w 1180 (by decide +kernel) (by decide +kernel)
theorem wd_1179 : (Jvm.Cond.instanceMethod ({ cls := "LentShadesModel", name := "nights", desc := "(I)V" } : Jvm.MethodName)) ∈ sm_GW := sm_w 1179 (by decide +kernel) (by decide +kernel)
theorem wd_48 : (Jvm.Cond.selects "LentShadesModel" ({ cls := "LentShadesModel", name := "nights", desc := "(I)V" } : Jvm.MethodName) ({ cls := "LentShadesModel", name := "nights", desc := "(I)V" } : Jvm.MethodName)) ∈ sm_GW := sm_w 48 (by decide +kernel) (by decide +kernel)
theorem wd_1284 : (Jvm.Cond.code ({ cls := "LentShadesModel", name := "hasLeast", desc := "(II)Z" } : Jvm.MethodName) prog_12_method_44_code (3 : Nat) (Option.some Jvm.ClassFile.FieldType.boolean)) ∈ sm_GW := sm_w 1284 (by decide +kernel) (by decide +kernel)
theorem wd_1283 : (Jvm.Cond.instanceMethod ({ cls := "LentShadesModel", name := "hasLeast", desc := "(II)Z" } : Jvm.MethodName)) ∈ sm_GW := sm_w 1283 (by decide +kernel) (by decide +kernel)
theorem wd_70 : (Jvm.Cond.selects "LentShadesModel" ({ cls := "LentShadesModel", name := "hasLeast", desc := "(II)Z" } : Jvm.MethodName) ({ cls := "LentShadesModel", name := "hasLeast", desc := "(II)Z" } : Jvm.MethodName)) ∈ sm_GW := sm_w 70 (by decide +kernel) (by decide +kernel)
theorem wd_1324 : (Jvm.Cond.code ({ cls := "LentShadesModel", name := "hasMost", desc := "(II)Z" } : Jvm.MethodName) prog_12_method_45_code (3 : Nat) (Option.some Jvm.ClassFile.FieldType.boolean)) ∈ sm_GW := sm_w 1324 (by decide +kernel) (by decide +kernel)
theorem wd_1323 : (Jvm.Cond.instanceMethod ({ cls := "LentShadesModel", name := "hasMost", desc := "(II)Z" } : Jvm.MethodName)) ∈ sm_GW := sm_w 1323 (by decide +kernel) (by decide +kernel)
theorem wd_78 : (Jvm.Cond.selects "LentShadesModel" ({ cls := "LentShadesModel", name := "hasMost", desc := "(II)Z" } : Jvm.MethodName) ({ cls := "LentShadesModel", name := "hasMost", desc := "(II)Z" } : Jvm.MethodName)) ∈ sm_GW := sm_w 78 (by decide +kernel) (by decide +kernel)
theorem wd_1231 : (Jvm.Cond.code ({ cls := "LentShadesModel", name := "tellOver", desc := "(IJ)I" } : Jvm.MethodName) prog_12_method_46_code (4 : Nat) (Option.some Jvm.ClassFile.FieldType.int)) ∈ sm_GW := sm_w 1231 (by decide +kernel) (by decide +kernel)
theorem wd_1230 : (Jvm.Cond.instanceMethod ({ cls := "LentShadesModel", name := "tellOver", desc := "(IJ)I" } : Jvm.MethodName)) ∈ sm_GW := sm_w 1230 (by decide +kernel) (by decide +kernel)
theorem wd_60 : (Jvm.Cond.selects "LentShadesModel" ({ cls := "LentShadesModel", name := "tellOver", desc := "(IJ)I" } : Jvm.MethodName) ({ cls := "LentShadesModel", name := "tellOver", desc := "(IJ)I" } : Jvm.MethodName)) ∈ sm_GW := sm_w 60 (by decide +kernel) (by decide +kernel)
theorem wd_1172 : (Jvm.Cond.code ({ cls := "LentShadesModel", name := "shade", desc := "(II)I" } : Jvm.MethodName) prog_12_method_47_code (3 : Nat) (Option.some Jvm.ClassFile.FieldType.int)) ∈ sm_GW := sm_w 1172 (by decide +kernel) (by decide +kernel)
theorem wd_1170 : (Jvm.Cond.instanceMethod ({ cls := "LentShadesModel", name := "shade", desc := "(II)I" } : Jvm.MethodName)) ∈ sm_GW := sm_w 1170 (by decide +kernel) (by decide +kernel)
theorem wd_1171 : (Jvm.Cond.selects "LentShadesModel" ({ cls := "LentShadesModel", name := "shade", desc := "(II)I" } : Jvm.MethodName) ({ cls := "LentShadesModel", name := "shade", desc := "(II)I" } : Jvm.MethodName)) ∈ sm_GW := sm_w 1171 (by decide +kernel) (by decide +kernel)
theorem wd_1272 : (Jvm.Cond.code ({ cls := "LentShadesModel", name := "copyState", desc := "(II)V" } : Jvm.MethodName) prog_12_method_48_code (4 : Nat) (Option.none : Option Jvm.ClassFile.FieldType)) ∈ sm_GW := sm_w 1272 (by decide +kernel) (by decide +kernel)
theorem wd_1271 : (Jvm.Cond.instanceMethod ({ cls := "LentShadesModel", name := "copyState", desc := "(II)V" } : Jvm.MethodName)) ∈ sm_GW := sm_w 1271 (by decide +kernel) (by decide +kernel)
theorem wd_69 : (Jvm.Cond.selects "LentShadesModel" ({ cls := "LentShadesModel", name := "copyState", desc := "(II)V" } : Jvm.MethodName) ({ cls := "LentShadesModel", name := "copyState", desc := "(II)V" } : Jvm.MethodName)) ∈ sm_GW := sm_w 69 (by decide +kernel) (by decide +kernel)
theorem wd_1264 : (Jvm.Cond.code ({ cls := "LentShadesModel", name := "sleep", desc := "()I" } : Jvm.MethodName) prog_12_method_49_code (2 : Nat) (Option.some Jvm.ClassFile.FieldType.int)) ∈ sm_GW := sm_w 1264 (by decide +kernel) (by decide +kernel)
theorem wd_1262 : (Jvm.Cond.instanceMethod ({ cls := "LentShadesModel", name := "sleep", desc := "()I" } : Jvm.MethodName)) ∈ sm_GW := sm_w 1262 (by decide +kernel) (by decide +kernel)
theorem wd_1263 : (Jvm.Cond.selects "LentShadesModel" ({ cls := "LentShadesModel", name := "sleep", desc := "()I" } : Jvm.MethodName) ({ cls := "LentShadesModel", name := "sleep", desc := "()I" } : Jvm.MethodName)) ∈ sm_GW := sm_w 1263 (by decide +kernel) (by decide +kernel)
theorem wd_1276 : (Jvm.Cond.code ({ cls := "LentShadesModel", name := "undo", desc := "()I" } : Jvm.MethodName) prog_12_method_50_code (1 : Nat) (Option.some Jvm.ClassFile.FieldType.int)) ∈ sm_GW := sm_w 1276 (by decide +kernel) (by decide +kernel)
theorem wd_1274 : (Jvm.Cond.instanceMethod ({ cls := "LentShadesModel", name := "undo", desc := "()I" } : Jvm.MethodName)) ∈ sm_GW := sm_w 1274 (by decide +kernel) (by decide +kernel)
theorem wd_1275 : (Jvm.Cond.selects "LentShadesModel" ({ cls := "LentShadesModel", name := "undo", desc := "()I" } : Jvm.MethodName) ({ cls := "LentShadesModel", name := "undo", desc := "()I" } : Jvm.MethodName)) ∈ sm_GW := sm_w 1275 (by decide +kernel) (by decide +kernel)
theorem wd_1280 : (Jvm.Cond.code ({ cls := "LentShadesModel", name := "soRed", desc := "(II)I" } : Jvm.MethodName) prog_12_method_51_code (4 : Nat) (Option.some Jvm.ClassFile.FieldType.int)) ∈ sm_GW := sm_w 1280 (by decide +kernel) (by decide +kernel)
theorem wd_1278 : (Jvm.Cond.instanceMethod ({ cls := "LentShadesModel", name := "soRed", desc := "(II)I" } : Jvm.MethodName)) ∈ sm_GW := sm_w 1278 (by decide +kernel) (by decide +kernel)
theorem wd_1279 : (Jvm.Cond.selects "LentShadesModel" ({ cls := "LentShadesModel", name := "soRed", desc := "(II)I" } : Jvm.MethodName) ({ cls := "LentShadesModel", name := "soRed", desc := "(II)I" } : Jvm.MethodName)) ∈ sm_GW := sm_w 1279 (by decide +kernel) (by decide +kernel)
theorem wd_1296 : (Jvm.Cond.code ({ cls := "LentShadesModel", name := "layRows", desc := "()V" } : Jvm.MethodName) prog_12_method_52_code (4 : Nat) (Option.none : Option Jvm.ClassFile.FieldType)) ∈ sm_GW := sm_w 1296 (by decide +kernel) (by decide +kernel)
theorem wd_1295 : (Jvm.Cond.instanceMethod ({ cls := "LentShadesModel", name := "layRows", desc := "()V" } : Jvm.MethodName)) ∈ sm_GW := sm_w 1295 (by decide +kernel) (by decide +kernel)
theorem wd_72 : (Jvm.Cond.selects "LentShadesModel" ({ cls := "LentShadesModel", name := "layRows", desc := "()V" } : Jvm.MethodName) ({ cls := "LentShadesModel", name := "layRows", desc := "()V" } : Jvm.MethodName)) ∈ sm_GW := sm_w 72 (by decide +kernel) (by decide +kernel)
theorem wd_1304 : (Jvm.Cond.code ({ cls := "LentShadesModel", name := "productBy", desc := "(II)J" } : Jvm.MethodName) prog_12_method_54_code (8 : Nat) (Option.some Jvm.ClassFile.FieldType.long)) ∈ sm_GW := sm_w 1304 (by decide +kernel) (by decide +kernel)
theorem wd_1303 : (Jvm.Cond.instanceMethod ({ cls := "LentShadesModel", name := "productBy", desc := "(II)J" } : Jvm.MethodName)) ∈ sm_GW := sm_w 1303 (by decide +kernel) (by decide +kernel)
theorem wd_74 : (Jvm.Cond.selects "LentShadesModel" ({ cls := "LentShadesModel", name := "productBy", desc := "(II)J" } : Jvm.MethodName) ({ cls := "LentShadesModel", name := "productBy", desc := "(II)J" } : Jvm.MethodName)) ∈ sm_GW := sm_w 74 (by decide +kernel) (by decide +kernel)
theorem wd_1300 : (Jvm.Cond.code ({ cls := "LentShadesModel", name := "whole", desc := "(II)J" } : Jvm.MethodName) prog_12_method_53_code (8 : Nat) (Option.some Jvm.ClassFile.FieldType.long)) ∈ sm_GW := sm_w 1300 (by decide +kernel) (by decide +kernel)
theorem wd_1299 : (Jvm.Cond.instanceMethod ({ cls := "LentShadesModel", name := "whole", desc := "(II)J" } : Jvm.MethodName)) ∈ sm_GW := sm_w 1299 (by decide +kernel) (by decide +kernel)
theorem wd_73 : (Jvm.Cond.selects "LentShadesModel" ({ cls := "LentShadesModel", name := "whole", desc := "(II)J" } : Jvm.MethodName) ({ cls := "LentShadesModel", name := "whole", desc := "(II)J" } : Jvm.MethodName)) ∈ sm_GW := sm_w 73 (by decide +kernel) (by decide +kernel)
theorem wd_1292 : (Jvm.Cond.code ({ cls := "LentShadesModel", name := "isAnyVain", desc := "()Z" } : Jvm.MethodName) prog_12_method_55_code (3 : Nat) (Option.some Jvm.ClassFile.FieldType.boolean)) ∈ sm_GW := sm_w 1292 (by decide +kernel) (by decide +kernel)
theorem wd_1291 : (Jvm.Cond.instanceMethod ({ cls := "LentShadesModel", name := "isAnyVain", desc := "()Z" } : Jvm.MethodName)) ∈ sm_GW := sm_w 1291 (by decide +kernel) (by decide +kernel)
theorem wd_71 : (Jvm.Cond.selects "LentShadesModel" ({ cls := "LentShadesModel", name := "isAnyVain", desc := "()Z" } : Jvm.MethodName) ({ cls := "LentShadesModel", name := "isAnyVain", desc := "()Z" } : Jvm.MethodName)) ∈ sm_GW := sm_w 71 (by decide +kernel) (by decide +kernel)
theorem wd_1308 : (Jvm.Cond.code ({ cls := "LentShadesModel", name := "layFixed", desc := "(I)V" } : Jvm.MethodName) prog_12_method_56_code (3 : Nat) (Option.none : Option Jvm.ClassFile.FieldType)) ∈ sm_GW := sm_w 1308 (by decide +kernel) (by decide +kernel)
theorem wd_1307 : (Jvm.Cond.instanceMethod ({ cls := "LentShadesModel", name := "layFixed", desc := "(I)V" } : Jvm.MethodName)) ∈ sm_GW := sm_w 1307 (by decide +kernel) (by decide +kernel)
theorem wd_75 : (Jvm.Cond.selects "LentShadesModel" ({ cls := "LentShadesModel", name := "layFixed", desc := "(I)V" } : Jvm.MethodName) ({ cls := "LentShadesModel", name := "layFixed", desc := "(I)V" } : Jvm.MethodName)) ∈ sm_GW := sm_w 75 (by decide +kernel) (by decide +kernel)
theorem wd_1288 : (Jvm.Cond.code ({ cls := "LentShadesModel", name := "rest", desc := "(I)I" } : Jvm.MethodName) prog_12_method_57_code (7 : Nat) (Option.some Jvm.ClassFile.FieldType.int)) ∈ sm_GW := sm_w 1288 (by decide +kernel) (by decide +kernel)
theorem wd_1286 : (Jvm.Cond.instanceMethod ({ cls := "LentShadesModel", name := "rest", desc := "(I)I" } : Jvm.MethodName)) ∈ sm_GW := sm_w 1286 (by decide +kernel) (by decide +kernel)
theorem wd_1287 : (Jvm.Cond.selects "LentShadesModel" ({ cls := "LentShadesModel", name := "rest", desc := "(I)I" } : Jvm.MethodName) ({ cls := "LentShadesModel", name := "rest", desc := "(I)I" } : Jvm.MethodName)) ∈ sm_GW := sm_w 1287 (by decide +kernel) (by decide +kernel)
theorem wd_1328 : (Jvm.Cond.code ({ cls := "LentShadesModel", name := "findPairs", desc := "()V" } : Jvm.MethodName) prog_12_method_58_code (3 : Nat) (Option.none : Option Jvm.ClassFile.FieldType)) ∈ sm_GW := sm_w 1328 (by decide +kernel) (by decide +kernel)
theorem wd_1327 : (Jvm.Cond.instanceMethod ({ cls := "LentShadesModel", name := "findPairs", desc := "()V" } : Jvm.MethodName)) ∈ sm_GW := sm_w 1327 (by decide +kernel) (by decide +kernel)
theorem wd_79 : (Jvm.Cond.selects "LentShadesModel" ({ cls := "LentShadesModel", name := "findPairs", desc := "()V" } : Jvm.MethodName) ({ cls := "LentShadesModel", name := "findPairs", desc := "()V" } : Jvm.MethodName)) ∈ sm_GW := sm_w 79 (by decide +kernel) (by decide +kernel)
theorem wd_1320 : (Jvm.Cond.code ({ cls := "LentShadesModel", name := "comesSo", desc := "(IIIIII)Z" } : Jvm.MethodName) prog_12_method_59_code (7 : Nat) (Option.some Jvm.ClassFile.FieldType.boolean)) ∈ sm_GW := sm_w 1320 (by decide +kernel) (by decide +kernel)
theorem wd_1319 : (Jvm.Cond.instanceMethod ({ cls := "LentShadesModel", name := "comesSo", desc := "(IIIIII)Z" } : Jvm.MethodName)) ∈ sm_GW := sm_w 1319 (by decide +kernel) (by decide +kernel)
theorem wd_77 : (Jvm.Cond.selects "LentShadesModel" ({ cls := "LentShadesModel", name := "comesSo", desc := "(IIIIII)Z" } : Jvm.MethodName) ({ cls := "LentShadesModel", name := "comesSo", desc := "(IIIIII)Z" } : Jvm.MethodName)) ∈ sm_GW := sm_w 77 (by decide +kernel) (by decide +kernel)
theorem wd_1316 : (Jvm.Cond.code ({ cls := "LentShadesModel", name := "findMoves", desc := "(IIII)I" } : Jvm.MethodName) prog_12_method_60_code (7 : Nat) (Option.some Jvm.ClassFile.FieldType.int)) ∈ sm_GW := sm_w 1316 (by decide +kernel) (by decide +kernel)
theorem wd_1315 : (Jvm.Cond.instanceMethod ({ cls := "LentShadesModel", name := "findMoves", desc := "(IIII)I" } : Jvm.MethodName)) ∈ sm_GW := sm_w 1315 (by decide +kernel) (by decide +kernel)
theorem wd_76 : (Jvm.Cond.selects "LentShadesModel" ({ cls := "LentShadesModel", name := "findMoves", desc := "(IIII)I" } : Jvm.MethodName) ({ cls := "LentShadesModel", name := "findMoves", desc := "(IIII)I" } : Jvm.MethodName)) ∈ sm_GW := sm_w 76 (by decide +kernel) (by decide +kernel)
theorem wd_1332 : (Jvm.Cond.code ({ cls := "LentShadesModel", name := "tellMove", desc := "(I)I" } : Jvm.MethodName) prog_12_method_61_code (2 : Nat) (Option.some Jvm.ClassFile.FieldType.int)) ∈ sm_GW := sm_w 1332 (by decide +kernel) (by decide +kernel)
theorem wd_1331 : (Jvm.Cond.instanceMethod ({ cls := "LentShadesModel", name := "tellMove", desc := "(I)I" } : Jvm.MethodName)) ∈ sm_GW := sm_w 1331 (by decide +kernel) (by decide +kernel)
theorem wd_80 : (Jvm.Cond.selects "LentShadesModel" ({ cls := "LentShadesModel", name := "tellMove", desc := "(I)I" } : Jvm.MethodName) ({ cls := "LentShadesModel", name := "tellMove", desc := "(I)I" } : Jvm.MethodName)) ∈ sm_GW := sm_w 80 (by decide +kernel) (by decide +kernel)
theorem wd_1312 : (Jvm.Cond.code ({ cls := "LentShadesModel", name := "moves", desc := "(IIIII)I" } : Jvm.MethodName) prog_12_method_62_code (7 : Nat) (Option.some Jvm.ClassFile.FieldType.int)) ∈ sm_GW := sm_w 1312 (by decide +kernel) (by decide +kernel)
theorem wd_1310 : (Jvm.Cond.instanceMethod ({ cls := "LentShadesModel", name := "moves", desc := "(IIIII)I" } : Jvm.MethodName)) ∈ sm_GW := sm_w 1310 (by decide +kernel) (by decide +kernel)
theorem wd_1311 : (Jvm.Cond.selects "LentShadesModel" ({ cls := "LentShadesModel", name := "moves", desc := "(IIIII)I" } : Jvm.MethodName) ({ cls := "LentShadesModel", name := "moves", desc := "(IIIII)I" } : Jvm.MethodName)) ∈ sm_GW := sm_w 1311 (by decide +kernel) (by decide +kernel)
theorem wd_1336 : (Jvm.Cond.code ({ cls := "LentShadesModel", name := "bound", desc := "(III)I" } : Jvm.MethodName) prog_12_method_63_code (4 : Nat) (Option.some Jvm.ClassFile.FieldType.int)) ∈ sm_GW := sm_w 1336 (by decide +kernel) (by decide +kernel)
theorem wd_1334 : (Jvm.Cond.instanceMethod ({ cls := "LentShadesModel", name := "bound", desc := "(III)I" } : Jvm.MethodName)) ∈ sm_GW := sm_w 1334 (by decide +kernel) (by decide +kernel)
theorem wd_1335 : (Jvm.Cond.selects "LentShadesModel" ({ cls := "LentShadesModel", name := "bound", desc := "(III)I" } : Jvm.MethodName) ({ cls := "LentShadesModel", name := "bound", desc := "(III)I" } : Jvm.MethodName)) ∈ sm_GW := sm_w 1335 (by decide +kernel) (by decide +kernel)
theorem wd_1344 : (Jvm.Cond.code ({ cls := "LentShadesModel", name := "layOrder", desc := "(I)Z" } : Jvm.MethodName) prog_12_method_64_code (6 : Nat) (Option.some Jvm.ClassFile.FieldType.boolean)) ∈ sm_GW := sm_w 1344 (by decide +kernel) (by decide +kernel)
theorem wd_1343 : (Jvm.Cond.instanceMethod ({ cls := "LentShadesModel", name := "layOrder", desc := "(I)Z" } : Jvm.MethodName)) ∈ sm_GW := sm_w 1343 (by decide +kernel) (by decide +kernel)
theorem wd_81 : (Jvm.Cond.selects "LentShadesModel" ({ cls := "LentShadesModel", name := "layOrder", desc := "(I)Z" } : Jvm.MethodName) ({ cls := "LentShadesModel", name := "layOrder", desc := "(I)Z" } : Jvm.MethodName)) ∈ sm_GW := sm_w 81 (by decide +kernel) (by decide +kernel)
theorem wd_1348 : (Jvm.Cond.code ({ cls := "LentShadesModel", name := "comesOutWell", desc := "()Z" } : Jvm.MethodName) prog_12_method_65_code (3 : Nat) (Option.some Jvm.ClassFile.FieldType.boolean)) ∈ sm_GW := sm_w 1348 (by decide +kernel) (by decide +kernel)
theorem wd_1347 : (Jvm.Cond.instanceMethod ({ cls := "LentShadesModel", name := "comesOutWell", desc := "()Z" } : Jvm.MethodName)) ∈ sm_GW := sm_w 1347 (by decide +kernel) (by decide +kernel)
theorem wd_82 : (Jvm.Cond.selects "LentShadesModel" ({ cls := "LentShadesModel", name := "comesOutWell", desc := "()Z" } : Jvm.MethodName) ({ cls := "LentShadesModel", name := "comesOutWell", desc := "()Z" } : Jvm.MethodName)) ∈ sm_GW := sm_w 82 (by decide +kernel) (by decide +kernel)
theorem wd_1340 : (Jvm.Cond.code ({ cls := "LentShadesModel", name := "chest", desc := "(I)I" } : Jvm.MethodName) prog_12_method_66_code (6 : Nat) (Option.some Jvm.ClassFile.FieldType.int)) ∈ sm_GW := sm_w 1340 (by decide +kernel) (by decide +kernel)
theorem wd_1338 : (Jvm.Cond.instanceMethod ({ cls := "LentShadesModel", name := "chest", desc := "(I)I" } : Jvm.MethodName)) ∈ sm_GW := sm_w 1338 (by decide +kernel) (by decide +kernel)
theorem wd_1339 : (Jvm.Cond.selects "LentShadesModel" ({ cls := "LentShadesModel", name := "chest", desc := "(I)I" } : Jvm.MethodName) ({ cls := "LentShadesModel", name := "chest", desc := "(I)I" } : Jvm.MethodName)) ∈ sm_GW := sm_w 1339 (by decide +kernel) (by decide +kernel)
theorem wd_1357 : (Jvm.Cond.code ({ cls := "LentShadesModel", name := "mayTouch", desc := "(I)Z" } : Jvm.MethodName) prog_12_method_67_code (4 : Nat) (Option.some Jvm.ClassFile.FieldType.boolean)) ∈ sm_GW := sm_w 1357 (by decide +kernel) (by decide +kernel)
theorem wd_1356 : (Jvm.Cond.instanceMethod ({ cls := "LentShadesModel", name := "mayTouch", desc := "(I)Z" } : Jvm.MethodName)) ∈ sm_GW := sm_w 1356 (by decide +kernel) (by decide +kernel)
theorem wd_83 : (Jvm.Cond.selects "LentShadesModel" ({ cls := "LentShadesModel", name := "mayTouch", desc := "(I)Z" } : Jvm.MethodName) ({ cls := "LentShadesModel", name := "mayTouch", desc := "(I)Z" } : Jvm.MethodName)) ∈ sm_GW := sm_w 83 (by decide +kernel) (by decide +kernel)
theorem wd_1361 : (Jvm.Cond.code ({ cls := "LentShadesModel", name := "isMeanOf", desc := "(III)Z" } : Jvm.MethodName) prog_12_method_68_code (6 : Nat) (Option.some Jvm.ClassFile.FieldType.boolean)) ∈ sm_GW := sm_w 1361 (by decide +kernel) (by decide +kernel)
theorem wd_1360 : (Jvm.Cond.instanceMethod ({ cls := "LentShadesModel", name := "isMeanOf", desc := "(III)Z" } : Jvm.MethodName)) ∈ sm_GW := sm_w 1360 (by decide +kernel) (by decide +kernel)
theorem wd_84 : (Jvm.Cond.selects "LentShadesModel" ({ cls := "LentShadesModel", name := "isMeanOf", desc := "(III)Z" } : Jvm.MethodName) ({ cls := "LentShadesModel", name := "isMeanOf", desc := "(III)Z" } : Jvm.MethodName)) ∈ sm_GW := sm_w 84 (by decide +kernel) (by decide +kernel)
theorem wd_1352 : (Jvm.Cond.code ({ cls := "LentShadesModel", name := "morning", desc := "(III)I" } : Jvm.MethodName) prog_12_method_69_code (6 : Nat) (Option.some Jvm.ClassFile.FieldType.int)) ∈ sm_GW := sm_w 1352 (by decide +kernel) (by decide +kernel)
theorem wd_1350 : (Jvm.Cond.instanceMethod ({ cls := "LentShadesModel", name := "morning", desc := "(III)I" } : Jvm.MethodName)) ∈ sm_GW := sm_w 1350 (by decide +kernel) (by decide +kernel)
theorem wd_1351 : (Jvm.Cond.selects "LentShadesModel" ({ cls := "LentShadesModel", name := "morning", desc := "(III)I" } : Jvm.MethodName) ({ cls := "LentShadesModel", name := "morning", desc := "(III)I" } : Jvm.MethodName)) ∈ sm_GW := sm_w 1351 (by decide +kernel) (by decide +kernel)
theorem wd_1365 : (Jvm.Cond.code ({ cls := "LentShadesModel", name := "surely", desc := "(II)I" } : Jvm.MethodName) prog_12_method_70_code (5 : Nat) (Option.some Jvm.ClassFile.FieldType.int)) ∈ sm_GW := sm_w 1365 (by decide +kernel) (by decide +kernel)
theorem wd_1363 : (Jvm.Cond.instanceMethod ({ cls := "LentShadesModel", name := "surely", desc := "(II)I" } : Jvm.MethodName)) ∈ sm_GW := sm_w 1363 (by decide +kernel) (by decide +kernel)
theorem wd_1364 : (Jvm.Cond.selects "LentShadesModel" ({ cls := "LentShadesModel", name := "surely", desc := "(II)I" } : Jvm.MethodName) ({ cls := "LentShadesModel", name := "surely", desc := "(II)I" } : Jvm.MethodName)) ∈ sm_GW := sm_w 1364 (by decide +kernel) (by decide +kernel)
theorem wd_1369 : (Jvm.Cond.code ({ cls := "LentShadesModel", name := "borrower", desc := "(IIII)I" } : Jvm.MethodName) prog_12_method_71_code (6 : Nat) (Option.some Jvm.ClassFile.FieldType.int)) ∈ sm_GW := sm_w 1369 (by decide +kernel) (by decide +kernel)
theorem wd_1367 : (Jvm.Cond.instanceMethod ({ cls := "LentShadesModel", name := "borrower", desc := "(IIII)I" } : Jvm.MethodName)) ∈ sm_GW := sm_w 1367 (by decide +kernel) (by decide +kernel)
theorem wd_1368 : (Jvm.Cond.selects "LentShadesModel" ({ cls := "LentShadesModel", name := "borrower", desc := "(IIII)I" } : Jvm.MethodName) ({ cls := "LentShadesModel", name := "borrower", desc := "(IIII)I" } : Jvm.MethodName)) ∈ sm_GW := sm_w 1368 (by decide +kernel) (by decide +kernel)
theorem wd_1373 : (Jvm.Cond.code ({ cls := "LentShadesModel", name := "refuse", desc := "()I" } : Jvm.MethodName) prog_12_method_72_code (2 : Nat) (Option.some Jvm.ClassFile.FieldType.int)) ∈ sm_GW := sm_w 1373 (by decide +kernel) (by decide +kernel)
theorem wd_1371 : (Jvm.Cond.instanceMethod ({ cls := "LentShadesModel", name := "refuse", desc := "()I" } : Jvm.MethodName)) ∈ sm_GW := sm_w 1371 (by decide +kernel) (by decide +kernel)
theorem wd_1372 : (Jvm.Cond.selects "LentShadesModel" ({ cls := "LentShadesModel", name := "refuse", desc := "()I" } : Jvm.MethodName) ({ cls := "LentShadesModel", name := "refuse", desc := "()I" } : Jvm.MethodName)) ∈ sm_GW := sm_w 1372 (by decide +kernel) (by decide +kernel)
theorem wd_1385 : (Jvm.Cond.code ({ cls := "LentShadesModel", name := "borrows", desc := "(II)I" } : Jvm.MethodName) prog_12_method_73_code (3 : Nat) (Option.some Jvm.ClassFile.FieldType.int)) ∈ sm_GW := sm_w 1385 (by decide +kernel) (by decide +kernel)
theorem wd_1384 : (Jvm.Cond.instanceMethod ({ cls := "LentShadesModel", name := "borrows", desc := "(II)I" } : Jvm.MethodName)) ∈ sm_GW := sm_w 1384 (by decide +kernel) (by decide +kernel)
theorem wd_86 : (Jvm.Cond.selects "LentShadesModel" ({ cls := "LentShadesModel", name := "borrows", desc := "(II)I" } : Jvm.MethodName) ({ cls := "LentShadesModel", name := "borrows", desc := "(II)I" } : Jvm.MethodName)) ∈ sm_GW := sm_w 86 (by decide +kernel) (by decide +kernel)
theorem wd_1381 : (Jvm.Cond.code ({ cls := "LentShadesModel", name := "findServed", desc := "()I" } : Jvm.MethodName) prog_12_method_74_code (5 : Nat) (Option.some Jvm.ClassFile.FieldType.int)) ∈ sm_GW := sm_w 1381 (by decide +kernel) (by decide +kernel)
theorem wd_1380 : (Jvm.Cond.instanceMethod ({ cls := "LentShadesModel", name := "findServed", desc := "()I" } : Jvm.MethodName)) ∈ sm_GW := sm_w 1380 (by decide +kernel) (by decide +kernel)
theorem wd_85 : (Jvm.Cond.selects "LentShadesModel" ({ cls := "LentShadesModel", name := "findServed", desc := "()I" } : Jvm.MethodName) ({ cls := "LentShadesModel", name := "findServed", desc := "()I" } : Jvm.MethodName)) ∈ sm_GW := sm_w 85 (by decide +kernel) (by decide +kernel)
theorem wd_1392 : (Jvm.Cond.code ({ cls := "LentShadesModel", name := "meet", desc := "(II)Z" } : Jvm.MethodName) prog_12_method_75_code (3 : Nat) (Option.some Jvm.ClassFile.FieldType.boolean)) ∈ sm_GW := sm_w 1392 (by decide +kernel) (by decide +kernel)
theorem wd_1391 : (Jvm.Cond.instanceMethod ({ cls := "LentShadesModel", name := "meet", desc := "(II)Z" } : Jvm.MethodName)) ∈ sm_GW := sm_w 1391 (by decide +kernel) (by decide +kernel)
theorem wd_87 : (Jvm.Cond.selects "LentShadesModel" ({ cls := "LentShadesModel", name := "meet", desc := "(II)Z" } : Jvm.MethodName) ({ cls := "LentShadesModel", name := "meet", desc := "(II)Z" } : Jvm.MethodName)) ∈ sm_GW := sm_w 87 (by decide +kernel) (by decide +kernel)
theorem wd_1388 : (Jvm.Cond.code ({ cls := "LentShadesModel", name := "manyIn", desc := "(I)I" } : Jvm.MethodName) prog_12_method_76_code (3 : Nat) (Option.some Jvm.ClassFile.FieldType.int)) ∈ sm_GW := sm_w 1388 (by decide +kernel) (by decide +kernel)
theorem wd_1387 : (Jvm.Cond.static ({ cls := "LentShadesModel", name := "manyIn", desc := "(I)I" } : Jvm.MethodName)) ∈ sm_GW := sm_w 1387 (by decide +kernel) (by decide +kernel)
theorem wd_1377 : (Jvm.Cond.code ({ cls := "LentShadesModel", name := "lent", desc := "(I)I" } : Jvm.MethodName) prog_12_method_77_code (9 : Nat) (Option.some Jvm.ClassFile.FieldType.int)) ∈ sm_GW := sm_w 1377 (by decide +kernel) (by decide +kernel)
theorem wd_1375 : (Jvm.Cond.instanceMethod ({ cls := "LentShadesModel", name := "lent", desc := "(I)I" } : Jvm.MethodName)) ∈ sm_GW := sm_w 1375 (by decide +kernel) (by decide +kernel)
theorem wd_1376 : (Jvm.Cond.selects "LentShadesModel" ({ cls := "LentShadesModel", name := "lent", desc := "(I)I" } : Jvm.MethodName) ({ cls := "LentShadesModel", name := "lent", desc := "(I)I" } : Jvm.MethodName)) ∈ sm_GW := sm_w 1376 (by decide +kernel) (by decide +kernel)
theorem wd_1396 : (Jvm.Cond.code ({ cls := "LentShadesModel", name := "colours", desc := "()I" } : Jvm.MethodName) prog_12_method_78_code (5 : Nat) (Option.some Jvm.ClassFile.FieldType.int)) ∈ sm_GW := sm_w 1396 (by decide +kernel) (by decide +kernel)
theorem wd_1394 : (Jvm.Cond.instanceMethod ({ cls := "LentShadesModel", name := "colours", desc := "()I" } : Jvm.MethodName)) ∈ sm_GW := sm_w 1394 (by decide +kernel) (by decide +kernel)
theorem wd_1395 : (Jvm.Cond.selects "LentShadesModel" ({ cls := "LentShadesModel", name := "colours", desc := "()I" } : Jvm.MethodName) ({ cls := "LentShadesModel", name := "colours", desc := "()I" } : Jvm.MethodName)) ∈ sm_GW := sm_w 1395 (by decide +kernel) (by decide +kernel)
theorem wd_1400 : (Jvm.Cond.code ({ cls := "LentShadesModel", name := "least", desc := "(IIII)I" } : Jvm.MethodName) prog_12_method_79_code (6 : Nat) (Option.some Jvm.ClassFile.FieldType.int)) ∈ sm_GW := sm_w 1400 (by decide +kernel) (by decide +kernel)
theorem wd_1398 : (Jvm.Cond.instanceMethod ({ cls := "LentShadesModel", name := "least", desc := "(IIII)I" } : Jvm.MethodName)) ∈ sm_GW := sm_w 1398 (by decide +kernel) (by decide +kernel)
theorem wd_1399 : (Jvm.Cond.selects "LentShadesModel" ({ cls := "LentShadesModel", name := "least", desc := "(IIII)I" } : Jvm.MethodName) ({ cls := "LentShadesModel", name := "least", desc := "(IIII)I" } : Jvm.MethodName)) ∈ sm_GW := sm_w 1399 (by decide +kernel) (by decide +kernel)
theorem wd_1404 : (Jvm.Cond.code ({ cls := "LentShadesModel", name := "type", desc := "(JI)I" } : Jvm.MethodName) prog_12_method_80_code (5 : Nat) (Option.some Jvm.ClassFile.FieldType.int)) ∈ sm_GW := sm_w 1404 (by decide +kernel) (by decide +kernel)
theorem wd_1402 : (Jvm.Cond.instanceMethod ({ cls := "LentShadesModel", name := "type", desc := "(JI)I" } : Jvm.MethodName)) ∈ sm_GW := sm_w 1402 (by decide +kernel) (by decide +kernel)
theorem wd_1403 : (Jvm.Cond.selects "LentShadesModel" ({ cls := "LentShadesModel", name := "type", desc := "(JI)I" } : Jvm.MethodName) ({ cls := "LentShadesModel", name := "type", desc := "(JI)I" } : Jvm.MethodName)) ∈ sm_GW := sm_w 1403 (by decide +kernel) (by decide +kernel)
theorem wd_1410 : (Jvm.Cond.code ({ cls := "LentShadesModel", name := "clear", desc := "()I" } : Jvm.MethodName) prog_12_method_81_code (2 : Nat) (Option.some Jvm.ClassFile.FieldType.int)) ∈ sm_GW := sm_w 1410 (by decide +kernel) (by decide +kernel)
theorem wd_1408 : (Jvm.Cond.instanceMethod ({ cls := "LentShadesModel", name := "clear", desc := "()I" } : Jvm.MethodName)) ∈ sm_GW := sm_w 1408 (by decide +kernel) (by decide +kernel)
theorem wd_1409 : (Jvm.Cond.selects "LentShadesModel" ({ cls := "LentShadesModel", name := "clear", desc := "()I" } : Jvm.MethodName) ({ cls := "LentShadesModel", name := "clear", desc := "()I" } : Jvm.MethodName)) ∈ sm_GW := sm_w 1409 (by decide +kernel) (by decide +kernel)
theorem wd_1421 : (Jvm.Cond.code ({ cls := "LentShadesModel", name := "isSmall", desc := "(I)Z" } : Jvm.MethodName) prog_12_method_82_code (1 : Nat) (Option.some Jvm.ClassFile.FieldType.boolean)) ∈ sm_GW := sm_w 1421 (by decide +kernel) (by decide +kernel)
theorem wd_1420 : (Jvm.Cond.static ({ cls := "LentShadesModel", name := "isSmall", desc := "(I)Z" } : Jvm.MethodName)) ∈ sm_GW := sm_w 1420 (by decide +kernel) (by decide +kernel)
theorem wd_1426 : (Jvm.Cond.code ({ cls := "LentShadesModel", name := "isFigure", desc := "(I)Z" } : Jvm.MethodName) prog_12_method_83_code (1 : Nat) (Option.some Jvm.ClassFile.FieldType.boolean)) ∈ sm_GW := sm_w 1426 (by decide +kernel) (by decide +kernel)
theorem wd_1425 : (Jvm.Cond.static ({ cls := "LentShadesModel", name := "isFigure", desc := "(I)Z" } : Jvm.MethodName)) ∈ sm_GW := sm_w 1425 (by decide +kernel) (by decide +kernel)
theorem wd_1418 : (Jvm.Cond.code ({ cls := "LentShadesModel", name := "look", desc := "(I)V" } : Jvm.MethodName) prog_12_method_84_code (5 : Nat) (Option.none : Option Jvm.ClassFile.FieldType)) ∈ sm_GW := sm_w 1418 (by decide +kernel) (by decide +kernel)
theorem wd_1417 : (Jvm.Cond.instanceMethod ({ cls := "LentShadesModel", name := "look", desc := "(I)V" } : Jvm.MethodName)) ∈ sm_GW := sm_w 1417 (by decide +kernel) (by decide +kernel)
theorem wd_88 : (Jvm.Cond.selects "LentShadesModel" ({ cls := "LentShadesModel", name := "look", desc := "(I)V" } : Jvm.MethodName) ({ cls := "LentShadesModel", name := "look", desc := "(I)V" } : Jvm.MethodName)) ∈ sm_GW := sm_w 88 (by decide +kernel) (by decide +kernel)
theorem wd_1444 : (Jvm.Cond.code ({ cls := "LentShadesModel", name := "goOn", desc := "()V" } : Jvm.MethodName) prog_12_method_85_code (1 : Nat) (Option.none : Option Jvm.ClassFile.FieldType)) ∈ sm_GW := sm_w 1444 (by decide +kernel) (by decide +kernel)
theorem wd_1443 : (Jvm.Cond.instanceMethod ({ cls := "LentShadesModel", name := "goOn", desc := "()V" } : Jvm.MethodName)) ∈ sm_GW := sm_w 1443 (by decide +kernel) (by decide +kernel)
theorem wd_92 : (Jvm.Cond.selects "LentShadesModel" ({ cls := "LentShadesModel", name := "goOn", desc := "()V" } : Jvm.MethodName) ({ cls := "LentShadesModel", name := "goOn", desc := "()V" } : Jvm.MethodName)) ∈ sm_GW := sm_w 92 (by decide +kernel) (by decide +kernel)
theorem wd_1436 : (Jvm.Cond.code ({ cls := "LentShadesModel", name := "isWord", desc := "(IIIII)Z" } : Jvm.MethodName) prog_12_method_86_code (8 : Nat) (Option.some Jvm.ClassFile.FieldType.boolean)) ∈ sm_GW := sm_w 1436 (by decide +kernel) (by decide +kernel)
theorem wd_1435 : (Jvm.Cond.instanceMethod ({ cls := "LentShadesModel", name := "isWord", desc := "(IIIII)Z" } : Jvm.MethodName)) ∈ sm_GW := sm_w 1435 (by decide +kernel) (by decide +kernel)
theorem wd_90 : (Jvm.Cond.selects "LentShadesModel" ({ cls := "LentShadesModel", name := "isWord", desc := "(IIIII)Z" } : Jvm.MethodName) ({ cls := "LentShadesModel", name := "isWord", desc := "(IIIII)Z" } : Jvm.MethodName)) ∈ sm_GW := sm_w 90 (by decide +kernel) (by decide +kernel)
theorem wd_1448 : (Jvm.Cond.code ({ cls := "LentShadesModel", name := "takesOne", desc := "(II)Z" } : Jvm.MethodName) prog_12_method_87_code (3 : Nat) (Option.some Jvm.ClassFile.FieldType.boolean)) ∈ sm_GW := sm_w 1448 (by decide +kernel) (by decide +kernel)
theorem wd_1447 : (Jvm.Cond.instanceMethod ({ cls := "LentShadesModel", name := "takesOne", desc := "(II)Z" } : Jvm.MethodName)) ∈ sm_GW := sm_w 1447 (by decide +kernel) (by decide +kernel)
theorem wd_93 : (Jvm.Cond.selects "LentShadesModel" ({ cls := "LentShadesModel", name := "takesOne", desc := "(II)Z" } : Jvm.MethodName) ({ cls := "LentShadesModel", name := "takesOne", desc := "(II)Z" } : Jvm.MethodName)) ∈ sm_GW := sm_w 93 (by decide +kernel) (by decide +kernel)
theorem wd_1460 : (Jvm.Cond.code ({ cls := "LentShadesModel", name := "isReadNumber", desc := "(I)Z" } : Jvm.MethodName) prog_12_method_88_code (2 : Nat) (Option.some Jvm.ClassFile.FieldType.boolean)) ∈ sm_GW := sm_w 1460 (by decide +kernel) (by decide +kernel)
theorem wd_1459 : (Jvm.Cond.instanceMethod ({ cls := "LentShadesModel", name := "isReadNumber", desc := "(I)Z" } : Jvm.MethodName)) ∈ sm_GW := sm_w 1459 (by decide +kernel) (by decide +kernel)
theorem wd_96 : (Jvm.Cond.selects "LentShadesModel" ({ cls := "LentShadesModel", name := "isReadNumber", desc := "(I)Z" } : Jvm.MethodName) ({ cls := "LentShadesModel", name := "isReadNumber", desc := "(I)Z" } : Jvm.MethodName)) ∈ sm_GW := sm_w 96 (by decide +kernel) (by decide +kernel)
theorem wd_1440 : (Jvm.Cond.code ({ cls := "LentShadesModel", name := "readsCloth", desc := "()Z" } : Jvm.MethodName) prog_12_method_89_code (3 : Nat) (Option.some Jvm.ClassFile.FieldType.boolean)) ∈ sm_GW := sm_w 1440 (by decide +kernel) (by decide +kernel)
theorem wd_1439 : (Jvm.Cond.instanceMethod ({ cls := "LentShadesModel", name := "readsCloth", desc := "()Z" } : Jvm.MethodName)) ∈ sm_GW := sm_w 1439 (by decide +kernel) (by decide +kernel)
theorem wd_91 : (Jvm.Cond.selects "LentShadesModel" ({ cls := "LentShadesModel", name := "readsCloth", desc := "()Z" } : Jvm.MethodName) ({ cls := "LentShadesModel", name := "readsCloth", desc := "()Z" } : Jvm.MethodName)) ∈ sm_GW := sm_w 91 (by decide +kernel) (by decide +kernel)
theorem wd_1452 : (Jvm.Cond.code ({ cls := "LentShadesModel", name := "readsThing", desc := "()Z" } : Jvm.MethodName) prog_12_method_90_code (1 : Nat) (Option.some Jvm.ClassFile.FieldType.boolean)) ∈ sm_GW := sm_w 1452 (by decide +kernel) (by decide +kernel)
theorem wd_1451 : (Jvm.Cond.instanceMethod ({ cls := "LentShadesModel", name := "readsThing", desc := "()Z" } : Jvm.MethodName)) ∈ sm_GW := sm_w 1451 (by decide +kernel) (by decide +kernel)
theorem wd_94 : (Jvm.Cond.selects "LentShadesModel" ({ cls := "LentShadesModel", name := "readsThing", desc := "()Z" } : Jvm.MethodName) ({ cls := "LentShadesModel", name := "readsThing", desc := "()Z" } : Jvm.MethodName)) ∈ sm_GW := sm_w 94 (by decide +kernel) (by decide +kernel)
theorem wd_1456 : (Jvm.Cond.code ({ cls := "LentShadesModel", name := "readsTouch", desc := "()Z" } : Jvm.MethodName) prog_12_method_91_code (3 : Nat) (Option.some Jvm.ClassFile.FieldType.boolean)) ∈ sm_GW := sm_w 1456 (by decide +kernel) (by decide +kernel)
theorem wd_1455 : (Jvm.Cond.instanceMethod ({ cls := "LentShadesModel", name := "readsTouch", desc := "()Z" } : Jvm.MethodName)) ∈ sm_GW := sm_w 1455 (by decide +kernel) (by decide +kernel)
theorem wd_95 : (Jvm.Cond.selects "LentShadesModel" ({ cls := "LentShadesModel", name := "readsTouch", desc := "()Z" } : Jvm.MethodName) ({ cls := "LentShadesModel", name := "readsTouch", desc := "()Z" } : Jvm.MethodName)) ∈ sm_GW := sm_w 95 (by decide +kernel) (by decide +kernel)
theorem wd_1432 : (Jvm.Cond.code ({ cls := "LentShadesModel", name := "readsItem", desc := "()Z" } : Jvm.MethodName) prog_12_method_92_code (1 : Nat) (Option.some Jvm.ClassFile.FieldType.boolean)) ∈ sm_GW := sm_w 1432 (by decide +kernel) (by decide +kernel)
theorem wd_1431 : (Jvm.Cond.instanceMethod ({ cls := "LentShadesModel", name := "readsItem", desc := "()Z" } : Jvm.MethodName)) ∈ sm_GW := sm_w 1431 (by decide +kernel) (by decide +kernel)
theorem wd_89 : (Jvm.Cond.selects "LentShadesModel" ({ cls := "LentShadesModel", name := "readsItem", desc := "()Z" } : Jvm.MethodName) ({ cls := "LentShadesModel", name := "readsItem", desc := "()Z" } : Jvm.MethodName)) ∈ sm_GW := sm_w 89 (by decide +kernel) (by decide +kernel)
theorem wd_1464 : (Jvm.Cond.code ({ cls := "LentShadesModel", name := "putRead", desc := "()V" } : Jvm.MethodName) prog_12_method_94_code (3 : Nat) (Option.none : Option Jvm.ClassFile.FieldType)) ∈ sm_GW := sm_w 1464 (by decide +kernel) (by decide +kernel)
theorem wd_1463 : (Jvm.Cond.instanceMethod ({ cls := "LentShadesModel", name := "putRead", desc := "()V" } : Jvm.MethodName)) ∈ sm_GW := sm_w 1463 (by decide +kernel) (by decide +kernel)
theorem wd_97 : (Jvm.Cond.selects "LentShadesModel" ({ cls := "LentShadesModel", name := "putRead", desc := "()V" } : Jvm.MethodName) ({ cls := "LentShadesModel", name := "putRead", desc := "()V" } : Jvm.MethodName)) ∈ sm_GW := sm_w 97 (by decide +kernel) (by decide +kernel)
theorem wd_1414 : (Jvm.Cond.code ({ cls := "LentShadesModel", name := "read", desc := "()I" } : Jvm.MethodName) prog_12_method_93_code (2 : Nat) (Option.some Jvm.ClassFile.FieldType.int)) ∈ sm_GW := sm_w 1414 (by decide +kernel) (by decide +kernel)
theorem wd_1412 : (Jvm.Cond.instanceMethod ({ cls := "LentShadesModel", name := "read", desc := "()I" } : Jvm.MethodName)) ∈ sm_GW := sm_w 1412 (by decide +kernel) (by decide +kernel)
theorem wd_1413 : (Jvm.Cond.selects "LentShadesModel" ({ cls := "LentShadesModel", name := "read", desc := "()I" } : Jvm.MethodName) ({ cls := "LentShadesModel", name := "read", desc := "()I" } : Jvm.MethodName)) ∈ sm_GW := sm_w 1413 (by decide +kernel) (by decide +kernel)
theorem wd_1468 : (Jvm.Cond.code ({ cls := "LentShadesModel", name := "sign", desc := "(I)I" } : Jvm.MethodName) prog_12_method_95_code (2 : Nat) (Option.some Jvm.ClassFile.FieldType.int)) ∈ sm_GW := sm_w 1468 (by decide +kernel) (by decide +kernel)
theorem wd_1466 : (Jvm.Cond.instanceMethod ({ cls := "LentShadesModel", name := "sign", desc := "(I)I" } : Jvm.MethodName)) ∈ sm_GW := sm_w 1466 (by decide +kernel) (by decide +kernel)
theorem wd_1467 : (Jvm.Cond.selects "LentShadesModel" ({ cls := "LentShadesModel", name := "sign", desc := "(I)I" } : Jvm.MethodName) ({ cls := "LentShadesModel", name := "sign", desc := "(I)I" } : Jvm.MethodName)) ∈ sm_GW := sm_w 1467 (by decide +kernel) (by decide +kernel)
theorem wd_1472 : (Jvm.Cond.code ({ cls := "LentShadesModel", name := "limb", desc := "(II)I" } : Jvm.MethodName) prog_12_method_96_code (3 : Nat) (Option.some Jvm.ClassFile.FieldType.int)) ∈ sm_GW := sm_w 1472 (by decide +kernel) (by decide +kernel)
theorem wd_1470 : (Jvm.Cond.instanceMethod ({ cls := "LentShadesModel", name := "limb", desc := "(II)I" } : Jvm.MethodName)) ∈ sm_GW := sm_w 1470 (by decide +kernel) (by decide +kernel)
theorem wd_1471 : (Jvm.Cond.selects "LentShadesModel" ({ cls := "LentShadesModel", name := "limb", desc := "(II)I" } : Jvm.MethodName) ({ cls := "LentShadesModel", name := "limb", desc := "(II)I" } : Jvm.MethodName)) ∈ sm_GW := sm_w 1471 (by decide +kernel) (by decide +kernel)
theorem wd_1480 : (Jvm.Cond.code ({ cls := "LentShadesModel", name := "copyAll", desc := "(IIII)V" } : Jvm.MethodName) prog_12_method_97_code (6 : Nat) (Option.none : Option Jvm.ClassFile.FieldType)) ∈ sm_GW := sm_w 1480 (by decide +kernel) (by decide +kernel)
theorem wd_1479 : (Jvm.Cond.instanceMethod ({ cls := "LentShadesModel", name := "copyAll", desc := "(IIII)V" } : Jvm.MethodName)) ∈ sm_GW := sm_w 1479 (by decide +kernel) (by decide +kernel)
theorem wd_98 : (Jvm.Cond.selects "LentShadesModel" ({ cls := "LentShadesModel", name := "copyAll", desc := "(IIII)V" } : Jvm.MethodName) ({ cls := "LentShadesModel", name := "copyAll", desc := "(IIII)V" } : Jvm.MethodName)) ∈ sm_GW := sm_w 98 (by decide +kernel) (by decide +kernel)
theorem wd_1476 : (Jvm.Cond.code ({ cls := "LentShadesModel", name := "image", desc := "(I)I" } : Jvm.MethodName) prog_12_method_98_code (3 : Nat) (Option.some Jvm.ClassFile.FieldType.int)) ∈ sm_GW := sm_w 1476 (by decide +kernel) (by decide +kernel)
theorem wd_1474 : (Jvm.Cond.instanceMethod ({ cls := "LentShadesModel", name := "image", desc := "(I)I" } : Jvm.MethodName)) ∈ sm_GW := sm_w 1474 (by decide +kernel) (by decide +kernel)
theorem wd_1475 : (Jvm.Cond.selects "LentShadesModel" ({ cls := "LentShadesModel", name := "image", desc := "(I)I" } : Jvm.MethodName) ({ cls := "LentShadesModel", name := "image", desc := "(I)I" } : Jvm.MethodName)) ∈ sm_GW := sm_w 1475 (by decide +kernel) (by decide +kernel)
theorem wd_1484 : (Jvm.Cond.code ({ cls := "LentShadesModel", name := "from", desc := "(I)I" } : Jvm.MethodName) prog_12_method_99_code (3 : Nat) (Option.some Jvm.ClassFile.FieldType.int)) ∈ sm_GW := sm_w 1484 (by decide +kernel) (by decide +kernel)
theorem wd_1482 : (Jvm.Cond.instanceMethod ({ cls := "LentShadesModel", name := "from", desc := "(I)I" } : Jvm.MethodName)) ∈ sm_GW := sm_w 1482 (by decide +kernel) (by decide +kernel)
theorem wd_1483 : (Jvm.Cond.selects "LentShadesModel" ({ cls := "LentShadesModel", name := "from", desc := "(I)I" } : Jvm.MethodName) ({ cls := "LentShadesModel", name := "from", desc := "(I)I" } : Jvm.MethodName)) ∈ sm_GW := sm_w 1483 (by decide +kernel) (by decide +kernel)
theorem wd_1488 : (Jvm.Cond.code ({ cls := "LentShadesModel", name := "status", desc := "(I)I" } : Jvm.MethodName) prog_12_method_100_code (2 : Nat) (Option.some Jvm.ClassFile.FieldType.int)) ∈ sm_GW := sm_w 1488 (by decide +kernel) (by decide +kernel)
theorem wd_1486 : (Jvm.Cond.instanceMethod ({ cls := "LentShadesModel", name := "status", desc := "(I)I" } : Jvm.MethodName)) ∈ sm_GW := sm_w 1486 (by decide +kernel) (by decide +kernel)
theorem wd_1487 : (Jvm.Cond.selects "LentShadesModel" ({ cls := "LentShadesModel", name := "status", desc := "(I)I" } : Jvm.MethodName) ({ cls := "LentShadesModel", name := "status", desc := "(I)I" } : Jvm.MethodName)) ∈ sm_GW := sm_w 1487 (by decide +kernel) (by decide +kernel)
theorem wd_1497 : (Jvm.Cond.code ({ cls := "LentShadesModel", name := "counted", desc := "(I)I" } : Jvm.MethodName) prog_12_method_101_code (2 : Nat) (Option.some Jvm.ClassFile.FieldType.int)) ∈ sm_GW := sm_w 1497 (by decide +kernel) (by decide +kernel)
theorem wd_1496 : (Jvm.Cond.instanceMethod ({ cls := "LentShadesModel", name := "counted", desc := "(I)I" } : Jvm.MethodName)) ∈ sm_GW := sm_w 1496 (by decide +kernel) (by decide +kernel)
theorem wd_99 : (Jvm.Cond.selects "LentShadesModel" ({ cls := "LentShadesModel", name := "counted", desc := "(I)I" } : Jvm.MethodName) ({ cls := "LentShadesModel", name := "counted", desc := "(I)I" } : Jvm.MethodName)) ∈ sm_GW := sm_w 99 (by decide +kernel) (by decide +kernel)
theorem wd_1492 : (Jvm.Cond.code ({ cls := "LentShadesModel", name := "count", desc := "(I)I" } : Jvm.MethodName) prog_12_method_102_code (2 : Nat) (Option.some Jvm.ClassFile.FieldType.int)) ∈ sm_GW := sm_w 1492 (by decide +kernel) (by decide +kernel)
theorem wd_1490 : (Jvm.Cond.instanceMethod ({ cls := "LentShadesModel", name := "count", desc := "(I)I" } : Jvm.MethodName)) ∈ sm_GW := sm_w 1490 (by decide +kernel) (by decide +kernel)
theorem wd_1491 : (Jvm.Cond.selects "LentShadesModel" ({ cls := "LentShadesModel", name := "count", desc := "(I)I" } : Jvm.MethodName) ({ cls := "LentShadesModel", name := "count", desc := "(I)I" } : Jvm.MethodName)) ∈ sm_GW := sm_w 1491 (by decide +kernel) (by decide +kernel)
theorem wd_1507 : (Jvm.Cond.code ({ cls := "LentShadesModel", name := "sums", desc := "(JII)J" } : Jvm.MethodName) prog_12_method_103_code (8 : Nat) (Option.some Jvm.ClassFile.FieldType.long)) ∈ sm_GW := sm_w 1507 (by decide +kernel) (by decide +kernel)
theorem wd_1506 : (Jvm.Cond.instanceMethod ({ cls := "LentShadesModel", name := "sums", desc := "(JII)J" } : Jvm.MethodName)) ∈ sm_GW := sm_w 1506 (by decide +kernel) (by decide +kernel)
theorem wd_100 : (Jvm.Cond.selects "LentShadesModel" ({ cls := "LentShadesModel", name := "sums", desc := "(JII)J" } : Jvm.MethodName) ({ cls := "LentShadesModel", name := "sums", desc := "(JII)J" } : Jvm.MethodName)) ∈ sm_GW := sm_w 100 (by decide +kernel) (by decide +kernel)
theorem wd_1501 : (Jvm.Cond.code ({ cls := "LentShadesModel", name := "digest", desc := "()J" } : Jvm.MethodName) prog_12_method_104_code (5 : Nat) (Option.some Jvm.ClassFile.FieldType.long)) ∈ sm_GW := sm_w 1501 (by decide +kernel) (by decide +kernel)
theorem wd_1499 : (Jvm.Cond.instanceMethod ({ cls := "LentShadesModel", name := "digest", desc := "()J" } : Jvm.MethodName)) ∈ sm_GW := sm_w 1499 (by decide +kernel) (by decide +kernel)
theorem wd_1500 : (Jvm.Cond.selects "LentShadesModel" ({ cls := "LentShadesModel", name := "digest", desc := "()J" } : Jvm.MethodName) ({ cls := "LentShadesModel", name := "digest", desc := "()J" } : Jvm.MethodName)) ∈ sm_GW := sm_w 1500 (by decide +kernel) (by decide +kernel)
theorem mwm_in : sm_MS ym_in prog_12_method_3_code 6 (some .boolean) 3 := ⟨wd_1106, wd_112, wd_1107, by decide +kernel, by decide +kernel⟩
theorem mwm_bad : sm_MW ym_bad prog_12_method_4_code 2 (some .int) 1 := ⟨wd_1112, wd_36, wd_112, wd_1113, by decide +kernel, by decide +kernel⟩
theorem mwm_no : sm_MW ym_no prog_12_method_5_code 1 (some .int) 0 := ⟨wd_1267, wd_68, wd_112, wd_1268, by decide +kernel, by decide +kernel⟩
theorem mwm_full : sm_MW ym_full prog_12_method_6_code 1 (some .int) 0 := ⟨wd_1120, wd_38, wd_112, wd_1121, by decide +kernel, by decide +kernel⟩
theorem mwm_set : sm_MW ym_set prog_12_method_7_code 6 none 2 := ⟨wd_1000, wd_35, wd_112, wd_1001, by decide +kernel, by decide +kernel⟩
theorem mwm_copy : sm_MW ym_copy prog_12_method_8_code 4 none 2 := ⟨wd_1128, wd_40, wd_112, wd_1129, by decide +kernel, by decide +kernel⟩
theorem mwm_trim : sm_MW ym_trim prog_12_method_9_code 2 none 1 := ⟨wd_1136, wd_42, wd_112, wd_1137, by decide +kernel, by decide +kernel⟩
theorem mwm_times : sm_MW ym_times prog_12_method_10_code 9 none 2 := ⟨wd_1132, wd_41, wd_112, wd_1133, by decide +kernel, by decide +kernel⟩
theorem mwm_compare : sm_MW ym_compare prog_12_method_11_code 6 (some .int) 2 := ⟨wd_1226, wd_59, wd_112, wd_1227, by decide +kernel, by decide +kernel⟩
theorem mwm_add : sm_MW ym_add prog_12_method_12_code 9 none 2 := ⟨wd_1218, wd_57, wd_112, wd_1219, by decide +kernel, by decide +kernel⟩
theorem mwm_take : sm_MW ym_take prog_12_method_13_code 8 none 2 := ⟨wd_1251, wd_65, wd_112, wd_1252, by decide +kernel, by decide +kernel⟩
theorem mwm_halve : sm_MW ym_halve prog_12_method_14_code 7 none 1 := ⟨wd_1247, wd_64, wd_112, wd_1248, by decide +kernel, by decide +kernel⟩
theorem mwm_isEven : sm_MW ym_isEven prog_12_method_15_code 2 (some .boolean) 1 := ⟨wd_1242, wd_63, wd_112, wd_1243, by decide +kernel, by decide +kernel⟩
theorem mwm_findDivisor : sm_MW ym_findDivisor prog_12_method_16_code 5 none 2 := ⟨wd_1238, wd_62, wd_112, wd_1239, by decide +kernel, by decide +kernel⟩
theorem mwm_addOne : sm_MW ym_addOne prog_12_method_18_code 1 none 0 := ⟨wd_1259, wd_67, wd_112, wd_1260, by decide +kernel, by decide +kernel⟩
theorem mwm_divide : sm_MW ym_divide prog_12_method_17_code 7 none 1 := ⟨wd_1255, wd_66, wd_112, wd_1256, by decide +kernel, by decide +kernel⟩
theorem mwm_tell : sm_MW ym_tell prog_12_method_19_code 4 none 3 := ⟨wd_1234, wd_61, wd_112, wd_1235, by decide +kernel, by decide +kernel⟩
theorem mwm_cloths : sm_MW ym_cloths prog_12_method_21_code 1 (some .int) 0 := ⟨wd_1116, wd_37, wd_112, wd_1117, by decide +kernel, by decide +kernel⟩
theorem mwm_things : sm_MW ym_things prog_12_method_22_code 1 (some .int) 0 := ⟨wd_1144, wd_43, wd_112, wd_1145, by decide +kernel, by decide +kernel⟩
theorem mwm_isCloth : sm_MW ym_isCloth prog_12_method_23_code 2 (some .boolean) 1 := ⟨wd_1156, wd_45, wd_112, wd_1157, by decide +kernel, by decide +kernel⟩
theorem mwm_isThing : sm_MW ym_isThing prog_12_method_24_code 2 (some .boolean) 1 := ⟨wd_1167, wd_46, wd_112, wd_1168, by decide +kernel, by decide +kernel⟩
theorem mwm_isNumber : sm_MW ym_isNumber prog_12_method_25_code 2 (some .boolean) 1 := ⟨wd_1152, wd_44, wd_112, wd_1153, by decide +kernel, by decide +kernel⟩
theorem mwm_kindOf : sm_MW ym_kindOf prog_12_method_26_code 2 (some .int) 1 := ⟨wd_1191, wd_51, wd_112, wd_1192, by decide +kernel, by decide +kernel⟩
theorem mwm_layCloth : sm_MW ym_layCloth prog_12_method_28_code 5 none 3 := ⟨wd_1124, wd_39, wd_112, wd_1125, by decide +kernel, by decide +kernel⟩
theorem mwm_cloth : sm_MW ym_cloth prog_12_method_27_code 5 (some .int) 3 := ⟨wd_1101, wd_1102, wd_112, wd_1103, by decide +kernel, by decide +kernel⟩
theorem mwm_thing : sm_MW ym_thing prog_12_method_29_code 3 (some .int) 1 := ⟨wd_1139, wd_1140, wd_112, wd_1141, by decide +kernel, by decide +kernel⟩
theorem mwm_putHours : sm_MS ym_putHours prog_12_method_30_code 5 none 5 := ⟨wd_1159, wd_112, wd_1160, by decide +kernel, by decide +kernel⟩
theorem mwm_touch : sm_MW ym_touch prog_12_method_31_code 5 (some .int) 3 := ⟨wd_1147, wd_1148, wd_112, wd_1149, by decide +kernel, by decide +kernel⟩
theorem mwm_colour : sm_MW ym_colour prog_12_method_32_code 4 (some .int) 2 := ⟨wd_1162, wd_1163, wd_112, wd_1164, by decide +kernel, by decide +kernel⟩
theorem mwm_takeNow : sm_MW ym_takeNow prog_12_method_33_code 2 none 0 := ⟨wd_1175, wd_47, wd_112, wd_1176, by decide +kernel, by decide +kernel⟩
theorem mwm_gives : sm_MW ym_gives prog_12_method_34_code 2 (some .boolean) 1 := ⟨wd_1203, wd_54, wd_112, wd_1204, by decide +kernel, by decide +kernel⟩
theorem mwm_takes : sm_MW ym_takes prog_12_method_35_code 5 (some .int) 2 := ⟨wd_1199, wd_53, wd_112, wd_1200, by decide +kernel, by decide +kernel⟩
theorem mwm_takesAll : sm_MW ym_takesAll prog_12_method_36_code 4 (some .int) 1 := ⟨wd_1195, wd_52, wd_112, wd_1196, by decide +kernel, by decide +kernel⟩
theorem mwm_lay : sm_MW ym_lay prog_12_method_37_code 3 none 2 := ⟨wd_1214, wd_56, wd_112, wd_1215, by decide +kernel, by decide +kernel⟩
theorem mwm_divisor : sm_MS ym_divisor prog_12_method_38_code 5 (some .int) 2 := ⟨wd_1206, wd_112, wd_1207, by decide +kernel, by decide +kernel⟩
theorem mwm_isMean : sm_MW ym_isMean prog_12_method_39_code 2 (some .boolean) 1 := ⟨wd_1187, wd_50, wd_112, wd_1188, by decide +kernel, by decide +kernel⟩
theorem mwm_layMean : sm_MW ym_layMean prog_12_method_40_code 4 none 2 := ⟨wd_1210, wd_55, wd_112, wd_1211, by decide +kernel, by decide +kernel⟩
theorem mwm_layGreatest : sm_MW ym_layGreatest prog_12_method_41_code 6 none 2 := ⟨wd_1222, wd_58, wd_112, wd_1223, by decide +kernel, by decide +kernel⟩
theorem mwm_night : sm_MW ym_night prog_12_method_42_code 4 none 0 := ⟨wd_1183, wd_49, wd_112, wd_1184, by decide +kernel, by decide +kernel⟩
theorem mwm_nights : sm_MW ym_nights prog_12_method_43_code 3 none 1 := ⟨wd_1179, wd_48, wd_112, wd_1180, by decide +kernel, by decide +kernel⟩
theorem mwm_hasLeast : sm_MW ym_hasLeast prog_12_method_44_code 3 (some .boolean) 2 := ⟨wd_1283, wd_70, wd_112, wd_1284, by decide +kernel, by decide +kernel⟩
theorem mwm_hasMost : sm_MW ym_hasMost prog_12_method_45_code 3 (some .boolean) 2 := ⟨wd_1323, wd_78, wd_112, wd_1324, by decide +kernel, by decide +kernel⟩
theorem mwm_tellOver : sm_MW ym_tellOver prog_12_method_46_code 4 (some .int) 2 := ⟨wd_1230, wd_60, wd_112, wd_1231, by decide +kernel, by decide +kernel⟩
theorem mwm_shade : sm_MW ym_shade prog_12_method_47_code 3 (some .int) 2 := ⟨wd_1170, wd_1171, wd_112, wd_1172, by decide +kernel, by decide +kernel⟩
theorem mwm_copyState : sm_MW ym_copyState prog_12_method_48_code 4 none 2 := ⟨wd_1271, wd_69, wd_112, wd_1272, by decide +kernel, by decide +kernel⟩
theorem mwm_sleep : sm_MW ym_sleep prog_12_method_49_code 2 (some .int) 0 := ⟨wd_1262, wd_1263, wd_112, wd_1264, by decide +kernel, by decide +kernel⟩
theorem mwm_undo : sm_MW ym_undo prog_12_method_50_code 1 (some .int) 0 := ⟨wd_1274, wd_1275, wd_112, wd_1276, by decide +kernel, by decide +kernel⟩
theorem mwm_soRed : sm_MW ym_soRed prog_12_method_51_code 4 (some .int) 2 := ⟨wd_1278, wd_1279, wd_112, wd_1280, by decide +kernel, by decide +kernel⟩
theorem mwm_layRows : sm_MW ym_layRows prog_12_method_52_code 4 none 0 := ⟨wd_1295, wd_72, wd_112, wd_1296, by decide +kernel, by decide +kernel⟩
theorem mwm_productBy : sm_MW ym_productBy prog_12_method_54_code 8 (some .long) 2 := ⟨wd_1303, wd_74, wd_112, wd_1304, by decide +kernel, by decide +kernel⟩
theorem mwm_whole : sm_MW ym_whole prog_12_method_53_code 8 (some .long) 2 := ⟨wd_1299, wd_73, wd_112, wd_1300, by decide +kernel, by decide +kernel⟩
theorem mwm_isAnyVain : sm_MW ym_isAnyVain prog_12_method_55_code 3 (some .boolean) 0 := ⟨wd_1291, wd_71, wd_112, wd_1292, by decide +kernel, by decide +kernel⟩
theorem mwm_layFixed : sm_MW ym_layFixed prog_12_method_56_code 3 none 1 := ⟨wd_1307, wd_75, wd_112, wd_1308, by decide +kernel, by decide +kernel⟩
theorem mwm_rest : sm_MW ym_rest prog_12_method_57_code 7 (some .int) 1 := ⟨wd_1286, wd_1287, wd_112, wd_1288, by decide +kernel, by decide +kernel⟩
theorem mwm_findPairs : sm_MW ym_findPairs prog_12_method_58_code 3 none 0 := ⟨wd_1327, wd_79, wd_112, wd_1328, by decide +kernel, by decide +kernel⟩
theorem mwm_comesSo : sm_MW ym_comesSo prog_12_method_59_code 7 (some .boolean) 6 := ⟨wd_1319, wd_77, wd_112, wd_1320, by decide +kernel, by decide +kernel⟩
theorem mwm_findMoves : sm_MW ym_findMoves prog_12_method_60_code 7 (some .int) 4 := ⟨wd_1315, wd_76, wd_112, wd_1316, by decide +kernel, by decide +kernel⟩
theorem mwm_tellMove : sm_MW ym_tellMove prog_12_method_61_code 2 (some .int) 1 := ⟨wd_1331, wd_80, wd_112, wd_1332, by decide +kernel, by decide +kernel⟩
theorem mwm_moves : sm_MW ym_moves prog_12_method_62_code 7 (some .int) 5 := ⟨wd_1310, wd_1311, wd_112, wd_1312, by decide +kernel, by decide +kernel⟩
theorem mwm_bound : sm_MW ym_bound prog_12_method_63_code 4 (some .int) 3 := ⟨wd_1334, wd_1335, wd_112, wd_1336, by decide +kernel, by decide +kernel⟩
theorem mwm_layOrder : sm_MW ym_layOrder prog_12_method_64_code 6 (some .boolean) 1 := ⟨wd_1343, wd_81, wd_112, wd_1344, by decide +kernel, by decide +kernel⟩
theorem mwm_comesOutWell : sm_MW ym_comesOutWell prog_12_method_65_code 3 (some .boolean) 0 := ⟨wd_1347, wd_82, wd_112, wd_1348, by decide +kernel, by decide +kernel⟩
theorem mwm_chest : sm_MW ym_chest prog_12_method_66_code 6 (some .int) 1 := ⟨wd_1338, wd_1339, wd_112, wd_1340, by decide +kernel, by decide +kernel⟩
theorem mwm_mayTouch : sm_MW ym_mayTouch prog_12_method_67_code 4 (some .boolean) 1 := ⟨wd_1356, wd_83, wd_112, wd_1357, by decide +kernel, by decide +kernel⟩
theorem mwm_isMeanOf : sm_MW ym_isMeanOf prog_12_method_68_code 6 (some .boolean) 3 := ⟨wd_1360, wd_84, wd_112, wd_1361, by decide +kernel, by decide +kernel⟩
theorem mwm_morning : sm_MW ym_morning prog_12_method_69_code 6 (some .int) 3 := ⟨wd_1350, wd_1351, wd_112, wd_1352, by decide +kernel, by decide +kernel⟩
theorem mwm_surely : sm_MW ym_surely prog_12_method_70_code 5 (some .int) 2 := ⟨wd_1363, wd_1364, wd_112, wd_1365, by decide +kernel, by decide +kernel⟩
theorem mwm_borrower : sm_MW ym_borrower prog_12_method_71_code 6 (some .int) 4 := ⟨wd_1367, wd_1368, wd_112, wd_1369, by decide +kernel, by decide +kernel⟩
theorem mwm_refuse : sm_MW ym_refuse prog_12_method_72_code 2 (some .int) 0 := ⟨wd_1371, wd_1372, wd_112, wd_1373, by decide +kernel, by decide +kernel⟩
theorem mwm_borrows : sm_MW ym_borrows prog_12_method_73_code 3 (some .int) 2 := ⟨wd_1384, wd_86, wd_112, wd_1385, by decide +kernel, by decide +kernel⟩
theorem mwm_findServed : sm_MW ym_findServed prog_12_method_74_code 5 (some .int) 0 := ⟨wd_1380, wd_85, wd_112, wd_1381, by decide +kernel, by decide +kernel⟩
theorem mwm_meet : sm_MW ym_meet prog_12_method_75_code 3 (some .boolean) 2 := ⟨wd_1391, wd_87, wd_112, wd_1392, by decide +kernel, by decide +kernel⟩
theorem mwm_manyIn : sm_MS ym_manyIn prog_12_method_76_code 3 (some .int) 1 := ⟨wd_1387, wd_112, wd_1388, by decide +kernel, by decide +kernel⟩
theorem mwm_lent : sm_MW ym_lent prog_12_method_77_code 9 (some .int) 1 := ⟨wd_1375, wd_1376, wd_112, wd_1377, by decide +kernel, by decide +kernel⟩
theorem mwm_colours : sm_MW ym_colours prog_12_method_78_code 5 (some .int) 0 := ⟨wd_1394, wd_1395, wd_112, wd_1396, by decide +kernel, by decide +kernel⟩
theorem mwm_least : sm_MW ym_least prog_12_method_79_code 6 (some .int) 4 := ⟨wd_1398, wd_1399, wd_112, wd_1400, by decide +kernel, by decide +kernel⟩
theorem mwm_type : sm_MW ym_type prog_12_method_80_code 5 (some .int) 2 := ⟨wd_1402, wd_1403, wd_112, wd_1404, by decide +kernel, by decide +kernel⟩
theorem mwm_clear : sm_MW ym_clear prog_12_method_81_code 2 (some .int) 0 := ⟨wd_1408, wd_1409, wd_112, wd_1410, by decide +kernel, by decide +kernel⟩
theorem mwm_isSmall : sm_MS ym_isSmall prog_12_method_82_code 1 (some .boolean) 1 := ⟨wd_1420, wd_112, wd_1421, by decide +kernel, by decide +kernel⟩
theorem mwm_isFigure : sm_MS ym_isFigure prog_12_method_83_code 1 (some .boolean) 1 := ⟨wd_1425, wd_112, wd_1426, by decide +kernel, by decide +kernel⟩
theorem mwm_look : sm_MW ym_look prog_12_method_84_code 5 none 1 := ⟨wd_1417, wd_88, wd_112, wd_1418, by decide +kernel, by decide +kernel⟩
theorem mwm_goOn : sm_MW ym_goOn prog_12_method_85_code 1 none 0 := ⟨wd_1443, wd_92, wd_112, wd_1444, by decide +kernel, by decide +kernel⟩
theorem mwm_isWord : sm_MW ym_isWord prog_12_method_86_code 8 (some .boolean) 5 := ⟨wd_1435, wd_90, wd_112, wd_1436, by decide +kernel, by decide +kernel⟩
theorem mwm_takesOne : sm_MW ym_takesOne prog_12_method_87_code 3 (some .boolean) 2 := ⟨wd_1447, wd_93, wd_112, wd_1448, by decide +kernel, by decide +kernel⟩
theorem mwm_isReadNumber : sm_MW ym_isReadNumber prog_12_method_88_code 2 (some .boolean) 1 := ⟨wd_1459, wd_96, wd_112, wd_1460, by decide +kernel, by decide +kernel⟩
theorem mwm_readsCloth : sm_MW ym_readsCloth prog_12_method_89_code 3 (some .boolean) 0 := ⟨wd_1439, wd_91, wd_112, wd_1440, by decide +kernel, by decide +kernel⟩
theorem mwm_readsThing : sm_MW ym_readsThing prog_12_method_90_code 1 (some .boolean) 0 := ⟨wd_1451, wd_94, wd_112, wd_1452, by decide +kernel, by decide +kernel⟩
theorem mwm_readsTouch : sm_MW ym_readsTouch prog_12_method_91_code 3 (some .boolean) 0 := ⟨wd_1455, wd_95, wd_112, wd_1456, by decide +kernel, by decide +kernel⟩
theorem mwm_readsItem : sm_MW ym_readsItem prog_12_method_92_code 1 (some .boolean) 0 := ⟨wd_1431, wd_89, wd_112, wd_1432, by decide +kernel, by decide +kernel⟩
theorem mwm_putRead : sm_MW ym_putRead prog_12_method_94_code 3 none 0 := ⟨wd_1463, wd_97, wd_112, wd_1464, by decide +kernel, by decide +kernel⟩
theorem mwm_read : sm_MW ym_read prog_12_method_93_code 2 (some .int) 0 := ⟨wd_1412, wd_1413, wd_112, wd_1414, by decide +kernel, by decide +kernel⟩
theorem mwm_sign : sm_MW ym_sign prog_12_method_95_code 2 (some .int) 1 := ⟨wd_1466, wd_1467, wd_112, wd_1468, by decide +kernel, by decide +kernel⟩
theorem mwm_limb : sm_MW ym_limb prog_12_method_96_code 3 (some .int) 2 := ⟨wd_1470, wd_1471, wd_112, wd_1472, by decide +kernel, by decide +kernel⟩
theorem mwm_copyAll : sm_MW ym_copyAll prog_12_method_97_code 6 none 4 := ⟨wd_1479, wd_98, wd_112, wd_1480, by decide +kernel, by decide +kernel⟩
theorem mwm_image : sm_MW ym_image prog_12_method_98_code 3 (some .int) 1 := ⟨wd_1474, wd_1475, wd_112, wd_1476, by decide +kernel, by decide +kernel⟩
theorem mwm_from : sm_MW ym_from prog_12_method_99_code 3 (some .int) 1 := ⟨wd_1482, wd_1483, wd_112, wd_1484, by decide +kernel, by decide +kernel⟩
theorem mwm_status : sm_MW ym_status prog_12_method_100_code 2 (some .int) 1 := ⟨wd_1486, wd_1487, wd_112, wd_1488, by decide +kernel, by decide +kernel⟩
theorem mwm_counted : sm_MW ym_counted prog_12_method_101_code 2 (some .int) 1 := ⟨wd_1496, wd_99, wd_112, wd_1497, by decide +kernel, by decide +kernel⟩
theorem mwm_count : sm_MW ym_count prog_12_method_102_code 2 (some .int) 1 := ⟨wd_1490, wd_1491, wd_112, wd_1492, by decide +kernel, by decide +kernel⟩
theorem mwm_sums : sm_MW ym_sums prog_12_method_103_code 8 (some .long) 3 := ⟨wd_1506, wd_100, wd_112, wd_1507, by decide +kernel, by decide +kernel⟩
theorem mwm_digest : sm_MW ym_digest prog_12_method_104_code 5 (some .long) 0 := ⟨wd_1499, wd_1500, wd_112, wd_1501, by decide +kernel, by decide +kernel⟩
