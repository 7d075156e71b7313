def yx_L_within : MethodName := ⟨"LentShades", "within", "(II)Z"⟩
def yx_Shades_putParts : MethodName := ⟨"LentShades$Shades", "putParts", "(II)V"⟩
def yx_House_addCloth : MethodName := ⟨"LentShades$House", "addCloth", "(III)V"⟩
def yx_L_refusedFull : MethodName := ⟨"LentShades", "refusedFull", "()I"⟩
def yx_L_refusedBad : MethodName := ⟨"LentShades", "refusedBad", "()I"⟩
def yx_L_cloth : MethodName := ⟨"LentShades", "cloth", "(III)I"⟩
def yx_House_addThing : MethodName := ⟨"LentShades$House", "addThing", "(I)V"⟩
def yx_L_thing : MethodName := ⟨"LentShades", "thing", "(I)I"⟩
def yx_House_hasCloth : MethodName := ⟨"LentShades$House", "hasCloth", "(I)Z"⟩
def yx_House_hasThing : MethodName := ⟨"LentShades$House", "hasThing", "(I)Z"⟩
def yx_House_hasNumber : MethodName := ⟨"LentShades$House", "hasNumber", "(I)Z"⟩
def yx_L_putHours : MethodName := ⟨"LentShades", "putHours", "([[IIII)V"⟩
def yx_L_touch : MethodName := ⟨"LentShades", "touch", "(III)I"⟩
def yx_L_colour : MethodName := ⟨"LentShades", "colour", "(II)I"⟩
def yx_Reader_append : MethodName := ⟨"LentShades$Reader", "append", "(JI)V"⟩
def yx_L_type : MethodName := ⟨"LentShades", "type", "(JI)I"⟩
def yx_L_clear : MethodName := ⟨"LentShades", "clear", "()I"⟩
def yx_Reader_isLetter : MethodName := ⟨"LentShades$Reader", "isLetter", "(I)Z"⟩
def yx_Reader_isFigure : MethodName := ⟨"LentShades$Reader", "isFigure", "(I)Z"⟩
def yx_Reader_nextNumber : MethodName := ⟨"LentShades$Reader", "nextNumber", "()V"⟩
def yx_JString_coder : MethodName := ⟨"java/lang/String", "coder", "()B"⟩
def yx_JString_length : MethodName := ⟨"java/lang/String", "length", "()I"⟩
def yx_JString_isLatin1 : MethodName := ⟨"java/lang/String", "isLatin1", "()Z"⟩
def yx_JPreconditions_checkIndex : MethodName := ⟨"jdk/internal/util/Preconditions", "checkIndex", "(IILjava/util/function/BiFunction;)I"⟩
def yx_JString_checkIndex : MethodName := ⟨"java/lang/String", "checkIndex", "(II)V"⟩
def yx_JStringLatin1_charAt : MethodName := ⟨"java/lang/StringLatin1", "charAt", "([BI)C"⟩
def yx_JString_charAt : MethodName := ⟨"java/lang/String", "charAt", "(I)C"⟩
def yx_Reader_spells : MethodName := ⟨"LentShades$Reader", "spells", "(Ljava/lang/String;)Z"⟩
def yx_Reader_nextWord : MethodName := ⟨"LentShades$Reader", "nextWord", "()V"⟩
def yx_Reader_next : MethodName := ⟨"LentShades$Reader", "next", "()V"⟩
def yx_Reader_number : MethodName := ⟨"LentShades$Reader", "number", "(I)Z"⟩
def yx_Reader_stop : MethodName := ⟨"LentShades$Reader", "stop", "()Z"⟩
def yx_Reader_clothItem : MethodName := ⟨"LentShades$Reader", "clothItem", "(LLentShades$House;)Z"⟩
def yx_Reader_thingItem : MethodName := ⟨"LentShades$Reader", "thingItem", "(LLentShades$House;)Z"⟩
def yx_Reader_isThere : MethodName := ⟨"LentShades$Reader", "isThere", "(I)Z"⟩
def yx_Reader_touchItem : MethodName := ⟨"LentShades$Reader", "touchItem", "(LLentShades$House;)Z"⟩
def yx_Reader_readInto : MethodName := ⟨"LentShades$Reader", "readInto", "(LLentShades$House;)I"⟩
def yx_Shades_reset : MethodName := ⟨"LentShades$Shades", "reset", "()V"⟩
def yx_House_emptyOut : MethodName := ⟨"LentShades$House", "emptyOut", "()V"⟩
def yx_L_read : MethodName := ⟨"LentShades", "read", "()I"⟩
def yx_House_lends : MethodName := ⟨"LentShades$House", "lends", "(I)Z"⟩
def yx_Takings_ofCloths : MethodName := ⟨"LentShades$Takings", "ofCloths", "(LLentShades$House;I[I)I"⟩
def yx_Takings_ofThings : MethodName := ⟨"LentShades$Takings", "ofThings", "(LLentShades$House;I[I[I)I"⟩
def yx_L_greatestDivisor : MethodName := ⟨"LentShades", "greatestDivisor", "(II)I"⟩
def yx_Takings_reckon : MethodName := ⟨"LentShades$Takings", "reckon", "(LLentShades$House;[[I[I)V"⟩
def yx_Sum_begin : MethodName := ⟨"LentShades$Sum", "begin", "()V"⟩
def yx_Sum_write : MethodName := ⟨"LentShades$Sum", "write", "(LLentShades$Shades;[II)V"⟩
def yx_Shades_settle : MethodName := ⟨"LentShades$Shades", "settle", "(I)V"⟩
def yx_Takings_takeMean : MethodName := ⟨"LentShades$Takings", "takeMean", "(I)V"⟩
def yx_Shades_compare : MethodName := ⟨"LentShades$Shades", "compare", "(III)I"⟩
def yx_Takings_takeGreatest : MethodName := ⟨"LentShades$Takings", "takeGreatest", "(ILLentShades$Shades;)V"⟩
def yx_Takings_night : MethodName := ⟨"LentShades$Takings", "night", "(LLentShades$Shades;LLentShades$Shades;)V"⟩
def yx_Takings_behind : MethodName := ⟨"LentShades$Takings", "behind", "(LLentShades$Shades;I)LLentShades$Shades;"⟩
def yx_Fraction_trimmed : MethodName := ⟨"LentShades$Fraction", "trimmed", "([II)I"⟩
def yx_Fraction_remainder : MethodName := ⟨"LentShades$Fraction", "remainder", "([III)I"⟩
def yx_Fraction_divide : MethodName := ⟨"LentShades$Fraction", "divide", "([III)V"⟩
def yx_Fraction_bothDivide : MethodName := ⟨"LentShades$Fraction", "bothDivide", "(I)Z"⟩
def yx_Fraction_reduce : MethodName := ⟨"LentShades$Fraction", "reduce", "()V"⟩
def yx_Fraction_put : MethodName := ⟨"LentShades$Fraction", "put", "(LLentShades$Sum;LLentShades$Shades;I)V"⟩
def yx_L_shade : MethodName := ⟨"LentShades", "shade", "(II)I"⟩
def yx_Shades_copyFrom : MethodName := ⟨"LentShades$Shades", "copyFrom", "(LLentShades$Shades;)V"⟩
def yx_House_wakeUpWith : MethodName := ⟨"LentShades$House", "wakeUpWith", "(LLentShades$Shades;)V"⟩
def yx_L_refusedNo : MethodName := ⟨"LentShades", "refusedNo", "()I"⟩
def yx_L_sleep : MethodName := ⟨"LentShades", "sleep", "()I"⟩
def yx_House_goBack : MethodName := ⟨"LentShades$House", "goBack", "()Z"⟩
def yx_L_undo : MethodName := ⟨"LentShades", "undo", "()I"⟩
def yx_Shades_hasAtLeast : MethodName := ⟨"LentShades$Shades", "hasAtLeast", "(II)Z"⟩
def yx_L_soRed : MethodName := ⟨"LentShades", "soRed", "(II)I"⟩
def yx_House_hasVain : MethodName := ⟨"LentShades$House", "hasVain", "()Z"⟩
def yx_Resting_fill : MethodName := ⟨"LentShades$Resting", "fill", "(LLentShades$Takings;)V"⟩
def yx_Resting_minor : MethodName := ⟨"LentShades$Resting", "minor", "(II)I"⟩
def yx_Resting_solve : MethodName := ⟨"LentShades$Resting", "solve", "(LLentShades$Takings;ILLentShades$Sum;)I"⟩
def yx_L_rest : MethodName := ⟨"LentShades", "rest", "(I)I"⟩
def yx_Mover_aim : MethodName := ⟨"LentShades$Mover", "aim", "(IIII)V"⟩
def yx_Shades_hasAtMost : MethodName := ⟨"LentShades$Shades", "hasAtMost", "(II)Z"⟩
def yx_Mover_reached : MethodName := ⟨"LentShades$Mover", "reached", "(LLentShades$House;LLentShades$Takings;)Z"⟩
def yx_Mover_lesser : MethodName := ⟨"LentShades$Mover", "lesser", "(I)I"⟩
def yx_Mover_other : MethodName := ⟨"LentShades$Mover", "other", "(I)I"⟩
def yx_Mover_hoursOf : MethodName := ⟨"LentShades$Mover", "hoursOf", "(I)I"⟩
def yx_Mover_changes : MethodName := ⟨"LentShades$Mover", "changes", "(LLentShades$House;I)Z"⟩
def yx_Mover_put : MethodName := ⟨"LentShades$Mover", "put", "(II)V"⟩
def yx_Mover_putBack : MethodName := ⟨"LentShades$Mover", "putBack", "(ILLentShades$House;)V"⟩
def yx_Mover_reachedByOneMore : MethodName := ⟨"LentShades$Mover", "reachedByOneMore", "(LLentShades$House;LLentShades$Takings;I)I"⟩
def yx_Mover_search : MethodName := ⟨"LentShades$Mover", "search", "(LLentShades$House;LLentShades$Takings;)I"⟩
def yx_Mover_told : MethodName := ⟨"LentShades$Mover", "told", "(I)I"⟩
def yx_L_moves : MethodName := ⟨"LentShades", "moves", "(IIIII)I"⟩
def yx_L_bound : MethodName := ⟨"LentShades", "bound", "(III)I"⟩
def yx_Chest_lay : MethodName := ⟨"LentShades$Chest", "lay", "(II)Z"⟩
def yx_Chest_fits : MethodName := ⟨"LentShades$Chest", "fits", "(LLentShades$House;LLentShades$Takings;)Z"⟩
def yx_Chest_countOrders : MethodName := ⟨"LentShades$Chest", "countOrders", "(LLentShades$House;LLentShades$Takings;)I"⟩
def yx_L_chest : MethodName := ⟨"LentShades", "chest", "(I)I"⟩
def yx_L_isShade : MethodName := ⟨"LentShades", "isShade", "(II)Z"⟩
def yx_House_lenders : MethodName := ⟨"LentShades$House", "lenders", "()I"⟩
def yx_JInteger_bitCount : MethodName := ⟨"java/lang/Integer", "bitCount", "(I)I"⟩
def yx_Sum_isZeroIn : MethodName := ⟨"LentShades$Sum", "isZeroIn", "(LLentShades$Shades;)Z"⟩
def yx_L_gives : MethodName := ⟨"LentShades", "gives", "(III)Z"⟩
def yx_L_morning : MethodName := ⟨"LentShades", "morning", "(III)I"⟩
def yx_L_surely : MethodName := ⟨"LentShades", "surely", "(II)I"⟩
def yx_House_addBorrower : MethodName := ⟨"LentShades$House", "addBorrower", "(IIII)V"⟩
def yx_L_borrower : MethodName := ⟨"LentShades", "borrower", "(IIII)I"⟩
def yx_L_refuse : MethodName := ⟨"LentShades", "refuse", "()I"⟩
def yx_L_serves : MethodName := ⟨"LentShades", "serves", "(LLentShades$Shades;[I)Z"⟩
def yx_L_contentBorrowers : MethodName := ⟨"LentShades", "contentBorrowers", "()I"⟩
def yx_House_overlap : MethodName := ⟨"LentShades$House", "overlap", "([I[I)Z"⟩
def yx_House_clash : MethodName := ⟨"LentShades$House", "clash", "(I)Z"⟩
def yx_L_lent : MethodName := ⟨"LentShades", "lent", "(I)I"⟩
def yx_L_isNewShade : MethodName := ⟨"LentShades", "isNewShade", "(I)Z"⟩
def yx_L_isNewColour : MethodName := ⟨"LentShades", "isNewColour", "(I)Z"⟩
def yx_L_colours : MethodName := ⟨"LentShades", "colours", "()I"⟩
def yx_L_least : MethodName := ⟨"LentShades", "least", "(IIII)I"⟩
def yx_Fraction_size : MethodName := ⟨"LentShades$Fraction", "size", "(I)I"⟩
def yx_L_sign : MethodName := ⟨"LentShades", "sign", "(I)I"⟩
def yx_Fraction_digit : MethodName := ⟨"LentShades$Fraction", "digit", "(II)I"⟩
def yx_L_limb : MethodName := ⟨"LentShades", "limb", "(II)I"⟩
def yx_House_copyFrom : MethodName := ⟨"LentShades$House", "copyFrom", "(LLentShades$House;)V"⟩
def yx_L_image : MethodName := ⟨"LentShades", "image", "(I)I"⟩
def yx_L_from : MethodName := ⟨"LentShades", "from", "(I)I"⟩
def yx_L_status : MethodName := ⟨"LentShades", "status", "(I)I"⟩
def yx_L_howMany : MethodName := ⟨"LentShades", "howMany", "(I)I"⟩
def yx_L_count : MethodName := ⟨"LentShades", "count", "(I)I"⟩
def yx_House_mixInto : MethodName := ⟨"LentShades$House", "mixInto", "(J)J"⟩
def yx_Fraction_mixInto : MethodName := ⟨"LentShades$Fraction", "mixInto", "(J)J"⟩
def yx_L_digest : MethodName := ⟨"LentShades", "digest", "()J"⟩
theorem zb_20 : (Int8.ofInt 20).toInt32 = (20 : Int32) := by decide
theorem zb_30 : (Int8.ofInt 30).toInt32 = (30 : Int32) := by decide
theorem zb_57 : (Int8.ofInt 57).toInt32 = (57 : Int32) := by decide
theorem zb_63 : (Int8.ofInt 63).toInt32 = (63 : Int32) := by decide
theorem zb_97 : (Int8.ofInt 97).toInt32 = (97 : Int32) := by decide
theorem zb_122 : (Int8.ofInt 122).toInt32 = (122 : Int32) := by decide
theorem zs_255 : (Int16.ofInt 255).toInt32 = (255 : Int32) := by decide
theorem wd_447 : (Jvm.Cond.methodLink "LentShades" (77 : Nat) ({ cls := "LentShades", name := "within", desc := "(II)Z" } : Jvm.MethodName)) ∈ sm_GW := sm_w 447 (by decide +kernel) (by decide +kernel)
theorem wd_400 : (Jvm.Cond.fieldLink "LentShades" (10 : Nat) "LentShades" "house" "LLentShades$House;") ∈ sm_GW := sm_w 400 (by decide +kernel) (by decide +kernel)
theorem wd_188 : (Jvm.Cond.fieldLink "LentShades" (85 : Nat) "LentShades$House" "cloths" "I") ∈ sm_GW := sm_w 188 (by decide +kernel) (by decide +kernel)
theorem wd_186 : (Jvm.Cond.fieldLink "LentShades$House" (46 : Nat) "LentShades$House" "cloths" "I") ∈ sm_GW := sm_w 186 (by decide +kernel) (by decide +kernel)
theorem wd_160 : (Jvm.Cond.fieldLink "LentShades$House" (9 : Nat) "LentShades$House" "kind" "[I") ∈ sm_GW := sm_w 160 (by decide +kernel) (by decide +kernel)
theorem wd_162 : (Jvm.Cond.fieldLink "LentShades$House" (15 : Nat) "LentShades$House" "hold" "[I") ∈ sm_GW := sm_w 162 (by decide +kernel) (by decide +kernel)
theorem wd_164 : (Jvm.Cond.fieldLink "LentShades$House" (18 : Nat) "LentShades$House" "least" "[I") ∈ sm_GW := sm_w 164 (by decide +kernel) (by decide +kernel)
theorem wd_167 : (Jvm.Cond.fieldLink "LentShades$House" (21 : Nat) "LentShades$House" "most" "[I") ∈ sm_GW := sm_w 167 (by decide +kernel) (by decide +kernel)
theorem wd_178 : (Jvm.Cond.fieldLink "LentShades$House" (35 : Nat) "LentShades$House" "now" "LLentShades$Shades;") ∈ sm_GW := sm_w 178 (by decide +kernel) (by decide +kernel)
theorem wd_149 : (Jvm.Cond.fieldLink "LentShades$Shades" (18 : Nat) "LentShades$Shades" "used" "I") ∈ sm_GW := sm_w 149 (by decide +kernel) (by decide +kernel)
theorem wd_146 : (Jvm.Cond.fieldLink "LentShades$Shades" (9 : Nat) "LentShades$Shades" "limb" "[I") ∈ sm_GW := sm_w 146 (by decide +kernel) (by decide +kernel)
theorem wd_466 : (Jvm.Cond.constantLong "LentShades$Shades" (28 : Nat) (1073741823 : Int64)) ∈ sm_GW := sm_w 466 (by decide +kernel) (by decide +kernel)
theorem wd_462 : (Jvm.Cond.methodLink "LentShades$House" (63 : Nat) ({ cls := "LentShades$Shades", name := "putParts", desc := "(II)V" } : Jvm.MethodName)) ∈ sm_GW := sm_w 462 (by decide +kernel) (by decide +kernel)
theorem wd_194 : (Jvm.Cond.fieldLink "LentShades$House" (67 : Nat) "LentShades$House" "undoable" "I") ∈ sm_GW := sm_w 194 (by decide +kernel) (by decide +kernel)
theorem wd_458 : (Jvm.Cond.methodLink "LentShades" (92 : Nat) ({ cls := "LentShades$House", name := "addCloth", desc := "(III)V" } : Jvm.MethodName)) ∈ sm_GW := sm_w 458 (by decide +kernel) (by decide +kernel)
theorem wd_413 : (Jvm.Cond.fieldLink "LentShades" (266 : Nat) "LentShades" "fulls" "I") ∈ sm_GW := sm_w 413 (by decide +kernel) (by decide +kernel)
theorem wd_454 : (Jvm.Cond.methodLink "LentShades" (89 : Nat) ({ cls := "LentShades", name := "refusedFull", desc := "()I" } : Jvm.MethodName)) ∈ sm_GW := sm_w 454 (by decide +kernel) (by decide +kernel)
theorem wd_411 : (Jvm.Cond.fieldLink "LentShades" (260 : Nat) "LentShades" "bads" "I") ∈ sm_GW := sm_w 411 (by decide +kernel) (by decide +kernel)
theorem wd_450 : (Jvm.Cond.methodLink "LentShades" (81 : Nat) ({ cls := "LentShades", name := "refusedBad", desc := "()I" } : Jvm.MethodName)) ∈ sm_GW := sm_w 450 (by decide +kernel) (by decide +kernel)
theorem wd_190 : (Jvm.Cond.fieldLink "LentShades" (96 : Nat) "LentShades$House" "things" "I") ∈ sm_GW := sm_w 190 (by decide +kernel) (by decide +kernel)
theorem wd_189 : (Jvm.Cond.fieldLink "LentShades$House" (50 : Nat) "LentShades$House" "things" "I") ∈ sm_GW := sm_w 189 (by decide +kernel) (by decide +kernel)
theorem wd_170 : (Jvm.Cond.fieldLink "LentShades$House" (24 : Nat) "LentShades$House" "colour" "[I") ∈ sm_GW := sm_w 170 (by decide +kernel) (by decide +kernel)
theorem wd_471 : (Jvm.Cond.methodLink "LentShades" (99 : Nat) ({ cls := "LentShades$House", name := "addThing", desc := "(I)V" } : Jvm.MethodName)) ∈ sm_GW := sm_w 471 (by decide +kernel) (by decide +kernel)
theorem wd_483 : (Jvm.Cond.methodLink "LentShades$House" (53 : Nat) ({ cls := "LentShades$House", name := "hasCloth", desc := "(I)Z" } : Jvm.MethodName)) ∈ sm_GW := sm_w 483 (by decide +kernel) (by decide +kernel)
theorem wd_487 : (Jvm.Cond.methodLink "LentShades$House" (57 : Nat) ({ cls := "LentShades$House", name := "hasThing", desc := "(I)Z" } : Jvm.MethodName)) ∈ sm_GW := sm_w 487 (by decide +kernel) (by decide +kernel)
theorem wd_479 : (Jvm.Cond.methodLink "LentShades" (103 : Nat) ({ cls := "LentShades$House", name := "hasNumber", desc := "(I)Z" } : Jvm.MethodName)) ∈ sm_GW := sm_w 479 (by decide +kernel) (by decide +kernel)
theorem wd_176 : (Jvm.Cond.fieldLink "LentShades" (107 : Nat) "LentShades$House" "hours" "[[I") ∈ sm_GW := sm_w 176 (by decide +kernel) (by decide +kernel)
theorem wd_491 : (Jvm.Cond.methodLink "LentShades" (111 : Nat) ({ cls := "LentShades", name := "putHours", desc := "([[IIII)V" } : Jvm.MethodName)) ∈ sm_GW := sm_w 491 (by decide +kernel) (by decide +kernel)
theorem wd_498 : (Jvm.Cond.methodLink "LentShades" (115 : Nat) ({ cls := "LentShades$House", name := "hasThing", desc := "(I)Z" } : Jvm.MethodName)) ∈ sm_GW := sm_w 498 (by decide +kernel) (by decide +kernel)
theorem wd_173 : (Jvm.Cond.fieldLink "LentShades" (118 : Nat) "LentShades$House" "colour" "[I") ∈ sm_GW := sm_w 173 (by decide +kernel) (by decide +kernel)
theorem wd_403 : (Jvm.Cond.fieldLink "LentShades" (27 : Nat) "LentShades" "reader" "LLentShades$Reader;") ∈ sm_GW := sm_w 403 (by decide +kernel) (by decide +kernel)
theorem wd_236 : (Jvm.Cond.fieldLink "LentShades" (121 : Nat) "LentShades$Reader" "length" "I") ∈ sm_GW := sm_w 236 (by decide +kernel) (by decide +kernel)
theorem wd_235 : (Jvm.Cond.fieldLink "LentShades$Reader" (15 : Nat) "LentShades$Reader" "length" "I") ∈ sm_GW := sm_w 235 (by decide +kernel) (by decide +kernel)
theorem wd_234 : (Jvm.Cond.fieldLink "LentShades$Reader" (9 : Nat) "LentShades$Reader" "text" "[I") ∈ sm_GW := sm_w 234 (by decide +kernel) (by decide +kernel)
theorem wd_507 : (Jvm.Cond.constantLong "LentShades$Reader" (19 : Nat) (255 : Int64)) ∈ sm_GW := sm_w 507 (by decide +kernel) (by decide +kernel)
theorem wd_503 : (Jvm.Cond.methodLink "LentShades" (124 : Nat) ({ cls := "LentShades$Reader", name := "append", desc := "(JI)V" } : Jvm.MethodName)) ∈ sm_GW := sm_w 503 (by decide +kernel) (by decide +kernel)
theorem wd_237 : (Jvm.Cond.fieldLink "LentShades$Reader" (21 : Nat) "LentShades$Reader" "place" "I") ∈ sm_GW := sm_w 237 (by decide +kernel) (by decide +kernel)
theorem wd_241 : (Jvm.Cond.fieldLink "LentShades$Reader" (24 : Nat) "LentShades$Reader" "cloths" "I") ∈ sm_GW := sm_w 241 (by decide +kernel) (by decide +kernel)
theorem wd_242 : (Jvm.Cond.fieldLink "LentShades$Reader" (27 : Nat) "LentShades$Reader" "things" "I") ∈ sm_GW := sm_w 242 (by decide +kernel) (by decide +kernel)
theorem wd_238 : (Jvm.Cond.fieldLink "LentShades$Reader" (46 : Nat) "LentShades$Reader" "start" "I") ∈ sm_GW := sm_w 238 (by decide +kernel) (by decide +kernel)
theorem wd_524 : (Jvm.Cond.methodLink "LentShades$Reader" (81 : Nat) ({ cls := "LentShades$Reader", name := "isLetter", desc := "(I)Z" } : Jvm.MethodName)) ∈ sm_GW := sm_w 524 (by decide +kernel) (by decide +kernel)
theorem wd_586 : (Jvm.Cond.methodLink "LentShades$Reader" (87 : Nat) ({ cls := "LentShades$Reader", name := "isFigure", desc := "(I)Z" } : Jvm.MethodName)) ∈ sm_GW := sm_w 586 (by decide +kernel) (by decide +kernel)
theorem wd_240 : (Jvm.Cond.fieldLink "LentShades$Reader" (53 : Nat) "LentShades$Reader" "value" "I") ∈ sm_GW := sm_w 240 (by decide +kernel) (by decide +kernel)
theorem wd_239 : (Jvm.Cond.fieldLink "LentShades$Reader" (33 : Nat) "LentShades$Reader" "token" "I") ∈ sm_GW := sm_w 239 (by decide +kernel) (by decide +kernel)
theorem wd_589 : (Jvm.Cond.methodLink "LentShades$Reader" (90 : Nat) ({ cls := "LentShades$Reader", name := "nextNumber", desc := "()V" } : Jvm.MethodName)) ∈ sm_GW := sm_w 589 (by decide +kernel) (by decide +kernel)
theorem wd_1509 : (Jvm.Cond.fieldLink "java/lang/String" (9 : Nat) "java/lang/String" "value" "[B") ∈ sm_GW := sm_w 1509 (by decide +kernel) (by decide +kernel)
theorem wd_544 : (Jvm.Cond.fieldLink "java/lang/String" (38 : Nat) "java/lang/String" "COMPACT_STRINGS" "Z") ∈ sm_GW := sm_w 544 (by decide +kernel) (by decide +kernel)
theorem wd_1510 : (Jvm.Cond.fieldLink "java/lang/String" (15 : Nat) "java/lang/String" "coder" "B") ∈ sm_GW := sm_w 1510 (by decide +kernel) (by decide +kernel)
theorem wd_540 : (Jvm.Cond.methodLink "java/lang/String" (335 : Nat) ({ cls := "java/lang/String", name := "coder", desc := "()B" } : Jvm.MethodName)) ∈ sm_GW := sm_w 540 (by decide +kernel) (by decide +kernel)
theorem wd_536 : (Jvm.Cond.methodLink "LentShades$Reader" (103 : Nat) ({ cls := "java/lang/String", name := "length", desc := "()I" } : Jvm.MethodName)) ∈ sm_GW := sm_w 536 (by decide +kernel) (by decide +kernel)
theorem wd_550 : (Jvm.Cond.methodLink "java/lang/String" (492 : Nat) ({ cls := "java/lang/String", name := "isLatin1", desc := "()Z" } : Jvm.MethodName)) ∈ sm_GW := sm_w 550 (by decide +kernel) (by decide +kernel)
theorem wd_560 : (Jvm.Cond.fieldLink "java/lang/String" (1053 : Nat) "jdk/internal/util/Preconditions" "SIOOBE_FORMATTER" "Ljava/util/function/BiFunction;") ∈ sm_GW := sm_w 560 (by decide +kernel) (by decide +kernel)
theorem wd_562 : (Jvm.Cond.methodLink "java/lang/String" (1059 : Nat) ({ cls := "jdk/internal/util/Preconditions", name := "checkIndex", desc := "(IILjava/util/function/BiFunction;)I" } : Jvm.MethodName)) ∈ sm_GW := sm_w 562 (by decide +kernel) (by decide +kernel)
theorem wd_557 : (Jvm.Cond.methodLink "java/lang/StringLatin1" (9 : Nat) ({ cls := "java/lang/String", name := "checkIndex", desc := "(II)V" } : Jvm.MethodName)) ∈ sm_GW := sm_w 557 (by decide +kernel) (by decide +kernel)
theorem wd_554 : (Jvm.Cond.methodLink "java/lang/String" (495 : Nat) ({ cls := "java/lang/StringLatin1", name := "charAt", desc := "([BI)C" } : Jvm.MethodName)) ∈ sm_GW := sm_w 554 (by decide +kernel) (by decide +kernel)
theorem wd_546 : (Jvm.Cond.methodLink "LentShades$Reader" (108 : Nat) ({ cls := "java/lang/String", name := "charAt", desc := "(I)C" } : Jvm.MethodName)) ∈ sm_GW := sm_w 546 (by decide +kernel) (by decide +kernel)
theorem wd_532 : (Jvm.Cond.methodLink "LentShades$Reader" (95 : Nat) ({ cls := "LentShades$Reader", name := "spells", desc := "(Ljava/lang/String;)Z" } : Jvm.MethodName)) ∈ sm_GW := sm_w 532 (by decide +kernel) (by decide +kernel)
theorem wd_527 : (Jvm.Cond.methodLink "LentShades$Reader" (84 : Nat) ({ cls := "LentShades$Reader", name := "nextWord", desc := "()V" } : Jvm.MethodName)) ∈ sm_GW := sm_w 527 (by decide +kernel) (by decide +kernel)
theorem wd_520 : (Jvm.Cond.methodLink "LentShades$Reader" (30 : Nat) ({ cls := "LentShades$Reader", name := "next", desc := "()V" } : Jvm.MethodName)) ∈ sm_GW := sm_w 520 (by decide +kernel) (by decide +kernel)
theorem wd_597 : (Jvm.Cond.methodLink "LentShades$Reader" (49 : Nat) ({ cls := "LentShades$Reader", name := "number", desc := "(I)Z" } : Jvm.MethodName)) ∈ sm_GW := sm_w 597 (by decide +kernel) (by decide +kernel)
theorem wd_601 : (Jvm.Cond.methodLink "LentShades$Reader" (56 : Nat) ({ cls := "LentShades$Reader", name := "stop", desc := "()Z" } : Jvm.MethodName)) ∈ sm_GW := sm_w 601 (by decide +kernel) (by decide +kernel)
theorem wd_593 : (Jvm.Cond.methodLink "LentShades$Reader" (36 : Nat) ({ cls := "LentShades$Reader", name := "clothItem", desc := "(LLentShades$House;)Z" } : Jvm.MethodName)) ∈ sm_GW := sm_w 593 (by decide +kernel) (by decide +kernel)
theorem wd_606 : (Jvm.Cond.methodLink "LentShades$Reader" (40 : Nat) ({ cls := "LentShades$Reader", name := "thingItem", desc := "(LLentShades$House;)Z" } : Jvm.MethodName)) ∈ sm_GW := sm_w 606 (by decide +kernel) (by decide +kernel)
theorem wd_615 : (Jvm.Cond.methodLink "LentShades$Reader" (70 : Nat) ({ cls := "LentShades$Reader", name := "isThere", desc := "(I)Z" } : Jvm.MethodName)) ∈ sm_GW := sm_w 615 (by decide +kernel) (by decide +kernel)
theorem wd_611 : (Jvm.Cond.methodLink "LentShades$Reader" (43 : Nat) ({ cls := "LentShades$Reader", name := "touchItem", desc := "(LLentShades$House;)Z" } : Jvm.MethodName)) ∈ sm_GW := sm_w 611 (by decide +kernel) (by decide +kernel)
theorem wd_516 : (Jvm.Cond.methodLink "LentShades" (128 : Nat) ({ cls := "LentShades$Reader", name := "readInto", desc := "(LLentShades$House;)I" } : Jvm.MethodName)) ∈ sm_GW := sm_w 516 (by decide +kernel) (by decide +kernel)
theorem wd_193 : (Jvm.Cond.fieldLink "LentShades$House" (73 : Nat) "LentShades$House" "nights" "I") ∈ sm_GW := sm_w 193 (by decide +kernel) (by decide +kernel)
theorem wd_624 : (Jvm.Cond.methodLink "LentShades$House" (76 : Nat) ({ cls := "LentShades$Shades", name := "reset", desc := "()V" } : Jvm.MethodName)) ∈ sm_GW := sm_w 624 (by decide +kernel) (by decide +kernel)
theorem wd_174 : (Jvm.Cond.fieldLink "LentShades$House" (29 : Nat) "LentShades$House" "hours" "[[I") ∈ sm_GW := sm_w 174 (by decide +kernel) (by decide +kernel)
theorem wd_620 : (Jvm.Cond.methodLink "LentShades" (132 : Nat) ({ cls := "LentShades$House", name := "emptyOut", desc := "()V" } : Jvm.MethodName)) ∈ sm_GW := sm_w 620 (by decide +kernel) (by decide +kernel)
theorem wd_605 : (Jvm.Cond.methodLink "LentShades$Reader" (60 : Nat) ({ cls := "LentShades$House", name := "addCloth", desc := "(III)V" } : Jvm.MethodName)) ∈ sm_GW := sm_w 605 (by decide +kernel) (by decide +kernel)
theorem wd_610 : (Jvm.Cond.methodLink "LentShades$Reader" (66 : Nat) ({ cls := "LentShades$House", name := "addThing", desc := "(I)V" } : Jvm.MethodName)) ∈ sm_GW := sm_w 610 (by decide +kernel) (by decide +kernel)
theorem wd_177 : (Jvm.Cond.fieldLink "LentShades$Reader" (73 : Nat) "LentShades$House" "hours" "[[I") ∈ sm_GW := sm_w 177 (by decide +kernel) (by decide +kernel)
theorem wd_630 : (Jvm.Cond.methodLink "LentShades" (135 : Nat) ({ cls := "LentShades$House", name := "hasCloth", desc := "(I)Z" } : Jvm.MethodName)) ∈ sm_GW := sm_w 630 (by decide +kernel) (by decide +kernel)
theorem wd_406 : (Jvm.Cond.fieldLink "LentShades" (48 : Nat) "LentShades" "takings" "LLentShades$Takings;") ∈ sm_GW := sm_w 406 (by decide +kernel) (by decide +kernel)
theorem wd_185 : (Jvm.Cond.fieldLink "LentShades$Takings" (44 : Nat) "LentShades$House" "cloths" "I") ∈ sm_GW := sm_w 185 (by decide +kernel) (by decide +kernel)
theorem wd_316 : (Jvm.Cond.fieldLink "LentShades$Takings" (50 : Nat) "LentShades$Takings" "cloths" "I") ∈ sm_GW := sm_w 316 (by decide +kernel) (by decide +kernel)
theorem wd_318 : (Jvm.Cond.fieldLink "LentShades$Takings" (51 : Nat) "LentShades$Takings" "shared" "I") ∈ sm_GW := sm_w 318 (by decide +kernel) (by decide +kernel)
theorem wd_314 : (Jvm.Cond.fieldLink "LentShades$Takings" (27 : Nat) "LentShades$Takings" "vain" "[Z") ∈ sm_GW := sm_w 314 (by decide +kernel) (by decide +kernel)
theorem wd_161 : (Jvm.Cond.fieldLink "LentShades$Takings" (54 : Nat) "LentShades$House" "kind" "[I") ∈ sm_GW := sm_w 161 (by decide +kernel) (by decide +kernel)
theorem wd_310 : (Jvm.Cond.fieldLink "LentShades$Takings" (20 : Nat) "LentShades$Takings" "part" "[[I") ∈ sm_GW := sm_w 310 (by decide +kernel) (by decide +kernel)
theorem wd_639 : (Jvm.Cond.methodLink "LentShades$Takings" (69 : Nat) ({ cls := "LentShades$House", name := "lends", desc := "(I)Z" } : Jvm.MethodName)) ∈ sm_GW := sm_w 639 (by decide +kernel) (by decide +kernel)
theorem wd_163 : (Jvm.Cond.fieldLink "LentShades$Takings" (73 : Nat) "LentShades$House" "hold" "[I") ∈ sm_GW := sm_w 163 (by decide +kernel) (by decide +kernel)
theorem wd_635 : (Jvm.Cond.methodLink "LentShades$Takings" (57 : Nat) ({ cls := "LentShades$Takings", name := "ofCloths", desc := "(LLentShades$House;I[I)I" } : Jvm.MethodName)) ∈ sm_GW := sm_w 635 (by decide +kernel) (by decide +kernel)
theorem wd_315 : (Jvm.Cond.fieldLink "LentShades$Takings" (31 : Nat) "LentShades$Takings" "greatest" "[I") ∈ sm_GW := sm_w 315 (by decide +kernel) (by decide +kernel)
theorem wd_191 : (Jvm.Cond.fieldLink "LentShades$Takings" (76 : Nat) "LentShades$House" "things" "I") ∈ sm_GW := sm_w 191 (by decide +kernel) (by decide +kernel)
theorem wd_643 : (Jvm.Cond.methodLink "LentShades$Takings" (61 : Nat) ({ cls := "LentShades$Takings", name := "ofThings", desc := "(LLentShades$House;I[I[I)I" } : Jvm.MethodName)) ∈ sm_GW := sm_w 643 (by decide +kernel) (by decide +kernel)
theorem wd_312 : (Jvm.Cond.fieldLink "LentShades$Takings" (23 : Nat) "LentShades$Takings" "whole" "[I") ∈ sm_GW := sm_w 312 (by decide +kernel) (by decide +kernel)
theorem wd_631 : (Jvm.Cond.methodLink "LentShades" (138 : Nat) ({ cls := "LentShades$Takings", name := "reckon", desc := "(LLentShades$House;[[I[I)V" } : Jvm.MethodName)) ∈ sm_GW := sm_w 631 (by decide +kernel) (by decide +kernel)
theorem wd_181 : (Jvm.Cond.fieldLink "LentShades" (142 : Nat) "LentShades$House" "now" "LLentShades$Shades;") ∈ sm_GW := sm_w 181 (by decide +kernel) (by decide +kernel)
theorem wd_319 : (Jvm.Cond.fieldLink "LentShades$Takings" (37 : Nat) "LentShades$Takings" "odd" "LLentShades$Shades;") ∈ sm_GW := sm_w 319 (by decide +kernel) (by decide +kernel)
theorem wd_320 : (Jvm.Cond.fieldLink "LentShades$Takings" (41 : Nat) "LentShades$Takings" "even" "LLentShades$Shades;") ∈ sm_GW := sm_w 320 (by decide +kernel) (by decide +kernel)
theorem wd_309 : (Jvm.Cond.fieldLink "LentShades$Takings" (12 : Nat) "LentShades$Takings" "sum" "LLentShades$Sum;") ∈ sm_GW := sm_w 309 (by decide +kernel) (by decide +kernel)
theorem wd_286 : (Jvm.Cond.fieldLink "LentShades$Sum" (9 : Nat) "LentShades$Sum" "coef" "[J") ∈ sm_GW := sm_w 286 (by decide +kernel) (by decide +kernel)
theorem wd_666 : (Jvm.Cond.methodLink "LentShades$Takings" (98 : Nat) ({ cls := "LentShades$Sum", name := "begin", desc := "()V" } : Jvm.MethodName)) ∈ sm_GW := sm_w 666 (by decide +kernel) (by decide +kernel)
theorem wd_289 : (Jvm.Cond.fieldLink "LentShades$Takings" (101 : Nat) "LentShades$Sum" "coef" "[J") ∈ sm_GW := sm_w 289 (by decide +kernel) (by decide +kernel)
theorem wd_148 : (Jvm.Cond.fieldLink "LentShades$Takings" (91 : Nat) "LentShades$Shades" "limb" "[I") ∈ sm_GW := sm_w 148 (by decide +kernel) (by decide +kernel)
theorem wd_151 : (Jvm.Cond.fieldLink "LentShades$Sum" (18 : Nat) "LentShades$Shades" "used" "I") ∈ sm_GW := sm_w 151 (by decide +kernel) (by decide +kernel)
theorem wd_291 : (Jvm.Cond.fieldLink "LentShades$Sum" (15 : Nat) "LentShades$Sum" "digits" "[J") ∈ sm_GW := sm_w 291 (by decide +kernel) (by decide +kernel)
theorem wd_147 : (Jvm.Cond.fieldLink "LentShades$Sum" (24 : Nat) "LentShades$Shades" "limb" "[I") ∈ sm_GW := sm_w 147 (by decide +kernel) (by decide +kernel)
theorem wd_678 : (Jvm.Cond.constantLong "LentShades$Sum" (28 : Nat) (1073741823 : Int64)) ∈ sm_GW := sm_w 678 (by decide +kernel) (by decide +kernel)
theorem wd_674 : (Jvm.Cond.methodLink "LentShades$Takings" (94 : Nat) ({ cls := "LentShades$Sum", name := "write", desc := "(LLentShades$Shades;[II)V" } : Jvm.MethodName)) ∈ sm_GW := sm_w 674 (by decide +kernel) (by decide +kernel)
theorem wd_152 : (Jvm.Cond.fieldLink "LentShades$Takings" (105 : Nat) "LentShades$Shades" "used" "I") ∈ sm_GW := sm_w 152 (by decide +kernel) (by decide +kernel)
theorem wd_683 : (Jvm.Cond.constantLong "LentShades$Shades" (34 : Nat) (12 : Int64)) ∈ sm_GW := sm_w 683 (by decide +kernel) (by decide +kernel)
theorem wd_684 : (Jvm.Cond.constantLong "LentShades$Shades" (36 : Nat) (1073741824 : Int64)) ∈ sm_GW := sm_w 684 (by decide +kernel) (by decide +kernel)
theorem wd_679 : (Jvm.Cond.methodLink "LentShades$Takings" (108 : Nat) ({ cls := "LentShades$Shades", name := "settle", desc := "(I)V" } : Jvm.MethodName)) ∈ sm_GW := sm_w 679 (by decide +kernel) (by decide +kernel)
theorem wd_670 : (Jvm.Cond.methodLink "LentShades$Takings" (87 : Nat) ({ cls := "LentShades$Takings", name := "takeMean", desc := "(I)V" } : Jvm.MethodName)) ∈ sm_GW := sm_w 670 (by decide +kernel) (by decide +kernel)
theorem wd_662 : (Jvm.Cond.methodLink "LentShades$Takings" (111 : Nat) ({ cls := "LentShades$Shades", name := "compare", desc := "(III)I" } : Jvm.MethodName)) ∈ sm_GW := sm_w 662 (by decide +kernel) (by decide +kernel)
theorem wd_658 : (Jvm.Cond.methodLink "LentShades$Takings" (83 : Nat) ({ cls := "LentShades$Takings", name := "takeGreatest", desc := "(ILLentShades$Shades;)V" } : Jvm.MethodName)) ∈ sm_GW := sm_w 658 (by decide +kernel) (by decide +kernel)
theorem wd_654 : (Jvm.Cond.methodLink "LentShades$Takings" (79 : Nat) ({ cls := "LentShades$Takings", name := "night", desc := "(LLentShades$Shades;LLentShades$Shades;)V" } : Jvm.MethodName)) ∈ sm_GW := sm_w 654 (by decide +kernel) (by decide +kernel)
theorem wd_650 : (Jvm.Cond.methodLink "LentShades" (146 : Nat) ({ cls := "LentShades$Takings", name := "behind", desc := "(LLentShades$Shades;I)LLentShades$Shades;" } : Jvm.MethodName)) ∈ sm_GW := sm_w 650 (by decide +kernel) (by decide +kernel)
theorem wd_405 : (Jvm.Cond.fieldLink "LentShades" (41 : Nat) "LentShades" "sum" "LLentShades$Sum;") ∈ sm_GW := sm_w 405 (by decide +kernel) (by decide +kernel)
theorem wd_685 : (Jvm.Cond.methodLink "LentShades" (150 : Nat) ({ cls := "LentShades$Sum", name := "begin", desc := "()V" } : Jvm.MethodName)) ∈ sm_GW := sm_w 685 (by decide +kernel) (by decide +kernel)
theorem wd_290 : (Jvm.Cond.fieldLink "LentShades" (153 : Nat) "LentShades$Sum" "coef" "[J") ∈ sm_GW := sm_w 290 (by decide +kernel) (by decide +kernel)
theorem wd_404 : (Jvm.Cond.fieldLink "LentShades" (34 : Nat) "LentShades" "fraction" "LLentShades$Fraction;") ∈ sm_GW := sm_w 404 (by decide +kernel) (by decide +kernel)
theorem wd_267 : (Jvm.Cond.fieldLink "LentShades$Fraction" (9 : Nat) "LentShades$Fraction" "above" "[I") ∈ sm_GW := sm_w 267 (by decide +kernel) (by decide +kernel)
theorem wd_690 : (Jvm.Cond.methodLink "LentShades$Fraction" (25 : Nat) ({ cls := "LentShades$Sum", name := "write", desc := "(LLentShades$Shades;[II)V" } : Jvm.MethodName)) ∈ sm_GW := sm_w 690 (by decide +kernel) (by decide +kernel)
theorem wd_150 : (Jvm.Cond.fieldLink "LentShades$Fraction" (31 : Nat) "LentShades$Shades" "used" "I") ∈ sm_GW := sm_w 150 (by decide +kernel) (by decide +kernel)
theorem wd_691 : (Jvm.Cond.methodLink "LentShades$Fraction" (36 : Nat) ({ cls := "LentShades$Fraction", name := "trimmed", desc := "([II)I" } : Jvm.MethodName)) ∈ sm_GW := sm_w 691 (by decide +kernel) (by decide +kernel)
theorem wd_269 : (Jvm.Cond.fieldLink "LentShades$Fraction" (18 : Nat) "LentShades$Fraction" "aboves" "I") ∈ sm_GW := sm_w 269 (by decide +kernel) (by decide +kernel)
theorem wd_694 : (Jvm.Cond.methodLink "LentShades$Fraction" (40 : Nat) ({ cls := "LentShades$Fraction", name := "remainder", desc := "([III)I" } : Jvm.MethodName)) ∈ sm_GW := sm_w 694 (by decide +kernel) (by decide +kernel)
theorem wd_698 : (Jvm.Cond.methodLink "LentShades$Fraction" (48 : Nat) ({ cls := "java/lang/Math", name := "max", desc := "(II)I" } : Jvm.MethodName)) ∈ sm_GW := sm_w 698 (by decide +kernel) (by decide +kernel)
theorem wd_699 : (Jvm.Cond.static ({ cls := "java/lang/Math", name := "max", desc := "(II)I" } : Jvm.MethodName)) ∈ sm_GW := sm_w 699 (by decide +kernel) (by decide +kernel)
theorem wd_117 : (Jvm.Cond.initialized "java/lang/Math") ∈ sm_GW := sm_w 117 (by decide +kernel) (by decide +kernel)
theorem wd_700 : (Jvm.Cond.code ({ cls := "java/lang/Math", name := "max", desc := "(II)I" } : Jvm.MethodName) prog_14_method_65_code (2 : Nat) (Option.some Jvm.ClassFile.FieldType.int)) ∈ sm_GW := sm_w 700 (by decide +kernel) (by decide +kernel)
theorem wd_701 : (Jvm.Cond.methodLink "LentShades$Fraction" (53 : Nat) ({ cls := "LentShades$Fraction", name := "divide", desc := "([III)V" } : Jvm.MethodName)) ∈ sm_GW := sm_w 701 (by decide +kernel) (by decide +kernel)
theorem wd_704 : (Jvm.Cond.methodLink "LentShades$Fraction" (57 : Nat) ({ cls := "LentShades$Sum", name := "begin", desc := "()V" } : Jvm.MethodName)) ∈ sm_GW := sm_w 704 (by decide +kernel) (by decide +kernel)
theorem wd_288 : (Jvm.Cond.fieldLink "LentShades$Fraction" (60 : Nat) "LentShades$Sum" "coef" "[J") ∈ sm_GW := sm_w 288 (by decide +kernel) (by decide +kernel)
theorem wd_705 : (Jvm.Cond.constantLong "LentShades$Fraction" (64 : Nat) (12 : Int64)) ∈ sm_GW := sm_w 705 (by decide +kernel) (by decide +kernel)
theorem wd_268 : (Jvm.Cond.fieldLink "LentShades$Fraction" (15 : Nat) "LentShades$Fraction" "below" "[I") ∈ sm_GW := sm_w 268 (by decide +kernel) (by decide +kernel)
theorem wd_270 : (Jvm.Cond.fieldLink "LentShades$Fraction" (22 : Nat) "LentShades$Fraction" "belows" "I") ∈ sm_GW := sm_w 270 (by decide +kernel) (by decide +kernel)
theorem wd_710 : (Jvm.Cond.fieldLink "LentShades$Fraction" (69 : Nat) "LentShades$Fraction" "PRIMES" "[I") ∈ sm_GW := sm_w 710 (by decide +kernel) (by decide +kernel)
theorem wd_712 : (Jvm.Cond.methodLink "LentShades$Fraction" (72 : Nat) ({ cls := "LentShades$Fraction", name := "bothDivide", desc := "(I)Z" } : Jvm.MethodName)) ∈ sm_GW := sm_w 712 (by decide +kernel) (by decide +kernel)
theorem wd_706 : (Jvm.Cond.methodLink "LentShades$Fraction" (66 : Nat) ({ cls := "LentShades$Fraction", name := "reduce", desc := "()V" } : Jvm.MethodName)) ∈ sm_GW := sm_w 706 (by decide +kernel) (by decide +kernel)
theorem wd_686 : (Jvm.Cond.methodLink "LentShades" (157 : Nat) ({ cls := "LentShades$Fraction", name := "put", desc := "(LLentShades$Sum;LLentShades$Shades;I)V" } : Jvm.MethodName)) ∈ sm_GW := sm_w 686 (by decide +kernel) (by decide +kernel)
theorem wd_192 : (Jvm.Cond.fieldLink "LentShades" (161 : Nat) "LentShades$House" "nights" "I") ∈ sm_GW := sm_w 192 (by decide +kernel) (by decide +kernel)
theorem wd_182 : (Jvm.Cond.fieldLink "LentShades$House" (39 : Nat) "LentShades$House" "past" "[LLentShades$Shades;") ∈ sm_GW := sm_w 182 (by decide +kernel) (by decide +kernel)
theorem wd_732 : (Jvm.Cond.methodLink "LentShades$Shades" (22 : Nat) ({ cls := "java/lang/System", name := "arraycopy", desc := "(Ljava/lang/Object;ILjava/lang/Object;II)V" } : Jvm.MethodName)) ∈ sm_GW := sm_w 732 (by decide +kernel) (by decide +kernel)
theorem wd_734 : (Jvm.Cond.native ({ cls := "java/lang/System", name := "arraycopy", desc := "(Ljava/lang/Object;ILjava/lang/Object;II)V" } : Jvm.MethodName)) ∈ sm_GW := sm_w 734 (by decide +kernel) (by decide +kernel)
theorem wd_733 : (Jvm.Cond.static ({ cls := "java/lang/System", name := "arraycopy", desc := "(Ljava/lang/Object;ILjava/lang/Object;II)V" } : Jvm.MethodName)) ∈ sm_GW := sm_w 733 (by decide +kernel) (by decide +kernel)
theorem wd_118 : (Jvm.Cond.initialized "java/lang/System") ∈ sm_GW := sm_w 118 (by decide +kernel) (by decide +kernel)
theorem wd_728 : (Jvm.Cond.methodLink "LentShades$House" (79 : Nat) ({ cls := "LentShades$Shades", name := "copyFrom", desc := "(LLentShades$Shades;)V" } : Jvm.MethodName)) ∈ sm_GW := sm_w 728 (by decide +kernel) (by decide +kernel)
theorem wd_724 : (Jvm.Cond.methodLink "LentShades" (167 : Nat) ({ cls := "LentShades$House", name := "wakeUpWith", desc := "(LLentShades$Shades;)V" } : Jvm.MethodName)) ∈ sm_GW := sm_w 724 (by decide +kernel) (by decide +kernel)
theorem wd_412 : (Jvm.Cond.fieldLink "LentShades" (263 : Nat) "LentShades" "noes" "I") ∈ sm_GW := sm_w 412 (by decide +kernel) (by decide +kernel)
theorem wd_720 : (Jvm.Cond.methodLink "LentShades" (164 : Nat) ({ cls := "LentShades", name := "refusedNo", desc := "()I" } : Jvm.MethodName)) ∈ sm_GW := sm_w 720 (by decide +kernel) (by decide +kernel)
theorem wd_739 : (Jvm.Cond.methodLink "LentShades" (171 : Nat) ({ cls := "LentShades$House", name := "goBack", desc := "()Z" } : Jvm.MethodName)) ∈ sm_GW := sm_w 739 (by decide +kernel) (by decide +kernel)
theorem wd_751 : (Jvm.Cond.methodLink "LentShades$Shades" (30 : Nat) ({ cls := "LentShades$Shades", name := "compare", desc := "(III)I" } : Jvm.MethodName)) ∈ sm_GW := sm_w 751 (by decide +kernel) (by decide +kernel)
theorem wd_747 : (Jvm.Cond.methodLink "LentShades" (175 : Nat) ({ cls := "LentShades$Shades", name := "hasAtLeast", desc := "(II)Z" } : Jvm.MethodName)) ∈ sm_GW := sm_w 747 (by decide +kernel) (by decide +kernel)
theorem wd_756 : (Jvm.Cond.methodLink "LentShades" (180 : Nat) ({ cls := "LentShades$House", name := "hasVain", desc := "()Z" } : Jvm.MethodName)) ∈ sm_GW := sm_w 756 (by decide +kernel) (by decide +kernel)
theorem wd_407 : (Jvm.Cond.fieldLink "LentShades" (55 : Nat) "LentShades" "resting" "LLentShades$Resting;") ∈ sm_GW := sm_w 407 (by decide +kernel) (by decide +kernel)
theorem wd_317 : (Jvm.Cond.fieldLink "LentShades$Resting" (29 : Nat) "LentShades$Takings" "cloths" "I") ∈ sm_GW := sm_w 317 (by decide +kernel) (by decide +kernel)
theorem wd_313 : (Jvm.Cond.fieldLink "LentShades$Resting" (35 : Nat) "LentShades$Takings" "whole" "[I") ∈ sm_GW := sm_w 313 (by decide +kernel) (by decide +kernel)
theorem wd_347 : (Jvm.Cond.fieldLink "LentShades$Resting" (11 : Nat) "LentShades$Resting" "matrix" "[[I") ∈ sm_GW := sm_w 347 (by decide +kernel) (by decide +kernel)
theorem wd_311 : (Jvm.Cond.fieldLink "LentShades$Resting" (43 : Nat) "LentShades$Takings" "part" "[[I") ∈ sm_GW := sm_w 311 (by decide +kernel) (by decide +kernel)
theorem wd_764 : (Jvm.Cond.methodLink "LentShades$Resting" (16 : Nat) ({ cls := "LentShades$Resting", name := "fill", desc := "(LLentShades$Takings;)V" } : Jvm.MethodName)) ∈ sm_GW := sm_w 764 (by decide +kernel) (by decide +kernel)
theorem wd_768 : (Jvm.Cond.methodLink "LentShades$Resting" (20 : Nat) ({ cls := "LentShades$Sum", name := "begin", desc := "()V" } : Jvm.MethodName)) ∈ sm_GW := sm_w 768 (by decide +kernel) (by decide +kernel)
theorem wd_769 : (Jvm.Cond.methodLink "LentShades$Resting" (25 : Nat) ({ cls := "LentShades$Resting", name := "minor", desc := "(II)I" } : Jvm.MethodName)) ∈ sm_GW := sm_w 769 (by decide +kernel) (by decide +kernel)
theorem wd_287 : (Jvm.Cond.fieldLink "LentShades$Resting" (39 : Nat) "LentShades$Sum" "coef" "[J") ∈ sm_GW := sm_w 287 (by decide +kernel) (by decide +kernel)
theorem wd_760 : (Jvm.Cond.methodLink "LentShades" (183 : Nat) ({ cls := "LentShades$Resting", name := "solve", desc := "(LLentShades$Takings;ILLentShades$Sum;)I" } : Jvm.MethodName)) ∈ sm_GW := sm_w 760 (by decide +kernel) (by decide +kernel)
theorem wd_408 : (Jvm.Cond.fieldLink "LentShades" (62 : Nat) "LentShades" "mover" "LLentShades$Mover;") ∈ sm_GW := sm_w 408 (by decide +kernel) (by decide +kernel)
theorem wd_359 : (Jvm.Cond.fieldLink "LentShades$Mover" (16 : Nat) "LentShades$Mover" "goal" "I") ∈ sm_GW := sm_w 359 (by decide +kernel) (by decide +kernel)
theorem wd_360 : (Jvm.Cond.fieldLink "LentShades$Mover" (20 : Nat) "LentShades$Mover" "fewestParts" "I") ∈ sm_GW := sm_w 360 (by decide +kernel) (by decide +kernel)
theorem wd_361 : (Jvm.Cond.fieldLink "LentShades$Mover" (23 : Nat) "LentShades$Mover" "mostParts" "I") ∈ sm_GW := sm_w 361 (by decide +kernel) (by decide +kernel)
theorem wd_362 : (Jvm.Cond.fieldLink "LentShades$Mover" (26 : Nat) "LentShades$Mover" "nights" "I") ∈ sm_GW := sm_w 362 (by decide +kernel) (by decide +kernel)
theorem wd_777 : (Jvm.Cond.methodLink "LentShades" (187 : Nat) ({ cls := "LentShades$Mover", name := "aim", desc := "(IIII)V" } : Jvm.MethodName)) ∈ sm_GW := sm_w 777 (by decide +kernel) (by decide +kernel)
theorem wd_358 : (Jvm.Cond.fieldLink "LentShades$Mover" (11 : Nat) "LentShades$Mover" "hours" "[[I") ∈ sm_GW := sm_w 358 (by decide +kernel) (by decide +kernel)
theorem wd_172 : (Jvm.Cond.fieldLink "LentShades$Mover" (68 : Nat) "LentShades$House" "colour" "[I") ∈ sm_GW := sm_w 172 (by decide +kernel) (by decide +kernel)
theorem wd_790 : (Jvm.Cond.methodLink "LentShades$Mover" (72 : Nat) ({ cls := "LentShades$Takings", name := "reckon", desc := "(LLentShades$House;[[I[I)V" } : Jvm.MethodName)) ∈ sm_GW := sm_w 790 (by decide +kernel) (by decide +kernel)
theorem wd_180 : (Jvm.Cond.fieldLink "LentShades$Mover" (78 : Nat) "LentShades$House" "now" "LLentShades$Shades;") ∈ sm_GW := sm_w 180 (by decide +kernel) (by decide +kernel)
theorem wd_791 : (Jvm.Cond.methodLink "LentShades$Mover" (82 : Nat) ({ cls := "LentShades$Takings", name := "behind", desc := "(LLentShades$Shades;I)LLentShades$Shades;" } : Jvm.MethodName)) ∈ sm_GW := sm_w 791 (by decide +kernel) (by decide +kernel)
theorem wd_792 : (Jvm.Cond.methodLink "LentShades$Mover" (86 : Nat) ({ cls := "LentShades$Shades", name := "hasAtLeast", desc := "(II)Z" } : Jvm.MethodName)) ∈ sm_GW := sm_w 792 (by decide +kernel) (by decide +kernel)
theorem wd_793 : (Jvm.Cond.methodLink "LentShades$Mover" (92 : Nat) ({ cls := "LentShades$Shades", name := "hasAtMost", desc := "(II)Z" } : Jvm.MethodName)) ∈ sm_GW := sm_w 793 (by decide +kernel) (by decide +kernel)
theorem wd_786 : (Jvm.Cond.methodLink "LentShades$Mover" (38 : Nat) ({ cls := "LentShades$Mover", name := "reached", desc := "(LLentShades$House;LLentShades$Takings;)Z" } : Jvm.MethodName)) ∈ sm_GW := sm_w 786 (by decide +kernel) (by decide +kernel)
theorem wd_805 : (Jvm.Cond.methodLink "LentShades$Mover" (95 : Nat) ({ cls := "LentShades$Mover", name := "lesser", desc := "(I)I" } : Jvm.MethodName)) ∈ sm_GW := sm_w 805 (by decide +kernel) (by decide +kernel)
theorem wd_808 : (Jvm.Cond.methodLink "LentShades$Mover" (98 : Nat) ({ cls := "LentShades$Mover", name := "other", desc := "(I)I" } : Jvm.MethodName)) ∈ sm_GW := sm_w 808 (by decide +kernel) (by decide +kernel)
theorem wd_811 : (Jvm.Cond.methodLink "LentShades$Mover" (101 : Nat) ({ cls := "LentShades$House", name := "hasCloth", desc := "(I)Z" } : Jvm.MethodName)) ∈ sm_GW := sm_w 811 (by decide +kernel) (by decide +kernel)
theorem wd_812 : (Jvm.Cond.methodLink "LentShades$Mover" (105 : Nat) ({ cls := "LentShades$House", name := "hasNumber", desc := "(I)Z" } : Jvm.MethodName)) ∈ sm_GW := sm_w 812 (by decide +kernel) (by decide +kernel)
theorem wd_175 : (Jvm.Cond.fieldLink "LentShades$Mover" (29 : Nat) "LentShades$House" "hours" "[[I") ∈ sm_GW := sm_w 175 (by decide +kernel) (by decide +kernel)
theorem wd_813 : (Jvm.Cond.methodLink "LentShades$Mover" (53 : Nat) ({ cls := "LentShades$Mover", name := "hoursOf", desc := "(I)I" } : Jvm.MethodName)) ∈ sm_GW := sm_w 813 (by decide +kernel) (by decide +kernel)
theorem wd_801 : (Jvm.Cond.methodLink "LentShades$Mover" (49 : Nat) ({ cls := "LentShades$Mover", name := "changes", desc := "(LLentShades$House;I)Z" } : Jvm.MethodName)) ∈ sm_GW := sm_w 801 (by decide +kernel) (by decide +kernel)
theorem wd_816 : (Jvm.Cond.methodLink "LentShades$Mover" (57 : Nat) ({ cls := "LentShades$Mover", name := "put", desc := "(II)V" } : Jvm.MethodName)) ∈ sm_GW := sm_w 816 (by decide +kernel) (by decide +kernel)
theorem wd_821 : (Jvm.Cond.methodLink "LentShades$Mover" (64 : Nat) ({ cls := "LentShades$Mover", name := "putBack", desc := "(ILLentShades$House;)V" } : Jvm.MethodName)) ∈ sm_GW := sm_w 821 (by decide +kernel) (by decide +kernel)
theorem wd_797 : (Jvm.Cond.methodLink "LentShades$Mover" (42 : Nat) ({ cls := "LentShades$Mover", name := "reachedByOneMore", desc := "(LLentShades$House;LLentShades$Takings;I)I" } : Jvm.MethodName)) ∈ sm_GW := sm_w 797 (by decide +kernel) (by decide +kernel)
theorem wd_363 : (Jvm.Cond.fieldLink "LentShades$Mover" (46 : Nat) "LentShades$Mover" "first" "I") ∈ sm_GW := sm_w 363 (by decide +kernel) (by decide +kernel)
theorem wd_785 : (Jvm.Cond.methodLink "LentShades$Mover" (32 : Nat) ({ cls := "java/lang/System", name := "arraycopy", desc := "(Ljava/lang/Object;ILjava/lang/Object;II)V" } : Jvm.MethodName)) ∈ sm_GW := sm_w 785 (by decide +kernel) (by decide +kernel)
theorem wd_365 : (Jvm.Cond.fieldLink "LentShades$Mover" (61 : Nat) "LentShades$Mover" "second" "I") ∈ sm_GW := sm_w 365 (by decide +kernel) (by decide +kernel)
theorem wd_781 : (Jvm.Cond.methodLink "LentShades" (191 : Nat) ({ cls := "LentShades$Mover", name := "search", desc := "(LLentShades$House;LLentShades$Takings;)I" } : Jvm.MethodName)) ∈ sm_GW := sm_w 781 (by decide +kernel) (by decide +kernel)
theorem wd_366 : (Jvm.Cond.fieldLink "LentShades" (202 : Nat) "LentShades$Mover" "second" "I") ∈ sm_GW := sm_w 366 (by decide +kernel) (by decide +kernel)
theorem wd_825 : (Jvm.Cond.methodLink "LentShades" (198 : Nat) ({ cls := "LentShades$Mover", name := "told", desc := "(I)I" } : Jvm.MethodName)) ∈ sm_GW := sm_w 825 (by decide +kernel) (by decide +kernel)
theorem wd_364 : (Jvm.Cond.fieldLink "LentShades" (195 : Nat) "LentShades$Mover" "first" "I") ∈ sm_GW := sm_w 364 (by decide +kernel) (by decide +kernel)
theorem wd_166 : (Jvm.Cond.fieldLink "LentShades" (205 : Nat) "LentShades$House" "least" "[I") ∈ sm_GW := sm_w 166 (by decide +kernel) (by decide +kernel)
theorem wd_169 : (Jvm.Cond.fieldLink "LentShades" (208 : Nat) "LentShades$House" "most" "[I") ∈ sm_GW := sm_w 169 (by decide +kernel) (by decide +kernel)
theorem wd_409 : (Jvm.Cond.fieldLink "LentShades" (69 : Nat) "LentShades" "box" "LLentShades$Chest;") ∈ sm_GW := sm_w 409 (by decide +kernel) (by decide +kernel)
theorem wd_187 : (Jvm.Cond.fieldLink "LentShades$Chest" (23 : Nat) "LentShades$House" "cloths" "I") ∈ sm_GW := sm_w 187 (by decide +kernel) (by decide +kernel)
theorem wd_390 : (Jvm.Cond.fieldLink "LentShades$Chest" (16 : Nat) "LentShades$Chest" "order" "[I") ∈ sm_GW := sm_w 390 (by decide +kernel) (by decide +kernel)
theorem wd_841 : (Jvm.Cond.methodLink "LentShades$Chest" (29 : Nat) ({ cls := "LentShades$Chest", name := "lay", desc := "(II)Z" } : Jvm.MethodName)) ∈ sm_GW := sm_w 841 (by decide +kernel) (by decide +kernel)
theorem wd_389 : (Jvm.Cond.fieldLink "LentShades$Chest" (11 : Nat) "LentShades$Chest" "hours" "[[I") ∈ sm_GW := sm_w 389 (by decide +kernel) (by decide +kernel)
theorem wd_171 : (Jvm.Cond.fieldLink "LentShades$Chest" (47 : Nat) "LentShades$House" "colour" "[I") ∈ sm_GW := sm_w 171 (by decide +kernel) (by decide +kernel)
theorem wd_850 : (Jvm.Cond.methodLink "LentShades$Chest" (50 : Nat) ({ cls := "LentShades$Takings", name := "reckon", desc := "(LLentShades$House;[[I[I)V" } : Jvm.MethodName)) ∈ sm_GW := sm_w 850 (by decide +kernel) (by decide +kernel)
theorem wd_179 : (Jvm.Cond.fieldLink "LentShades$Chest" (56 : Nat) "LentShades$House" "now" "LLentShades$Shades;") ∈ sm_GW := sm_w 179 (by decide +kernel) (by decide +kernel)
theorem wd_851 : (Jvm.Cond.methodLink "LentShades$Chest" (60 : Nat) ({ cls := "LentShades$Takings", name := "behind", desc := "(LLentShades$Shades;I)LLentShades$Shades;" } : Jvm.MethodName)) ∈ sm_GW := sm_w 851 (by decide +kernel) (by decide +kernel)
theorem wd_165 : (Jvm.Cond.fieldLink "LentShades$Chest" (64 : Nat) "LentShades$House" "least" "[I") ∈ sm_GW := sm_w 165 (by decide +kernel) (by decide +kernel)
theorem wd_852 : (Jvm.Cond.methodLink "LentShades$Chest" (67 : Nat) ({ cls := "LentShades$Shades", name := "hasAtLeast", desc := "(II)Z" } : Jvm.MethodName)) ∈ sm_GW := sm_w 852 (by decide +kernel) (by decide +kernel)
theorem wd_168 : (Jvm.Cond.fieldLink "LentShades$Chest" (72 : Nat) "LentShades$House" "most" "[I") ∈ sm_GW := sm_w 168 (by decide +kernel) (by decide +kernel)
theorem wd_853 : (Jvm.Cond.methodLink "LentShades$Chest" (75 : Nat) ({ cls := "LentShades$Shades", name := "hasAtMost", desc := "(II)Z" } : Jvm.MethodName)) ∈ sm_GW := sm_w 853 (by decide +kernel) (by decide +kernel)
theorem wd_845 : (Jvm.Cond.methodLink "LentShades$Chest" (33 : Nat) ({ cls := "LentShades$Chest", name := "fits", desc := "(LLentShades$House;LLentShades$Takings;)Z" } : Jvm.MethodName)) ∈ sm_GW := sm_w 845 (by decide +kernel) (by decide +kernel)
theorem wd_391 : (Jvm.Cond.fieldLink "LentShades$Chest" (20 : Nat) "LentShades$Chest" "first" "[I") ∈ sm_GW := sm_w 391 (by decide +kernel) (by decide +kernel)
theorem wd_854 : (Jvm.Cond.methodLink "LentShades$Chest" (37 : Nat) ({ cls := "java/lang/System", name := "arraycopy", desc := "(Ljava/lang/Object;ILjava/lang/Object;II)V" } : Jvm.MethodName)) ∈ sm_GW := sm_w 854 (by decide +kernel) (by decide +kernel)
theorem wd_837 : (Jvm.Cond.methodLink "LentShades" (211 : Nat) ({ cls := "LentShades$Chest", name := "countOrders", desc := "(LLentShades$House;LLentShades$Takings;)I" } : Jvm.MethodName)) ∈ sm_GW := sm_w 837 (by decide +kernel) (by decide +kernel)
theorem wd_392 : (Jvm.Cond.fieldLink "LentShades" (214 : Nat) "LentShades$Chest" "first" "[I") ∈ sm_GW := sm_w 392 (by decide +kernel) (by decide +kernel)
theorem wd_859 : (Jvm.Cond.methodLink "LentShades" (216 : Nat) ({ cls := "LentShades", name := "isShade", desc := "(II)Z" } : Jvm.MethodName)) ∈ sm_GW := sm_w 859 (by decide +kernel) (by decide +kernel)
theorem wd_866 : (Jvm.Cond.methodLink "LentShades$House" (60 : Nat) ({ cls := "LentShades$House", name := "lends", desc := "(I)Z" } : Jvm.MethodName)) ∈ sm_GW := sm_w 866 (by decide +kernel) (by decide +kernel)
theorem wd_862 : (Jvm.Cond.methodLink "LentShades" (219 : Nat) ({ cls := "LentShades$House", name := "lenders", desc := "()I" } : Jvm.MethodName)) ∈ sm_GW := sm_w 862 (by decide +kernel) (by decide +kernel)
theorem wd_871 : (Jvm.Cond.constantLong "LentShades" (284 : Nat) (12 : Int64)) ∈ sm_GW := sm_w 871 (by decide +kernel) (by decide +kernel)
theorem wd_875 : (Jvm.Cond.constant "java/lang/Integer" (265 : Nat) (1431655765 : Int32)) ∈ sm_GW := sm_w 875 (by decide +kernel) (by decide +kernel)
theorem wd_876 : (Jvm.Cond.constant "java/lang/Integer" (266 : Nat) (858993459 : Int32)) ∈ sm_GW := sm_w 876 (by decide +kernel) (by decide +kernel)
theorem wd_877 : (Jvm.Cond.constant "java/lang/Integer" (267 : Nat) (252645135 : Int32)) ∈ sm_GW := sm_w 877 (by decide +kernel) (by decide +kernel)
theorem wd_872 : (Jvm.Cond.methodLink "LentShades" (235 : Nat) ({ cls := "java/lang/Integer", name := "bitCount", desc := "(I)I" } : Jvm.MethodName)) ∈ sm_GW := sm_w 872 (by decide +kernel) (by decide +kernel)
theorem wd_878 : (Jvm.Cond.methodLink "LentShades" (286 : Nat) ({ cls := "LentShades$Sum", name := "isZeroIn", desc := "(LLentShades$Shades;)Z" } : Jvm.MethodName)) ∈ sm_GW := sm_w 878 (by decide +kernel) (by decide +kernel)
theorem wd_867 : (Jvm.Cond.methodLink "LentShades" (222 : Nat) ({ cls := "LentShades", name := "gives", desc := "(III)Z" } : Jvm.MethodName)) ∈ sm_GW := sm_w 867 (by decide +kernel) (by decide +kernel)
theorem wd_197 : (Jvm.Cond.fieldLink "LentShades" (226 : Nat) "LentShades$House" "borrowers" "I") ∈ sm_GW := sm_w 197 (by decide +kernel) (by decide +kernel)
theorem wd_196 : (Jvm.Cond.fieldLink "LentShades$House" (70 : Nat) "LentShades$House" "borrowers" "I") ∈ sm_GW := sm_w 196 (by decide +kernel) (by decide +kernel)
theorem wd_183 : (Jvm.Cond.fieldLink "LentShades$House" (43 : Nat) "LentShades$House" "wish" "[[I") ∈ sm_GW := sm_w 183 (by decide +kernel) (by decide +kernel)
theorem wd_890 : (Jvm.Cond.methodLink "LentShades" (229 : Nat) ({ cls := "LentShades$House", name := "addBorrower", desc := "(IIII)V" } : Jvm.MethodName)) ∈ sm_GW := sm_w 890 (by decide +kernel) (by decide +kernel)
theorem wd_184 : (Jvm.Cond.fieldLink "LentShades" (290 : Nat) "LentShades$House" "wish" "[[I") ∈ sm_GW := sm_w 184 (by decide +kernel) (by decide +kernel)
theorem wd_906 : (Jvm.Cond.methodLink "LentShades" (293 : Nat) ({ cls := "LentShades", name := "serves", desc := "(LLentShades$Shades;[I)Z" } : Jvm.MethodName)) ∈ sm_GW := sm_w 906 (by decide +kernel) (by decide +kernel)
theorem wd_902 : (Jvm.Cond.methodLink "LentShades" (232 : Nat) ({ cls := "LentShades", name := "contentBorrowers", desc := "()I" } : Jvm.MethodName)) ∈ sm_GW := sm_w 902 (by decide +kernel) (by decide +kernel)
theorem wd_914 : (Jvm.Cond.methodLink "LentShades$House" (83 : Nat) ({ cls := "LentShades$House", name := "overlap", desc := "([I[I)Z" } : Jvm.MethodName)) ∈ sm_GW := sm_w 914 (by decide +kernel) (by decide +kernel)
theorem wd_910 : (Jvm.Cond.methodLink "LentShades" (240 : Nat) ({ cls := "LentShades$House", name := "clash", desc := "(I)Z" } : Jvm.MethodName)) ∈ sm_GW := sm_w 910 (by decide +kernel) (by decide +kernel)
theorem wd_925 : (Jvm.Cond.methodLink "LentShades" (297 : Nat) ({ cls := "LentShades$Shades", name := "compare", desc := "(III)I" } : Jvm.MethodName)) ∈ sm_GW := sm_w 925 (by decide +kernel) (by decide +kernel)
theorem wd_921 : (Jvm.Cond.methodLink "LentShades" (243 : Nat) ({ cls := "LentShades", name := "isNewShade", desc := "(I)Z" } : Jvm.MethodName)) ∈ sm_GW := sm_w 921 (by decide +kernel) (by decide +kernel)
theorem wd_926 : (Jvm.Cond.methodLink "LentShades" (246 : Nat) ({ cls := "LentShades", name := "isNewColour", desc := "(I)Z" } : Jvm.MethodName)) ∈ sm_GW := sm_w 926 (by decide +kernel) (by decide +kernel)
theorem wd_410 : (Jvm.Cond.fieldLink "LentShades" (73 : Nat) "LentShades" "otherColours" "[I") ∈ sm_GW := sm_w 410 (by decide +kernel) (by decide +kernel)
theorem wd_938 : (Jvm.Cond.methodLink "LentShades" (249 : Nat) ({ cls := "LentShades$Fraction", name := "size", desc := "(I)I" } : Jvm.MethodName)) ∈ sm_GW := sm_w 938 (by decide +kernel) (by decide +kernel)
theorem wd_946 : (Jvm.Cond.methodLink "LentShades" (252 : Nat) ({ cls := "LentShades$Fraction", name := "digit", desc := "(II)I" } : Jvm.MethodName)) ∈ sm_GW := sm_w 946 (by decide +kernel) (by decide +kernel)
theorem wd_401 : (Jvm.Cond.fieldLink "LentShades" (16 : Nat) "LentShades" "images" "[LLentShades$House;") ∈ sm_GW := sm_w 401 (by decide +kernel) (by decide +kernel)
theorem wd_958 : (Jvm.Cond.methodLink "LentShades$House" (87 : Nat) ({ cls := "java/lang/System", name := "arraycopy", desc := "(Ljava/lang/Object;ILjava/lang/Object;II)V" } : Jvm.MethodName)) ∈ sm_GW := sm_w 958 (by decide +kernel) (by decide +kernel)
theorem wd_954 : (Jvm.Cond.methodLink "LentShades" (256 : Nat) ({ cls := "LentShades$House", name := "copyFrom", desc := "(LLentShades$House;)V" } : Jvm.MethodName)) ∈ sm_GW := sm_w 954 (by decide +kernel) (by decide +kernel)
theorem wd_402 : (Jvm.Cond.fieldLink "LentShades" (20 : Nat) "LentShades" "kept" "[Z") ∈ sm_GW := sm_w 402 (by decide +kernel) (by decide +kernel)
theorem wd_195 : (Jvm.Cond.fieldLink "LentShades" (281 : Nat) "LentShades$House" "undoable" "I") ∈ sm_GW := sm_w 195 (by decide +kernel) (by decide +kernel)
theorem wd_971 : (Jvm.Cond.methodLink "LentShades" (269 : Nat) ({ cls := "LentShades", name := "howMany", desc := "(I)I" } : Jvm.MethodName)) ∈ sm_GW := sm_w 971 (by decide +kernel) (by decide +kernel)
theorem wd_979 : (Jvm.Cond.constantLong "LentShades" (272 : Nat) (673 : Int64)) ∈ sm_GW := sm_w 979 (by decide +kernel) (by decide +kernel)
theorem wd_985 : (Jvm.Cond.constantLong "LentShades$House" (93 : Nat) (31 : Int64)) ∈ sm_GW := sm_w 985 (by decide +kernel) (by decide +kernel)
theorem wd_981 : (Jvm.Cond.methodLink "LentShades" (276 : Nat) ({ cls := "LentShades$House", name := "mixInto", desc := "(J)J" } : Jvm.MethodName)) ∈ sm_GW := sm_w 981 (by decide +kernel) (by decide +kernel)
theorem wd_990 : (Jvm.Cond.constantLong "LentShades$Fraction" (76 : Nat) (31 : Int64)) ∈ sm_GW := sm_w 990 (by decide +kernel) (by decide +kernel)
theorem wd_991 : (Jvm.Cond.methodLink "LentShades$Fraction" (78 : Nat) ({ cls := "LentShades$Fraction", name := "size", desc := "(I)I" } : Jvm.MethodName)) ∈ sm_GW := sm_w 991 (by decide +kernel) (by decide +kernel)
theorem wd_986 : (Jvm.Cond.methodLink "LentShades" (280 : Nat) ({ cls := "LentShades$Fraction", name := "mixInto", desc := "(J)J" } : Jvm.MethodName)) ∈ sm_GW := sm_w 986 (by decide +kernel) (by decide +kernel)
theorem wd_980 : (Jvm.Cond.constantLong "LentShades" (274 : Nat) (31 : Int64)) ∈ sm_GW := sm_w 980 (by decide +kernel) (by decide +kernel)
theorem wd_449 : (Jvm.Cond.code ({ cls := "LentShades", name := "within", desc := "(II)Z" } : Jvm.MethodName) prog_1_method_41_code (2 : Nat) (Option.some Jvm.ClassFile.FieldType.boolean)) ∈ sm_GW := sm_w 449 (by decide +kernel) (by decide +kernel)
theorem wd_102 : (Jvm.Cond.initialized "LentShades") ∈ sm_GW := sm_w 102 (by decide +kernel) (by decide +kernel)
theorem wd_448 : (Jvm.Cond.static ({ cls := "LentShades", name := "within", desc := "(II)Z" } : Jvm.MethodName)) ∈ sm_GW := sm_w 448 (by decide +kernel) (by decide +kernel)
theorem wd_465 : (Jvm.Cond.code ({ cls := "LentShades$Shades", name := "putParts", desc := "(II)V" } : Jvm.MethodName) prog_8_method_4_code (8 : Nat) (Option.none : Option Jvm.ClassFile.FieldType)) ∈ sm_GW := sm_w 465 (by decide +kernel) (by decide +kernel)
theorem wd_104 : (Jvm.Cond.initialized "LentShades$Shades") ∈ sm_GW := sm_w 104 (by decide +kernel) (by decide +kernel)
theorem wd_463 : (Jvm.Cond.instanceMethod ({ cls := "LentShades$Shades", name := "putParts", desc := "(II)V" } : Jvm.MethodName)) ∈ sm_GW := sm_w 463 (by decide +kernel) (by decide +kernel)
theorem wd_464 : (Jvm.Cond.selects "LentShades$Shades" ({ cls := "LentShades$Shades", name := "putParts", desc := "(II)V" } : Jvm.MethodName) ({ cls := "LentShades$Shades", name := "putParts", desc := "(II)V" } : Jvm.MethodName)) ∈ sm_GW := sm_w 464 (by decide +kernel) (by decide +kernel)
theorem wd_461 : (Jvm.Cond.code ({ cls := "LentShades$House", name := "addCloth", desc := "(III)V" } : Jvm.MethodName) prog_4_method_8_code (4 : Nat) (Option.none : Option Jvm.ClassFile.FieldType)) ∈ sm_GW := sm_w 461 (by decide +kernel) (by decide +kernel)
theorem wd_103 : (Jvm.Cond.initialized "LentShades$House") ∈ sm_GW := sm_w 103 (by decide +kernel) (by decide +kernel)
theorem wd_459 : (Jvm.Cond.instanceMethod ({ cls := "LentShades$House", name := "addCloth", desc := "(III)V" } : Jvm.MethodName)) ∈ sm_GW := sm_w 459 (by decide +kernel) (by decide +kernel)
theorem wd_460 : (Jvm.Cond.selects "LentShades$House" ({ cls := "LentShades$House", name := "addCloth", desc := "(III)V" } : Jvm.MethodName) ({ cls := "LentShades$House", name := "addCloth", desc := "(III)V" } : Jvm.MethodName)) ∈ sm_GW := sm_w 460 (by decide +kernel) (by decide +kernel)
theorem wd_457 : (Jvm.Cond.code ({ cls := "LentShades", name := "refusedFull", desc := "()I" } : Jvm.MethodName) prog_1_method_34_code (1 : Nat) (Option.some Jvm.ClassFile.FieldType.int)) ∈ sm_GW := sm_w 457 (by decide +kernel) (by decide +kernel)
theorem wd_456 : (Jvm.Cond.instanceMethod ({ cls := "LentShades", name := "refusedFull", desc := "()I" } : Jvm.MethodName)) ∈ sm_GW := sm_w 456 (by decide +kernel) (by decide +kernel)
theorem wd_1 : (Jvm.Cond.selects "LentShades" ({ cls := "LentShades", name := "refusedFull", desc := "()I" } : Jvm.MethodName) ({ cls := "LentShades", name := "refusedFull", desc := "()I" } : Jvm.MethodName)) ∈ sm_GW := sm_w 1 (by decide +kernel) (by decide +kernel)
theorem wd_453 : (Jvm.Cond.code ({ cls := "LentShades", name := "refusedBad", desc := "()I" } : Jvm.MethodName) prog_1_method_32_code (1 : Nat) (Option.some Jvm.ClassFile.FieldType.int)) ∈ sm_GW := sm_w 453 (by decide +kernel) (by decide +kernel)
theorem wd_452 : (Jvm.Cond.instanceMethod ({ cls := "LentShades", name := "refusedBad", desc := "()I" } : Jvm.MethodName)) ∈ sm_GW := sm_w 452 (by decide +kernel) (by decide +kernel)
theorem wd_0 : (Jvm.Cond.selects "LentShades" ({ cls := "LentShades", name := "refusedBad", desc := "()I" } : Jvm.MethodName) ({ cls := "LentShades", name := "refusedBad", desc := "()I" } : Jvm.MethodName)) ∈ sm_GW := sm_w 0 (by decide +kernel) (by decide +kernel)
theorem wd_446 : (Jvm.Cond.code ({ cls := "LentShades", name := "cloth", desc := "(III)I" } : Jvm.MethodName) prog_1_method_2_code (4 : Nat) (Option.some Jvm.ClassFile.FieldType.int)) ∈ sm_GW := sm_w 446 (by decide +kernel) (by decide +kernel)
theorem wd_444 : (Jvm.Cond.instanceMethod ({ cls := "LentShades", name := "cloth", desc := "(III)I" } : Jvm.MethodName)) ∈ sm_GW := sm_w 444 (by decide +kernel) (by decide +kernel)
theorem wd_445 : (Jvm.Cond.selects "LentShades" ({ cls := "LentShades", name := "cloth", desc := "(III)I" } : Jvm.MethodName) ({ cls := "LentShades", name := "cloth", desc := "(III)I" } : Jvm.MethodName)) ∈ sm_GW := sm_w 445 (by decide +kernel) (by decide +kernel)
theorem wd_474 : (Jvm.Cond.code ({ cls := "LentShades$House", name := "addThing", desc := "(I)V" } : Jvm.MethodName) prog_4_method_9_code (2 : Nat) (Option.none : Option Jvm.ClassFile.FieldType)) ∈ sm_GW := sm_w 474 (by decide +kernel) (by decide +kernel)
theorem wd_472 : (Jvm.Cond.instanceMethod ({ cls := "LentShades$House", name := "addThing", desc := "(I)V" } : Jvm.MethodName)) ∈ sm_GW := sm_w 472 (by decide +kernel) (by decide +kernel)
theorem wd_473 : (Jvm.Cond.selects "LentShades$House" ({ cls := "LentShades$House", name := "addThing", desc := "(I)V" } : Jvm.MethodName) ({ cls := "LentShades$House", name := "addThing", desc := "(I)V" } : Jvm.MethodName)) ∈ sm_GW := sm_w 473 (by decide +kernel) (by decide +kernel)
theorem wd_470 : (Jvm.Cond.code ({ cls := "LentShades", name := "thing", desc := "(I)I" } : Jvm.MethodName) prog_1_method_3_code (2 : Nat) (Option.some Jvm.ClassFile.FieldType.int)) ∈ sm_GW := sm_w 470 (by decide +kernel) (by decide +kernel)
theorem wd_468 : (Jvm.Cond.instanceMethod ({ cls := "LentShades", name := "thing", desc := "(I)I" } : Jvm.MethodName)) ∈ sm_GW := sm_w 468 (by decide +kernel) (by decide +kernel)
theorem wd_469 : (Jvm.Cond.selects "LentShades" ({ cls := "LentShades", name := "thing", desc := "(I)I" } : Jvm.MethodName) ({ cls := "LentShades", name := "thing", desc := "(I)I" } : Jvm.MethodName)) ∈ sm_GW := sm_w 469 (by decide +kernel) (by decide +kernel)
theorem wd_486 : (Jvm.Cond.code ({ cls := "LentShades$House", name := "hasCloth", desc := "(I)Z" } : Jvm.MethodName) prog_4_method_2_code (2 : Nat) (Option.some Jvm.ClassFile.FieldType.boolean)) ∈ sm_GW := sm_w 486 (by decide +kernel) (by decide +kernel)
theorem wd_484 : (Jvm.Cond.instanceMethod ({ cls := "LentShades$House", name := "hasCloth", desc := "(I)Z" } : Jvm.MethodName)) ∈ sm_GW := sm_w 484 (by decide +kernel) (by decide +kernel)
theorem wd_485 : (Jvm.Cond.selects "LentShades$House" ({ cls := "LentShades$House", name := "hasCloth", desc := "(I)Z" } : Jvm.MethodName) ({ cls := "LentShades$House", name := "hasCloth", desc := "(I)Z" } : Jvm.MethodName)) ∈ sm_GW := sm_w 485 (by decide +kernel) (by decide +kernel)
theorem wd_490 : (Jvm.Cond.code ({ cls := "LentShades$House", name := "hasThing", desc := "(I)Z" } : Jvm.MethodName) prog_4_method_3_code (2 : Nat) (Option.some Jvm.ClassFile.FieldType.boolean)) ∈ sm_GW := sm_w 490 (by decide +kernel) (by decide +kernel)
theorem wd_488 : (Jvm.Cond.instanceMethod ({ cls := "LentShades$House", name := "hasThing", desc := "(I)Z" } : Jvm.MethodName)) ∈ sm_GW := sm_w 488 (by decide +kernel) (by decide +kernel)
theorem wd_489 : (Jvm.Cond.selects "LentShades$House" ({ cls := "LentShades$House", name := "hasThing", desc := "(I)Z" } : Jvm.MethodName) ({ cls := "LentShades$House", name := "hasThing", desc := "(I)Z" } : Jvm.MethodName)) ∈ sm_GW := sm_w 489 (by decide +kernel) (by decide +kernel)
theorem wd_482 : (Jvm.Cond.code ({ cls := "LentShades$House", name := "hasNumber", desc := "(I)Z" } : Jvm.MethodName) prog_4_method_4_code (2 : Nat) (Option.some Jvm.ClassFile.FieldType.boolean)) ∈ sm_GW := sm_w 482 (by decide +kernel) (by decide +kernel)
theorem wd_480 : (Jvm.Cond.instanceMethod ({ cls := "LentShades$House", name := "hasNumber", desc := "(I)Z" } : Jvm.MethodName)) ∈ sm_GW := sm_w 480 (by decide +kernel) (by decide +kernel)
theorem wd_481 : (Jvm.Cond.selects "LentShades$House" ({ cls := "LentShades$House", name := "hasNumber", desc := "(I)Z" } : Jvm.MethodName) ({ cls := "LentShades$House", name := "hasNumber", desc := "(I)Z" } : Jvm.MethodName)) ∈ sm_GW := sm_w 481 (by decide +kernel) (by decide +kernel)
theorem wd_493 : (Jvm.Cond.code ({ cls := "LentShades", name := "putHours", desc := "([[IIII)V" } : Jvm.MethodName) prog_1_method_42_code (4 : Nat) (Option.none : Option Jvm.ClassFile.FieldType)) ∈ sm_GW := sm_w 493 (by decide +kernel) (by decide +kernel)
theorem wd_492 : (Jvm.Cond.static ({ cls := "LentShades", name := "putHours", desc := "([[IIII)V" } : Jvm.MethodName)) ∈ sm_GW := sm_w 492 (by decide +kernel) (by decide +kernel)
theorem wd_478 : (Jvm.Cond.code ({ cls := "LentShades", name := "touch", desc := "(III)I" } : Jvm.MethodName) prog_1_method_4_code (5 : Nat) (Option.some Jvm.ClassFile.FieldType.int)) ∈ sm_GW := sm_w 478 (by decide +kernel) (by decide +kernel)
theorem wd_476 : (Jvm.Cond.instanceMethod ({ cls := "LentShades", name := "touch", desc := "(III)I" } : Jvm.MethodName)) ∈ sm_GW := sm_w 476 (by decide +kernel) (by decide +kernel)
theorem wd_477 : (Jvm.Cond.selects "LentShades" ({ cls := "LentShades", name := "touch", desc := "(III)I" } : Jvm.MethodName) ({ cls := "LentShades", name := "touch", desc := "(III)I" } : Jvm.MethodName)) ∈ sm_GW := sm_w 477 (by decide +kernel) (by decide +kernel)
theorem wd_497 : (Jvm.Cond.code ({ cls := "LentShades", name := "colour", desc := "(II)I" } : Jvm.MethodName) prog_1_method_5_code (4 : Nat) (Option.some Jvm.ClassFile.FieldType.int)) ∈ sm_GW := sm_w 497 (by decide +kernel) (by decide +kernel)
theorem wd_495 : (Jvm.Cond.instanceMethod ({ cls := "LentShades", name := "colour", desc := "(II)I" } : Jvm.MethodName)) ∈ sm_GW := sm_w 495 (by decide +kernel) (by decide +kernel)
theorem wd_496 : (Jvm.Cond.selects "LentShades" ({ cls := "LentShades", name := "colour", desc := "(II)I" } : Jvm.MethodName) ({ cls := "LentShades", name := "colour", desc := "(II)I" } : Jvm.MethodName)) ∈ sm_GW := sm_w 496 (by decide +kernel) (by decide +kernel)
theorem wd_506 : (Jvm.Cond.code ({ cls := "LentShades$Reader", name := "append", desc := "(JI)V" } : Jvm.MethodName) prog_6_method_2_code (5 : Nat) (Option.none : Option Jvm.ClassFile.FieldType)) ∈ sm_GW := sm_w 506 (by decide +kernel) (by decide +kernel)
theorem wd_105 : (Jvm.Cond.initialized "LentShades$Reader") ∈ sm_GW := sm_w 105 (by decide +kernel) (by decide +kernel)
theorem wd_504 : (Jvm.Cond.instanceMethod ({ cls := "LentShades$Reader", name := "append", desc := "(JI)V" } : Jvm.MethodName)) ∈ sm_GW := sm_w 504 (by decide +kernel) (by decide +kernel)
theorem wd_505 : (Jvm.Cond.selects "LentShades$Reader" ({ cls := "LentShades$Reader", name := "append", desc := "(JI)V" } : Jvm.MethodName) ({ cls := "LentShades$Reader", name := "append", desc := "(JI)V" } : Jvm.MethodName)) ∈ sm_GW := sm_w 505 (by decide +kernel) (by decide +kernel)
theorem wd_502 : (Jvm.Cond.code ({ cls := "LentShades", name := "type", desc := "(JI)I" } : Jvm.MethodName) prog_1_method_6_code (4 : Nat) (Option.some Jvm.ClassFile.FieldType.int)) ∈ sm_GW := sm_w 502 (by decide +kernel) (by decide +kernel)
theorem wd_500 : (Jvm.Cond.instanceMethod ({ cls := "LentShades", name := "type", desc := "(JI)I" } : Jvm.MethodName)) ∈ sm_GW := sm_w 500 (by decide +kernel) (by decide +kernel)
theorem wd_501 : (Jvm.Cond.selects "LentShades" ({ cls := "LentShades", name := "type", desc := "(JI)I" } : Jvm.MethodName) ({ cls := "LentShades", name := "type", desc := "(JI)I" } : Jvm.MethodName)) ∈ sm_GW := sm_w 501 (by decide +kernel) (by decide +kernel)
theorem wd_511 : (Jvm.Cond.code ({ cls := "LentShades", name := "clear", desc := "()I" } : Jvm.MethodName) prog_1_method_7_code (2 : Nat) (Option.some Jvm.ClassFile.FieldType.int)) ∈ sm_GW := sm_w 511 (by decide +kernel) (by decide +kernel)
theorem wd_509 : (Jvm.Cond.instanceMethod ({ cls := "LentShades", name := "clear", desc := "()I" } : Jvm.MethodName)) ∈ sm_GW := sm_w 509 (by decide +kernel) (by decide +kernel)
theorem wd_510 : (Jvm.Cond.selects "LentShades" ({ cls := "LentShades", name := "clear", desc := "()I" } : Jvm.MethodName) ({ cls := "LentShades", name := "clear", desc := "()I" } : Jvm.MethodName)) ∈ sm_GW := sm_w 510 (by decide +kernel) (by decide +kernel)
theorem wd_526 : (Jvm.Cond.code ({ cls := "LentShades$Reader", name := "isLetter", desc := "(I)Z" } : Jvm.MethodName) prog_6_method_14_code (1 : Nat) (Option.some Jvm.ClassFile.FieldType.boolean)) ∈ sm_GW := sm_w 526 (by decide +kernel) (by decide +kernel)
theorem wd_525 : (Jvm.Cond.static ({ cls := "LentShades$Reader", name := "isLetter", desc := "(I)Z" } : Jvm.MethodName)) ∈ sm_GW := sm_w 525 (by decide +kernel) (by decide +kernel)
theorem wd_588 : (Jvm.Cond.code ({ cls := "LentShades$Reader", name := "isFigure", desc := "(I)Z" } : Jvm.MethodName) prog_6_method_15_code (1 : Nat) (Option.some Jvm.ClassFile.FieldType.boolean)) ∈ sm_GW := sm_w 588 (by decide +kernel) (by decide +kernel)
theorem wd_587 : (Jvm.Cond.static ({ cls := "LentShades$Reader", name := "isFigure", desc := "(I)Z" } : Jvm.MethodName)) ∈ sm_GW := sm_w 587 (by decide +kernel) (by decide +kernel)
theorem wd_592 : (Jvm.Cond.code ({ cls := "LentShades$Reader", name := "nextNumber", desc := "()V" } : Jvm.MethodName) prog_6_method_13_code (1 : Nat) (Option.none : Option Jvm.ClassFile.FieldType)) ∈ sm_GW := sm_w 592 (by decide +kernel) (by decide +kernel)
theorem wd_591 : (Jvm.Cond.instanceMethod ({ cls := "LentShades$Reader", name := "nextNumber", desc := "()V" } : Jvm.MethodName)) ∈ sm_GW := sm_w 591 (by decide +kernel) (by decide +kernel)
theorem wd_5 : (Jvm.Cond.selects "LentShades$Reader" ({ cls := "LentShades$Reader", name := "nextNumber", desc := "()V" } : Jvm.MethodName) ({ cls := "LentShades$Reader", name := "nextNumber", desc := "()V" } : Jvm.MethodName)) ∈ sm_GW := sm_w 5 (by decide +kernel) (by decide +kernel)
theorem wd_543 : (Jvm.Cond.code ({ cls := "java/lang/String", name := "coder", desc := "()B" } : Jvm.MethodName) prog_15_method_152_code (1 : Nat) (Option.some Jvm.ClassFile.FieldType.byte)) ∈ sm_GW := sm_w 543 (by decide +kernel) (by decide +kernel)
theorem wd_113 : (Jvm.Cond.initialized "java/lang/String") ∈ sm_GW := sm_w 113 (by decide +kernel) (by decide +kernel)
theorem wd_541 : (Jvm.Cond.instanceMethod ({ cls := "java/lang/String", name := "coder", desc := "()B" } : Jvm.MethodName)) ∈ sm_GW := sm_w 541 (by decide +kernel) (by decide +kernel)
theorem wd_542 : (Jvm.Cond.selects "java/lang/String" ({ cls := "java/lang/String", name := "coder", desc := "()B" } : Jvm.MethodName) ({ cls := "java/lang/String", name := "coder", desc := "()B" } : Jvm.MethodName)) ∈ sm_GW := sm_w 542 (by decide +kernel) (by decide +kernel)
theorem wd_539 : (Jvm.Cond.code ({ cls := "java/lang/String", name := "length", desc := "()I" } : Jvm.MethodName) prog_15_method_54_code (1 : Nat) (Option.some Jvm.ClassFile.FieldType.int)) ∈ sm_GW := sm_w 539 (by decide +kernel) (by decide +kernel)
theorem wd_537 : (Jvm.Cond.instanceMethod ({ cls := "java/lang/String", name := "length", desc := "()I" } : Jvm.MethodName)) ∈ sm_GW := sm_w 537 (by decide +kernel) (by decide +kernel)
theorem wd_538 : (Jvm.Cond.selects "java/lang/String" ({ cls := "java/lang/String", name := "length", desc := "()I" } : Jvm.MethodName) ({ cls := "java/lang/String", name := "length", desc := "()I" } : Jvm.MethodName)) ∈ sm_GW := sm_w 538 (by decide +kernel) (by decide +kernel)
theorem wd_553 : (Jvm.Cond.code ({ cls := "java/lang/String", name := "isLatin1", desc := "()Z" } : Jvm.MethodName) prog_15_method_154_code (1 : Nat) (Option.some Jvm.ClassFile.FieldType.boolean)) ∈ sm_GW := sm_w 553 (by decide +kernel) (by decide +kernel)
theorem wd_551 : (Jvm.Cond.instanceMethod ({ cls := "java/lang/String", name := "isLatin1", desc := "()Z" } : Jvm.MethodName)) ∈ sm_GW := sm_w 551 (by decide +kernel) (by decide +kernel)
theorem wd_552 : (Jvm.Cond.selects "java/lang/String" ({ cls := "java/lang/String", name := "isLatin1", desc := "()Z" } : Jvm.MethodName) ({ cls := "java/lang/String", name := "isLatin1", desc := "()Z" } : Jvm.MethodName)) ∈ sm_GW := sm_w 552 (by decide +kernel) (by decide +kernel)
theorem wd_564 : (Jvm.Cond.code ({ cls := "jdk/internal/util/Preconditions", name := "checkIndex", desc := "(IILjava/util/function/BiFunction;)I" } : Jvm.MethodName) prog_19_method_11_code (3 : Nat) (Option.some Jvm.ClassFile.FieldType.int)) ∈ sm_GW := sm_w 564 (by decide +kernel) (by decide +kernel)
theorem wd_115 : (Jvm.Cond.initialized "jdk/internal/util/Preconditions") ∈ sm_GW := sm_w 115 (by decide +kernel) (by decide +kernel)
theorem wd_563 : (Jvm.Cond.static ({ cls := "jdk/internal/util/Preconditions", name := "checkIndex", desc := "(IILjava/util/function/BiFunction;)I" } : Jvm.MethodName)) ∈ sm_GW := sm_w 563 (by decide +kernel) (by decide +kernel)
theorem wd_559 : (Jvm.Cond.code ({ cls := "java/lang/String", name := "checkIndex", desc := "(II)V" } : Jvm.MethodName) prog_15_method_155_code (2 : Nat) (Option.none : Option Jvm.ClassFile.FieldType)) ∈ sm_GW := sm_w 559 (by decide +kernel) (by decide +kernel)
theorem wd_558 : (Jvm.Cond.static ({ cls := "java/lang/String", name := "checkIndex", desc := "(II)V" } : Jvm.MethodName)) ∈ sm_GW := sm_w 558 (by decide +kernel) (by decide +kernel)
theorem wd_556 : (Jvm.Cond.code ({ cls := "java/lang/StringLatin1", name := "charAt", desc := "([BI)C" } : Jvm.MethodName) prog_16_method_2_code (2 : Nat) (Option.some Jvm.ClassFile.FieldType.char)) ∈ sm_GW := sm_w 556 (by decide +kernel) (by decide +kernel)
theorem wd_114 : (Jvm.Cond.initialized "java/lang/StringLatin1") ∈ sm_GW := sm_w 114 (by decide +kernel) (by decide +kernel)
theorem wd_555 : (Jvm.Cond.static ({ cls := "java/lang/StringLatin1", name := "charAt", desc := "([BI)C" } : Jvm.MethodName)) ∈ sm_GW := sm_w 555 (by decide +kernel) (by decide +kernel)
theorem wd_549 : (Jvm.Cond.code ({ cls := "java/lang/String", name := "charAt", desc := "(I)C" } : Jvm.MethodName) prog_15_method_56_code (2 : Nat) (Option.some Jvm.ClassFile.FieldType.char)) ∈ sm_GW := sm_w 549 (by decide +kernel) (by decide +kernel)
theorem wd_547 : (Jvm.Cond.instanceMethod ({ cls := "java/lang/String", name := "charAt", desc := "(I)C" } : Jvm.MethodName)) ∈ sm_GW := sm_w 547 (by decide +kernel) (by decide +kernel)
theorem wd_548 : (Jvm.Cond.selects "java/lang/String" ({ cls := "java/lang/String", name := "charAt", desc := "(I)C" } : Jvm.MethodName) ({ cls := "java/lang/String", name := "charAt", desc := "(I)C" } : Jvm.MethodName)) ∈ sm_GW := sm_w 548 (by decide +kernel) (by decide +kernel)
theorem wd_535 : (Jvm.Cond.code ({ cls := "LentShades$Reader", name := "spells", desc := "(Ljava/lang/String;)Z" } : Jvm.MethodName) prog_6_method_12_code (3 : Nat) (Option.some Jvm.ClassFile.FieldType.boolean)) ∈ sm_GW := sm_w 535 (by decide +kernel) (by decide +kernel)
theorem wd_534 : (Jvm.Cond.instanceMethod ({ cls := "LentShades$Reader", name := "spells", desc := "(Ljava/lang/String;)Z" } : Jvm.MethodName)) ∈ sm_GW := sm_w 534 (by decide +kernel) (by decide +kernel)
theorem wd_4 : (Jvm.Cond.selects "LentShades$Reader" ({ cls := "LentShades$Reader", name := "spells", desc := "(Ljava/lang/String;)Z" } : Jvm.MethodName) ({ cls := "LentShades$Reader", name := "spells", desc := "(Ljava/lang/String;)Z" } : Jvm.MethodName)) ∈ sm_GW := sm_w 4 (by decide +kernel) (by decide +kernel)
theorem wd_530 : (Jvm.Cond.code ({ cls := "LentShades$Reader", name := "nextWord", desc := "()V" } : Jvm.MethodName) prog_6_method_11_code (1 : Nat) (Option.none : Option Jvm.ClassFile.FieldType)) ∈ sm_GW := sm_w 530 (by decide +kernel) (by decide +kernel)
theorem wd_529 : (Jvm.Cond.instanceMethod ({ cls := "LentShades$Reader", name := "nextWord", desc := "()V" } : Jvm.MethodName)) ∈ sm_GW := sm_w 529 (by decide +kernel) (by decide +kernel)
theorem wd_3 : (Jvm.Cond.selects "LentShades$Reader" ({ cls := "LentShades$Reader", name := "nextWord", desc := "()V" } : Jvm.MethodName) ({ cls := "LentShades$Reader", name := "nextWord", desc := "()V" } : Jvm.MethodName)) ∈ sm_GW := sm_w 3 (by decide +kernel) (by decide +kernel)
theorem wd_523 : (Jvm.Cond.code ({ cls := "LentShades$Reader", name := "next", desc := "()V" } : Jvm.MethodName) prog_6_method_10_code (1 : Nat) (Option.none : Option Jvm.ClassFile.FieldType)) ∈ sm_GW := sm_w 523 (by decide +kernel) (by decide +kernel)
theorem wd_522 : (Jvm.Cond.instanceMethod ({ cls := "LentShades$Reader", name := "next", desc := "()V" } : Jvm.MethodName)) ∈ sm_GW := sm_w 522 (by decide +kernel) (by decide +kernel)
theorem wd_2 : (Jvm.Cond.selects "LentShades$Reader" ({ cls := "LentShades$Reader", name := "next", desc := "()V" } : Jvm.MethodName) ({ cls := "LentShades$Reader", name := "next", desc := "()V" } : Jvm.MethodName)) ∈ sm_GW := sm_w 2 (by decide +kernel) (by decide +kernel)
theorem wd_600 : (Jvm.Cond.code ({ cls := "LentShades$Reader", name := "number", desc := "(I)Z" } : Jvm.MethodName) prog_6_method_8_code (2 : Nat) (Option.some Jvm.ClassFile.FieldType.boolean)) ∈ sm_GW := sm_w 600 (by decide +kernel) (by decide +kernel)
theorem wd_599 : (Jvm.Cond.instanceMethod ({ cls := "LentShades$Reader", name := "number", desc := "(I)Z" } : Jvm.MethodName)) ∈ sm_GW := sm_w 599 (by decide +kernel) (by decide +kernel)
theorem wd_7 : (Jvm.Cond.selects "LentShades$Reader" ({ cls := "LentShades$Reader", name := "number", desc := "(I)Z" } : Jvm.MethodName) ({ cls := "LentShades$Reader", name := "number", desc := "(I)Z" } : Jvm.MethodName)) ∈ sm_GW := sm_w 7 (by decide +kernel) (by decide +kernel)
theorem wd_604 : (Jvm.Cond.code ({ cls := "LentShades$Reader", name := "stop", desc := "()Z" } : Jvm.MethodName) prog_6_method_9_code (1 : Nat) (Option.some Jvm.ClassFile.FieldType.boolean)) ∈ sm_GW := sm_w 604 (by decide +kernel) (by decide +kernel)
theorem wd_603 : (Jvm.Cond.instanceMethod ({ cls := "LentShades$Reader", name := "stop", desc := "()Z" } : Jvm.MethodName)) ∈ sm_GW := sm_w 603 (by decide +kernel) (by decide +kernel)
theorem wd_8 : (Jvm.Cond.selects "LentShades$Reader" ({ cls := "LentShades$Reader", name := "stop", desc := "()Z" } : Jvm.MethodName) ({ cls := "LentShades$Reader", name := "stop", desc := "()Z" } : Jvm.MethodName)) ∈ sm_GW := sm_w 8 (by decide +kernel) (by decide +kernel)
theorem wd_596 : (Jvm.Cond.code ({ cls := "LentShades$Reader", name := "clothItem", desc := "(LLentShades$House;)Z" } : Jvm.MethodName) prog_6_method_4_code (4 : Nat) (Option.some Jvm.ClassFile.FieldType.boolean)) ∈ sm_GW := sm_w 596 (by decide +kernel) (by decide +kernel)
theorem wd_595 : (Jvm.Cond.instanceMethod ({ cls := "LentShades$Reader", name := "clothItem", desc := "(LLentShades$House;)Z" } : Jvm.MethodName)) ∈ sm_GW := sm_w 595 (by decide +kernel) (by decide +kernel)
theorem wd_6 : (Jvm.Cond.selects "LentShades$Reader" ({ cls := "LentShades$Reader", name := "clothItem", desc := "(LLentShades$House;)Z" } : Jvm.MethodName) ({ cls := "LentShades$Reader", name := "clothItem", desc := "(LLentShades$House;)Z" } : Jvm.MethodName)) ∈ sm_GW := sm_w 6 (by decide +kernel) (by decide +kernel)
theorem wd_609 : (Jvm.Cond.code ({ cls := "LentShades$Reader", name := "thingItem", desc := "(LLentShades$House;)Z" } : Jvm.MethodName) prog_6_method_5_code (2 : Nat) (Option.some Jvm.ClassFile.FieldType.boolean)) ∈ sm_GW := sm_w 609 (by decide +kernel) (by decide +kernel)
theorem wd_608 : (Jvm.Cond.instanceMethod ({ cls := "LentShades$Reader", name := "thingItem", desc := "(LLentShades$House;)Z" } : Jvm.MethodName)) ∈ sm_GW := sm_w 608 (by decide +kernel) (by decide +kernel)
theorem wd_9 : (Jvm.Cond.selects "LentShades$Reader" ({ cls := "LentShades$Reader", name := "thingItem", desc := "(LLentShades$House;)Z" } : Jvm.MethodName) ({ cls := "LentShades$Reader", name := "thingItem", desc := "(LLentShades$House;)Z" } : Jvm.MethodName)) ∈ sm_GW := sm_w 9 (by decide +kernel) (by decide +kernel)
theorem wd_618 : (Jvm.Cond.code ({ cls := "LentShades$Reader", name := "isThere", desc := "(I)Z" } : Jvm.MethodName) prog_6_method_7_code (2 : Nat) (Option.some Jvm.ClassFile.FieldType.boolean)) ∈ sm_GW := sm_w 618 (by decide +kernel) (by decide +kernel)
theorem wd_617 : (Jvm.Cond.instanceMethod ({ cls := "LentShades$Reader", name := "isThere", desc := "(I)Z" } : Jvm.MethodName)) ∈ sm_GW := sm_w 617 (by decide +kernel) (by decide +kernel)
theorem wd_11 : (Jvm.Cond.selects "LentShades$Reader" ({ cls := "LentShades$Reader", name := "isThere", desc := "(I)Z" } : Jvm.MethodName) ({ cls := "LentShades$Reader", name := "isThere", desc := "(I)Z" } : Jvm.MethodName)) ∈ sm_GW := sm_w 11 (by decide +kernel) (by decide +kernel)
theorem wd_614 : (Jvm.Cond.code ({ cls := "LentShades$Reader", name := "touchItem", desc := "(LLentShades$House;)Z" } : Jvm.MethodName) prog_6_method_6_code (4 : Nat) (Option.some Jvm.ClassFile.FieldType.boolean)) ∈ sm_GW := sm_w 614 (by decide +kernel) (by decide +kernel)
theorem wd_613 : (Jvm.Cond.instanceMethod ({ cls := "LentShades$Reader", name := "touchItem", desc := "(LLentShades$House;)Z" } : Jvm.MethodName)) ∈ sm_GW := sm_w 613 (by decide +kernel) (by decide +kernel)
theorem wd_10 : (Jvm.Cond.selects "LentShades$Reader" ({ cls := "LentShades$Reader", name := "touchItem", desc := "(LLentShades$House;)Z" } : Jvm.MethodName) ({ cls := "LentShades$Reader", name := "touchItem", desc := "(LLentShades$House;)Z" } : Jvm.MethodName)) ∈ sm_GW := sm_w 10 (by decide +kernel) (by decide +kernel)
theorem wd_519 : (Jvm.Cond.code ({ cls := "LentShades$Reader", name := "readInto", desc := "(LLentShades$House;)I" } : Jvm.MethodName) prog_6_method_3_code (5 : Nat) (Option.some Jvm.ClassFile.FieldType.int)) ∈ sm_GW := sm_w 519 (by decide +kernel) (by decide +kernel)
theorem wd_517 : (Jvm.Cond.instanceMethod ({ cls := "LentShades$Reader", name := "readInto", desc := "(LLentShades$House;)I" } : Jvm.MethodName)) ∈ sm_GW := sm_w 517 (by decide +kernel) (by decide +kernel)
theorem wd_518 : (Jvm.Cond.selects "LentShades$Reader" ({ cls := "LentShades$Reader", name := "readInto", desc := "(LLentShades$House;)I" } : Jvm.MethodName) ({ cls := "LentShades$Reader", name := "readInto", desc := "(LLentShades$House;)I" } : Jvm.MethodName)) ∈ sm_GW := sm_w 518 (by decide +kernel) (by decide +kernel)
theorem wd_145 : (Jvm.Cond.code ({ cls := "LentShades$Shades", name := "reset", desc := "()V" } : Jvm.MethodName) prog_8_method_2_code (1 : Nat) (Option.none : Option Jvm.ClassFile.FieldType)) ∈ sm_GW := sm_w 145 (by decide +kernel) (by decide +kernel)
theorem wd_143 : (Jvm.Cond.instanceMethod ({ cls := "LentShades$Shades", name := "reset", desc := "()V" } : Jvm.MethodName)) ∈ sm_GW := sm_w 143 (by decide +kernel) (by decide +kernel)
theorem wd_144 : (Jvm.Cond.selects "LentShades$Shades" ({ cls := "LentShades$Shades", name := "reset", desc := "()V" } : Jvm.MethodName) ({ cls := "LentShades$Shades", name := "reset", desc := "()V" } : Jvm.MethodName)) ∈ sm_GW := sm_w 144 (by decide +kernel) (by decide +kernel)
theorem wd_623 : (Jvm.Cond.code ({ cls := "LentShades$House", name := "emptyOut", desc := "()V" } : Jvm.MethodName) prog_4_method_11_code (3 : Nat) (Option.none : Option Jvm.ClassFile.FieldType)) ∈ sm_GW := sm_w 623 (by decide +kernel) (by decide +kernel)
theorem wd_621 : (Jvm.Cond.instanceMethod ({ cls := "LentShades$House", name := "emptyOut", desc := "()V" } : Jvm.MethodName)) ∈ sm_GW := sm_w 621 (by decide +kernel) (by decide +kernel)
theorem wd_622 : (Jvm.Cond.selects "LentShades$House" ({ cls := "LentShades$House", name := "emptyOut", desc := "()V" } : Jvm.MethodName) ({ cls := "LentShades$House", name := "emptyOut", desc := "()V" } : Jvm.MethodName)) ∈ sm_GW := sm_w 622 (by decide +kernel) (by decide +kernel)
theorem wd_515 : (Jvm.Cond.code ({ cls := "LentShades", name := "read", desc := "()I" } : Jvm.MethodName) prog_1_method_8_code (2 : Nat) (Option.some Jvm.ClassFile.FieldType.int)) ∈ sm_GW := sm_w 515 (by decide +kernel) (by decide +kernel)
theorem wd_513 : (Jvm.Cond.instanceMethod ({ cls := "LentShades", name := "read", desc := "()I" } : Jvm.MethodName)) ∈ sm_GW := sm_w 513 (by decide +kernel) (by decide +kernel)
theorem wd_514 : (Jvm.Cond.selects "LentShades" ({ cls := "LentShades", name := "read", desc := "()I" } : Jvm.MethodName) ({ cls := "LentShades", name := "read", desc := "()I" } : Jvm.MethodName)) ∈ sm_GW := sm_w 514 (by decide +kernel) (by decide +kernel)
theorem wd_642 : (Jvm.Cond.code ({ cls := "LentShades$House", name := "lends", desc := "(I)Z" } : Jvm.MethodName) prog_4_method_5_code (2 : Nat) (Option.some Jvm.ClassFile.FieldType.boolean)) ∈ sm_GW := sm_w 642 (by decide +kernel) (by decide +kernel)
theorem wd_640 : (Jvm.Cond.instanceMethod ({ cls := "LentShades$House", name := "lends", desc := "(I)Z" } : Jvm.MethodName)) ∈ sm_GW := sm_w 640 (by decide +kernel) (by decide +kernel)
theorem wd_641 : (Jvm.Cond.selects "LentShades$House" ({ cls := "LentShades$House", name := "lends", desc := "(I)Z" } : Jvm.MethodName) ({ cls := "LentShades$House", name := "lends", desc := "(I)Z" } : Jvm.MethodName)) ∈ sm_GW := sm_w 641 (by decide +kernel) (by decide +kernel)
theorem wd_638 : (Jvm.Cond.code ({ cls := "LentShades$Takings", name := "ofCloths", desc := "(LLentShades$House;I[I)I" } : Jvm.MethodName) prog_10_method_3_code (6 : Nat) (Option.some Jvm.ClassFile.FieldType.int)) ∈ sm_GW := sm_w 638 (by decide +kernel) (by decide +kernel)
theorem wd_108 : (Jvm.Cond.initialized "LentShades$Takings") ∈ sm_GW := sm_w 108 (by decide +kernel) (by decide +kernel)
theorem wd_637 : (Jvm.Cond.instanceMethod ({ cls := "LentShades$Takings", name := "ofCloths", desc := "(LLentShades$House;I[I)I" } : Jvm.MethodName)) ∈ sm_GW := sm_w 637 (by decide +kernel) (by decide +kernel)
theorem wd_12 : (Jvm.Cond.selects "LentShades$Takings" ({ cls := "LentShades$Takings", name := "ofCloths", desc := "(LLentShades$House;I[I)I" } : Jvm.MethodName) ({ cls := "LentShades$Takings", name := "ofCloths", desc := "(LLentShades$House;I[I)I" } : Jvm.MethodName)) ∈ sm_GW := sm_w 12 (by decide +kernel) (by decide +kernel)
theorem wd_646 : (Jvm.Cond.code ({ cls := "LentShades$Takings", name := "ofThings", desc := "(LLentShades$House;I[I[I)I" } : Jvm.MethodName) prog_10_method_4_code (9 : Nat) (Option.some Jvm.ClassFile.FieldType.int)) ∈ sm_GW := sm_w 646 (by decide +kernel) (by decide +kernel)
theorem wd_645 : (Jvm.Cond.instanceMethod ({ cls := "LentShades$Takings", name := "ofThings", desc := "(LLentShades$House;I[I[I)I" } : Jvm.MethodName)) ∈ sm_GW := sm_w 645 (by decide +kernel) (by decide +kernel)
theorem wd_13 : (Jvm.Cond.selects "LentShades$Takings" ({ cls := "LentShades$Takings", name := "ofThings", desc := "(LLentShades$House;I[I[I)I" } : Jvm.MethodName) ({ cls := "LentShades$Takings", name := "ofThings", desc := "(LLentShades$House;I[I[I)I" } : Jvm.MethodName)) ∈ sm_GW := sm_w 13 (by decide +kernel) (by decide +kernel)
theorem wd_649 : (Jvm.Cond.code ({ cls := "LentShades", name := "greatestDivisor", desc := "(II)I" } : Jvm.MethodName) prog_1_method_43_code (6 : Nat) (Option.some Jvm.ClassFile.FieldType.int)) ∈ sm_GW := sm_w 649 (by decide +kernel) (by decide +kernel)
theorem wd_648 : (Jvm.Cond.static ({ cls := "LentShades", name := "greatestDivisor", desc := "(II)I" } : Jvm.MethodName)) ∈ sm_GW := sm_w 648 (by decide +kernel) (by decide +kernel)
theorem wd_634 : (Jvm.Cond.code ({ cls := "LentShades$Takings", name := "reckon", desc := "(LLentShades$House;[[I[I)V" } : Jvm.MethodName) prog_10_method_2_code (7 : Nat) (Option.none : Option Jvm.ClassFile.FieldType)) ∈ sm_GW := sm_w 634 (by decide +kernel) (by decide +kernel)
theorem wd_632 : (Jvm.Cond.instanceMethod ({ cls := "LentShades$Takings", name := "reckon", desc := "(LLentShades$House;[[I[I)V" } : Jvm.MethodName)) ∈ sm_GW := sm_w 632 (by decide +kernel) (by decide +kernel)
theorem wd_633 : (Jvm.Cond.selects "LentShades$Takings" ({ cls := "LentShades$Takings", name := "reckon", desc := "(LLentShades$House;[[I[I)V" } : Jvm.MethodName) ({ cls := "LentShades$Takings", name := "reckon", desc := "(LLentShades$House;[[I[I)V" } : Jvm.MethodName)) ∈ sm_GW := sm_w 633 (by decide +kernel) (by decide +kernel)
theorem wd_669 : (Jvm.Cond.code ({ cls := "LentShades$Sum", name := "begin", desc := "()V" } : Jvm.MethodName) prog_9_method_2_code (2 : Nat) (Option.none : Option Jvm.ClassFile.FieldType)) ∈ sm_GW := sm_w 669 (by decide +kernel) (by decide +kernel)
theorem wd_107 : (Jvm.Cond.initialized "LentShades$Sum") ∈ sm_GW := sm_w 107 (by decide +kernel) (by decide +kernel)
theorem wd_667 : (Jvm.Cond.instanceMethod ({ cls := "LentShades$Sum", name := "begin", desc := "()V" } : Jvm.MethodName)) ∈ sm_GW := sm_w 667 (by decide +kernel) (by decide +kernel)
theorem wd_668 : (Jvm.Cond.selects "LentShades$Sum" ({ cls := "LentShades$Sum", name := "begin", desc := "()V" } : Jvm.MethodName) ({ cls := "LentShades$Sum", name := "begin", desc := "()V" } : Jvm.MethodName)) ∈ sm_GW := sm_w 668 (by decide +kernel) (by decide +kernel)
theorem wd_677 : (Jvm.Cond.code ({ cls := "LentShades$Sum", name := "write", desc := "(LLentShades$Shades;[II)V" } : Jvm.MethodName) prog_9_method_3_code (9 : Nat) (Option.none : Option Jvm.ClassFile.FieldType)) ∈ sm_GW := sm_w 677 (by decide +kernel) (by decide +kernel)
theorem wd_675 : (Jvm.Cond.instanceMethod ({ cls := "LentShades$Sum", name := "write", desc := "(LLentShades$Shades;[II)V" } : Jvm.MethodName)) ∈ sm_GW := sm_w 675 (by decide +kernel) (by decide +kernel)
theorem wd_676 : (Jvm.Cond.selects "LentShades$Sum" ({ cls := "LentShades$Sum", name := "write", desc := "(LLentShades$Shades;[II)V" } : Jvm.MethodName) ({ cls := "LentShades$Sum", name := "write", desc := "(LLentShades$Shades;[II)V" } : Jvm.MethodName)) ∈ sm_GW := sm_w 676 (by decide +kernel) (by decide +kernel)
theorem wd_682 : (Jvm.Cond.code ({ cls := "LentShades$Shades", name := "settle", desc := "(I)V" } : Jvm.MethodName) prog_8_method_8_code (5 : Nat) (Option.none : Option Jvm.ClassFile.FieldType)) ∈ sm_GW := sm_w 682 (by decide +kernel) (by decide +kernel)
theorem wd_680 : (Jvm.Cond.instanceMethod ({ cls := "LentShades$Shades", name := "settle", desc := "(I)V" } : Jvm.MethodName)) ∈ sm_GW := sm_w 680 (by decide +kernel) (by decide +kernel)
theorem wd_681 : (Jvm.Cond.selects "LentShades$Shades" ({ cls := "LentShades$Shades", name := "settle", desc := "(I)V" } : Jvm.MethodName) ({ cls := "LentShades$Shades", name := "settle", desc := "(I)V" } : Jvm.MethodName)) ∈ sm_GW := sm_w 681 (by decide +kernel) (by decide +kernel)
theorem wd_673 : (Jvm.Cond.code ({ cls := "LentShades$Takings", name := "takeMean", desc := "(I)V" } : Jvm.MethodName) prog_10_method_7_code (4 : Nat) (Option.none : Option Jvm.ClassFile.FieldType)) ∈ sm_GW := sm_w 673 (by decide +kernel) (by decide +kernel)
theorem wd_672 : (Jvm.Cond.instanceMethod ({ cls := "LentShades$Takings", name := "takeMean", desc := "(I)V" } : Jvm.MethodName)) ∈ sm_GW := sm_w 672 (by decide +kernel) (by decide +kernel)
theorem wd_16 : (Jvm.Cond.selects "LentShades$Takings" ({ cls := "LentShades$Takings", name := "takeMean", desc := "(I)V" } : Jvm.MethodName) ({ cls := "LentShades$Takings", name := "takeMean", desc := "(I)V" } : Jvm.MethodName)) ∈ sm_GW := sm_w 16 (by decide +kernel) (by decide +kernel)
theorem wd_665 : (Jvm.Cond.code ({ cls := "LentShades$Shades", name := "compare", desc := "(III)I" } : Jvm.MethodName) prog_8_method_5_code (12 : Nat) (Option.some Jvm.ClassFile.FieldType.int)) ∈ sm_GW := sm_w 665 (by decide +kernel) (by decide +kernel)
theorem wd_663 : (Jvm.Cond.instanceMethod ({ cls := "LentShades$Shades", name := "compare", desc := "(III)I" } : Jvm.MethodName)) ∈ sm_GW := sm_w 663 (by decide +kernel) (by decide +kernel)
theorem wd_664 : (Jvm.Cond.selects "LentShades$Shades" ({ cls := "LentShades$Shades", name := "compare", desc := "(III)I" } : Jvm.MethodName) ({ cls := "LentShades$Shades", name := "compare", desc := "(III)I" } : Jvm.MethodName)) ∈ sm_GW := sm_w 664 (by decide +kernel) (by decide +kernel)
theorem wd_661 : (Jvm.Cond.code ({ cls := "LentShades$Takings", name := "takeGreatest", desc := "(ILLentShades$Shades;)V" } : Jvm.MethodName) prog_10_method_8_code (7 : Nat) (Option.none : Option Jvm.ClassFile.FieldType)) ∈ sm_GW := sm_w 661 (by decide +kernel) (by decide +kernel)
theorem wd_660 : (Jvm.Cond.instanceMethod ({ cls := "LentShades$Takings", name := "takeGreatest", desc := "(ILLentShades$Shades;)V" } : Jvm.MethodName)) ∈ sm_GW := sm_w 660 (by decide +kernel) (by decide +kernel)
theorem wd_15 : (Jvm.Cond.selects "LentShades$Takings" ({ cls := "LentShades$Takings", name := "takeGreatest", desc := "(ILLentShades$Shades;)V" } : Jvm.MethodName) ({ cls := "LentShades$Takings", name := "takeGreatest", desc := "(ILLentShades$Shades;)V" } : Jvm.MethodName)) ∈ sm_GW := sm_w 15 (by decide +kernel) (by decide +kernel)
theorem wd_657 : (Jvm.Cond.code ({ cls := "LentShades$Takings", name := "night", desc := "(LLentShades$Shades;LLentShades$Shades;)V" } : Jvm.MethodName) prog_10_method_6_code (4 : Nat) (Option.none : Option Jvm.ClassFile.FieldType)) ∈ sm_GW := sm_w 657 (by decide +kernel) (by decide +kernel)
theorem wd_656 : (Jvm.Cond.instanceMethod ({ cls := "LentShades$Takings", name := "night", desc := "(LLentShades$Shades;LLentShades$Shades;)V" } : Jvm.MethodName)) ∈ sm_GW := sm_w 656 (by decide +kernel) (by decide +kernel)
theorem wd_14 : (Jvm.Cond.selects "LentShades$Takings" ({ cls := "LentShades$Takings", name := "night", desc := "(LLentShades$Shades;LLentShades$Shades;)V" } : Jvm.MethodName) ({ cls := "LentShades$Takings", name := "night", desc := "(LLentShades$Shades;LLentShades$Shades;)V" } : Jvm.MethodName)) ∈ sm_GW := sm_w 14 (by decide +kernel) (by decide +kernel)
theorem wd_653 : (Jvm.Cond.code ({ cls := "LentShades$Takings", name := "behind", desc := "(LLentShades$Shades;I)LLentShades$Shades;" } : Jvm.MethodName) prog_10_method_5_code (6 : Nat) (Option.some (Jvm.ClassFile.FieldType.object "LentShades$Shades"))) ∈ sm_GW := sm_w 653 (by decide +kernel) (by decide +kernel)
theorem wd_651 : (Jvm.Cond.instanceMethod ({ cls := "LentShades$Takings", name := "behind", desc := "(LLentShades$Shades;I)LLentShades$Shades;" } : Jvm.MethodName)) ∈ sm_GW := sm_w 651 (by decide +kernel) (by decide +kernel)
theorem wd_652 : (Jvm.Cond.selects "LentShades$Takings" ({ cls := "LentShades$Takings", name := "behind", desc := "(LLentShades$Shades;I)LLentShades$Shades;" } : Jvm.MethodName) ({ cls := "LentShades$Takings", name := "behind", desc := "(LLentShades$Shades;I)LLentShades$Shades;" } : Jvm.MethodName)) ∈ sm_GW := sm_w 652 (by decide +kernel) (by decide +kernel)
theorem wd_693 : (Jvm.Cond.code ({ cls := "LentShades$Fraction", name := "trimmed", desc := "([II)I" } : Jvm.MethodName) prog_3_method_7_code (3 : Nat) (Option.some Jvm.ClassFile.FieldType.int)) ∈ sm_GW := sm_w 693 (by decide +kernel) (by decide +kernel)
theorem wd_106 : (Jvm.Cond.initialized "LentShades$Fraction") ∈ sm_GW := sm_w 106 (by decide +kernel) (by decide +kernel)
theorem wd_692 : (Jvm.Cond.static ({ cls := "LentShades$Fraction", name := "trimmed", desc := "([II)I" } : Jvm.MethodName)) ∈ sm_GW := sm_w 692 (by decide +kernel) (by decide +kernel)
theorem wd_696 : (Jvm.Cond.code ({ cls := "LentShades$Fraction", name := "remainder", desc := "([III)I" } : Jvm.MethodName) prog_3_method_5_code (6 : Nat) (Option.some Jvm.ClassFile.FieldType.int)) ∈ sm_GW := sm_w 696 (by decide +kernel) (by decide +kernel)
theorem wd_695 : (Jvm.Cond.static ({ cls := "LentShades$Fraction", name := "remainder", desc := "([III)I" } : Jvm.MethodName)) ∈ sm_GW := sm_w 695 (by decide +kernel) (by decide +kernel)
theorem wd_703 : (Jvm.Cond.code ({ cls := "LentShades$Fraction", name := "divide", desc := "([III)V" } : Jvm.MethodName) prog_3_method_6_code (8 : Nat) (Option.none : Option Jvm.ClassFile.FieldType)) ∈ sm_GW := sm_w 703 (by decide +kernel) (by decide +kernel)
theorem wd_702 : (Jvm.Cond.static ({ cls := "LentShades$Fraction", name := "divide", desc := "([III)V" } : Jvm.MethodName)) ∈ sm_GW := sm_w 702 (by decide +kernel) (by decide +kernel)
theorem wd_715 : (Jvm.Cond.code ({ cls := "LentShades$Fraction", name := "bothDivide", desc := "(I)Z" } : Jvm.MethodName) prog_3_method_4_code (2 : Nat) (Option.some Jvm.ClassFile.FieldType.boolean)) ∈ sm_GW := sm_w 715 (by decide +kernel) (by decide +kernel)
theorem wd_714 : (Jvm.Cond.instanceMethod ({ cls := "LentShades$Fraction", name := "bothDivide", desc := "(I)Z" } : Jvm.MethodName)) ∈ sm_GW := sm_w 714 (by decide +kernel) (by decide +kernel)
theorem wd_18 : (Jvm.Cond.selects "LentShades$Fraction" ({ cls := "LentShades$Fraction", name := "bothDivide", desc := "(I)Z" } : Jvm.MethodName) ({ cls := "LentShades$Fraction", name := "bothDivide", desc := "(I)Z" } : Jvm.MethodName)) ∈ sm_GW := sm_w 18 (by decide +kernel) (by decide +kernel)
theorem wd_709 : (Jvm.Cond.code ({ cls := "LentShades$Fraction", name := "reduce", desc := "()V" } : Jvm.MethodName) prog_3_method_3_code (6 : Nat) (Option.none : Option Jvm.ClassFile.FieldType)) ∈ sm_GW := sm_w 709 (by decide +kernel) (by decide +kernel)
theorem wd_708 : (Jvm.Cond.instanceMethod ({ cls := "LentShades$Fraction", name := "reduce", desc := "()V" } : Jvm.MethodName)) ∈ sm_GW := sm_w 708 (by decide +kernel) (by decide +kernel)
theorem wd_17 : (Jvm.Cond.selects "LentShades$Fraction" ({ cls := "LentShades$Fraction", name := "reduce", desc := "()V" } : Jvm.MethodName) ({ cls := "LentShades$Fraction", name := "reduce", desc := "()V" } : Jvm.MethodName)) ∈ sm_GW := sm_w 17 (by decide +kernel) (by decide +kernel)
theorem wd_689 : (Jvm.Cond.code ({ cls := "LentShades$Fraction", name := "put", desc := "(LLentShades$Sum;LLentShades$Shades;I)V" } : Jvm.MethodName) prog_3_method_2_code (5 : Nat) (Option.none : Option Jvm.ClassFile.FieldType)) ∈ sm_GW := sm_w 689 (by decide +kernel) (by decide +kernel)
theorem wd_687 : (Jvm.Cond.instanceMethod ({ cls := "LentShades$Fraction", name := "put", desc := "(LLentShades$Sum;LLentShades$Shades;I)V" } : Jvm.MethodName)) ∈ sm_GW := sm_w 687 (by decide +kernel) (by decide +kernel)
theorem wd_688 : (Jvm.Cond.selects "LentShades$Fraction" ({ cls := "LentShades$Fraction", name := "put", desc := "(LLentShades$Sum;LLentShades$Shades;I)V" } : Jvm.MethodName) ({ cls := "LentShades$Fraction", name := "put", desc := "(LLentShades$Sum;LLentShades$Shades;I)V" } : Jvm.MethodName)) ∈ sm_GW := sm_w 688 (by decide +kernel) (by decide +kernel)
theorem wd_629 : (Jvm.Cond.code ({ cls := "LentShades", name := "shade", desc := "(II)I" } : Jvm.MethodName) prog_1_method_9_code (4 : Nat) (Option.some Jvm.ClassFile.FieldType.int)) ∈ sm_GW := sm_w 629 (by decide +kernel) (by decide +kernel)
theorem wd_627 : (Jvm.Cond.instanceMethod ({ cls := "LentShades", name := "shade", desc := "(II)I" } : Jvm.MethodName)) ∈ sm_GW := sm_w 627 (by decide +kernel) (by decide +kernel)
theorem wd_628 : (Jvm.Cond.selects "LentShades" ({ cls := "LentShades", name := "shade", desc := "(II)I" } : Jvm.MethodName) ({ cls := "LentShades", name := "shade", desc := "(II)I" } : Jvm.MethodName)) ∈ sm_GW := sm_w 628 (by decide +kernel) (by decide +kernel)
theorem wd_731 : (Jvm.Cond.code ({ cls := "LentShades$Shades", name := "copyFrom", desc := "(LLentShades$Shades;)V" } : Jvm.MethodName) prog_8_method_3_code (2 : Nat) (Option.none : Option Jvm.ClassFile.FieldType)) ∈ sm_GW := sm_w 731 (by decide +kernel) (by decide +kernel)
theorem wd_729 : (Jvm.Cond.instanceMethod ({ cls := "LentShades$Shades", name := "copyFrom", desc := "(LLentShades$Shades;)V" } : Jvm.MethodName)) ∈ sm_GW := sm_w 729 (by decide +kernel) (by decide +kernel)
theorem wd_730 : (Jvm.Cond.selects "LentShades$Shades" ({ cls := "LentShades$Shades", name := "copyFrom", desc := "(LLentShades$Shades;)V" } : Jvm.MethodName) ({ cls := "LentShades$Shades", name := "copyFrom", desc := "(LLentShades$Shades;)V" } : Jvm.MethodName)) ∈ sm_GW := sm_w 730 (by decide +kernel) (by decide +kernel)
theorem wd_727 : (Jvm.Cond.code ({ cls := "LentShades$House", name := "wakeUpWith", desc := "(LLentShades$Shades;)V" } : Jvm.MethodName) prog_4_method_12_code (4 : Nat) (Option.none : Option Jvm.ClassFile.FieldType)) ∈ sm_GW := sm_w 727 (by decide +kernel) (by decide +kernel)
theorem wd_725 : (Jvm.Cond.instanceMethod ({ cls := "LentShades$House", name := "wakeUpWith", desc := "(LLentShades$Shades;)V" } : Jvm.MethodName)) ∈ sm_GW := sm_w 725 (by decide +kernel) (by decide +kernel)
theorem wd_726 : (Jvm.Cond.selects "LentShades$House" ({ cls := "LentShades$House", name := "wakeUpWith", desc := "(LLentShades$Shades;)V" } : Jvm.MethodName) ({ cls := "LentShades$House", name := "wakeUpWith", desc := "(LLentShades$Shades;)V" } : Jvm.MethodName)) ∈ sm_GW := sm_w 726 (by decide +kernel) (by decide +kernel)
theorem wd_723 : (Jvm.Cond.code ({ cls := "LentShades", name := "refusedNo", desc := "()I" } : Jvm.MethodName) prog_1_method_33_code (1 : Nat) (Option.some Jvm.ClassFile.FieldType.int)) ∈ sm_GW := sm_w 723 (by decide +kernel) (by decide +kernel)
theorem wd_722 : (Jvm.Cond.instanceMethod ({ cls := "LentShades", name := "refusedNo", desc := "()I" } : Jvm.MethodName)) ∈ sm_GW := sm_w 722 (by decide +kernel) (by decide +kernel)
theorem wd_19 : (Jvm.Cond.selects "LentShades" ({ cls := "LentShades", name := "refusedNo", desc := "()I" } : Jvm.MethodName) ({ cls := "LentShades", name := "refusedNo", desc := "()I" } : Jvm.MethodName)) ∈ sm_GW := sm_w 19 (by decide +kernel) (by decide +kernel)
theorem wd_719 : (Jvm.Cond.code ({ cls := "LentShades", name := "sleep", desc := "()I" } : Jvm.MethodName) prog_1_method_10_code (1 : Nat) (Option.some Jvm.ClassFile.FieldType.int)) ∈ sm_GW := sm_w 719 (by decide +kernel) (by decide +kernel)
theorem wd_717 : (Jvm.Cond.instanceMethod ({ cls := "LentShades", name := "sleep", desc := "()I" } : Jvm.MethodName)) ∈ sm_GW := sm_w 717 (by decide +kernel) (by decide +kernel)
theorem wd_718 : (Jvm.Cond.selects "LentShades" ({ cls := "LentShades", name := "sleep", desc := "()I" } : Jvm.MethodName) ({ cls := "LentShades", name := "sleep", desc := "()I" } : Jvm.MethodName)) ∈ sm_GW := sm_w 718 (by decide +kernel) (by decide +kernel)
theorem wd_742 : (Jvm.Cond.code ({ cls := "LentShades$House", name := "goBack", desc := "()Z" } : Jvm.MethodName) prog_4_method_13_code (1 : Nat) (Option.some Jvm.ClassFile.FieldType.boolean)) ∈ sm_GW := sm_w 742 (by decide +kernel) (by decide +kernel)
theorem wd_740 : (Jvm.Cond.instanceMethod ({ cls := "LentShades$House", name := "goBack", desc := "()Z" } : Jvm.MethodName)) ∈ sm_GW := sm_w 740 (by decide +kernel) (by decide +kernel)
theorem wd_741 : (Jvm.Cond.selects "LentShades$House" ({ cls := "LentShades$House", name := "goBack", desc := "()Z" } : Jvm.MethodName) ({ cls := "LentShades$House", name := "goBack", desc := "()Z" } : Jvm.MethodName)) ∈ sm_GW := sm_w 741 (by decide +kernel) (by decide +kernel)
theorem wd_738 : (Jvm.Cond.code ({ cls := "LentShades", name := "undo", desc := "()I" } : Jvm.MethodName) prog_1_method_11_code (1 : Nat) (Option.some Jvm.ClassFile.FieldType.int)) ∈ sm_GW := sm_w 738 (by decide +kernel) (by decide +kernel)
theorem wd_736 : (Jvm.Cond.instanceMethod ({ cls := "LentShades", name := "undo", desc := "()I" } : Jvm.MethodName)) ∈ sm_GW := sm_w 736 (by decide +kernel) (by decide +kernel)
theorem wd_737 : (Jvm.Cond.selects "LentShades" ({ cls := "LentShades", name := "undo", desc := "()I" } : Jvm.MethodName) ({ cls := "LentShades", name := "undo", desc := "()I" } : Jvm.MethodName)) ∈ sm_GW := sm_w 737 (by decide +kernel) (by decide +kernel)
theorem wd_750 : (Jvm.Cond.code ({ cls := "LentShades$Shades", name := "hasAtLeast", desc := "(II)Z" } : Jvm.MethodName) prog_8_method_6_code (3 : Nat) (Option.some Jvm.ClassFile.FieldType.boolean)) ∈ sm_GW := sm_w 750 (by decide +kernel) (by decide +kernel)
theorem wd_748 : (Jvm.Cond.instanceMethod ({ cls := "LentShades$Shades", name := "hasAtLeast", desc := "(II)Z" } : Jvm.MethodName)) ∈ sm_GW := sm_w 748 (by decide +kernel) (by decide +kernel)
theorem wd_749 : (Jvm.Cond.selects "LentShades$Shades" ({ cls := "LentShades$Shades", name := "hasAtLeast", desc := "(II)Z" } : Jvm.MethodName) ({ cls := "LentShades$Shades", name := "hasAtLeast", desc := "(II)Z" } : Jvm.MethodName)) ∈ sm_GW := sm_w 749 (by decide +kernel) (by decide +kernel)
theorem wd_746 : (Jvm.Cond.code ({ cls := "LentShades", name := "soRed", desc := "(II)I" } : Jvm.MethodName) prog_1_method_12_code (5 : Nat) (Option.some Jvm.ClassFile.FieldType.int)) ∈ sm_GW := sm_w 746 (by decide +kernel) (by decide +kernel)
theorem wd_744 : (Jvm.Cond.instanceMethod ({ cls := "LentShades", name := "soRed", desc := "(II)I" } : Jvm.MethodName)) ∈ sm_GW := sm_w 744 (by decide +kernel) (by decide +kernel)
theorem wd_745 : (Jvm.Cond.selects "LentShades" ({ cls := "LentShades", name := "soRed", desc := "(II)I" } : Jvm.MethodName) ({ cls := "LentShades", name := "soRed", desc := "(II)I" } : Jvm.MethodName)) ∈ sm_GW := sm_w 745 (by decide +kernel) (by decide +kernel)
theorem wd_759 : (Jvm.Cond.code ({ cls := "LentShades$House", name := "hasVain", desc := "()Z" } : Jvm.MethodName) prog_4_method_6_code (2 : Nat) (Option.some Jvm.ClassFile.FieldType.boolean)) ∈ sm_GW := sm_w 759 (by decide +kernel) (by decide +kernel)
theorem wd_757 : (Jvm.Cond.instanceMethod ({ cls := "LentShades$House", name := "hasVain", desc := "()Z" } : Jvm.MethodName)) ∈ sm_GW := sm_w 757 (by decide +kernel) (by decide +kernel)
theorem wd_758 : (Jvm.Cond.selects "LentShades$House" ({ cls := "LentShades$House", name := "hasVain", desc := "()Z" } : Jvm.MethodName) ({ cls := "LentShades$House", name := "hasVain", desc := "()Z" } : Jvm.MethodName)) ∈ sm_GW := sm_w 758 (by decide +kernel) (by decide +kernel)
theorem wd_767 : (Jvm.Cond.code ({ cls := "LentShades$Resting", name := "fill", desc := "(LLentShades$Takings;)V" } : Jvm.MethodName) prog_7_method_3_code (6 : Nat) (Option.none : Option Jvm.ClassFile.FieldType)) ∈ sm_GW := sm_w 767 (by decide +kernel) (by decide +kernel)
theorem wd_109 : (Jvm.Cond.initialized "LentShades$Resting") ∈ sm_GW := sm_w 109 (by decide +kernel) (by decide +kernel)
theorem wd_766 : (Jvm.Cond.instanceMethod ({ cls := "LentShades$Resting", name := "fill", desc := "(LLentShades$Takings;)V" } : Jvm.MethodName)) ∈ sm_GW := sm_w 766 (by decide +kernel) (by decide +kernel)
theorem wd_20 : (Jvm.Cond.selects "LentShades$Resting" ({ cls := "LentShades$Resting", name := "fill", desc := "(LLentShades$Takings;)V" } : Jvm.MethodName) ({ cls := "LentShades$Resting", name := "fill", desc := "(LLentShades$Takings;)V" } : Jvm.MethodName)) ∈ sm_GW := sm_w 20 (by decide +kernel) (by decide +kernel)
theorem wd_772 : (Jvm.Cond.code ({ cls := "LentShades$Resting", name := "minor", desc := "(II)I" } : Jvm.MethodName) prog_7_method_4_code (9 : Nat) (Option.some Jvm.ClassFile.FieldType.int)) ∈ sm_GW := sm_w 772 (by decide +kernel) (by decide +kernel)
theorem wd_771 : (Jvm.Cond.instanceMethod ({ cls := "LentShades$Resting", name := "minor", desc := "(II)I" } : Jvm.MethodName)) ∈ sm_GW := sm_w 771 (by decide +kernel) (by decide +kernel)
theorem wd_21 : (Jvm.Cond.selects "LentShades$Resting" ({ cls := "LentShades$Resting", name := "minor", desc := "(II)I" } : Jvm.MethodName) ({ cls := "LentShades$Resting", name := "minor", desc := "(II)I" } : Jvm.MethodName)) ∈ sm_GW := sm_w 21 (by decide +kernel) (by decide +kernel)
theorem wd_763 : (Jvm.Cond.code ({ cls := "LentShades$Resting", name := "solve", desc := "(LLentShades$Takings;ILLentShades$Sum;)I" } : Jvm.MethodName) prog_7_method_2_code (7 : Nat) (Option.some Jvm.ClassFile.FieldType.int)) ∈ sm_GW := sm_w 763 (by decide +kernel) (by decide +kernel)
theorem wd_761 : (Jvm.Cond.instanceMethod ({ cls := "LentShades$Resting", name := "solve", desc := "(LLentShades$Takings;ILLentShades$Sum;)I" } : Jvm.MethodName)) ∈ sm_GW := sm_w 761 (by decide +kernel) (by decide +kernel)
theorem wd_762 : (Jvm.Cond.selects "LentShades$Resting" ({ cls := "LentShades$Resting", name := "solve", desc := "(LLentShades$Takings;ILLentShades$Sum;)I" } : Jvm.MethodName) ({ cls := "LentShades$Resting", name := "solve", desc := "(LLentShades$Takings;ILLentShades$Sum;)I" } : Jvm.MethodName)) ∈ sm_GW := sm_w 762 (by decide +kernel) (by decide +kernel)
theorem wd_755 : (Jvm.Cond.code ({ cls := "LentShades", name := "rest", desc := "(I)I" } : Jvm.MethodName) prog_1_method_13_code (3 : Nat) (Option.some Jvm.ClassFile.FieldType.int)) ∈ sm_GW := sm_w 755 (by decide +kernel) (by decide +kernel)
theorem wd_753 : (Jvm.Cond.instanceMethod ({ cls := "LentShades", name := "rest", desc := "(I)I" } : Jvm.MethodName)) ∈ sm_GW := sm_w 753 (by decide +kernel) (by decide +kernel)
theorem wd_754 : (Jvm.Cond.selects "LentShades" ({ cls := "LentShades", name := "rest", desc := "(I)I" } : Jvm.MethodName) ({ cls := "LentShades", name := "rest", desc := "(I)I" } : Jvm.MethodName)) ∈ sm_GW := sm_w 754 (by decide +kernel) (by decide +kernel)
theorem wd_780 : (Jvm.Cond.code ({ cls := "LentShades$Mover", name := "aim", desc := "(IIII)V" } : Jvm.MethodName) prog_5_method_2_code (5 : Nat) (Option.none : Option Jvm.ClassFile.FieldType)) ∈ sm_GW := sm_w 780 (by decide +kernel) (by decide +kernel)
theorem wd_110 : (Jvm.Cond.initialized "LentShades$Mover") ∈ sm_GW := sm_w 110 (by decide +kernel) (by decide +kernel)
theorem wd_778 : (Jvm.Cond.instanceMethod ({ cls := "LentShades$Mover", name := "aim", desc := "(IIII)V" } : Jvm.MethodName)) ∈ sm_GW := sm_w 778 (by decide +kernel) (by decide +kernel)
theorem wd_779 : (Jvm.Cond.selects "LentShades$Mover" ({ cls := "LentShades$Mover", name := "aim", desc := "(IIII)V" } : Jvm.MethodName) ({ cls := "LentShades$Mover", name := "aim", desc := "(IIII)V" } : Jvm.MethodName)) ∈ sm_GW := sm_w 779 (by decide +kernel) (by decide +kernel)
theorem wd_796 : (Jvm.Cond.code ({ cls := "LentShades$Shades", name := "hasAtMost", desc := "(II)Z" } : Jvm.MethodName) prog_8_method_7_code (3 : Nat) (Option.some Jvm.ClassFile.FieldType.boolean)) ∈ sm_GW := sm_w 796 (by decide +kernel) (by decide +kernel)
theorem wd_794 : (Jvm.Cond.instanceMethod ({ cls := "LentShades$Shades", name := "hasAtMost", desc := "(II)Z" } : Jvm.MethodName)) ∈ sm_GW := sm_w 794 (by decide +kernel) (by decide +kernel)
theorem wd_795 : (Jvm.Cond.selects "LentShades$Shades" ({ cls := "LentShades$Shades", name := "hasAtMost", desc := "(II)Z" } : Jvm.MethodName) ({ cls := "LentShades$Shades", name := "hasAtMost", desc := "(II)Z" } : Jvm.MethodName)) ∈ sm_GW := sm_w 795 (by decide +kernel) (by decide +kernel)
theorem wd_789 : (Jvm.Cond.code ({ cls := "LentShades$Mover", name := "reached", desc := "(LLentShades$House;LLentShades$Takings;)Z" } : Jvm.MethodName) prog_5_method_5_code (4 : Nat) (Option.some Jvm.ClassFile.FieldType.boolean)) ∈ sm_GW := sm_w 789 (by decide +kernel) (by decide +kernel)
theorem wd_788 : (Jvm.Cond.instanceMethod ({ cls := "LentShades$Mover", name := "reached", desc := "(LLentShades$House;LLentShades$Takings;)Z" } : Jvm.MethodName)) ∈ sm_GW := sm_w 788 (by decide +kernel) (by decide +kernel)
theorem wd_22 : (Jvm.Cond.selects "LentShades$Mover" ({ cls := "LentShades$Mover", name := "reached", desc := "(LLentShades$House;LLentShades$Takings;)Z" } : Jvm.MethodName) ({ cls := "LentShades$Mover", name := "reached", desc := "(LLentShades$House;LLentShades$Takings;)Z" } : Jvm.MethodName)) ∈ sm_GW := sm_w 22 (by decide +kernel) (by decide +kernel)
theorem wd_807 : (Jvm.Cond.code ({ cls := "LentShades$Mover", name := "lesser", desc := "(I)I" } : Jvm.MethodName) prog_5_method_9_code (1 : Nat) (Option.some Jvm.ClassFile.FieldType.int)) ∈ sm_GW := sm_w 807 (by decide +kernel) (by decide +kernel)
theorem wd_806 : (Jvm.Cond.static ({ cls := "LentShades$Mover", name := "lesser", desc := "(I)I" } : Jvm.MethodName)) ∈ sm_GW := sm_w 806 (by decide +kernel) (by decide +kernel)
theorem wd_810 : (Jvm.Cond.code ({ cls := "LentShades$Mover", name := "other", desc := "(I)I" } : Jvm.MethodName) prog_5_method_10_code (1 : Nat) (Option.some Jvm.ClassFile.FieldType.int)) ∈ sm_GW := sm_w 810 (by decide +kernel) (by decide +kernel)
theorem wd_809 : (Jvm.Cond.static ({ cls := "LentShades$Mover", name := "other", desc := "(I)I" } : Jvm.MethodName)) ∈ sm_GW := sm_w 809 (by decide +kernel) (by decide +kernel)
theorem wd_815 : (Jvm.Cond.code ({ cls := "LentShades$Mover", name := "hoursOf", desc := "(I)I" } : Jvm.MethodName) prog_5_method_11_code (1 : Nat) (Option.some Jvm.ClassFile.FieldType.int)) ∈ sm_GW := sm_w 815 (by decide +kernel) (by decide +kernel)
theorem wd_814 : (Jvm.Cond.static ({ cls := "LentShades$Mover", name := "hoursOf", desc := "(I)I" } : Jvm.MethodName)) ∈ sm_GW := sm_w 814 (by decide +kernel) (by decide +kernel)
theorem wd_804 : (Jvm.Cond.code ({ cls := "LentShades$Mover", name := "changes", desc := "(LLentShades$House;I)Z" } : Jvm.MethodName) prog_5_method_6_code (6 : Nat) (Option.some Jvm.ClassFile.FieldType.boolean)) ∈ sm_GW := sm_w 804 (by decide +kernel) (by decide +kernel)
theorem wd_803 : (Jvm.Cond.instanceMethod ({ cls := "LentShades$Mover", name := "changes", desc := "(LLentShades$House;I)Z" } : Jvm.MethodName)) ∈ sm_GW := sm_w 803 (by decide +kernel) (by decide +kernel)
theorem wd_24 : (Jvm.Cond.selects "LentShades$Mover" ({ cls := "LentShades$Mover", name := "changes", desc := "(LLentShades$House;I)Z" } : Jvm.MethodName) ({ cls := "LentShades$Mover", name := "changes", desc := "(LLentShades$House;I)Z" } : Jvm.MethodName)) ∈ sm_GW := sm_w 24 (by decide +kernel) (by decide +kernel)
theorem wd_819 : (Jvm.Cond.code ({ cls := "LentShades$Mover", name := "put", desc := "(II)V" } : Jvm.MethodName) prog_5_method_7_code (3 : Nat) (Option.none : Option Jvm.ClassFile.FieldType)) ∈ sm_GW := sm_w 819 (by decide +kernel) (by decide +kernel)
theorem wd_818 : (Jvm.Cond.instanceMethod ({ cls := "LentShades$Mover", name := "put", desc := "(II)V" } : Jvm.MethodName)) ∈ sm_GW := sm_w 818 (by decide +kernel) (by decide +kernel)
theorem wd_25 : (Jvm.Cond.selects "LentShades$Mover" ({ cls := "LentShades$Mover", name := "put", desc := "(II)V" } : Jvm.MethodName) ({ cls := "LentShades$Mover", name := "put", desc := "(II)V" } : Jvm.MethodName)) ∈ sm_GW := sm_w 25 (by decide +kernel) (by decide +kernel)
theorem wd_824 : (Jvm.Cond.code ({ cls := "LentShades$Mover", name := "putBack", desc := "(ILLentShades$House;)V" } : Jvm.MethodName) prog_5_method_8_code (3 : Nat) (Option.none : Option Jvm.ClassFile.FieldType)) ∈ sm_GW := sm_w 824 (by decide +kernel) (by decide +kernel)
theorem wd_823 : (Jvm.Cond.instanceMethod ({ cls := "LentShades$Mover", name := "putBack", desc := "(ILLentShades$House;)V" } : Jvm.MethodName)) ∈ sm_GW := sm_w 823 (by decide +kernel) (by decide +kernel)
theorem wd_26 : (Jvm.Cond.selects "LentShades$Mover" ({ cls := "LentShades$Mover", name := "putBack", desc := "(ILLentShades$House;)V" } : Jvm.MethodName) ({ cls := "LentShades$Mover", name := "putBack", desc := "(ILLentShades$House;)V" } : Jvm.MethodName)) ∈ sm_GW := sm_w 26 (by decide +kernel) (by decide +kernel)
theorem wd_800 : (Jvm.Cond.code ({ cls := "LentShades$Mover", name := "reachedByOneMore", desc := "(LLentShades$House;LLentShades$Takings;I)I" } : Jvm.MethodName) prog_5_method_4_code (5 : Nat) (Option.some Jvm.ClassFile.FieldType.int)) ∈ sm_GW := sm_w 800 (by decide +kernel) (by decide +kernel)
theorem wd_799 : (Jvm.Cond.instanceMethod ({ cls := "LentShades$Mover", name := "reachedByOneMore", desc := "(LLentShades$House;LLentShades$Takings;I)I" } : Jvm.MethodName)) ∈ sm_GW := sm_w 799 (by decide +kernel) (by decide +kernel)
theorem wd_23 : (Jvm.Cond.selects "LentShades$Mover" ({ cls := "LentShades$Mover", name := "reachedByOneMore", desc := "(LLentShades$House;LLentShades$Takings;I)I" } : Jvm.MethodName) ({ cls := "LentShades$Mover", name := "reachedByOneMore", desc := "(LLentShades$House;LLentShades$Takings;I)I" } : Jvm.MethodName)) ∈ sm_GW := sm_w 23 (by decide +kernel) (by decide +kernel)
theorem wd_784 : (Jvm.Cond.code ({ cls := "LentShades$Mover", name := "search", desc := "(LLentShades$House;LLentShades$Takings;)I" } : Jvm.MethodName) prog_5_method_3_code (4 : Nat) (Option.some Jvm.ClassFile.FieldType.int)) ∈ sm_GW := sm_w 784 (by decide +kernel) (by decide +kernel)
theorem wd_782 : (Jvm.Cond.instanceMethod ({ cls := "LentShades$Mover", name := "search", desc := "(LLentShades$House;LLentShades$Takings;)I" } : Jvm.MethodName)) ∈ sm_GW := sm_w 782 (by decide +kernel) (by decide +kernel)
theorem wd_783 : (Jvm.Cond.selects "LentShades$Mover" ({ cls := "LentShades$Mover", name := "search", desc := "(LLentShades$House;LLentShades$Takings;)I" } : Jvm.MethodName) ({ cls := "LentShades$Mover", name := "search", desc := "(LLentShades$House;LLentShades$Takings;)I" } : Jvm.MethodName)) ∈ sm_GW := sm_w 783 (by decide +kernel) (by decide +kernel)
theorem wd_828 : (Jvm.Cond.code ({ cls := "LentShades$Mover", name := "told", desc := "(I)I" } : Jvm.MethodName) prog_5_method_12_code (2 : Nat) (Option.some Jvm.ClassFile.FieldType.int)) ∈ sm_GW := sm_w 828 (by decide +kernel) (by decide +kernel)
theorem wd_826 : (Jvm.Cond.instanceMethod ({ cls := "LentShades$Mover", name := "told", desc := "(I)I" } : Jvm.MethodName)) ∈ sm_GW := sm_w 826 (by decide +kernel) (by decide +kernel)
theorem wd_827 : (Jvm.Cond.selects "LentShades$Mover" ({ cls := "LentShades$Mover", name := "told", desc := "(I)I" } : Jvm.MethodName) ({ cls := "LentShades$Mover", name := "told", desc := "(I)I" } : Jvm.MethodName)) ∈ sm_GW := sm_w 827 (by decide +kernel) (by decide +kernel)
theorem wd_776 : (Jvm.Cond.code ({ cls := "LentShades", name := "moves", desc := "(IIIII)I" } : Jvm.MethodName) prog_1_method_14_code (8 : Nat) (Option.some Jvm.ClassFile.FieldType.int)) ∈ sm_GW := sm_w 776 (by decide +kernel) (by decide +kernel)
theorem wd_774 : (Jvm.Cond.instanceMethod ({ cls := "LentShades", name := "moves", desc := "(IIIII)I" } : Jvm.MethodName)) ∈ sm_GW := sm_w 774 (by decide +kernel) (by decide +kernel)
theorem wd_775 : (Jvm.Cond.selects "LentShades" ({ cls := "LentShades", name := "moves", desc := "(IIIII)I" } : Jvm.MethodName) ({ cls := "LentShades", name := "moves", desc := "(IIIII)I" } : Jvm.MethodName)) ∈ sm_GW := sm_w 775 (by decide +kernel) (by decide +kernel)
theorem wd_832 : (Jvm.Cond.code ({ cls := "LentShades", name := "bound", desc := "(III)I" } : Jvm.MethodName) prog_1_method_15_code (4 : Nat) (Option.some Jvm.ClassFile.FieldType.int)) ∈ sm_GW := sm_w 832 (by decide +kernel) (by decide +kernel)
theorem wd_830 : (Jvm.Cond.instanceMethod ({ cls := "LentShades", name := "bound", desc := "(III)I" } : Jvm.MethodName)) ∈ sm_GW := sm_w 830 (by decide +kernel) (by decide +kernel)
theorem wd_831 : (Jvm.Cond.selects "LentShades" ({ cls := "LentShades", name := "bound", desc := "(III)I" } : Jvm.MethodName) ({ cls := "LentShades", name := "bound", desc := "(III)I" } : Jvm.MethodName)) ∈ sm_GW := sm_w 831 (by decide +kernel) (by decide +kernel)
theorem wd_844 : (Jvm.Cond.code ({ cls := "LentShades$Chest", name := "lay", desc := "(II)Z" } : Jvm.MethodName) prog_2_method_3_code (6 : Nat) (Option.some Jvm.ClassFile.FieldType.boolean)) ∈ sm_GW := sm_w 844 (by decide +kernel) (by decide +kernel)
theorem wd_111 : (Jvm.Cond.initialized "LentShades$Chest") ∈ sm_GW := sm_w 111 (by decide +kernel) (by decide +kernel)
theorem wd_843 : (Jvm.Cond.instanceMethod ({ cls := "LentShades$Chest", name := "lay", desc := "(II)Z" } : Jvm.MethodName)) ∈ sm_GW := sm_w 843 (by decide +kernel) (by decide +kernel)
theorem wd_27 : (Jvm.Cond.selects "LentShades$Chest" ({ cls := "LentShades$Chest", name := "lay", desc := "(II)Z" } : Jvm.MethodName) ({ cls := "LentShades$Chest", name := "lay", desc := "(II)Z" } : Jvm.MethodName)) ∈ sm_GW := sm_w 27 (by decide +kernel) (by decide +kernel)
theorem wd_848 : (Jvm.Cond.code ({ cls := "LentShades$Chest", name := "fits", desc := "(LLentShades$House;LLentShades$Takings;)Z" } : Jvm.MethodName) prog_2_method_4_code (5 : Nat) (Option.some Jvm.ClassFile.FieldType.boolean)) ∈ sm_GW := sm_w 848 (by decide +kernel) (by decide +kernel)
theorem wd_847 : (Jvm.Cond.instanceMethod ({ cls := "LentShades$Chest", name := "fits", desc := "(LLentShades$House;LLentShades$Takings;)Z" } : Jvm.MethodName)) ∈ sm_GW := sm_w 847 (by decide +kernel) (by decide +kernel)
theorem wd_28 : (Jvm.Cond.selects "LentShades$Chest" ({ cls := "LentShades$Chest", name := "fits", desc := "(LLentShades$House;LLentShades$Takings;)Z" } : Jvm.MethodName) ({ cls := "LentShades$Chest", name := "fits", desc := "(LLentShades$House;LLentShades$Takings;)Z" } : Jvm.MethodName)) ∈ sm_GW := sm_w 28 (by decide +kernel) (by decide +kernel)
theorem wd_840 : (Jvm.Cond.code ({ cls := "LentShades$Chest", name := "countOrders", desc := "(LLentShades$House;LLentShades$Takings;)I" } : Jvm.MethodName) prog_2_method_2_code (6 : Nat) (Option.some Jvm.ClassFile.FieldType.int)) ∈ sm_GW := sm_w 840 (by decide +kernel) (by decide +kernel)
theorem wd_838 : (Jvm.Cond.instanceMethod ({ cls := "LentShades$Chest", name := "countOrders", desc := "(LLentShades$House;LLentShades$Takings;)I" } : Jvm.MethodName)) ∈ sm_GW := sm_w 838 (by decide +kernel) (by decide +kernel)
theorem wd_839 : (Jvm.Cond.selects "LentShades$Chest" ({ cls := "LentShades$Chest", name := "countOrders", desc := "(LLentShades$House;LLentShades$Takings;)I" } : Jvm.MethodName) ({ cls := "LentShades$Chest", name := "countOrders", desc := "(LLentShades$House;LLentShades$Takings;)I" } : Jvm.MethodName)) ∈ sm_GW := sm_w 839 (by decide +kernel) (by decide +kernel)
theorem wd_836 : (Jvm.Cond.code ({ cls := "LentShades", name := "chest", desc := "(I)I" } : Jvm.MethodName) prog_1_method_16_code (3 : Nat) (Option.some Jvm.ClassFile.FieldType.int)) ∈ sm_GW := sm_w 836 (by decide +kernel) (by decide +kernel)
theorem wd_834 : (Jvm.Cond.instanceMethod ({ cls := "LentShades", name := "chest", desc := "(I)I" } : Jvm.MethodName)) ∈ sm_GW := sm_w 834 (by decide +kernel) (by decide +kernel)
theorem wd_835 : (Jvm.Cond.selects "LentShades" ({ cls := "LentShades", name := "chest", desc := "(I)I" } : Jvm.MethodName) ({ cls := "LentShades", name := "chest", desc := "(I)I" } : Jvm.MethodName)) ∈ sm_GW := sm_w 835 (by decide +kernel) (by decide +kernel)
theorem wd_861 : (Jvm.Cond.code ({ cls := "LentShades", name := "isShade", desc := "(II)Z" } : Jvm.MethodName) prog_1_method_35_code (2 : Nat) (Option.some Jvm.ClassFile.FieldType.boolean)) ∈ sm_GW := sm_w 861 (by decide +kernel) (by decide +kernel)
theorem wd_860 : (Jvm.Cond.static ({ cls := "LentShades", name := "isShade", desc := "(II)Z" } : Jvm.MethodName)) ∈ sm_GW := sm_w 860 (by decide +kernel) (by decide +kernel)
theorem wd_865 : (Jvm.Cond.code ({ cls := "LentShades$House", name := "lenders", desc := "()I" } : Jvm.MethodName) prog_4_method_7_code (3 : Nat) (Option.some Jvm.ClassFile.FieldType.int)) ∈ sm_GW := sm_w 865 (by decide +kernel) (by decide +kernel)
theorem wd_863 : (Jvm.Cond.instanceMethod ({ cls := "LentShades$House", name := "lenders", desc := "()I" } : Jvm.MethodName)) ∈ sm_GW := sm_w 863 (by decide +kernel) (by decide +kernel)
theorem wd_864 : (Jvm.Cond.selects "LentShades$House" ({ cls := "LentShades$House", name := "lenders", desc := "()I" } : Jvm.MethodName) ({ cls := "LentShades$House", name := "lenders", desc := "()I" } : Jvm.MethodName)) ∈ sm_GW := sm_w 864 (by decide +kernel) (by decide +kernel)
theorem wd_874 : (Jvm.Cond.code ({ cls := "java/lang/Integer", name := "bitCount", desc := "(I)I" } : Jvm.MethodName) prog_13_method_49_code (1 : Nat) (Option.some Jvm.ClassFile.FieldType.int)) ∈ sm_GW := sm_w 874 (by decide +kernel) (by decide +kernel)
theorem wd_119 : (Jvm.Cond.initialized "java/lang/Integer") ∈ sm_GW := sm_w 119 (by decide +kernel) (by decide +kernel)
theorem wd_873 : (Jvm.Cond.static ({ cls := "java/lang/Integer", name := "bitCount", desc := "(I)I" } : Jvm.MethodName)) ∈ sm_GW := sm_w 873 (by decide +kernel) (by decide +kernel)
theorem wd_881 : (Jvm.Cond.code ({ cls := "LentShades$Sum", name := "isZeroIn", desc := "(LLentShades$Shades;)Z" } : Jvm.MethodName) prog_9_method_4_code (8 : Nat) (Option.some Jvm.ClassFile.FieldType.boolean)) ∈ sm_GW := sm_w 881 (by decide +kernel) (by decide +kernel)
theorem wd_879 : (Jvm.Cond.instanceMethod ({ cls := "LentShades$Sum", name := "isZeroIn", desc := "(LLentShades$Shades;)Z" } : Jvm.MethodName)) ∈ sm_GW := sm_w 879 (by decide +kernel) (by decide +kernel)
theorem wd_880 : (Jvm.Cond.selects "LentShades$Sum" ({ cls := "LentShades$Sum", name := "isZeroIn", desc := "(LLentShades$Shades;)Z" } : Jvm.MethodName) ({ cls := "LentShades$Sum", name := "isZeroIn", desc := "(LLentShades$Shades;)Z" } : Jvm.MethodName)) ∈ sm_GW := sm_w 880 (by decide +kernel) (by decide +kernel)
theorem wd_870 : (Jvm.Cond.code ({ cls := "LentShades", name := "gives", desc := "(III)Z" } : Jvm.MethodName) prog_1_method_36_code (5 : Nat) (Option.some Jvm.ClassFile.FieldType.boolean)) ∈ sm_GW := sm_w 870 (by decide +kernel) (by decide +kernel)
theorem wd_869 : (Jvm.Cond.instanceMethod ({ cls := "LentShades", name := "gives", desc := "(III)Z" } : Jvm.MethodName)) ∈ sm_GW := sm_w 869 (by decide +kernel) (by decide +kernel)
theorem wd_29 : (Jvm.Cond.selects "LentShades" ({ cls := "LentShades", name := "gives", desc := "(III)Z" } : Jvm.MethodName) ({ cls := "LentShades", name := "gives", desc := "(III)Z" } : Jvm.MethodName)) ∈ sm_GW := sm_w 29 (by decide +kernel) (by decide +kernel)
theorem wd_858 : (Jvm.Cond.code ({ cls := "LentShades", name := "morning", desc := "(III)I" } : Jvm.MethodName) prog_1_method_17_code (7 : Nat) (Option.some Jvm.ClassFile.FieldType.int)) ∈ sm_GW := sm_w 858 (by decide +kernel) (by decide +kernel)
theorem wd_856 : (Jvm.Cond.instanceMethod ({ cls := "LentShades", name := "morning", desc := "(III)I" } : Jvm.MethodName)) ∈ sm_GW := sm_w 856 (by decide +kernel) (by decide +kernel)
theorem wd_857 : (Jvm.Cond.selects "LentShades" ({ cls := "LentShades", name := "morning", desc := "(III)I" } : Jvm.MethodName) ({ cls := "LentShades", name := "morning", desc := "(III)I" } : Jvm.MethodName)) ∈ sm_GW := sm_w 857 (by decide +kernel) (by decide +kernel)
theorem wd_885 : (Jvm.Cond.code ({ cls := "LentShades", name := "surely", desc := "(II)I" } : Jvm.MethodName) prog_1_method_18_code (6 : Nat) (Option.some Jvm.ClassFile.FieldType.int)) ∈ sm_GW := sm_w 885 (by decide +kernel) (by decide +kernel)
theorem wd_883 : (Jvm.Cond.instanceMethod ({ cls := "LentShades", name := "surely", desc := "(II)I" } : Jvm.MethodName)) ∈ sm_GW := sm_w 883 (by decide +kernel) (by decide +kernel)
theorem wd_884 : (Jvm.Cond.selects "LentShades" ({ cls := "LentShades", name := "surely", desc := "(II)I" } : Jvm.MethodName) ({ cls := "LentShades", name := "surely", desc := "(II)I" } : Jvm.MethodName)) ∈ sm_GW := sm_w 884 (by decide +kernel) (by decide +kernel)
theorem wd_893 : (Jvm.Cond.code ({ cls := "LentShades$House", name := "addBorrower", desc := "(IIII)V" } : Jvm.MethodName) prog_4_method_10_code (6 : Nat) (Option.none : Option Jvm.ClassFile.FieldType)) ∈ sm_GW := sm_w 893 (by decide +kernel) (by decide +kernel)
theorem wd_891 : (Jvm.Cond.instanceMethod ({ cls := "LentShades$House", name := "addBorrower", desc := "(IIII)V" } : Jvm.MethodName)) ∈ sm_GW := sm_w 891 (by decide +kernel) (by decide +kernel)
theorem wd_892 : (Jvm.Cond.selects "LentShades$House" ({ cls := "LentShades$House", name := "addBorrower", desc := "(IIII)V" } : Jvm.MethodName) ({ cls := "LentShades$House", name := "addBorrower", desc := "(IIII)V" } : Jvm.MethodName)) ∈ sm_GW := sm_w 892 (by decide +kernel) (by decide +kernel)
theorem wd_889 : (Jvm.Cond.code ({ cls := "LentShades", name := "borrower", desc := "(IIII)I" } : Jvm.MethodName) prog_1_method_19_code (5 : Nat) (Option.some Jvm.ClassFile.FieldType.int)) ∈ sm_GW := sm_w 889 (by decide +kernel) (by decide +kernel)
theorem wd_887 : (Jvm.Cond.instanceMethod ({ cls := "LentShades", name := "borrower", desc := "(IIII)I" } : Jvm.MethodName)) ∈ sm_GW := sm_w 887 (by decide +kernel) (by decide +kernel)
theorem wd_888 : (Jvm.Cond.selects "LentShades" ({ cls := "LentShades", name := "borrower", desc := "(IIII)I" } : Jvm.MethodName) ({ cls := "LentShades", name := "borrower", desc := "(IIII)I" } : Jvm.MethodName)) ∈ sm_GW := sm_w 888 (by decide +kernel) (by decide +kernel)
theorem wd_897 : (Jvm.Cond.code ({ cls := "LentShades", name := "refuse", desc := "()I" } : Jvm.MethodName) prog_1_method_20_code (2 : Nat) (Option.some Jvm.ClassFile.FieldType.int)) ∈ sm_GW := sm_w 897 (by decide +kernel) (by decide +kernel)
theorem wd_895 : (Jvm.Cond.instanceMethod ({ cls := "LentShades", name := "refuse", desc := "()I" } : Jvm.MethodName)) ∈ sm_GW := sm_w 895 (by decide +kernel) (by decide +kernel)
theorem wd_896 : (Jvm.Cond.selects "LentShades" ({ cls := "LentShades", name := "refuse", desc := "()I" } : Jvm.MethodName) ({ cls := "LentShades", name := "refuse", desc := "()I" } : Jvm.MethodName)) ∈ sm_GW := sm_w 896 (by decide +kernel) (by decide +kernel)
theorem wd_909 : (Jvm.Cond.code ({ cls := "LentShades", name := "serves", desc := "(LLentShades$Shades;[I)Z" } : Jvm.MethodName) prog_1_method_38_code (3 : Nat) (Option.some Jvm.ClassFile.FieldType.boolean)) ∈ sm_GW := sm_w 909 (by decide +kernel) (by decide +kernel)
theorem wd_908 : (Jvm.Cond.instanceMethod ({ cls := "LentShades", name := "serves", desc := "(LLentShades$Shades;[I)Z" } : Jvm.MethodName)) ∈ sm_GW := sm_w 908 (by decide +kernel) (by decide +kernel)
theorem wd_31 : (Jvm.Cond.selects "LentShades" ({ cls := "LentShades", name := "serves", desc := "(LLentShades$Shades;[I)Z" } : Jvm.MethodName) ({ cls := "LentShades", name := "serves", desc := "(LLentShades$Shades;[I)Z" } : Jvm.MethodName)) ∈ sm_GW := sm_w 31 (by decide +kernel) (by decide +kernel)
theorem wd_905 : (Jvm.Cond.code ({ cls := "LentShades", name := "contentBorrowers", desc := "()I" } : Jvm.MethodName) prog_1_method_37_code (7 : Nat) (Option.some Jvm.ClassFile.FieldType.int)) ∈ sm_GW := sm_w 905 (by decide +kernel) (by decide +kernel)
theorem wd_904 : (Jvm.Cond.instanceMethod ({ cls := "LentShades", name := "contentBorrowers", desc := "()I" } : Jvm.MethodName)) ∈ sm_GW := sm_w 904 (by decide +kernel) (by decide +kernel)
theorem wd_30 : (Jvm.Cond.selects "LentShades" ({ cls := "LentShades", name := "contentBorrowers", desc := "()I" } : Jvm.MethodName) ({ cls := "LentShades", name := "contentBorrowers", desc := "()I" } : Jvm.MethodName)) ∈ sm_GW := sm_w 30 (by decide +kernel) (by decide +kernel)
theorem wd_916 : (Jvm.Cond.code ({ cls := "LentShades$House", name := "overlap", desc := "([I[I)Z" } : Jvm.MethodName) prog_4_method_15_code (2 : Nat) (Option.some Jvm.ClassFile.FieldType.boolean)) ∈ sm_GW := sm_w 916 (by decide +kernel) (by decide +kernel)
theorem wd_915 : (Jvm.Cond.static ({ cls := "LentShades$House", name := "overlap", desc := "([I[I)Z" } : Jvm.MethodName)) ∈ sm_GW := sm_w 915 (by decide +kernel) (by decide +kernel)
theorem wd_913 : (Jvm.Cond.code ({ cls := "LentShades$House", name := "clash", desc := "(I)Z" } : Jvm.MethodName) prog_4_method_14_code (4 : Nat) (Option.some Jvm.ClassFile.FieldType.boolean)) ∈ sm_GW := sm_w 913 (by decide +kernel) (by decide +kernel)
theorem wd_911 : (Jvm.Cond.instanceMethod ({ cls := "LentShades$House", name := "clash", desc := "(I)Z" } : Jvm.MethodName)) ∈ sm_GW := sm_w 911 (by decide +kernel) (by decide +kernel)
theorem wd_912 : (Jvm.Cond.selects "LentShades$House" ({ cls := "LentShades$House", name := "clash", desc := "(I)Z" } : Jvm.MethodName) ({ cls := "LentShades$House", name := "clash", desc := "(I)Z" } : Jvm.MethodName)) ∈ sm_GW := sm_w 912 (by decide +kernel) (by decide +kernel)
theorem wd_901 : (Jvm.Cond.code ({ cls := "LentShades", name := "lent", desc := "(I)I" } : Jvm.MethodName) prog_1_method_21_code (6 : Nat) (Option.some Jvm.ClassFile.FieldType.int)) ∈ sm_GW := sm_w 901 (by decide +kernel) (by decide +kernel)
theorem wd_899 : (Jvm.Cond.instanceMethod ({ cls := "LentShades", name := "lent", desc := "(I)I" } : Jvm.MethodName)) ∈ sm_GW := sm_w 899 (by decide +kernel) (by decide +kernel)
theorem wd_900 : (Jvm.Cond.selects "LentShades" ({ cls := "LentShades", name := "lent", desc := "(I)I" } : Jvm.MethodName) ({ cls := "LentShades", name := "lent", desc := "(I)I" } : Jvm.MethodName)) ∈ sm_GW := sm_w 900 (by decide +kernel) (by decide +kernel)
theorem wd_924 : (Jvm.Cond.code ({ cls := "LentShades", name := "isNewShade", desc := "(I)Z" } : Jvm.MethodName) prog_1_method_39_code (3 : Nat) (Option.some Jvm.ClassFile.FieldType.boolean)) ∈ sm_GW := sm_w 924 (by decide +kernel) (by decide +kernel)
theorem wd_923 : (Jvm.Cond.instanceMethod ({ cls := "LentShades", name := "isNewShade", desc := "(I)Z" } : Jvm.MethodName)) ∈ sm_GW := sm_w 923 (by decide +kernel) (by decide +kernel)
theorem wd_32 : (Jvm.Cond.selects "LentShades" ({ cls := "LentShades", name := "isNewShade", desc := "(I)Z" } : Jvm.MethodName) ({ cls := "LentShades", name := "isNewShade", desc := "(I)Z" } : Jvm.MethodName)) ∈ sm_GW := sm_w 32 (by decide +kernel) (by decide +kernel)
theorem wd_929 : (Jvm.Cond.code ({ cls := "LentShades", name := "isNewColour", desc := "(I)Z" } : Jvm.MethodName) prog_1_method_40_code (3 : Nat) (Option.some Jvm.ClassFile.FieldType.boolean)) ∈ sm_GW := sm_w 929 (by decide +kernel) (by decide +kernel)
theorem wd_928 : (Jvm.Cond.instanceMethod ({ cls := "LentShades", name := "isNewColour", desc := "(I)Z" } : Jvm.MethodName)) ∈ sm_GW := sm_w 928 (by decide +kernel) (by decide +kernel)
theorem wd_33 : (Jvm.Cond.selects "LentShades" ({ cls := "LentShades", name := "isNewColour", desc := "(I)Z" } : Jvm.MethodName) ({ cls := "LentShades", name := "isNewColour", desc := "(I)Z" } : Jvm.MethodName)) ∈ sm_GW := sm_w 33 (by decide +kernel) (by decide +kernel)
theorem wd_920 : (Jvm.Cond.code ({ cls := "LentShades", name := "colours", desc := "()I" } : Jvm.MethodName) prog_1_method_22_code (3 : Nat) (Option.some Jvm.ClassFile.FieldType.int)) ∈ sm_GW := sm_w 920 (by decide +kernel) (by decide +kernel)
theorem wd_918 : (Jvm.Cond.instanceMethod ({ cls := "LentShades", name := "colours", desc := "()I" } : Jvm.MethodName)) ∈ sm_GW := sm_w 918 (by decide +kernel) (by decide +kernel)
theorem wd_919 : (Jvm.Cond.selects "LentShades" ({ cls := "LentShades", name := "colours", desc := "()I" } : Jvm.MethodName) ({ cls := "LentShades", name := "colours", desc := "()I" } : Jvm.MethodName)) ∈ sm_GW := sm_w 919 (by decide +kernel) (by decide +kernel)
theorem wd_933 : (Jvm.Cond.code ({ cls := "LentShades", name := "least", desc := "(IIII)I" } : Jvm.MethodName) prog_1_method_23_code (7 : Nat) (Option.some Jvm.ClassFile.FieldType.int)) ∈ sm_GW := sm_w 933 (by decide +kernel) (by decide +kernel)
theorem wd_931 : (Jvm.Cond.instanceMethod ({ cls := "LentShades", name := "least", desc := "(IIII)I" } : Jvm.MethodName)) ∈ sm_GW := sm_w 931 (by decide +kernel) (by decide +kernel)
theorem wd_932 : (Jvm.Cond.selects "LentShades" ({ cls := "LentShades", name := "least", desc := "(IIII)I" } : Jvm.MethodName) ({ cls := "LentShades", name := "least", desc := "(IIII)I" } : Jvm.MethodName)) ∈ sm_GW := sm_w 932 (by decide +kernel) (by decide +kernel)
theorem wd_941 : (Jvm.Cond.code ({ cls := "LentShades$Fraction", name := "size", desc := "(I)I" } : Jvm.MethodName) prog_3_method_8_code (2 : Nat) (Option.some Jvm.ClassFile.FieldType.int)) ∈ sm_GW := sm_w 941 (by decide +kernel) (by decide +kernel)
theorem wd_939 : (Jvm.Cond.instanceMethod ({ cls := "LentShades$Fraction", name := "size", desc := "(I)I" } : Jvm.MethodName)) ∈ sm_GW := sm_w 939 (by decide +kernel) (by decide +kernel)
theorem wd_940 : (Jvm.Cond.selects "LentShades$Fraction" ({ cls := "LentShades$Fraction", name := "size", desc := "(I)I" } : Jvm.MethodName) ({ cls := "LentShades$Fraction", name := "size", desc := "(I)I" } : Jvm.MethodName)) ∈ sm_GW := sm_w 940 (by decide +kernel) (by decide +kernel)
theorem wd_937 : (Jvm.Cond.code ({ cls := "LentShades", name := "sign", desc := "(I)I" } : Jvm.MethodName) prog_1_method_24_code (2 : Nat) (Option.some Jvm.ClassFile.FieldType.int)) ∈ sm_GW := sm_w 937 (by decide +kernel) (by decide +kernel)
theorem wd_935 : (Jvm.Cond.instanceMethod ({ cls := "LentShades", name := "sign", desc := "(I)I" } : Jvm.MethodName)) ∈ sm_GW := sm_w 935 (by decide +kernel) (by decide +kernel)
theorem wd_936 : (Jvm.Cond.selects "LentShades" ({ cls := "LentShades", name := "sign", desc := "(I)I" } : Jvm.MethodName) ({ cls := "LentShades", name := "sign", desc := "(I)I" } : Jvm.MethodName)) ∈ sm_GW := sm_w 936 (by decide +kernel) (by decide +kernel)
theorem wd_949 : (Jvm.Cond.code ({ cls := "LentShades$Fraction", name := "digit", desc := "(II)I" } : Jvm.MethodName) prog_3_method_9_code (3 : Nat) (Option.some Jvm.ClassFile.FieldType.int)) ∈ sm_GW := sm_w 949 (by decide +kernel) (by decide +kernel)
theorem wd_947 : (Jvm.Cond.instanceMethod ({ cls := "LentShades$Fraction", name := "digit", desc := "(II)I" } : Jvm.MethodName)) ∈ sm_GW := sm_w 947 (by decide +kernel) (by decide +kernel)
theorem wd_948 : (Jvm.Cond.selects "LentShades$Fraction" ({ cls := "LentShades$Fraction", name := "digit", desc := "(II)I" } : Jvm.MethodName) ({ cls := "LentShades$Fraction", name := "digit", desc := "(II)I" } : Jvm.MethodName)) ∈ sm_GW := sm_w 948 (by decide +kernel) (by decide +kernel)
theorem wd_945 : (Jvm.Cond.code ({ cls := "LentShades", name := "limb", desc := "(II)I" } : Jvm.MethodName) prog_1_method_25_code (3 : Nat) (Option.some Jvm.ClassFile.FieldType.int)) ∈ sm_GW := sm_w 945 (by decide +kernel) (by decide +kernel)
theorem wd_943 : (Jvm.Cond.instanceMethod ({ cls := "LentShades", name := "limb", desc := "(II)I" } : Jvm.MethodName)) ∈ sm_GW := sm_w 943 (by decide +kernel) (by decide +kernel)
theorem wd_944 : (Jvm.Cond.selects "LentShades" ({ cls := "LentShades", name := "limb", desc := "(II)I" } : Jvm.MethodName) ({ cls := "LentShades", name := "limb", desc := "(II)I" } : Jvm.MethodName)) ∈ sm_GW := sm_w 944 (by decide +kernel) (by decide +kernel)
theorem wd_957 : (Jvm.Cond.code ({ cls := "LentShades$House", name := "copyFrom", desc := "(LLentShades$House;)V" } : Jvm.MethodName) prog_4_method_16_code (3 : Nat) (Option.none : Option Jvm.ClassFile.FieldType)) ∈ sm_GW := sm_w 957 (by decide +kernel) (by decide +kernel)
theorem wd_955 : (Jvm.Cond.instanceMethod ({ cls := "LentShades$House", name := "copyFrom", desc := "(LLentShades$House;)V" } : Jvm.MethodName)) ∈ sm_GW := sm_w 955 (by decide +kernel) (by decide +kernel)
theorem wd_956 : (Jvm.Cond.selects "LentShades$House" ({ cls := "LentShades$House", name := "copyFrom", desc := "(LLentShades$House;)V" } : Jvm.MethodName) ({ cls := "LentShades$House", name := "copyFrom", desc := "(LLentShades$House;)V" } : Jvm.MethodName)) ∈ sm_GW := sm_w 956 (by decide +kernel) (by decide +kernel)
theorem wd_953 : (Jvm.Cond.code ({ cls := "LentShades", name := "image", desc := "(I)I" } : Jvm.MethodName) prog_1_method_26_code (2 : Nat) (Option.some Jvm.ClassFile.FieldType.int)) ∈ sm_GW := sm_w 953 (by decide +kernel) (by decide +kernel)
theorem wd_951 : (Jvm.Cond.instanceMethod ({ cls := "LentShades", name := "image", desc := "(I)I" } : Jvm.MethodName)) ∈ sm_GW := sm_w 951 (by decide +kernel) (by decide +kernel)
theorem wd_952 : (Jvm.Cond.selects "LentShades" ({ cls := "LentShades", name := "image", desc := "(I)I" } : Jvm.MethodName) ({ cls := "LentShades", name := "image", desc := "(I)I" } : Jvm.MethodName)) ∈ sm_GW := sm_w 952 (by decide +kernel) (by decide +kernel)
theorem wd_962 : (Jvm.Cond.code ({ cls := "LentShades", name := "from", desc := "(I)I" } : Jvm.MethodName) prog_1_method_27_code (2 : Nat) (Option.some Jvm.ClassFile.FieldType.int)) ∈ sm_GW := sm_w 962 (by decide +kernel) (by decide +kernel)
theorem wd_960 : (Jvm.Cond.instanceMethod ({ cls := "LentShades", name := "from", desc := "(I)I" } : Jvm.MethodName)) ∈ sm_GW := sm_w 960 (by decide +kernel) (by decide +kernel)
theorem wd_961 : (Jvm.Cond.selects "LentShades" ({ cls := "LentShades", name := "from", desc := "(I)I" } : Jvm.MethodName) ({ cls := "LentShades", name := "from", desc := "(I)I" } : Jvm.MethodName)) ∈ sm_GW := sm_w 961 (by decide +kernel) (by decide +kernel)
theorem wd_966 : (Jvm.Cond.code ({ cls := "LentShades", name := "status", desc := "(I)I" } : Jvm.MethodName) prog_1_method_28_code (2 : Nat) (Option.some Jvm.ClassFile.FieldType.int)) ∈ sm_GW := sm_w 966 (by decide +kernel) (by decide +kernel)
theorem wd_964 : (Jvm.Cond.instanceMethod ({ cls := "LentShades", name := "status", desc := "(I)I" } : Jvm.MethodName)) ∈ sm_GW := sm_w 964 (by decide +kernel) (by decide +kernel)
theorem wd_965 : (Jvm.Cond.selects "LentShades" ({ cls := "LentShades", name := "status", desc := "(I)I" } : Jvm.MethodName) ({ cls := "LentShades", name := "status", desc := "(I)I" } : Jvm.MethodName)) ∈ sm_GW := sm_w 965 (by decide +kernel) (by decide +kernel)
theorem wd_974 : (Jvm.Cond.code ({ cls := "LentShades", name := "howMany", desc := "(I)I" } : Jvm.MethodName) prog_1_method_31_code (2 : Nat) (Option.some Jvm.ClassFile.FieldType.int)) ∈ sm_GW := sm_w 974 (by decide +kernel) (by decide +kernel)
theorem wd_973 : (Jvm.Cond.instanceMethod ({ cls := "LentShades", name := "howMany", desc := "(I)I" } : Jvm.MethodName)) ∈ sm_GW := sm_w 973 (by decide +kernel) (by decide +kernel)
theorem wd_34 : (Jvm.Cond.selects "LentShades" ({ cls := "LentShades", name := "howMany", desc := "(I)I" } : Jvm.MethodName) ({ cls := "LentShades", name := "howMany", desc := "(I)I" } : Jvm.MethodName)) ∈ sm_GW := sm_w 34 (by decide +kernel) (by decide +kernel)
theorem wd_970 : (Jvm.Cond.code ({ cls := "LentShades", name := "count", desc := "(I)I" } : Jvm.MethodName) prog_1_method_29_code (2 : Nat) (Option.some Jvm.ClassFile.FieldType.int)) ∈ sm_GW := sm_w 970 (by decide +kernel) (by decide +kernel)
theorem wd_968 : (Jvm.Cond.instanceMethod ({ cls := "LentShades", name := "count", desc := "(I)I" } : Jvm.MethodName)) ∈ sm_GW := sm_w 968 (by decide +kernel) (by decide +kernel)
theorem wd_969 : (Jvm.Cond.selects "LentShades" ({ cls := "LentShades", name := "count", desc := "(I)I" } : Jvm.MethodName) ({ cls := "LentShades", name := "count", desc := "(I)I" } : Jvm.MethodName)) ∈ sm_GW := sm_w 969 (by decide +kernel) (by decide +kernel)
theorem wd_984 : (Jvm.Cond.code ({ cls := "LentShades$House", name := "mixInto", desc := "(J)J" } : Jvm.MethodName) prog_4_method_17_code (7 : Nat) (Option.some Jvm.ClassFile.FieldType.long)) ∈ sm_GW := sm_w 984 (by decide +kernel) (by decide +kernel)
theorem wd_982 : (Jvm.Cond.instanceMethod ({ cls := "LentShades$House", name := "mixInto", desc := "(J)J" } : Jvm.MethodName)) ∈ sm_GW := sm_w 982 (by decide +kernel) (by decide +kernel)
theorem wd_983 : (Jvm.Cond.selects "LentShades$House" ({ cls := "LentShades$House", name := "mixInto", desc := "(J)J" } : Jvm.MethodName) ({ cls := "LentShades$House", name := "mixInto", desc := "(J)J" } : Jvm.MethodName)) ∈ sm_GW := sm_w 983 (by decide +kernel) (by decide +kernel)
theorem wd_989 : (Jvm.Cond.code ({ cls := "LentShades$Fraction", name := "mixInto", desc := "(J)J" } : Jvm.MethodName) prog_3_method_10_code (6 : Nat) (Option.some Jvm.ClassFile.FieldType.long)) ∈ sm_GW := sm_w 989 (by decide +kernel) (by decide +kernel)
theorem wd_987 : (Jvm.Cond.instanceMethod ({ cls := "LentShades$Fraction", name := "mixInto", desc := "(J)J" } : Jvm.MethodName)) ∈ sm_GW := sm_w 987 (by decide +kernel) (by decide +kernel)
theorem wd_988 : (Jvm.Cond.selects "LentShades$Fraction" ({ cls := "LentShades$Fraction", name := "mixInto", desc := "(J)J" } : Jvm.MethodName) ({ cls := "LentShades$Fraction", name := "mixInto", desc := "(J)J" } : Jvm.MethodName)) ∈ sm_GW := sm_w 988 (by decide +kernel) (by decide +kernel)
theorem wd_978 : (Jvm.Cond.code ({ cls := "LentShades", name := "digest", desc := "()J" } : Jvm.MethodName) prog_1_method_30_code (4 : Nat) (Option.some Jvm.ClassFile.FieldType.long)) ∈ sm_GW := sm_w 978 (by decide +kernel) (by decide +kernel)
theorem wd_976 : (Jvm.Cond.instanceMethod ({ cls := "LentShades", name := "digest", desc := "()J" } : Jvm.MethodName)) ∈ sm_GW := sm_w 976 (by decide +kernel) (by decide +kernel)
theorem wd_977 : (Jvm.Cond.selects "LentShades" ({ cls := "LentShades", name := "digest", desc := "()J" } : Jvm.MethodName) ({ cls := "LentShades", name := "digest", desc := "()J" } : Jvm.MethodName)) ∈ sm_GW := sm_w 977 (by decide +kernel) (by decide +kernel)
theorem mwx_L_within : sm_MS yx_L_within prog_1_method_41_code 2 (some .boolean) 2 := ⟨wd_448, wd_102, wd_449, by decide +kernel, by decide +kernel⟩
theorem mwx_Shades_putParts : sm_MW yx_Shades_putParts prog_8_method_4_code 8 none 2 := ⟨wd_463, wd_464, wd_104, wd_465, by decide +kernel, by decide +kernel⟩
theorem mwx_House_addCloth : sm_MW yx_House_addCloth prog_4_method_8_code 4 none 3 := ⟨wd_459, wd_460, wd_103, wd_461, by decide +kernel, by decide +kernel⟩
theorem mwx_L_refusedFull : sm_MW yx_L_refusedFull prog_1_method_34_code 1 (some .int) 0 := ⟨wd_456, wd_1, wd_102, wd_457, by decide +kernel, by decide +kernel⟩
theorem mwx_L_refusedBad : sm_MW yx_L_refusedBad prog_1_method_32_code 1 (some .int) 0 := ⟨wd_452, wd_0, wd_102, wd_453, by decide +kernel, by decide +kernel⟩
theorem mwx_L_cloth : sm_MW yx_L_cloth prog_1_method_2_code 4 (some .int) 3 := ⟨wd_444, wd_445, wd_102, wd_446, by decide +kernel, by decide +kernel⟩
theorem mwx_House_addThing : sm_MW yx_House_addThing prog_4_method_9_code 2 none 1 := ⟨wd_472, wd_473, wd_103, wd_474, by decide +kernel, by decide +kernel⟩
theorem mwx_L_thing : sm_MW yx_L_thing prog_1_method_3_code 2 (some .int) 1 := ⟨wd_468, wd_469, wd_102, wd_470, by decide +kernel, by decide +kernel⟩
theorem mwx_House_hasCloth : sm_MW yx_House_hasCloth prog_4_method_2_code 2 (some .boolean) 1 := ⟨wd_484, wd_485, wd_103, wd_486, by decide +kernel, by decide +kernel⟩
theorem mwx_House_hasThing : sm_MW yx_House_hasThing prog_4_method_3_code 2 (some .boolean) 1 := ⟨wd_488, wd_489, wd_103, wd_490, by decide +kernel, by decide +kernel⟩
theorem mwx_House_hasNumber : sm_MW yx_House_hasNumber prog_4_method_4_code 2 (some .boolean) 1 := ⟨wd_480, wd_481, wd_103, wd_482, by decide +kernel, by decide +kernel⟩
theorem mwx_L_putHours : sm_MS yx_L_putHours prog_1_method_42_code 4 none 4 := ⟨wd_492, wd_102, wd_493, by decide +kernel, by decide +kernel⟩
theorem mwx_L_touch : sm_MW yx_L_touch prog_1_method_4_code 5 (some .int) 3 := ⟨wd_476, wd_477, wd_102, wd_478, by decide +kernel, by decide +kernel⟩
theorem mwx_L_colour : sm_MW yx_L_colour prog_1_method_5_code 4 (some .int) 2 := ⟨wd_495, wd_496, wd_102, wd_497, by decide +kernel, by decide +kernel⟩
theorem mwx_Reader_append : sm_MW yx_Reader_append prog_6_method_2_code 5 none 2 := ⟨wd_504, wd_505, wd_105, wd_506, by decide +kernel, by decide +kernel⟩
theorem mwx_L_type : sm_MW yx_L_type prog_1_method_6_code 4 (some .int) 2 := ⟨wd_500, wd_501, wd_102, wd_502, by decide +kernel, by decide +kernel⟩
theorem mwx_L_clear : sm_MW yx_L_clear prog_1_method_7_code 2 (some .int) 0 := ⟨wd_509, wd_510, wd_102, wd_511, by decide +kernel, by decide +kernel⟩
theorem mwx_Reader_isLetter : sm_MS yx_Reader_isLetter prog_6_method_14_code 1 (some .boolean) 1 := ⟨wd_525, wd_105, wd_526, by decide +kernel, by decide +kernel⟩
theorem mwx_Reader_isFigure : sm_MS yx_Reader_isFigure prog_6_method_15_code 1 (some .boolean) 1 := ⟨wd_587, wd_105, wd_588, by decide +kernel, by decide +kernel⟩
theorem mwx_Reader_nextNumber : sm_MW yx_Reader_nextNumber prog_6_method_13_code 1 none 0 := ⟨wd_591, wd_5, wd_105, wd_592, by decide +kernel, by decide +kernel⟩
theorem mwx_JString_coder : sm_MW yx_JString_coder prog_15_method_152_code 1 (some .byte) 0 := ⟨wd_541, wd_542, wd_113, wd_543, by decide +kernel, by decide +kernel⟩
theorem mwx_JString_length : sm_MW yx_JString_length prog_15_method_54_code 1 (some .int) 0 := ⟨wd_537, wd_538, wd_113, wd_539, by decide +kernel, by decide +kernel⟩
theorem mwx_JString_isLatin1 : sm_MW yx_JString_isLatin1 prog_15_method_154_code 1 (some .boolean) 0 := ⟨wd_551, wd_552, wd_113, wd_553, by decide +kernel, by decide +kernel⟩
theorem mwx_JPreconditions_checkIndex : sm_MS yx_JPreconditions_checkIndex prog_19_method_11_code 3 (some .int) 3 := ⟨wd_563, wd_115, wd_564, by decide +kernel, by decide +kernel⟩
theorem mwx_JString_checkIndex : sm_MS yx_JString_checkIndex prog_15_method_155_code 2 none 2 := ⟨wd_558, wd_113, wd_559, by decide +kernel, by decide +kernel⟩
theorem mwx_JStringLatin1_charAt : sm_MS yx_JStringLatin1_charAt prog_16_method_2_code 2 (some .char) 2 := ⟨wd_555, wd_114, wd_556, by decide +kernel, by decide +kernel⟩
theorem mwx_JString_charAt : sm_MW yx_JString_charAt prog_15_method_56_code 2 (some .char) 1 := ⟨wd_547, wd_548, wd_113, wd_549, by decide +kernel, by decide +kernel⟩
theorem mwx_Reader_spells : sm_MW yx_Reader_spells prog_6_method_12_code 3 (some .boolean) 1 := ⟨wd_534, wd_4, wd_105, wd_535, by decide +kernel, by decide +kernel⟩
theorem mwx_Reader_nextWord : sm_MW yx_Reader_nextWord prog_6_method_11_code 1 none 0 := ⟨wd_529, wd_3, wd_105, wd_530, by decide +kernel, by decide +kernel⟩
theorem mwx_Reader_next : sm_MW yx_Reader_next prog_6_method_10_code 1 none 0 := ⟨wd_522, wd_2, wd_105, wd_523, by decide +kernel, by decide +kernel⟩
theorem mwx_Reader_number : sm_MW yx_Reader_number prog_6_method_8_code 2 (some .boolean) 1 := ⟨wd_599, wd_7, wd_105, wd_600, by decide +kernel, by decide +kernel⟩
theorem mwx_Reader_stop : sm_MW yx_Reader_stop prog_6_method_9_code 1 (some .boolean) 0 := ⟨wd_603, wd_8, wd_105, wd_604, by decide +kernel, by decide +kernel⟩
theorem mwx_Reader_clothItem : sm_MW yx_Reader_clothItem prog_6_method_4_code 4 (some .boolean) 1 := ⟨wd_595, wd_6, wd_105, wd_596, by decide +kernel, by decide +kernel⟩
theorem mwx_Reader_thingItem : sm_MW yx_Reader_thingItem prog_6_method_5_code 2 (some .boolean) 1 := ⟨wd_608, wd_9, wd_105, wd_609, by decide +kernel, by decide +kernel⟩
theorem mwx_Reader_isThere : sm_MW yx_Reader_isThere prog_6_method_7_code 2 (some .boolean) 1 := ⟨wd_617, wd_11, wd_105, wd_618, by decide +kernel, by decide +kernel⟩
theorem mwx_Reader_touchItem : sm_MW yx_Reader_touchItem prog_6_method_6_code 4 (some .boolean) 1 := ⟨wd_613, wd_10, wd_105, wd_614, by decide +kernel, by decide +kernel⟩
theorem mwx_Reader_readInto : sm_MW yx_Reader_readInto prog_6_method_3_code 5 (some .int) 1 := ⟨wd_517, wd_518, wd_105, wd_519, by decide +kernel, by decide +kernel⟩
theorem mwx_Shades_reset : sm_MW yx_Shades_reset prog_8_method_2_code 1 none 0 := ⟨wd_143, wd_144, wd_104, wd_145, by decide +kernel, by decide +kernel⟩
theorem mwx_House_emptyOut : sm_MW yx_House_emptyOut prog_4_method_11_code 3 none 0 := ⟨wd_621, wd_622, wd_103, wd_623, by decide +kernel, by decide +kernel⟩
theorem mwx_L_read : sm_MW yx_L_read prog_1_method_8_code 2 (some .int) 0 := ⟨wd_513, wd_514, wd_102, wd_515, by decide +kernel, by decide +kernel⟩
theorem mwx_House_lends : sm_MW yx_House_lends prog_4_method_5_code 2 (some .boolean) 1 := ⟨wd_640, wd_641, wd_103, wd_642, by decide +kernel, by decide +kernel⟩
theorem mwx_Takings_ofCloths : sm_MW yx_Takings_ofCloths prog_10_method_3_code 6 (some .int) 3 := ⟨wd_637, wd_12, wd_108, wd_638, by decide +kernel, by decide +kernel⟩
theorem mwx_Takings_ofThings : sm_MW yx_Takings_ofThings prog_10_method_4_code 9 (some .int) 4 := ⟨wd_645, wd_13, wd_108, wd_646, by decide +kernel, by decide +kernel⟩
theorem mwx_L_greatestDivisor : sm_MS yx_L_greatestDivisor prog_1_method_43_code 6 (some .int) 2 := ⟨wd_648, wd_102, wd_649, by decide +kernel, by decide +kernel⟩
theorem mwx_Takings_reckon : sm_MW yx_Takings_reckon prog_10_method_2_code 7 none 3 := ⟨wd_632, wd_633, wd_108, wd_634, by decide +kernel, by decide +kernel⟩
theorem mwx_Sum_begin : sm_MW yx_Sum_begin prog_9_method_2_code 2 none 0 := ⟨wd_667, wd_668, wd_107, wd_669, by decide +kernel, by decide +kernel⟩
theorem mwx_Sum_write : sm_MW yx_Sum_write prog_9_method_3_code 9 none 3 := ⟨wd_675, wd_676, wd_107, wd_677, by decide +kernel, by decide +kernel⟩
theorem mwx_Shades_settle : sm_MW yx_Shades_settle prog_8_method_8_code 5 none 1 := ⟨wd_680, wd_681, wd_104, wd_682, by decide +kernel, by decide +kernel⟩
theorem mwx_Takings_takeMean : sm_MW yx_Takings_takeMean prog_10_method_7_code 4 none 1 := ⟨wd_672, wd_16, wd_108, wd_673, by decide +kernel, by decide +kernel⟩
theorem mwx_Shades_compare : sm_MW yx_Shades_compare prog_8_method_5_code 12 (some .int) 3 := ⟨wd_663, wd_664, wd_104, wd_665, by decide +kernel, by decide +kernel⟩
theorem mwx_Takings_takeGreatest : sm_MW yx_Takings_takeGreatest prog_10_method_8_code 7 none 2 := ⟨wd_660, wd_15, wd_108, wd_661, by decide +kernel, by decide +kernel⟩
theorem mwx_Takings_night : sm_MW yx_Takings_night prog_10_method_6_code 4 none 2 := ⟨wd_656, wd_14, wd_108, wd_657, by decide +kernel, by decide +kernel⟩
theorem mwx_Takings_behind : sm_MW yx_Takings_behind prog_10_method_5_code 6 (some (.object "LentShades$Shades")) 2 := ⟨wd_651, wd_652, wd_108, wd_653, by decide +kernel, by decide +kernel⟩
theorem mwx_Fraction_trimmed : sm_MS yx_Fraction_trimmed prog_3_method_7_code 3 (some .int) 2 := ⟨wd_692, wd_106, wd_693, by decide +kernel, by decide +kernel⟩
theorem mwx_Fraction_remainder : sm_MS yx_Fraction_remainder prog_3_method_5_code 6 (some .int) 3 := ⟨wd_695, wd_106, wd_696, by decide +kernel, by decide +kernel⟩
theorem mwx_Fraction_divide : sm_MS yx_Fraction_divide prog_3_method_6_code 8 none 3 := ⟨wd_702, wd_106, wd_703, by decide +kernel, by decide +kernel⟩
theorem mwx_Fraction_bothDivide : sm_MW yx_Fraction_bothDivide prog_3_method_4_code 2 (some .boolean) 1 := ⟨wd_714, wd_18, wd_106, wd_715, by decide +kernel, by decide +kernel⟩
theorem mwx_Fraction_reduce : sm_MW yx_Fraction_reduce prog_3_method_3_code 6 none 0 := ⟨wd_708, wd_17, wd_106, wd_709, by decide +kernel, by decide +kernel⟩
theorem mwx_Fraction_put : sm_MW yx_Fraction_put prog_3_method_2_code 5 none 3 := ⟨wd_687, wd_688, wd_106, wd_689, by decide +kernel, by decide +kernel⟩
theorem mwx_L_shade : sm_MW yx_L_shade prog_1_method_9_code 4 (some .int) 2 := ⟨wd_627, wd_628, wd_102, wd_629, by decide +kernel, by decide +kernel⟩
theorem mwx_Shades_copyFrom : sm_MW yx_Shades_copyFrom prog_8_method_3_code 2 none 1 := ⟨wd_729, wd_730, wd_104, wd_731, by decide +kernel, by decide +kernel⟩
theorem mwx_House_wakeUpWith : sm_MW yx_House_wakeUpWith prog_4_method_12_code 4 none 1 := ⟨wd_725, wd_726, wd_103, wd_727, by decide +kernel, by decide +kernel⟩
theorem mwx_L_refusedNo : sm_MW yx_L_refusedNo prog_1_method_33_code 1 (some .int) 0 := ⟨wd_722, wd_19, wd_102, wd_723, by decide +kernel, by decide +kernel⟩
theorem mwx_L_sleep : sm_MW yx_L_sleep prog_1_method_10_code 1 (some .int) 0 := ⟨wd_717, wd_718, wd_102, wd_719, by decide +kernel, by decide +kernel⟩
theorem mwx_House_goBack : sm_MW yx_House_goBack prog_4_method_13_code 1 (some .boolean) 0 := ⟨wd_740, wd_741, wd_103, wd_742, by decide +kernel, by decide +kernel⟩
theorem mwx_L_undo : sm_MW yx_L_undo prog_1_method_11_code 1 (some .int) 0 := ⟨wd_736, wd_737, wd_102, wd_738, by decide +kernel, by decide +kernel⟩
theorem mwx_Shades_hasAtLeast : sm_MW yx_Shades_hasAtLeast prog_8_method_6_code 3 (some .boolean) 2 := ⟨wd_748, wd_749, wd_104, wd_750, by decide +kernel, by decide +kernel⟩
theorem mwx_L_soRed : sm_MW yx_L_soRed prog_1_method_12_code 5 (some .int) 2 := ⟨wd_744, wd_745, wd_102, wd_746, by decide +kernel, by decide +kernel⟩
theorem mwx_House_hasVain : sm_MW yx_House_hasVain prog_4_method_6_code 2 (some .boolean) 0 := ⟨wd_757, wd_758, wd_103, wd_759, by decide +kernel, by decide +kernel⟩
theorem mwx_Resting_fill : sm_MW yx_Resting_fill prog_7_method_3_code 6 none 1 := ⟨wd_766, wd_20, wd_109, wd_767, by decide +kernel, by decide +kernel⟩
theorem mwx_Resting_minor : sm_MW yx_Resting_minor prog_7_method_4_code 9 (some .int) 2 := ⟨wd_771, wd_21, wd_109, wd_772, by decide +kernel, by decide +kernel⟩
theorem mwx_Resting_solve : sm_MW yx_Resting_solve prog_7_method_2_code 7 (some .int) 3 := ⟨wd_761, wd_762, wd_109, wd_763, by decide +kernel, by decide +kernel⟩
theorem mwx_L_rest : sm_MW yx_L_rest prog_1_method_13_code 3 (some .int) 1 := ⟨wd_753, wd_754, wd_102, wd_755, by decide +kernel, by decide +kernel⟩
theorem mwx_Mover_aim : sm_MW yx_Mover_aim prog_5_method_2_code 5 none 4 := ⟨wd_778, wd_779, wd_110, wd_780, by decide +kernel, by decide +kernel⟩
theorem mwx_Shades_hasAtMost : sm_MW yx_Shades_hasAtMost prog_8_method_7_code 3 (some .boolean) 2 := ⟨wd_794, wd_795, wd_104, wd_796, by decide +kernel, by decide +kernel⟩
theorem mwx_Mover_reached : sm_MW yx_Mover_reached prog_5_method_5_code 4 (some .boolean) 2 := ⟨wd_788, wd_22, wd_110, wd_789, by decide +kernel, by decide +kernel⟩
theorem mwx_Mover_lesser : sm_MS yx_Mover_lesser prog_5_method_9_code 1 (some .int) 1 := ⟨wd_806, wd_110, wd_807, by decide +kernel, by decide +kernel⟩
theorem mwx_Mover_other : sm_MS yx_Mover_other prog_5_method_10_code 1 (some .int) 1 := ⟨wd_809, wd_110, wd_810, by decide +kernel, by decide +kernel⟩
theorem mwx_Mover_hoursOf : sm_MS yx_Mover_hoursOf prog_5_method_11_code 1 (some .int) 1 := ⟨wd_814, wd_110, wd_815, by decide +kernel, by decide +kernel⟩
theorem mwx_Mover_changes : sm_MW yx_Mover_changes prog_5_method_6_code 6 (some .boolean) 2 := ⟨wd_803, wd_24, wd_110, wd_804, by decide +kernel, by decide +kernel⟩
theorem mwx_Mover_put : sm_MW yx_Mover_put prog_5_method_7_code 3 none 2 := ⟨wd_818, wd_25, wd_110, wd_819, by decide +kernel, by decide +kernel⟩
theorem mwx_Mover_putBack : sm_MW yx_Mover_putBack prog_5_method_8_code 3 none 2 := ⟨wd_823, wd_26, wd_110, wd_824, by decide +kernel, by decide +kernel⟩
theorem mwx_Mover_reachedByOneMore : sm_MW yx_Mover_reachedByOneMore prog_5_method_4_code 5 (some .int) 3 := ⟨wd_799, wd_23, wd_110, wd_800, by decide +kernel, by decide +kernel⟩
theorem mwx_Mover_search : sm_MW yx_Mover_search prog_5_method_3_code 4 (some .int) 2 := ⟨wd_782, wd_783, wd_110, wd_784, by decide +kernel, by decide +kernel⟩
theorem mwx_Mover_told : sm_MW yx_Mover_told prog_5_method_12_code 2 (some .int) 1 := ⟨wd_826, wd_827, wd_110, wd_828, by decide +kernel, by decide +kernel⟩
theorem mwx_L_moves : sm_MW yx_L_moves prog_1_method_14_code 8 (some .int) 5 := ⟨wd_774, wd_775, wd_102, wd_776, by decide +kernel, by decide +kernel⟩
theorem mwx_L_bound : sm_MW yx_L_bound prog_1_method_15_code 4 (some .int) 3 := ⟨wd_830, wd_831, wd_102, wd_832, by decide +kernel, by decide +kernel⟩
theorem mwx_Chest_lay : sm_MW yx_Chest_lay prog_2_method_3_code 6 (some .boolean) 2 := ⟨wd_843, wd_27, wd_111, wd_844, by decide +kernel, by decide +kernel⟩
theorem mwx_Chest_fits : sm_MW yx_Chest_fits prog_2_method_4_code 5 (some .boolean) 2 := ⟨wd_847, wd_28, wd_111, wd_848, by decide +kernel, by decide +kernel⟩
theorem mwx_Chest_countOrders : sm_MW yx_Chest_countOrders prog_2_method_2_code 6 (some .int) 2 := ⟨wd_838, wd_839, wd_111, wd_840, by decide +kernel, by decide +kernel⟩
theorem mwx_L_chest : sm_MW yx_L_chest prog_1_method_16_code 3 (some .int) 1 := ⟨wd_834, wd_835, wd_102, wd_836, by decide +kernel, by decide +kernel⟩
theorem mwx_L_isShade : sm_MS yx_L_isShade prog_1_method_35_code 2 (some .boolean) 2 := ⟨wd_860, wd_102, wd_861, by decide +kernel, by decide +kernel⟩
theorem mwx_House_lenders : sm_MW yx_House_lenders prog_4_method_7_code 3 (some .int) 0 := ⟨wd_863, wd_864, wd_103, wd_865, by decide +kernel, by decide +kernel⟩
theorem mwx_JInteger_bitCount : sm_MS yx_JInteger_bitCount prog_13_method_49_code 1 (some .int) 1 := ⟨wd_873, wd_119, wd_874, by decide +kernel, by decide +kernel⟩
theorem mwx_Sum_isZeroIn : sm_MW yx_Sum_isZeroIn prog_9_method_4_code 8 (some .boolean) 1 := ⟨wd_879, wd_880, wd_107, wd_881, by decide +kernel, by decide +kernel⟩
theorem mwx_L_gives : sm_MW yx_L_gives prog_1_method_36_code 5 (some .boolean) 3 := ⟨wd_869, wd_29, wd_102, wd_870, by decide +kernel, by decide +kernel⟩
theorem mwx_L_morning : sm_MW yx_L_morning prog_1_method_17_code 7 (some .int) 3 := ⟨wd_856, wd_857, wd_102, wd_858, by decide +kernel, by decide +kernel⟩
theorem mwx_L_surely : sm_MW yx_L_surely prog_1_method_18_code 6 (some .int) 2 := ⟨wd_883, wd_884, wd_102, wd_885, by decide +kernel, by decide +kernel⟩
theorem mwx_House_addBorrower : sm_MW yx_House_addBorrower prog_4_method_10_code 6 none 4 := ⟨wd_891, wd_892, wd_103, wd_893, by decide +kernel, by decide +kernel⟩
theorem mwx_L_borrower : sm_MW yx_L_borrower prog_1_method_19_code 5 (some .int) 4 := ⟨wd_887, wd_888, wd_102, wd_889, by decide +kernel, by decide +kernel⟩
theorem mwx_L_refuse : sm_MW yx_L_refuse prog_1_method_20_code 2 (some .int) 0 := ⟨wd_895, wd_896, wd_102, wd_897, by decide +kernel, by decide +kernel⟩
theorem mwx_L_serves : sm_MW yx_L_serves prog_1_method_38_code 3 (some .boolean) 2 := ⟨wd_908, wd_31, wd_102, wd_909, by decide +kernel, by decide +kernel⟩
theorem mwx_L_contentBorrowers : sm_MW yx_L_contentBorrowers prog_1_method_37_code 7 (some .int) 0 := ⟨wd_904, wd_30, wd_102, wd_905, by decide +kernel, by decide +kernel⟩
theorem mwx_House_overlap : sm_MS yx_House_overlap prog_4_method_15_code 2 (some .boolean) 2 := ⟨wd_915, wd_103, wd_916, by decide +kernel, by decide +kernel⟩
theorem mwx_House_clash : sm_MW yx_House_clash prog_4_method_14_code 4 (some .boolean) 1 := ⟨wd_911, wd_912, wd_103, wd_913, by decide +kernel, by decide +kernel⟩
theorem mwx_L_lent : sm_MW yx_L_lent prog_1_method_21_code 6 (some .int) 1 := ⟨wd_899, wd_900, wd_102, wd_901, by decide +kernel, by decide +kernel⟩
theorem mwx_L_isNewShade : sm_MW yx_L_isNewShade prog_1_method_39_code 3 (some .boolean) 1 := ⟨wd_923, wd_32, wd_102, wd_924, by decide +kernel, by decide +kernel⟩
theorem mwx_L_isNewColour : sm_MW yx_L_isNewColour prog_1_method_40_code 3 (some .boolean) 1 := ⟨wd_928, wd_33, wd_102, wd_929, by decide +kernel, by decide +kernel⟩
theorem mwx_L_colours : sm_MW yx_L_colours prog_1_method_22_code 3 (some .int) 0 := ⟨wd_918, wd_919, wd_102, wd_920, by decide +kernel, by decide +kernel⟩
theorem mwx_L_least : sm_MW yx_L_least prog_1_method_23_code 7 (some .int) 4 := ⟨wd_931, wd_932, wd_102, wd_933, by decide +kernel, by decide +kernel⟩
theorem mwx_Fraction_size : sm_MW yx_Fraction_size prog_3_method_8_code 2 (some .int) 1 := ⟨wd_939, wd_940, wd_106, wd_941, by decide +kernel, by decide +kernel⟩
theorem mwx_L_sign : sm_MW yx_L_sign prog_1_method_24_code 2 (some .int) 1 := ⟨wd_935, wd_936, wd_102, wd_937, by decide +kernel, by decide +kernel⟩
theorem mwx_Fraction_digit : sm_MW yx_Fraction_digit prog_3_method_9_code 3 (some .int) 2 := ⟨wd_947, wd_948, wd_106, wd_949, by decide +kernel, by decide +kernel⟩
theorem mwx_L_limb : sm_MW yx_L_limb prog_1_method_25_code 3 (some .int) 2 := ⟨wd_943, wd_944, wd_102, wd_945, by decide +kernel, by decide +kernel⟩
theorem mwx_House_copyFrom : sm_MW yx_House_copyFrom prog_4_method_16_code 3 none 1 := ⟨wd_955, wd_956, wd_103, wd_957, by decide +kernel, by decide +kernel⟩
theorem mwx_L_image : sm_MW yx_L_image prog_1_method_26_code 2 (some .int) 1 := ⟨wd_951, wd_952, wd_102, wd_953, by decide +kernel, by decide +kernel⟩
theorem mwx_L_from : sm_MW yx_L_from prog_1_method_27_code 2 (some .int) 1 := ⟨wd_960, wd_961, wd_102, wd_962, by decide +kernel, by decide +kernel⟩
theorem mwx_L_status : sm_MW yx_L_status prog_1_method_28_code 2 (some .int) 1 := ⟨wd_964, wd_965, wd_102, wd_966, by decide +kernel, by decide +kernel⟩
theorem mwx_L_howMany : sm_MW yx_L_howMany prog_1_method_31_code 2 (some .int) 1 := ⟨wd_973, wd_34, wd_102, wd_974, by decide +kernel, by decide +kernel⟩
theorem mwx_L_count : sm_MW yx_L_count prog_1_method_29_code 2 (some .int) 1 := ⟨wd_968, wd_969, wd_102, wd_970, by decide +kernel, by decide +kernel⟩
theorem mwx_House_mixInto : sm_MW yx_House_mixInto prog_4_method_17_code 7 (some .long) 1 := ⟨wd_982, wd_983, wd_103, wd_984, by decide +kernel, by decide +kernel⟩
theorem mwx_Fraction_mixInto : sm_MW yx_Fraction_mixInto prog_3_method_10_code 6 (some .long) 1 := ⟨wd_987, wd_988, wd_106, wd_989, by decide +kernel, by decide +kernel⟩
theorem mwx_L_digest : sm_MW yx_L_digest prog_1_method_30_code 4 (some .long) 0 := ⟨wd_976, wd_977, wd_102, wd_978, by decide +kernel, by decide +kernel⟩
