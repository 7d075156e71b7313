def zc_R0 : String := "LentShades$Chest"
def zc_T0 : u_T := fun k => match k with
  | 0 => ("LentShades$Chest", "hours", "[[I", true)
  | 1 => ("LentShades$Chest", "order", "[I", true)
  | _ => ("LentShades$Chest", "first", "[I", true)
def zc_y0 : Nat → FieldType := fun k => match k with
  | 0 => .array (.array .int)
  | 1 => .array .int
  | _ => .array .int
theorem zc_n0 : ∀ a, a < 3 → ∀ b, b < 3 → a ≠ b → (zc_T0 a).2.1 ≠ (zc_T0 b).2.1 := by decide +kernel
theorem zc_t0 : ∀ k, k < 3 → parseFieldDescriptor (zc_T0 k).2.2.1 = some (zc_y0 k) := by decide +kernel
theorem zc_i0 : ∀ w ∈ u_ws zc_R0 zc_T0 3, w ∈ sm_GW := by decide +kernel
def zc_R1 : String := "LentShades$Fraction"
def zc_T1 : u_T := fun k => match k with
  | 0 => ("LentShades$Fraction", "above", "[I", true)
  | 1 => ("LentShades$Fraction", "below", "[I", true)
  | 2 => ("LentShades$Fraction", "aboves", "I", false)
  | _ => ("LentShades$Fraction", "belows", "I", false)
def zc_y1 : Nat → FieldType := fun k => match k with
  | 0 => .array .int
  | 1 => .array .int
  | 2 => .int
  | _ => .int
theorem zc_n1 : ∀ a, a < 4 → ∀ b, b < 4 → a ≠ b → (zc_T1 a).2.1 ≠ (zc_T1 b).2.1 := by decide +kernel
theorem zc_t1 : ∀ k, k < 4 → parseFieldDescriptor (zc_T1 k).2.2.1 = some (zc_y1 k) := by decide +kernel
theorem zc_i1 : ∀ w ∈ u_ws zc_R1 zc_T1 4, w ∈ sm_GW := by decide +kernel
def zc_R2 : String := "LentShades$House"
def zc_T2 : u_T := fun k => match k with
  | 0 => ("LentShades$House", "kind", "[I", true)
  | 1 => ("LentShades$House", "hold", "[I", true)
  | 2 => ("LentShades$House", "least", "[I", true)
  | 3 => ("LentShades$House", "most", "[I", true)
  | 4 => ("LentShades$House", "colour", "[I", true)
  | 5 => ("LentShades$House", "hours", "[[I", true)
  | 6 => ("LentShades$House", "now", "LLentShades$Shades;", true)
  | 7 => ("LentShades$House", "past", "[LLentShades$Shades;", true)
  | 8 => ("LentShades$House", "wish", "[[I", true)
  | 9 => ("LentShades$House", "cloths", "I", false)
  | 10 => ("LentShades$House", "things", "I", false)
  | 11 => ("LentShades$House", "nights", "I", false)
  | 12 => ("LentShades$House", "undoable", "I", false)
  | _ => ("LentShades$House", "borrowers", "I", false)
def zc_y2 : Nat → FieldType := fun k => match k with
  | 0 => .array .int
  | 1 => .array .int
  | 2 => .array .int
  | 3 => .array .int
  | 4 => .array .int
  | 5 => .array (.array .int)
  | 6 => .object "LentShades$Shades"
  | 7 => .array (.object "LentShades$Shades")
  | 8 => .array (.array .int)
  | 9 => .int
  | 10 => .int
  | 11 => .int
  | 12 => .int
  | _ => .int
theorem zc_n2 : ∀ a, a < 14 → ∀ b, b < 14 → a ≠ b → (zc_T2 a).2.1 ≠ (zc_T2 b).2.1 := by decide +kernel
theorem zc_t2 : ∀ k, k < 14 → parseFieldDescriptor (zc_T2 k).2.2.1 = some (zc_y2 k) := by decide +kernel
theorem zc_i2 : ∀ w ∈ u_ws zc_R2 zc_T2 14, w ∈ sm_GW := by decide +kernel
def zc_R3 : String := "LentShades$Mover"
def zc_T3 : u_T := fun k => match k with
  | 0 => ("LentShades$Mover", "hours", "[[I", true)
  | 1 => ("LentShades$Mover", "goal", "I", false)
  | 2 => ("LentShades$Mover", "fewestParts", "I", false)
  | 3 => ("LentShades$Mover", "mostParts", "I", false)
  | 4 => ("LentShades$Mover", "nights", "I", false)
  | 5 => ("LentShades$Mover", "first", "I", false)
  | _ => ("LentShades$Mover", "second", "I", false)
def zc_y3 : Nat → FieldType := fun k => match k with
  | 0 => .array (.array .int)
  | 1 => .int
  | 2 => .int
  | 3 => .int
  | 4 => .int
  | 5 => .int
  | _ => .int
theorem zc_n3 : ∀ a, a < 7 → ∀ b, b < 7 → a ≠ b → (zc_T3 a).2.1 ≠ (zc_T3 b).2.1 := by decide +kernel
theorem zc_t3 : ∀ k, k < 7 → parseFieldDescriptor (zc_T3 k).2.2.1 = some (zc_y3 k) := by decide +kernel
theorem zc_i3 : ∀ w ∈ u_ws zc_R3 zc_T3 7, w ∈ sm_GW := by decide +kernel
def zc_R4 : String := "LentShades$Reader"
def zc_T4 : u_T := fun k => match k with
  | 0 => ("LentShades$Reader", "text", "[I", true)
  | 1 => ("LentShades$Reader", "length", "I", false)
  | 2 => ("LentShades$Reader", "place", "I", false)
  | 3 => ("LentShades$Reader", "start", "I", false)
  | 4 => ("LentShades$Reader", "token", "I", false)
  | 5 => ("LentShades$Reader", "value", "I", false)
  | 6 => ("LentShades$Reader", "cloths", "I", false)
  | _ => ("LentShades$Reader", "things", "I", false)
def zc_y4 : Nat → FieldType := fun k => match k with
  | 0 => .array .int
  | 1 => .int
  | 2 => .int
  | 3 => .int
  | 4 => .int
  | 5 => .int
  | 6 => .int
  | _ => .int
theorem zc_n4 : ∀ a, a < 8 → ∀ b, b < 8 → a ≠ b → (zc_T4 a).2.1 ≠ (zc_T4 b).2.1 := by decide +kernel
theorem zc_t4 : ∀ k, k < 8 → parseFieldDescriptor (zc_T4 k).2.2.1 = some (zc_y4 k) := by decide +kernel
theorem zc_i4 : ∀ w ∈ u_ws zc_R4 zc_T4 8, w ∈ sm_GW := by decide +kernel
def zc_R5 : String := "LentShades$Resting"
def zc_T5 : u_T := fun k => match k with
  | _ => ("LentShades$Resting", "matrix", "[[I", true)
def zc_y5 : Nat → FieldType := fun k => match k with
  | _ => .array (.array .int)
theorem zc_n5 : ∀ a, a < 1 → ∀ b, b < 1 → a ≠ b → (zc_T5 a).2.1 ≠ (zc_T5 b).2.1 := by decide +kernel
theorem zc_t5 : ∀ k, k < 1 → parseFieldDescriptor (zc_T5 k).2.2.1 = some (zc_y5 k) := by decide +kernel
theorem zc_i5 : ∀ w ∈ u_ws zc_R5 zc_T5 1, w ∈ sm_GW := by decide +kernel
def zc_R6 : String := "LentShades$Shades"
def zc_T6 : u_T := fun k => match k with
  | 0 => ("LentShades$Shades", "limb", "[I", true)
  | _ => ("LentShades$Shades", "used", "I", false)
def zc_y6 : Nat → FieldType := fun k => match k with
  | 0 => .array .int
  | _ => .int
theorem zc_n6 : ∀ a, a < 2 → ∀ b, b < 2 → a ≠ b → (zc_T6 a).2.1 ≠ (zc_T6 b).2.1 := by decide +kernel
theorem zc_t6 : ∀ k, k < 2 → parseFieldDescriptor (zc_T6 k).2.2.1 = some (zc_y6 k) := by decide +kernel
theorem zc_i6 : ∀ w ∈ u_ws zc_R6 zc_T6 2, w ∈ sm_GW := by decide +kernel
def zc_R7 : String := "LentShades$Sum"
def zc_T7 : u_T := fun k => match k with
  | 0 => ("LentShades$Sum", "coef", "[J", true)
  | _ => ("LentShades$Sum", "digits", "[J", true)
def zc_y7 : Nat → FieldType := fun k => match k with
  | 0 => .array .long
  | _ => .array .long
theorem zc_n7 : ∀ a, a < 2 → ∀ b, b < 2 → a ≠ b → (zc_T7 a).2.1 ≠ (zc_T7 b).2.1 := by decide +kernel
theorem zc_t7 : ∀ k, k < 2 → parseFieldDescriptor (zc_T7 k).2.2.1 = some (zc_y7 k) := by decide +kernel
theorem zc_i7 : ∀ w ∈ u_ws zc_R7 zc_T7 2, w ∈ sm_GW := by decide +kernel
def zc_R8 : String := "LentShades$Takings"
def zc_T8 : u_T := fun k => match k with
  | 0 => ("LentShades$Takings", "sum", "LLentShades$Sum;", true)
  | 1 => ("LentShades$Takings", "part", "[[I", true)
  | 2 => ("LentShades$Takings", "whole", "[I", true)
  | 3 => ("LentShades$Takings", "vain", "[Z", true)
  | 4 => ("LentShades$Takings", "greatest", "[I", true)
  | 5 => ("LentShades$Takings", "cloths", "I", false)
  | 6 => ("LentShades$Takings", "shared", "I", false)
  | 7 => ("LentShades$Takings", "odd", "LLentShades$Shades;", true)
  | _ => ("LentShades$Takings", "even", "LLentShades$Shades;", true)
def zc_y8 : Nat → FieldType := fun k => match k with
  | 0 => .object "LentShades$Sum"
  | 1 => .array (.array .int)
  | 2 => .array .int
  | 3 => .array .boolean
  | 4 => .array .int
  | 5 => .int
  | 6 => .int
  | 7 => .object "LentShades$Shades"
  | _ => .object "LentShades$Shades"
theorem zc_n8 : ∀ a, a < 9 → ∀ b, b < 9 → a ≠ b → (zc_T8 a).2.1 ≠ (zc_T8 b).2.1 := by decide +kernel
theorem zc_t8 : ∀ k, k < 9 → parseFieldDescriptor (zc_T8 k).2.2.1 = some (zc_y8 k) := by decide +kernel
theorem zc_i8 : ∀ w ∈ u_ws zc_R8 zc_T8 9, w ∈ sm_GW := by decide +kernel
def zc_R9 : String := "LentShades"
def zc_T9 : u_T := fun k => match k with
  | 0 => ("LentShades", "house", "LLentShades$House;", true)
  | 1 => ("LentShades", "images", "[LLentShades$House;", true)
  | 2 => ("LentShades", "kept", "[Z", true)
  | 3 => ("LentShades", "reader", "LLentShades$Reader;", true)
  | 4 => ("LentShades", "fraction", "LLentShades$Fraction;", true)
  | 5 => ("LentShades", "sum", "LLentShades$Sum;", true)
  | 6 => ("LentShades", "takings", "LLentShades$Takings;", true)
  | 7 => ("LentShades", "resting", "LLentShades$Resting;", true)
  | 8 => ("LentShades", "mover", "LLentShades$Mover;", true)
  | 9 => ("LentShades", "box", "LLentShades$Chest;", true)
  | 10 => ("LentShades", "otherColours", "[I", true)
  | 11 => ("LentShades", "bads", "I", false)
  | 12 => ("LentShades", "noes", "I", false)
  | _ => ("LentShades", "fulls", "I", false)
def zc_y9 : Nat → FieldType := fun k => match k with
  | 0 => .object "LentShades$House"
  | 1 => .array (.object "LentShades$House")
  | 2 => .array .boolean
  | 3 => .object "LentShades$Reader"
  | 4 => .object "LentShades$Fraction"
  | 5 => .object "LentShades$Sum"
  | 6 => .object "LentShades$Takings"
  | 7 => .object "LentShades$Resting"
  | 8 => .object "LentShades$Mover"
  | 9 => .object "LentShades$Chest"
  | 10 => .array .int
  | 11 => .int
  | 12 => .int
  | _ => .int
theorem zc_n9 : ∀ a, a < 14 → ∀ b, b < 14 → a ≠ b → (zc_T9 a).2.1 ≠ (zc_T9 b).2.1 := by decide +kernel
theorem zc_t9 : ∀ k, k < 14 → parseFieldDescriptor (zc_T9 k).2.2.1 = some (zc_y9 k) := by decide +kernel
theorem zc_i9 : ∀ w ∈ u_ws zc_R9 zc_T9 14, w ∈ sm_GW := by decide +kernel
def zc_R10 : String := "LentShadesModel"
def zc_T10 : u_T := fun k => match k with
  | 0 => ("LentShadesModel", "now", "[I", true)
  | 1 => ("LentShadesModel", "kept", "[I", true)
  | 2 => ("LentShadesModel", "isKept", "[Z", true)
  | 3 => ("LentShadesModel", "refused", "[I", true)
  | 4 => ("LentShadesModel", "limbs", "[J", true)
  | 5 => ("LentShadesModel", "sizes", "[I", true)
  | 6 => ("LentShadesModel", "sign", "I", false)
  | 7 => ("LentShadesModel", "table", "[I", true)
  | 8 => ("LentShadesModel", "colours", "[I", true)
  | 9 => ("LentShadesModel", "rows", "[J", true)
  | 10 => ("LentShadesModel", "leftRows", "[I", true)
  | 11 => ("LentShadesModel", "leftColumns", "[I", true)
  | 12 => ("LentShadesModel", "picked", "[I", true)
  | 13 => ("LentShadesModel", "pairs", "I", false)
  | 14 => ("LentShadesModel", "lesser", "[I", true)
  | 15 => ("LentShadesModel", "other", "[I", true)
  | 16 => ("LentShadesModel", "firstMove", "I", false)
  | 17 => ("LentShadesModel", "secondMove", "I", false)
  | 18 => ("LentShadesModel", "order", "[I", true)
  | 19 => ("LentShadesModel", "firstOrder", "[I", true)
  | 20 => ("LentShadesModel", "bytes", "[I", true)
  | 21 => ("LentShadesModel", "bytesLong", "I", false)
  | 22 => ("LentShadesModel", "tokenAt", "I", false)
  | 23 => ("LentShadesModel", "tokenLong", "I", false)
  | 24 => ("LentShadesModel", "token", "I", false)
  | 25 => ("LentShadesModel", "value", "I", false)
  | 26 => ("LentShadesModel", "readCloth", "[I", true)
  | 27 => ("LentShadesModel", "readHours", "[I", true)
  | 28 => ("LentShadesModel", "readColour", "[I", true)
  | 29 => ("LentShadesModel", "readCloths", "I", false)
  | 30 => ("LentShadesModel", "readThings", "I", false)
  | _ => ("LentShadesModel", "taken", "I", false)
def zc_y10 : Nat → FieldType := fun k => match k with
  | 0 => .array .int
  | 1 => .array .int
  | 2 => .array .boolean
  | 3 => .array .int
  | 4 => .array .long
  | 5 => .array .int
  | 6 => .int
  | 7 => .array .int
  | 8 => .array .int
  | 9 => .array .long
  | 10 => .array .int
  | 11 => .array .int
  | 12 => .array .int
  | 13 => .int
  | 14 => .array .int
  | 15 => .array .int
  | 16 => .int
  | 17 => .int
  | 18 => .array .int
  | 19 => .array .int
  | 20 => .array .int
  | 21 => .int
  | 22 => .int
  | 23 => .int
  | 24 => .int
  | 25 => .int
  | 26 => .array .int
  | 27 => .array .int
  | 28 => .array .int
  | 29 => .int
  | 30 => .int
  | _ => .int
theorem zc_n10 : ∀ a, a < 32 → ∀ b, b < 32 → a ≠ b → (zc_T10 a).2.1 ≠ (zc_T10 b).2.1 := by decide +kernel
theorem zc_t10 : ∀ k, k < 32 → parseFieldDescriptor (zc_T10 k).2.2.1 = some (zc_y10 k) := by decide +kernel
theorem zc_i10 : ∀ w ∈ u_ws zc_R10 zc_T10 32, w ∈ sm_GW := by decide +kernel
abbrev sm_cl : List vw_C := [(zc_R0, zc_T0, 3), (zc_R1, zc_T1, 4), (zc_R2, zc_T2, 14), (zc_R3, zc_T3, 7), (zc_R4, zc_T4, 8), (zc_R5, zc_T5, 1), (zc_R6, zc_T6, 2), (zc_R7, zc_T7, 2), (zc_R8, zc_T8, 9), (zc_R9, zc_T9, 14), (zc_R10, zc_T10, 32)]
