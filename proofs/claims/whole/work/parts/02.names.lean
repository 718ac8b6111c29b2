def RX0 : String := "CellNeighbours$Boy"
def TX0 : u_T := fun k => match k with
  | _ => ("", "", "", false)
def tyX0 : Nat → FieldType := fun k => match k with
  | _ => .int
theorem nmX0 : ∀ a, a < 0 → ∀ b, b < 0 → a ≠ b → (TX0 a).2.1 ≠ (TX0 b).2.1 := by decide +kernel
theorem tyX0_ok : ∀ k, k < 0 → parseFieldDescriptor (TX0 k).2.2.1 = some (tyX0 k) := by decide +kernel
abbrev cX0_init : ByteArray := prog_2_method_1_code
def yX0_init : MethodName := ⟨RX0, "<init>", "()V"⟩
abbrev cX0_worth : ByteArray := prog_2_method_2_code
def yX0_worth : MethodName := ⟨RX0, "worth", "(LCellNeighbours$Scene;ILCellNeighbours$Tally;)I"⟩
def RX1 : String := "CellNeighbours$Lawyer"
def TX1 : u_T := fun k => match k with
  | _ => ("", "", "", false)
def tyX1 : Nat → FieldType := fun k => match k with
  | _ => .int
theorem nmX1 : ∀ a, a < 0 → ∀ b, b < 0 → a ≠ b → (TX1 a).2.1 ≠ (TX1 b).2.1 := by decide +kernel
theorem tyX1_ok : ∀ k, k < 0 → parseFieldDescriptor (TX1 k).2.2.1 = some (tyX1 k) := by decide +kernel
abbrev cX1_init : ByteArray := prog_3_method_1_code
def yX1_init : MethodName := ⟨RX1, "<init>", "()V"⟩
abbrev cX1_worth : ByteArray := prog_3_method_2_code
def yX1_worth : MethodName := ⟨RX1, "worth", "(LCellNeighbours$Scene;ILCellNeighbours$Tally;)I"⟩
def RX2 : String := "CellNeighbours$Lie"
def TX2 : u_T := fun k => match k with
  | 0 => ("CellNeighbours$Lie", "leastYears", "I", false)
  | 1 => ("CellNeighbours$Lie", "sought", "LCellNeighbours$Scene;", true)
  | 2 => ("CellNeighbours$Lie", "isSought", "Z", false)
  | 3 => ("CellNeighbours$Lie", "size", "I", false)
  | 4 => ("CellNeighbours$Lie", "men", "[I", true)
  | 5 => ("CellNeighbours$Lie", "way", "[I", true)
  | 6 => ("CellNeighbours$Lie", "bestWay", "[I", true)
  | 7 => ("CellNeighbours$Lie", "puts", "[I", true)
  | _ => ("CellNeighbours$Lie", "inCell", "[I", true)
def tyX2 : Nat → FieldType := fun k => match k with
  | 0 => .int
  | 1 => .object "CellNeighbours$Scene"
  | 2 => .boolean
  | 3 => .int
  | 4 => .array .int
  | 5 => .array .int
  | 6 => .array .int
  | 7 => .array .int
  | _ => .array .int
theorem nmX2 : ∀ a, a < 9 → ∀ b, b < 9 → a ≠ b → (TX2 a).2.1 ≠ (TX2 b).2.1 := by decide +kernel
theorem tyX2_ok : ∀ k, k < 9 → parseFieldDescriptor (TX2 k).2.2.1 = some (tyX2 k) := by decide +kernel
abbrev cX2_init : ByteArray := prog_4_method_1_code
def yX2_init : MethodName := ⟨RX2, "<init>", "()V"⟩
abbrev cX2_seek : ByteArray := prog_4_method_2_code
def yX2_seek : MethodName := ⟨RX2, "seek", "(LCellNeighbours$Scene;)V"⟩
abbrev cX2_bestCellOf : ByteArray := prog_4_method_3_code
def yX2_bestCellOf : MethodName := ⟨RX2, "bestCellOf", "(I)I"⟩
abbrev cX2_gather : ByteArray := prog_4_method_4_code
def yX2_gather : MethodName := ⟨RX2, "gather", "()V"⟩
abbrev cX2_yearsBehind : ByteArray := prog_4_method_5_code
def yX2_yearsBehind : MethodName := ⟨RX2, "yearsBehind", "()I"⟩
abbrev cX2_putFrom : ByteArray := prog_4_method_6_code
def yX2_putFrom : MethodName := ⟨RX2, "putFrom", "(II)I"⟩
abbrev cX2_turnsToNextWay : ByteArray := prog_4_method_7_code
def yX2_turnsToNextWay : MethodName := ⟨RX2, "turnsToNextWay", "()Z"⟩
abbrev cX2_swap : ByteArray := prog_4_method_8_code
def yX2_swap : MethodName := ⟨RX2, "swap", "(II)V"⟩
def RX3 : String := "CellNeighbours$Man"
def TX3 : u_T := fun k => match k with
  | _ => ("", "", "", false)
def tyX3 : Nat → FieldType := fun k => match k with
  | _ => .int
theorem nmX3 : ∀ a, a < 0 → ∀ b, b < 0 → a ≠ b → (TX3 a).2.1 ≠ (TX3 b).2.1 := by decide +kernel
theorem tyX3_ok : ∀ k, k < 0 → parseFieldDescriptor (TX3 k).2.2.1 = some (tyX3 k) := by decide +kernel
abbrev cX3_init : ByteArray := prog_5_method_1_code
def yX3_init : MethodName := ⟨RX3, "<init>", "()V"⟩
abbrev cX3_worth : ByteArray := prog_5_method_2_code
def yX3_worth : MethodName := ⟨RX3, "worth", "(LCellNeighbours$Scene;ILCellNeighbours$Tally;)I"⟩
def RX4 : String := "CellNeighbours$Pear"
def TX4 : u_T := fun k => match k with
  | _ => ("", "", "", false)
def tyX4 : Nat → FieldType := fun k => match k with
  | _ => .int
theorem nmX4 : ∀ a, a < 0 → ∀ b, b < 0 → a ≠ b → (TX4 a).2.1 ≠ (TX4 b).2.1 := by decide +kernel
theorem tyX4_ok : ∀ k, k < 0 → parseFieldDescriptor (TX4 k).2.2.1 = some (tyX4 k) := by decide +kernel
abbrev cX4_init : ByteArray := prog_6_method_1_code
def yX4_init : MethodName := ⟨RX4, "<init>", "()V"⟩
abbrev cX4_worth : ByteArray := prog_6_method_2_code
def yX4_worth : MethodName := ⟨RX4, "worth", "(LCellNeighbours$Scene;ILCellNeighbours$Tally;)I"⟩
def RX5 : String := "CellNeighbours$Scene"
def TX5 : u_T := fun k => match k with
  | 0 => ("CellNeighbours$Scene", "cells", "I", false)
  | 1 => ("CellNeighbours$Scene", "men", "I", false)
  | 2 => ("CellNeighbours$Scene", "monthsGone", "I", false)
  | 3 => ("CellNeighbours$Scene", "cellOf", "[I", true)
  | 4 => ("CellNeighbours$Scene", "soundOf", "[I", true)
  | 5 => ("CellNeighbours$Scene", "hardOf", "[I", true)
  | 6 => ("CellNeighbours$Scene", "yearsOf", "[I", true)
  | _ => ("CellNeighbours$Scene", "inCell", "[I", true)
def tyX5 : Nat → FieldType := fun k => match k with
  | 0 => .int
  | 1 => .int
  | 2 => .int
  | 3 => .array .int
  | 4 => .array .int
  | 5 => .array .int
  | 6 => .array .int
  | _ => .array .int
theorem nmX5 : ∀ a, a < 8 → ∀ b, b < 8 → a ≠ b → (TX5 a).2.1 ≠ (TX5 b).2.1 := by decide +kernel
theorem tyX5_ok : ∀ k, k < 8 → parseFieldDescriptor (TX5 k).2.2.1 = some (tyX5 k) := by decide +kernel
abbrev cX5_init : ByteArray := prog_7_method_1_code
def yX5_init : MethodName := ⟨RX5, "<init>", "()V"⟩
abbrev cX5_makeEmpty : ByteArray := prog_7_method_2_code
def yX5_makeEmpty : MethodName := ⟨RX5, "makeEmpty", "()V"⟩
abbrev cX5_copyFrom : ByteArray := prog_7_method_3_code
def yX5_copyFrom : MethodName := ⟨RX5, "copyFrom", "(LCellNeighbours$Scene;)V"⟩
abbrev cX5_liesLike : ByteArray := prog_7_method_4_code
def yX5_liesLike : MethodName := ⟨RX5, "liesLike", "(LCellNeighbours$Scene;)Z"⟩
abbrev cX5_hasMan : ByteArray := prog_7_method_5_code
def yX5_hasMan : MethodName := ⟨RX5, "hasMan", "(I)Z"⟩
abbrev cX5_hasCell : ByteArray := prog_7_method_6_code
def yX5_hasCell : MethodName := ⟨RX5, "hasCell", "(I)Z"⟩
abbrev cX5_isIn : ByteArray := prog_7_method_7_code
def yX5_isIn : MethodName := ⟨RX5, "isIn", "(I)Z"⟩
abbrev cX5_whoIn : ByteArray := prog_7_method_8_code
def yX5_whoIn : MethodName := ⟨RX5, "whoIn", "(I)I"⟩
abbrev cX5_addMan : ByteArray := prog_7_method_9_code
def yX5_addMan : MethodName := ⟨RX5, "addMan", "(IIII)V"⟩
abbrev cX5_leaveCell : ByteArray := prog_7_method_10_code
def yX5_leaveCell : MethodName := ⟨RX5, "leaveCell", "(I)V"⟩
abbrev cX5_moveTo : ByteArray := prog_7_method_11_code
def yX5_moveTo : MethodName := ⟨RX5, "moveTo", "(II)V"⟩
abbrev cX5_figureFrom : ByteArray := prog_7_method_12_code
def yX5_figureFrom : MethodName := ⟨RX5, "figureFrom", "(II)I"⟩
abbrev cX5_yearsAfter : ByteArray := prog_7_method_13_code
def yX5_yearsAfter : MethodName := ⟨RX5, "yearsAfter", "(I)I"⟩
abbrev cX5_passMonth : ByteArray := prog_7_method_14_code
def yX5_passMonth : MethodName := ⟨RX5, "passMonth", "()I"⟩
abbrev cX5_monthsTillFree : ByteArray := prog_7_method_15_code
def yX5_monthsTillFree : MethodName := ⟨RX5, "monthsTillFree", "(I)I"⟩
abbrev cX5_bitsIn : ByteArray := prog_7_method_16_code
def yX5_bitsIn : MethodName := ⟨RX5, "bitsIn", "()I"⟩
abbrev cX5_yearsOfAll : ByteArray := prog_7_method_17_code
def yX5_yearsOfAll : MethodName := ⟨RX5, "yearsOfAll", "()I"⟩
abbrev cX5_neighbourBits : ByteArray := prog_7_method_18_code
def yX5_neighbourBits : MethodName := ⟨RX5, "neighbourBits", "(I)I"⟩
abbrev cX5_bitOf : ByteArray := prog_7_method_19_code
def yX5_bitOf : MethodName := ⟨RX5, "bitOf", "(I)I"⟩
abbrev cX5_toldOn : ByteArray := prog_7_method_20_code
def yX5_toldOn : MethodName := ⟨RX5, "toldOn", "(II)I"⟩
abbrev cX5_bitsWithin : ByteArray := prog_7_method_21_code
def yX5_bitsWithin : MethodName := ⟨RX5, "bitsWithin", "(II)I"⟩
def RX6 : String := "CellNeighbours$Seen"
def TX6 : u_T := fun k => match k with
  | 0 => ("CellNeighbours$Seen", "size", "I", false)
  | 1 => ("CellNeighbours$Seen", "sounds", "[I", true)
  | _ => ("CellNeighbours$Seen", "figures", "[I", true)
def tyX6 : Nat → FieldType := fun k => match k with
  | 0 => .int
  | 1 => .array .int
  | _ => .array .int
theorem nmX6 : ∀ a, a < 3 → ∀ b, b < 3 → a ≠ b → (TX6 a).2.1 ≠ (TX6 b).2.1 := by decide +kernel
theorem tyX6_ok : ∀ k, k < 3 → parseFieldDescriptor (TX6 k).2.2.1 = some (tyX6 k) := by decide +kernel
abbrev cX6_init : ByteArray := prog_8_method_1_code
def yX6_init : MethodName := ⟨RX6, "<init>", "()V"⟩
abbrev cX6_add : ByteArray := prog_8_method_2_code
def yX6_add : MethodName := ⟨RX6, "add", "(II)V"⟩
abbrev cX6_hardBits : ByteArray := prog_8_method_3_code
def yX6_hardBits : MethodName := ⟨RX6, "hardBits", "()I"⟩
abbrev cX6_isSo : ByteArray := prog_8_method_4_code
def yX6_isSo : MethodName := ⟨RX6, "isSo", "(I)Z"⟩
abbrev cX6_soundToTry : ByteArray := prog_8_method_5_code
def yX6_soundToTry : MethodName := ⟨RX6, "soundToTry", "()I"⟩
abbrev cX6_mostAlike : ByteArray := prog_8_method_6_code
def yX6_mostAlike : MethodName := ⟨RX6, "mostAlike", "(II)I"⟩
abbrev cX6_countAlike : ByteArray := prog_8_method_7_code
def yX6_countAlike : MethodName := ⟨RX6, "countAlike", "(III)I"⟩
def RX7 : String := "CellNeighbours$Tally"
def TX7 : u_T := fun k => match k with
  | _ => ("CellNeighbours$Tally", "sum", "J", false)
def tyX7 : Nat → FieldType := fun k => match k with
  | _ => .long
theorem nmX7 : ∀ a, a < 1 → ∀ b, b < 1 → a ≠ b → (TX7 a).2.1 ≠ (TX7 b).2.1 := by decide +kernel
theorem tyX7_ok : ∀ k, k < 1 → parseFieldDescriptor (TX7 k).2.2.1 = some (tyX7 k) := by decide +kernel
abbrev cX7_init : ByteArray := prog_9_method_1_code
def yX7_init : MethodName := ⟨RX7, "<init>", "()V"⟩
def RX8 : String := "CellNeighbours$Text"
def TX8 : u_T := fun k => match k with
  | 0 => ("CellNeighbours$Text", "length", "I", false)
  | 1 => ("CellNeighbours$Text", "letters", "[I", true)
  | 2 => ("CellNeighbours$Text", "draft", "LCellNeighbours$Scene;", true)
  | 3 => ("CellNeighbours$Text", "loudness", "I", false)
  | 4 => ("CellNeighbours$Text", "items", "I", false)
  | 5 => ("CellNeighbours$Text", "fault", "I", false)
  | 6 => ("CellNeighbours$Text", "place", "I", false)
  | 7 => ("CellNeighbours$Text", "loudTold", "Z", false)
  | 8 => ("CellNeighbours$Text", "token", "I", false)
  | 9 => ("CellNeighbours$Text", "tokenPlace", "I", false)
  | _ => ("CellNeighbours$Text", "number", "I", false)
def tyX8 : Nat → FieldType := fun k => match k with
  | 0 => .int
  | 1 => .array .int
  | 2 => .object "CellNeighbours$Scene"
  | 3 => .int
  | 4 => .int
  | 5 => .int
  | 6 => .int
  | 7 => .boolean
  | 8 => .int
  | 9 => .int
  | _ => .int
theorem nmX8 : ∀ a, a < 11 → ∀ b, b < 11 → a ≠ b → (TX8 a).2.1 ≠ (TX8 b).2.1 := by decide +kernel
theorem tyX8_ok : ∀ k, k < 11 → parseFieldDescriptor (TX8 k).2.2.1 = some (tyX8 k) := by decide +kernel
abbrev cX8_init : ByteArray := prog_10_method_1_code
def yX8_init : MethodName := ⟨RX8, "<init>", "()V"⟩
abbrev cX8_add : ByteArray := prog_10_method_2_code
def yX8_add : MethodName := ⟨RX8, "add", "(I)V"⟩
abbrev cX8_isRead : ByteArray := prog_10_method_3_code
def yX8_isRead : MethodName := ⟨RX8, "isRead", "()Z"⟩
abbrev cX8_readItem : ByteArray := prog_10_method_4_code
def yX8_readItem : MethodName := ⟨RX8, "readItem", "()V"⟩
abbrev cX8_readMan : ByteArray := prog_10_method_5_code
def yX8_readMan : MethodName := ⟨RX8, "readMan", "()V"⟩
abbrev cX8_takeNumber : ByteArray := prog_10_method_6_code
def yX8_takeNumber : MethodName := ⟨RX8, "takeNumber", "(II)I"⟩
abbrev cX8_takeEnd : ByteArray := prog_10_method_7_code
def yX8_takeEnd : MethodName := ⟨RX8, "takeEnd", "()V"⟩
abbrev cX8_refuse : ByteArray := prog_10_method_8_code
def yX8_refuse : MethodName := ⟨RX8, "refuse", "()V"⟩
abbrev cX8_advance : ByteArray := prog_10_method_9_code
def yX8_advance : MethodName := ⟨RX8, "advance", "()V"⟩
abbrev cX8_isPlainNumber : ByteArray := prog_10_method_10_code
def yX8_isPlainNumber : MethodName := ⟨RX8, "isPlainNumber", "()Z"⟩
abbrev cX8_isKnownLetter : ByteArray := prog_10_method_11_code
def yX8_isKnownLetter : MethodName := ⟨RX8, "isKnownLetter", "(I)Z"⟩
abbrev cX8_isDigit : ByteArray := prog_10_method_12_code
def yX8_isDigit : MethodName := ⟨RX8, "isDigit", "(I)Z"⟩
def RX9 : String := "CellNeighbours$Thief"
def TX9 : u_T := fun k => match k with
  | _ => ("", "", "", false)
def tyX9 : Nat → FieldType := fun k => match k with
  | _ => .int
theorem nmX9 : ∀ a, a < 0 → ∀ b, b < 0 → a ≠ b → (TX9 a).2.1 ≠ (TX9 b).2.1 := by decide +kernel
theorem tyX9_ok : ∀ k, k < 0 → parseFieldDescriptor (TX9 k).2.2.1 = some (tyX9 k) := by decide +kernel
abbrev cX9_init : ByteArray := prog_11_method_1_code
def yX9_init : MethodName := ⟨RX9, "<init>", "()V"⟩
abbrev cX9_worth : ByteArray := prog_11_method_2_code
def yX9_worth : MethodName := ⟨RX9, "worth", "(LCellNeighbours$Scene;ILCellNeighbours$Tally;)I"⟩
def RX10 : String := "CellNeighbours$Warder"
def TX10 : u_T := fun k => match k with
  | _ => ("", "", "", false)
def tyX10 : Nat → FieldType := fun k => match k with
  | _ => .int
theorem nmX10 : ∀ a, a < 0 → ∀ b, b < 0 → a ≠ b → (TX10 a).2.1 ≠ (TX10 b).2.1 := by decide +kernel
theorem tyX10_ok : ∀ k, k < 0 → parseFieldDescriptor (TX10 k).2.2.1 = some (tyX10 k) := by decide +kernel
abbrev cX10_init : ByteArray := prog_12_method_1_code
def yX10_init : MethodName := ⟨RX10, "<init>", "()V"⟩
abbrev cX10_worth : ByteArray := prog_12_method_2_code
def yX10_worth : MethodName := ⟨RX10, "worth", "(LCellNeighbours$Scene;ILCellNeighbours$Tally;)I"⟩
def RX11 : String := "CellNeighbours"
def TX11 : u_T := fun k => match k with
  | 0 => ("CellNeighbours", "text", "LCellNeighbours$Text;", true)
  | 1 => ("CellNeighbours", "loudness", "I", false)
  | 2 => ("CellNeighbours", "scene", "LCellNeighbours$Scene;", true)
  | 3 => ("CellNeighbours", "trial", "LCellNeighbours$Scene;", true)
  | 4 => ("CellNeighbours", "past", "[LCellNeighbours$Scene;", true)
  | 5 => ("CellNeighbours", "pastCount", "I", false)
  | 6 => ("CellNeighbours", "images", "[LCellNeighbours$Scene;", true)
  | 7 => ("CellNeighbours", "kept", "[Z", true)
  | 8 => ("CellNeighbours", "seen", "LCellNeighbours$Seen;", true)
  | 9 => ("CellNeighbours", "lie", "LCellNeighbours$Lie;", true)
  | 10 => ("CellNeighbours", "kinds", "[LCellNeighbours$Man;", true)
  | _ => ("CellNeighbours", "tally", "LCellNeighbours$Tally;", true)
def tyX11 : Nat → FieldType := fun k => match k with
  | 0 => .object "CellNeighbours$Text"
  | 1 => .int
  | 2 => .object "CellNeighbours$Scene"
  | 3 => .object "CellNeighbours$Scene"
  | 4 => .array (.object "CellNeighbours$Scene")
  | 5 => .int
  | 6 => .array (.object "CellNeighbours$Scene")
  | 7 => .array .boolean
  | 8 => .object "CellNeighbours$Seen"
  | 9 => .object "CellNeighbours$Lie"
  | 10 => .array (.object "CellNeighbours$Man")
  | _ => .object "CellNeighbours$Tally"
theorem nmX11 : ∀ a, a < 12 → ∀ b, b < 12 → a ≠ b → (TX11 a).2.1 ≠ (TX11 b).2.1 := by decide +kernel
theorem tyX11_ok : ∀ k, k < 12 → parseFieldDescriptor (TX11 k).2.2.1 = some (tyX11 k) := by decide +kernel
abbrev cX11_init : ByteArray := prog_1_method_1_code
def yX11_init : MethodName := ⟨RX11, "<init>", "()V"⟩
abbrev cX11_type : ByteArray := prog_1_method_2_code
def yX11_type : MethodName := ⟨RX11, "type", "(I)I"⟩
abbrev cX11_clear : ByteArray := prog_1_method_3_code
def yX11_clear : MethodName := ⟨RX11, "clear", "()I"⟩
abbrev cX11_gaol : ByteArray := prog_1_method_4_code
def yX11_gaol : MethodName := ⟨RX11, "gaol", "()I"⟩
abbrev cX11_man : ByteArray := prog_1_method_5_code
def yX11_man : MethodName := ⟨RX11, "man", "(II)I"⟩
abbrev cX11_cell : ByteArray := prog_1_method_6_code
def yX11_cell : MethodName := ⟨RX11, "cell", "(I)I"⟩
abbrev cX11_now : ByteArray := prog_1_method_7_code
def yX11_now : MethodName := ⟨RX11, "now", "(I)I"⟩
abbrev cX11_month : ByteArray := prog_1_method_8_code
def yX11_month : MethodName := ⟨RX11, "month", "()I"⟩
abbrev cX11_moves : ByteArray := prog_1_method_9_code
def yX11_moves : MethodName := ⟨RX11, "moves", "(II)I"⟩
abbrev cX11_feigns : ByteArray := prog_1_method_10_code
def yX11_feigns : MethodName := ⟨RX11, "feigns", "(II)I"⟩
abbrev cX11_undo : ByteArray := prog_1_method_11_code
def yX11_undo : MethodName := ⟨RX11, "undo", "()I"⟩
abbrev cX11_brings : ByteArray := prog_1_method_12_code
def yX11_brings : MethodName := ⟨RX11, "brings", "(I)I"⟩
abbrev cX11_putsOn : ByteArray := prog_1_method_13_code
def yX11_putsOn : MethodName := ⟨RX11, "putsOn", "(II)I"⟩
abbrev cX11_carry : ByteArray := prog_1_method_14_code
def yX11_carry : MethodName := ⟨RX11, "carry", "(II)I"⟩
abbrev cX11_lies : ByteArray := prog_1_method_15_code
def yX11_lies : MethodName := ⟨RX11, "lies", "(I)I"⟩
abbrev cX11_word : ByteArray := prog_1_method_16_code
def yX11_word : MethodName := ⟨RX11, "word", "(II)I"⟩
abbrev cX11_odds : ByteArray := prog_1_method_17_code
def yX11_odds : MethodName := ⟨RX11, "odds", "(IIII)I"⟩
abbrev cX11_sees : ByteArray := prog_1_method_18_code
def yX11_sees : MethodName := ⟨RX11, "sees", "(II)I"⟩
abbrev cX11_forget : ByteArray := prog_1_method_19_code
def yX11_forget : MethodName := ⟨RX11, "forget", "()I"⟩
abbrev cX11_hards : ByteArray := prog_1_method_20_code
def yX11_hards : MethodName := ⟨RX11, "hards", "()I"⟩
abbrev cX11_next : ByteArray := prog_1_method_21_code
def yX11_next : MethodName := ⟨RX11, "next", "()I"⟩
abbrev cX11_rate : ByteArray := prog_1_method_22_code
def yX11_rate : MethodName := ⟨RX11, "rate", "(II)I"⟩
abbrev cX11_keep : ByteArray := prog_1_method_23_code
def yX11_keep : MethodName := ⟨RX11, "keep", "(I)I"⟩
abbrev cX11_back : ByteArray := prog_1_method_24_code
def yX11_back : MethodName := ⟨RX11, "back", "(I)I"⟩
abbrev cX11_count : ByteArray := prog_1_method_25_code
def yX11_count : MethodName := ⟨RX11, "count", "(I)I"⟩
abbrev cX11_trace : ByteArray := prog_1_method_26_code
def yX11_trace : MethodName := ⟨RX11, "trace", "()J"⟩
abbrev cX11_isSound : ByteArray := prog_1_method_27_code
def yX11_isSound : MethodName := ⟨RX11, "isSound", "(I)Z"⟩
abbrev cX11_isImage : ByteArray := prog_1_method_28_code
def yX11_isImage : MethodName := ⟨RX11, "isImage", "(I)Z"⟩
abbrev cX11_isWhichOrMonths : ByteArray := prog_1_method_29_code
def yX11_isWhichOrMonths : MethodName := ⟨RX11, "isWhichOrMonths", "(I)Z"⟩
abbrev cX11_isSooner : ByteArray := prog_1_method_30_code
def yX11_isSooner : MethodName := ⟨RX11, "isSooner", "(II)Z"⟩
abbrev cX11_figure : ByteArray := prog_1_method_31_code
def yX11_figure : MethodName := ⟨RX11, "figure", "(II)I"⟩
abbrev cX11_withinYears : ByteArray := prog_1_method_32_code
def yX11_withinYears : MethodName := ⟨RX11, "withinYears", "(I)I"⟩
abbrev cX11_remember : ByteArray := prog_1_method_33_code
def yX11_remember : MethodName := ⟨RX11, "remember", "()V"⟩
abbrev cX11_monthsIfFeigned : ByteArray := prog_1_method_34_code
def yX11_monthsIfFeigned : MethodName := ⟨RX11, "monthsIfFeigned", "(II)I"⟩
abbrev cX11_monthsIfMoved : ByteArray := prog_1_method_35_code
def yX11_monthsIfMoved : MethodName := ⟨RX11, "monthsIfMoved", "(II)I"⟩
abbrev cX11_isFreeBehind : ByteArray := prog_1_method_36_code
def yX11_isFreeBehind : MethodName := ⟨RX11, "isFreeBehind", "(III)Z"⟩
abbrev cX11_weight : ByteArray := prog_1_method_37_code
def yX11_weight : MethodName := ⟨RX11, "weight", "(III)I"⟩
abbrev cX11_power : ByteArray := prog_1_method_38_code
def yX11_power : MethodName := ⟨RX11, "power", "(II)I"⟩
abbrev cX11_commonDivisor : ByteArray := prog_1_method_39_code
def yX11_commonDivisor : MethodName := ⟨RX11, "commonDivisor", "(II)I"⟩
def RX12 : String := "CellNeighboursModel"
def TX12 : u_T := fun k => match k with
  | 0 => ("CellNeighboursModel", "trace", "J", false)
  | 1 => ("CellNeighboursModel", "text", "[I", true)
  | 2 => ("CellNeighboursModel", "typed", "I", false)
  | 3 => ("CellNeighboursModel", "told", "[I", true)
  | 4 => ("CellNeighboursModel", "draft", "[I", true)
  | 5 => ("CellNeighboursModel", "s", "[I", true)
  | 6 => ("CellNeighboursModel", "past", "[I", true)
  | 7 => ("CellNeighboursModel", "known", "I", false)
  | 8 => ("CellNeighboursModel", "images", "[I", true)
  | 9 => ("CellNeighboursModel", "kept", "[Z", true)
  | 10 => ("CellNeighboursModel", "notes", "[I", true)
  | 11 => ("CellNeighboursModel", "noted", "I", false)
  | 12 => ("CellNeighboursModel", "at", "I", false)
  | 13 => ("CellNeighboursModel", "sort", "I", false)
  | 14 => ("CellNeighboursModel", "start", "I", false)
  | 15 => ("CellNeighboursModel", "value", "I", false)
  | 16 => ("CellNeighboursModel", "thens", "[I", true)
  | 17 => ("CellNeighboursModel", "aside", "[I", true)
  | 18 => ("CellNeighboursModel", "lying", "[I", true)
  | 19 => ("CellNeighboursModel", "men", "[I", true)
  | _ => ("CellNeighboursModel", "row", "[I", true)
def tyX12 : Nat → FieldType := fun k => match k with
  | 0 => .long
  | 1 => .array .int
  | 2 => .int
  | 3 => .array .int
  | 4 => .array .int
  | 5 => .array .int
  | 6 => .array .int
  | 7 => .int
  | 8 => .array .int
  | 9 => .array .boolean
  | 10 => .array .int
  | 11 => .int
  | 12 => .int
  | 13 => .int
  | 14 => .int
  | 15 => .int
  | 16 => .array .int
  | 17 => .array .int
  | 18 => .array .int
  | 19 => .array .int
  | _ => .array .int
theorem nmX12 : ∀ a, a < 21 → ∀ b, b < 21 → a ≠ b → (TX12 a).2.1 ≠ (TX12 b).2.1 := by decide +kernel
theorem tyX12_ok : ∀ k, k < 21 → parseFieldDescriptor (TX12 k).2.2.1 = some (tyX12 k) := by decide +kernel
abbrev cX12_init : ByteArray := prog_14_method_1_code
def yX12_init : MethodName := ⟨RX12, "<init>", "()V"⟩
abbrev cX12_in : ByteArray := prog_14_method_3_code
def yX12_in : MethodName := ⟨RX12, "in", "(III)Z"⟩
abbrev cX12_isMan : ByteArray := prog_14_method_4_code
def yX12_isMan : MethodName := ⟨RX12, "isMan", "(I)Z"⟩
abbrev cX12_isCell : ByteArray := prog_14_method_5_code
def yX12_isCell : MethodName := ⟨RX12, "isCell", "(I)Z"⟩
abbrev cX12_type : ByteArray := prog_14_method_6_code
def yX12_type : MethodName := ⟨RX12, "type", "(I)I"⟩
abbrev cX12_clear : ByteArray := prog_14_method_7_code
def yX12_clear : MethodName := ⟨RX12, "clear", "()I"⟩
abbrev cX12_letterAt : ByteArray := prog_14_method_8_code
def yX12_letterAt : MethodName := ⟨RX12, "letterAt", "(I)I"⟩
abbrev cX12_isDigit : ByteArray := prog_14_method_9_code
def yX12_isDigit : MethodName := ⟨RX12, "isDigit", "(I)Z"⟩
abbrev cX12_token : ByteArray := prog_14_method_10_code
def yX12_token : MethodName := ⟨RX12, "token", "()V"⟩
abbrev cX12_number : ByteArray := prog_14_method_11_code
def yX12_number : MethodName := ⟨RX12, "number", "(III)Z"⟩
abbrev cX12_readsMan : ByteArray := prog_14_method_12_code
def yX12_readsMan : MethodName := ⟨RX12, "readsMan", "()Z"⟩
abbrev cX12_readsItem : ByteArray := prog_14_method_13_code
def yX12_readsItem : MethodName := ⟨RX12, "readsItem", "()Z"⟩
abbrev cX12_reads : ByteArray := prog_14_method_14_code
def yX12_reads : MethodName := ⟨RX12, "reads", "()Z"⟩
abbrev cX12_begins : ByteArray := prog_14_method_15_code
def yX12_begins : MethodName := ⟨RX12, "begins", "()V"⟩
abbrev cX12_gaol : ByteArray := prog_14_method_16_code
def yX12_gaol : MethodName := ⟨RX12, "gaol", "()I"⟩
abbrev cX12_isIn : ByteArray := prog_14_method_17_code
def yX12_isIn : MethodName := ⟨RX12, "isIn", "(I)Z"⟩
abbrev cX12_whoIn : ByteArray := prog_14_method_18_code
def yX12_whoIn : MethodName := ⟨RX12, "whoIn", "(I)I"⟩
abbrev cX12_beside : ByteArray := prog_14_method_19_code
def yX12_beside : MethodName := ⟨RX12, "beside", "(I)I"⟩
abbrev cX12_puts : ByteArray := prog_14_method_20_code
def yX12_puts : MethodName := ⟨RX12, "puts", "(II)I"⟩
abbrev cX12_then : ByteArray := prog_14_method_21_code
def yX12_then : MethodName := ⟨RX12, "then", "(I)I"⟩
abbrev cX12_passes : ByteArray := prog_14_method_22_code
def yX12_passes : MethodName := ⟨RX12, "passes", "()I"⟩
abbrev cX12_holds : ByteArray := prog_14_method_23_code
def yX12_holds : MethodName := ⟨RX12, "holds", "()V"⟩
abbrev cX12_lets : ByteArray := prog_14_method_24_code
def yX12_lets : MethodName := ⟨RX12, "lets", "()V"⟩
abbrev cX12_outIn : ByteArray := prog_14_method_25_code
def yX12_outIn : MethodName := ⟨RX12, "outIn", "(I)I"⟩
abbrev cX12_man : ByteArray := prog_14_method_26_code
def yX12_man : MethodName := ⟨RX12, "man", "(II)I"⟩
abbrev cX12_cell : ByteArray := prog_14_method_27_code
def yX12_cell : MethodName := ⟨RX12, "cell", "(I)I"⟩
abbrev cX12_allIn : ByteArray := prog_14_method_28_code
def yX12_allIn : MethodName := ⟨RX12, "allIn", "()I"⟩
abbrev cX12_allYears : ByteArray := prog_14_method_29_code
def yX12_allYears : MethodName := ⟨RX12, "allYears", "()I"⟩
abbrev cX12_now : ByteArray := prog_14_method_30_code
def yX12_now : MethodName := ⟨RX12, "now", "(I)I"⟩
abbrev cX12_keeps : ByteArray := prog_14_method_31_code
def yX12_keeps : MethodName := ⟨RX12, "keeps", "()V"⟩
abbrev cX12_month : ByteArray := prog_14_method_32_code
def yX12_month : MethodName := ⟨RX12, "month", "()I"⟩
abbrev cX12_moves : ByteArray := prog_14_method_33_code
def yX12_moves : MethodName := ⟨RX12, "moves", "(II)I"⟩
abbrev cX12_feigns : ByteArray := prog_14_method_34_code
def yX12_feigns : MethodName := ⟨RX12, "feigns", "(II)I"⟩
abbrev cX12_undo : ByteArray := prog_14_method_35_code
def yX12_undo : MethodName := ⟨RX12, "undo", "()I"⟩
abbrev cX12_brings : ByteArray := prog_14_method_36_code
def yX12_brings : MethodName := ⟨RX12, "brings", "(I)I"⟩
abbrev cX12_soonest : ByteArray := prog_14_method_37_code
def yX12_soonest : MethodName := ⟨RX12, "soonest", "(IZI)I"⟩
abbrev cX12_putsOn : ByteArray := prog_14_method_38_code
def yX12_putsOn : MethodName := ⟨RX12, "putsOn", "(II)I"⟩
abbrev cX12_carry : ByteArray := prog_14_method_39_code
def yX12_carry : MethodName := ⟨RX12, "carry", "(II)I"⟩
abbrev cX12_nextRow : ByteArray := prog_14_method_40_code
def yX12_nextRow : MethodName := ⟨RX12, "nextRow", "(I)Z"⟩
abbrev cX12_least : ByteArray := prog_14_method_41_code
def yX12_least : MethodName := ⟨RX12, "least", "()I"⟩
abbrev cX12_lies : ByteArray := prog_14_method_42_code
def yX12_lies : MethodName := ⟨RX12, "lies", "(I)I"⟩
abbrev cX12_word : ByteArray := prog_14_method_43_code
def yX12_word : MethodName := ⟨RX12, "word", "(II)I"⟩
abbrev cX12_odds : ByteArray := prog_14_method_44_code
def yX12_odds : MethodName := ⟨RX12, "odds", "(IIII)I"⟩
abbrev cX12_sees : ByteArray := prog_14_method_45_code
def yX12_sees : MethodName := ⟨RX12, "sees", "(II)I"⟩
abbrev cX12_forget : ByteArray := prog_14_method_46_code
def yX12_forget : MethodName := ⟨RX12, "forget", "()I"⟩
abbrev cX12_hardsNow : ByteArray := prog_14_method_47_code
def yX12_hardsNow : MethodName := ⟨RX12, "hardsNow", "()I"⟩
abbrev cX12_hards : ByteArray := prog_14_method_48_code
def yX12_hards : MethodName := ⟨RX12, "hards", "()I"⟩
abbrev cX12_next : ByteArray := prog_14_method_49_code
def yX12_next : MethodName := ⟨RX12, "next", "()I"⟩
abbrev cX12_rate : ByteArray := prog_14_method_50_code
def yX12_rate : MethodName := ⟨RX12, "rate", "(II)I"⟩
abbrev cX12_keep : ByteArray := prog_14_method_51_code
def yX12_keep : MethodName := ⟨RX12, "keep", "(I)I"⟩
abbrev cX12_back : ByteArray := prog_14_method_52_code
def yX12_back : MethodName := ⟨RX12, "back", "(I)I"⟩
abbrev cX12_count : ByteArray := prog_14_method_53_code
def yX12_count : MethodName := ⟨RX12, "count", "(I)I"⟩
abbrev cX12_trace : ByteArray := prog_14_method_54_code
def yX12_trace : MethodName := ⟨RX12, "trace", "()J"⟩
def RJ6 : String := "java/lang/Integer"
abbrev cJ6_bitCount_0f7a4 : ByteArray := prog_15_method_49_code
def yJ6_bitCount_0f7a4 : MethodName := ⟨RJ6, "bitCount", "(I)I"⟩
def RJ9 : String := "java/lang/Math"
abbrev cJ9_max_7cf53 : ByteArray := prog_16_method_65_code
def yJ9_max_7cf53 : MethodName := ⟨RJ9, "max", "(II)I"⟩
abbrev cJ9_min_7cf53 : ByteArray := prog_16_method_69_code
def yJ9_min_7cf53 : MethodName := ⟨RJ9, "min", "(II)I"⟩
def RJ10 : String := "java/lang/System"
abbrev vwCl : List vw_C := [(RX0, TX0, 0), (RX1, TX1, 0), (RX2, TX2, 9), (RX3, TX3, 0), (RX4, TX4, 0), (RX5, TX5, 8), (RX6, TX6, 3), (RX7, TX7, 1), (RX8, TX8, 11), (RX9, TX9, 0), (RX10, TX10, 0), (RX11, TX11, 12), (RX12, TX12, 21)]
def am_cn : Nat → String := fun k => match k with
  | 0 => RX0
  | 1 => RX1
  | 2 => RX2
  | 3 => RX3
  | 4 => RX4
  | 5 => RX5
  | 6 => RX6
  | 7 => RX7
  | 8 => RX8
  | 9 => RX9
  | 10 => RX10
  | 11 => RX11
  | 12 => RX12
  | 20 => "CellNeighboursLaw"
  | 21 => RJ6
  | _ => RJ9
def mMan_init : Nat := 0
def mBoy_init : Nat := 1
def mScene_isIn : Nat := 2
def mMan_worth : Nat := 3
def mBoy_worth : Nat := 4
def mThief_init : Nat := 5
def mLawyer_init : Nat := 6
def mThief_worth : Nat := 7
def mLawyer_worth : Nat := 8
def mScene_makeEmpty : Nat := 9
def mScene_init : Nat := 10
def mLie_init : Nat := 11
def mScene_liesLike : Nat := 12
def mScene_copyFrom : Nat := 13
def mScene_hasCell : Nat := 14
def mScene_whoIn : Nat := 15
def mCell_figure : Nat := 16
def mLie_gather : Nat := 17
def mLie_putFrom : Nat := 18
def mCell_withinYears : Nat := 19
def mLie_yearsBehind : Nat := 20
def mLie_swap : Nat := 21
def mLie_turnsToNextWay : Nat := 22
def mLie_seek : Nat := 23
def mLie_bestCellOf : Nat := 24
def mPear_init : Nat := 25
def mPear_worth : Nat := 26
def mScene_hasMan : Nat := 27
def mScene_addMan : Nat := 28
def mScene_leaveCell : Nat := 29
def mScene_moveTo : Nat := 30
def mScene_figureFrom : Nat := 31
def mScene_yearsAfter : Nat := 32
def mScene_passMonth : Nat := 33
def mScene_monthsTillFree : Nat := 34
def mScene_bitsIn : Nat := 35
def mScene_yearsOfAll : Nat := 36
def mScene_bitOf : Nat := 37
def mScene_neighbourBits : Nat := 38
def mScene_bitsWithin : Nat := 39
def mScene_toldOn : Nat := 40
def mSeen_init : Nat := 41
def mSeen_add : Nat := 42
def mSeen_isSo : Nat := 43
def mSeen_hardBits : Nat := 44
def mInt_bitCount : Nat := 45
def mSeen_countAlike : Nat := 46
def mSeen_mostAlike : Nat := 47
def mSeen_soundToTry : Nat := 48
def mTally_init : Nat := 49
def mText_init : Nat := 50
def mText_add : Nat := 51
def mText_isDigit : Nat := 52
def mText_isPlainNumber : Nat := 53
def mText_isKnownLetter : Nat := 54
def mText_advance : Nat := 55
def mText_refuse : Nat := 56
def mText_takeNumber : Nat := 57
def mText_readMan : Nat := 58
def mText_takeEnd : Nat := 59
def mText_readItem : Nat := 60
def mText_isRead : Nat := 61
def mWarder_init : Nat := 62
def mWarder_worth : Nat := 63
def mCell_init : Nat := 64
def mCell_type : Nat := 65
def mCell_clear : Nat := 66
def mCell_gaol : Nat := 67
def mCell_man : Nat := 68
def mCell_cell : Nat := 69
def mCell_now : Nat := 70
def mCell_remember : Nat := 71
def mCell_month : Nat := 72
def mCell_moves : Nat := 73
def mCell_isSound : Nat := 74
def mCell_feigns : Nat := 75
def mCell_undo : Nat := 76
def mCell_brings : Nat := 77
def mCell_isWhichOrMonths : Nat := 78
def mCell_monthsIfFeigned : Nat := 79
def mCell_isSooner : Nat := 80
def mCell_putsOn : Nat := 81
def mCell_monthsIfMoved : Nat := 82
def mCell_carry : Nat := 83
def mCell_lies : Nat := 84
def mCell_word : Nat := 85
def mCell_isFreeBehind : Nat := 86
def mCell_power : Nat := 87
def mCell_weight : Nat := 88
def mCell_commonDivisor : Nat := 89
def mCell_odds : Nat := 90
def mCell_sees : Nat := 91
def mCell_forget : Nat := 92
def mCell_hards : Nat := 93
def mCell_next : Nat := 94
def mCell_rate : Nat := 95
def mCell_isImage : Nat := 96
def mCell_keep : Nat := 97
def mCell_back : Nat := 98
def mCell_count : Nat := 99
def mCell_trace : Nat := 100
def mMod_letterAt : Nat := 101
def mMod_in : Nat := 102
def mMod_isDigit : Nat := 103
def mMod_token : Nat := 104
def mMod_number : Nat := 105
def mMod_readsMan : Nat := 106
def mMod_readsItem : Nat := 107
def mMod_reads : Nat := 108
def mMod_begins : Nat := 109
def mMod_init : Nat := 110
def mMod_isMan : Nat := 111
def mMod_isCell : Nat := 112
def mMod_type : Nat := 113
def mMod_clear : Nat := 114
def mMod_gaol : Nat := 115
def mMod_isIn : Nat := 116
def mMod_whoIn : Nat := 117
def mMod_beside : Nat := 118
def mMod_puts : Nat := 119
def mMod_then : Nat := 120
def mMod_passes : Nat := 121
def mMod_holds : Nat := 122
def mMod_lets : Nat := 123
def mMod_outIn : Nat := 124
def mMod_man : Nat := 125
def mMod_cell : Nat := 126
def mMod_allIn : Nat := 127
def mMod_allYears : Nat := 128
def mMod_nextRow : Nat := 129
def mMod_least : Nat := 130
def mMod_now : Nat := 131
def mMod_keeps : Nat := 132
def mMod_month : Nat := 133
def mMod_moves : Nat := 134
def mMod_feigns : Nat := 135
def mMod_undo : Nat := 136
def mMod_brings : Nat := 137
def mMod_soonest : Nat := 138
def mMod_putsOn : Nat := 139
def mMod_carry : Nat := 140
def mMod_lies : Nat := 141
def mMod_word : Nat := 142
def mMod_odds : Nat := 143
def mMod_sees : Nat := 144
def mMod_forget : Nat := 145
def mMod_hardsNow : Nat := 146
def mMod_hards : Nat := 147
def mMod_next : Nat := 148
def mMod_rate : Nat := 149
def mMod_keep : Nat := 150
def mMod_back : Nat := 151
def mMod_count : Nat := 152
def mMod_trace : Nat := 153
def mLaw_law : Nat := 154
def cL_law : ByteArray := code
def yL_law : MethodName := ⟨"CellNeighboursLaw", "law", "([I)Z"⟩
abbrev am_MR : Type := MethodName × ByteArray × Nat × Option FieldType × Nat × Nat × Nat × Nat
/-- name, code, locals, answer, class, arguments, frames and locals that it needs -/
def am_MT0 : List am_MR := [
  (yX3_init, cX3_init, 1, none, 3, 1, 1, 20),
  (yX0_init, cX0_init, 1, none, 0, 1, 2, 40),
  (yX5_isIn, cX5_isIn, 2, (some .boolean), 5, 2, 0, 0),
  (yX3_worth, cX3_worth, 4, (some .int), 3, 4, 0, 0),
  (yX0_worth, cX0_worth, 5, (some .int), 0, 4, 1, 23),
  (yX9_init, cX9_init, 1, none, 9, 1, 2, 40),
  (yX1_init, cX1_init, 1, none, 1, 1, 3, 60),
  (yX9_worth, cX9_worth, 4, (some .int), 9, 4, 1, 23),
  (yX1_worth, cX1_worth, 4, (some .int), 1, 4, 2, 46),
  (yX5_makeEmpty, cX5_makeEmpty, 2, none, 5, 1, 0, 0),
  (yX5_init, cX5_init, 1, none, 5, 1, 1, 21),
  (yX2_init, cX2_init, 1, none, 2, 1, 2, 41),
  (yX5_liesLike, cX5_liesLike, 5, (some .boolean), 5, 2, 0, 0),
  (yX5_copyFrom, cX5_copyFrom, 2, none, 5, 2, 1, 40),
  (yX5_hasCell, cX5_hasCell, 2, (some .boolean), 5, 2, 0, 0),
  (yX5_whoIn, cX5_whoIn, 2, (some .int), 5, 2, 1, 21)]
def am_MT1 : List am_MR := [
  (yX11_figure, cX11_figure, 2, (some .int), 11, 2, 0, 0),
  (yX2_gather, cX2_gather, 4, none, 2, 1, 2, 42),
  (yX2_putFrom, cX2_putFrom, 3, (some .int), 2, 3, 0, 0),
  (yX11_withinYears, cX11_withinYears, 1, (some .int), 11, 1, 1, 40),
  (yX2_yearsBehind, cX2_yearsBehind, 4, (some .int), 2, 1, 2, 60),
  (yX2_swap, cX2_swap, 4, none, 2, 3, 0, 0),
  (yX2_turnsToNextWay, cX2_turnsToNextWay, 5, (some .boolean), 2, 1, 1, 23),
  (yX2_seek, cX2_seek, 4, none, 2, 2, 3, 83),
  (yX2_bestCellOf, cX2_bestCellOf, 3, (some .int), 2, 2, 0, 0),
  (yX4_init, cX4_init, 1, none, 4, 1, 3, 60),
  (yX4_worth, cX4_worth, 4, (some .int), 4, 4, 2, 47),
  (yX5_hasMan, cX5_hasMan, 2, (some .boolean), 5, 2, 0, 0),
  (yX5_addMan, cX5_addMan, 5, none, 5, 5, 1, 21),
  (yX5_leaveCell, cX5_leaveCell, 3, none, 5, 2, 1, 21),
  (yX5_moveTo, cX5_moveTo, 3, none, 5, 3, 2, 43),
  (yX5_figureFrom, cX5_figureFrom, 4, (some .int), 5, 3, 2, 42)]
def am_MT2 : List am_MR := [
  (yX5_yearsAfter, cX5_yearsAfter, 4, (some .int), 5, 2, 3, 65),
  (yX5_passMonth, cX5_passMonth, 3, (some .int), 5, 1, 4, 88),
  (yX5_monthsTillFree, cX5_monthsTillFree, 3, (some .int), 5, 2, 5, 110),
  (yX5_bitsIn, cX5_bitsIn, 3, (some .int), 5, 1, 1, 21),
  (yX5_yearsOfAll, cX5_yearsOfAll, 3, (some .int), 5, 1, 0, 0),
  (yX5_bitOf, cX5_bitOf, 1, (some .int), 5, 1, 0, 0),
  (yX5_neighbourBits, cX5_neighbourBits, 2, (some .int), 5, 2, 2, 42),
  (yX5_bitsWithin, cX5_bitsWithin, 5, (some .int), 5, 3, 2, 42),
  (yX5_toldOn, cX5_toldOn, 5, (some .int), 5, 3, 3, 66),
  (yX6_init, cX6_init, 1, none, 6, 1, 1, 20),
  (yX6_add, cX6_add, 3, none, 6, 3, 0, 0),
  (yX6_isSo, cX6_isSo, 3, (some .boolean), 6, 2, 1, 21),
  (yX6_hardBits, cX6_hardBits, 3, (some .int), 6, 1, 2, 43),
  (yJ6_bitCount_0f7a4, cJ6_bitCount_0f7a4, 1, (some .int), 21, 1, 0, 0),
  (yX6_countAlike, cX6_countAlike, 5, (some .int), 6, 3, 1, 21),
  (yX6_mostAlike, cX6_mostAlike, 4, (some .int), 6, 2, 2, 45)]
def am_MT3 : List am_MR := [
  (yX6_soundToTry, cX6_soundToTry, 6, (some .int), 6, 1, 3, 68),
  (yX7_init, cX7_init, 1, none, 7, 1, 1, 20),
  (yX8_init, cX8_init, 1, none, 8, 1, 2, 41),
  (yX8_add, cX8_add, 2, none, 8, 2, 0, 0),
  (yX8_isDigit, cX8_isDigit, 1, (some .boolean), 8, 1, 0, 0),
  (yX8_isPlainNumber, cX8_isPlainNumber, 2, (some .boolean), 8, 1, 0, 0),
  (yX8_isKnownLetter, cX8_isKnownLetter, 1, (some .boolean), 8, 1, 0, 0),
  (yX8_advance, cX8_advance, 1, none, 8, 1, 1, 21),
  (yX8_refuse, cX8_refuse, 1, none, 8, 1, 0, 0),
  (yX8_takeNumber, cX8_takeNumber, 5, (some .int), 8, 3, 2, 41),
  (yX8_readMan, cX8_readMan, 6, none, 8, 1, 3, 65),
  (yX8_takeEnd, cX8_takeEnd, 1, none, 8, 1, 2, 41),
  (yX8_readItem, cX8_readItem, 1, none, 8, 1, 4, 90),
  (yX8_isRead, cX8_isRead, 2, (some .boolean), 8, 1, 5, 110),
  (yX10_init, cX10_init, 1, none, 10, 1, 2, 40),
  (yX10_worth, cX10_worth, 4, (some .int), 10, 4, 1, 23)]
def am_MT4 : List am_MR := [
  (yX11_init, cX11_init, 2, none, 11, 1, 4, 80),
  (yX11_type, cX11_type, 2, (some .int), 11, 2, 1, 21),
  (yX11_clear, cX11_clear, 2, (some .int), 11, 1, 0, 0),
  (yX11_gaol, cX11_gaol, 2, (some .int), 11, 1, 6, 131),
  (yX11_man, cX11_man, 3, (some .int), 11, 3, 6, 132),
  (yX11_cell, cX11_cell, 2, (some .int), 11, 2, 2, 42),
  (yX11_now, cX11_now, 2, (some .int), 11, 2, 4, 106),
  (yX11_remember, cX11_remember, 3, none, 11, 1, 2, 61),
  (yX11_month, cX11_month, 1, (some .int), 11, 1, 5, 110),
  (yX11_moves, cX11_moves, 4, (some .int), 11, 3, 3, 83),
  (yX11_isSound, cX11_isSound, 1, (some .boolean), 11, 1, 0, 0),
  (yX11_feigns, cX11_feigns, 4, (some .int), 11, 3, 3, 83),
  (yX11_undo, cX11_undo, 1, (some .int), 11, 1, 2, 61),
  (yX11_brings, cX11_brings, 2, (some .int), 11, 2, 4, 88),
  (yX11_isWhichOrMonths, cX11_isWhichOrMonths, 1, (some .boolean), 11, 1, 0, 0),
  (yX11_monthsIfFeigned, cX11_monthsIfFeigned, 3, (some .int), 11, 3, 6, 132)]
def am_MT5 : List am_MR := [
  (yX11_isSooner, cX11_isSooner, 2, (some .boolean), 11, 2, 0, 0),
  (yX11_putsOn, cX11_putsOn, 7, (some .int), 11, 3, 7, 154),
  (yX11_monthsIfMoved, cX11_monthsIfMoved, 4, (some .int), 11, 3, 6, 132),
  (yX11_carry, cX11_carry, 7, (some .int), 11, 3, 7, 155),
  (yX11_lies, cX11_lies, 2, (some .int), 11, 2, 4, 106),
  (yX11_word, cX11_word, 5, (some .int), 11, 3, 4, 90),
  (yX11_isFreeBehind, cX11_isFreeBehind, 6, (some .boolean), 11, 4, 5, 110),
  (yX11_power, cX11_power, 4, (some .int), 11, 2, 0, 0),
  (yX11_weight, cX11_weight, 3, (some .int), 11, 3, 1, 23),
  (yX11_commonDivisor, cX11_commonDivisor, 6, (some .int), 11, 2, 0, 0),
  (yX11_odds, cX11_odds, 10, (some .int), 11, 5, 6, 135),
  (yX11_sees, cX11_sees, 3, (some .int), 11, 3, 1, 22),
  (yX11_forget, cX11_forget, 2, (some .int), 11, 1, 0, 0),
  (yX11_hards, cX11_hards, 1, (some .int), 11, 1, 3, 65),
  (yX11_next, cX11_next, 1, (some .int), 11, 1, 4, 93),
  (yX11_rate, cX11_rate, 3, (some .int), 11, 3, 3, 70)]
def am_MT6 : List am_MR := [
  (yX11_isImage, cX11_isImage, 1, (some .boolean), 11, 1, 0, 0),
  (yX11_keep, cX11_keep, 2, (some .int), 11, 2, 2, 61),
  (yX11_back, cX11_back, 2, (some .int), 11, 2, 2, 61),
  (yX11_count, cX11_count, 2, (some .int), 11, 2, 0, 0),
  (yX11_trace, cX11_trace, 1, (some .long), 11, 1, 0, 0),
  (yX12_letterAt, cX12_letterAt, 2, (some .int), 12, 2, 0, 0),
  (yX12_in, cX12_in, 3, (some .boolean), 12, 3, 0, 0),
  (yX12_isDigit, cX12_isDigit, 1, (some .boolean), 12, 1, 1, 22),
  (yX12_token, cX12_token, 2, none, 12, 1, 2, 42),
  (yX12_number, cX12_number, 4, (some .boolean), 12, 4, 3, 63),
  (yX12_readsMan, cX12_readsMan, 3, (some .boolean), 12, 1, 4, 86),
  (yX12_readsItem, cX12_readsItem, 2, (some .boolean), 12, 1, 5, 108),
  (yX12_reads, cX12_reads, 2, (some .boolean), 12, 1, 6, 129),
  (yX12_begins, cX12_begins, 3, none, 12, 1, 0, 0),
  (yX12_init, cX12_init, 1, none, 12, 1, 7, 150),
  (yX12_isMan, cX12_isMan, 2, (some .boolean), 12, 2, 1, 22)]
def am_MT7 : List am_MR := [
  (yX12_isCell, cX12_isCell, 2, (some .boolean), 12, 2, 1, 22),
  (yX12_type, cX12_type, 2, (some .int), 12, 2, 1, 22),
  (yX12_clear, cX12_clear, 2, (some .int), 12, 1, 0, 0),
  (yX12_gaol, cX12_gaol, 1, (some .int), 12, 1, 7, 150),
  (yX12_isIn, cX12_isIn, 2, (some .boolean), 12, 2, 0, 0),
  (yX12_whoIn, cX12_whoIn, 4, (some .int), 12, 2, 0, 0),
  (yX12_beside, cX12_beside, 5, (some .int), 12, 2, 1, 21),
  (yX12_puts, cX12_puts, 2, (some .int), 12, 2, 0, 0),
  (yX12_then, cX12_then, 4, (some .int), 12, 2, 2, 45),
  (yX12_passes, cX12_passes, 3, (some .int), 12, 1, 3, 68),
  (yX12_holds, cX12_holds, 2, none, 12, 1, 0, 0),
  (yX12_lets, cX12_lets, 2, none, 12, 1, 0, 0),
  (yX12_outIn, cX12_outIn, 3, (some .int), 12, 2, 4, 90),
  (yX12_man, cX12_man, 4, (some .int), 12, 3, 5, 112),
  (yX12_cell, cX12_cell, 2, (some .int), 12, 2, 2, 43),
  (yX12_allIn, cX12_allIn, 3, (some .int), 12, 1, 1, 21)]
def am_MT8 : List am_MR := [
  (yX12_allYears, cX12_allYears, 3, (some .int), 12, 1, 0, 0),
  (yX12_nextRow, cX12_nextRow, 7, (some .boolean), 12, 2, 0, 0),
  (yX12_least, cX12_least, 7, (some .int), 12, 1, 3, 68),
  (yX12_now, cX12_now, 2, (some .int), 12, 2, 4, 94),
  (yX12_keeps, cX12_keeps, 2, none, 12, 1, 0, 0),
  (yX12_month, cX12_month, 1, (some .int), 12, 1, 4, 90),
  (yX12_moves, cX12_moves, 4, (some .int), 12, 3, 2, 43),
  (yX12_feigns, cX12_feigns, 4, (some .int), 12, 3, 2, 43),
  (yX12_undo, cX12_undo, 2, (some .int), 12, 1, 0, 0),
  (yX12_brings, cX12_brings, 2, (some .int), 12, 2, 3, 68),
  (yX12_soonest, cX12_soonest, 10, (some .int), 12, 4, 5, 112),
  (yX12_putsOn, cX12_putsOn, 3, (some .int), 12, 3, 6, 141),
  (yX12_carry, cX12_carry, 3, (some .int), 12, 3, 6, 141),
  (yX12_lies, cX12_lies, 2, (some .int), 12, 2, 4, 94),
  (yX12_word, cX12_word, 9, (some .int), 12, 3, 2, 43),
  (yX12_odds, cX12_odds, 11, (some .int), 12, 5, 4, 90)]
def am_MT9 : List am_MR := [
  (yX12_sees, cX12_sees, 3, (some .int), 12, 3, 1, 22),
  (yX12_forget, cX12_forget, 2, (some .int), 12, 1, 0, 0),
  (yX12_hardsNow, cX12_hardsNow, 5, (some .int), 12, 1, 1, 21),
  (yX12_hards, cX12_hards, 1, (some .int), 12, 1, 2, 45),
  (yX12_next, cX12_next, 9, (some .int), 12, 1, 2, 45),
  (yX12_rate, cX12_rate, 6, (some .int), 12, 3, 2, 43),
  (yX12_keep, cX12_keep, 3, (some .int), 12, 2, 1, 22),
  (yX12_back, cX12_back, 3, (some .int), 12, 2, 1, 22),
  (yX12_count, cX12_count, 2, (some .int), 12, 2, 0, 0),
  (yX12_trace, cX12_trace, 1, (some .long), 12, 1, 0, 0),
  (yL_law, cL_law, 4, (some .boolean), 20, 1, 8, 181)]
def am_MT : List am_MR := am_MT0 ++ (am_MT1 ++ (am_MT2 ++ (am_MT3 ++ (am_MT4 ++ (am_MT5 ++ (am_MT6 ++ (am_MT7 ++ (am_MT8 ++ (am_MT9)))))))))
def am_m (M : Nat) : am_MR := am_MT.getD M (⟨"", "", ""⟩, ByteArray.empty, 0, none, 0, 0, 0, 0)
def am_y (M : Nat) := (am_m M).1
def am_by (M : Nat) := (am_m M).2.1
def am_ml (M : Nat) := (am_m M).2.2.1
def am_rt (M : Nat) := (am_m M).2.2.2.1
def am_oc (M : Nat) := (am_m M).2.2.2.2.1
def am_na (M : Nat) := (am_m M).2.2.2.2.2.1
def am_fr (M : Nat) := (am_m M).2.2.2.2.2.2.1
def am_lo (M : Nat) := (am_m M).2.2.2.2.2.2.2
/-- field links: class, entry, class of the field, its number, place in lw_tbl -/
def am_FL : List (Nat × Nat × Nat × Nat × Nat) := [(5, 30, 5, 0, 82), (8, 58, 5, 0, 83), (11, 192, 5, 0, 84), (5, 34, 5, 1, 85), (2, 70, 5, 1, 86), (8, 61, 5, 1, 87), (11, 238, 5, 1, 88), (5, 37, 5, 2, 89), (10, 19, 5, 2, 90), (11, 145, 5, 2, 91), (5, 9, 5, 3, 92), (0, 21, 5, 3, 93), (11, 119, 5, 3, 94), (5, 15, 5, 4, 95), (2, 83, 5, 4, 96), (11, 123, 5, 4, 97), (5, 18, 5, 5, 98), (9, 19, 5, 5, 99), (2, 80, 5, 5, 100), (11, 126, 5, 5, 101), (5, 21, 5, 6, 102), (3, 13, 5, 6, 103), (2, 93, 5, 6, 104), (11, 129, 5, 6, 105), (5, 24, 5, 7, 106), (8, 22, 8, 0, 125), (11, 84, 8, 0, 126), (8, 9, 8, 1, 127), (8, 18, 8, 2, 128), (11, 98, 8, 2, 129), (8, 32, 8, 3, 130), (11, 105, 8, 3, 131), (8, 39, 8, 4, 132), (11, 112, 8, 4, 133), (8, 42, 8, 5, 134), (11, 95, 8, 5, 135), (8, 26, 8, 6, 136), (8, 35, 8, 7, 137), (8, 48, 8, 8, 138), (8, 84, 8, 9, 139), (8, 73, 8, 10, 140), (6, 18, 6, 0, 173), (11, 106, 6, 0, 174), (6, 9, 6, 1, 175), (6, 15, 6, 2, 176), (2, 53, 2, 0, 193), (11, 158, 2, 0, 194), (2, 12, 2, 1, 195), (2, 34, 2, 2, 196), (2, 67, 2, 3, 197), (2, 18, 2, 4, 198), (2, 22, 2, 5, 199), (2, 25, 2, 6, 200), (2, 28, 2, 7, 201), (2, 31, 2, 8, 202), (3, 7, 7, 0, 230), (0, 7, 7, 0, 231), (1, 7, 7, 0, 232), (9, 7, 7, 0, 233), (4, 7, 7, 0, 234), (10, 7, 7, 0, 235), (11, 241, 7, 0, 236), (11, 10, 11, 0, 281), (11, 64, 11, 1, 282), (11, 19, 11, 2, 283), (11, 23, 11, 3, 284), (11, 26, 11, 4, 285), (11, 109, 11, 5, 286), (11, 30, 11, 6, 287), (11, 33, 11, 7, 288), (11, 40, 11, 8, 289), (11, 47, 11, 9, 290), (11, 53, 11, 10, 291), (11, 60, 11, 11, 292), (12, 161, 12, 0, 732), (12, 7, 12, 1, 733), (12, 61, 12, 2, 734), (12, 13, 12, 3, 735), (12, 16, 12, 4, 736), (12, 19, 12, 5, 737), (12, 22, 12, 6, 738), (12, 97, 12, 7, 739), (12, 25, 12, 8, 740), (12, 28, 12, 9, 741), (12, 32, 12, 10, 742), (12, 100, 12, 11, 743), (12, 65, 12, 12, 744), (12, 79, 12, 13, 745), (12, 72, 12, 14, 746), (12, 82, 12, 15, 747), (12, 35, 12, 16, 748), (12, 38, 12, 17, 749), (12, 41, 12, 18, 750), (12, 44, 12, 19, 751), (12, 47, 12, 20, 752)]
def am_T : Nat → u_T := fun c => match c with
  | 0 => TX0
  | 1 => TX1
  | 2 => TX2
  | 3 => TX3
  | 4 => TX4
  | 5 => TX5
  | 6 => TX6
  | 7 => TX7
  | 8 => TX8
  | 9 => TX9
  | 10 => TX10
  | 11 => TX11
  | _ => TX12
def am_ty : Nat → Nat → FieldType := fun c => match c with
  | 0 => tyX0
  | 1 => tyX1
  | 2 => tyX2
  | 3 => tyX3
  | 4 => tyX4
  | 5 => tyX5
  | 6 => tyX6
  | 7 => tyX7
  | 8 => tyX8
  | 9 => tyX9
  | 10 => tyX10
  | 11 => tyX11
  | _ => tyX12
def am_nf : Nat → Nat := fun c => match c with
  | 0 => 0
  | 1 => 0
  | 2 => 9
  | 3 => 0
  | 4 => 0
  | 5 => 8
  | 6 => 3
  | 7 => 1
  | 8 => 11
  | 9 => 0
  | 10 => 0
  | 11 => 12
  | _ => 21
/-- call sites: class, entry, kind (0 virtual, 1 static, 2 static of a nest mate, 3 init, 4 init of a nest mate, 5 super, 6 virtual and overridden, 8 Object.<init>, 9 arraycopy, 10 max, 11 min), method -/
def am_ST : List (Nat × Nat × Nat × Nat × List Nat) := [(0, 1, 4, 0, [258, 242]), (0, 15, 0, 2, [650, 405, 406]), (0, 25, 5, 3, [651, 645, 259, 643]), (1, 1, 4, 5, [265, 249]), (1, 15, 5, 7, [656, 973, 266, 657]), (2, 3, 8, 0, [190, 64, 65]), (2, 11, 3, 10, [192, 75]), (2, 38, 0, 12, [466, 467, 468]), (2, 42, 0, 13, [470, 386, 387]), (2, 46, 0, 17, [471, 473, 7]), (2, 49, 0, 20, [478, 480, 8]), (2, 57, 9, 0, [487, 391, 390, 55]), (2, 63, 0, 22, [488, 490, 10]), (2, 72, 0, 2, [475, 405, 406]), (2, 76, 0, 15, [476, 370, 371]), (2, 86, 2, 16, [477, 429]), (2, 90, 0, 18, [482, 484, 9]), (2, 96, 2, 19, [486, 432]), (2, 99, 0, 21, [492, 494, 11]), (3, 1, 8, 0, [244, 64, 65]), (4, 1, 4, 1, [272, 256]), (4, 15, 5, 4, [665, 974, 273, 647]), (5, 3, 8, 0, [77, 64, 65]), (5, 27, 0, 9, [78, 79, 80]), (5, 40, 9, 0, [389, 391, 390, 55]), (5, 46, 0, 14, [373, 374, 375]), (5, 50, 0, 29, [440, 441, 442]), (5, 54, 0, 15, [408, 370, 371]), (5, 58, 2, 16, [428, 429]), (5, 62, 0, 31, [424, 425, 426]), (5, 65, 2, 19, [431, 432]), (5, 68, 0, 2, [404, 405, 406]), (5, 71, 0, 32, [420, 421, 422]), (5, 74, 0, 33, [416, 417, 418]), (5, 78, 1, 37, [409, 410]), (5, 81, 0, 39, [569, 570, 571]), (6, 3, 8, 0, [172, 64, 65]), (6, 22, 0, 43, [616, 618, 16]), (6, 26, 2, 16, [620, 429]), (6, 30, 0, 44, [629, 613, 614]), (6, 34, 1, 45, [630, 582]), (6, 40, 1, 47, [631, 632]), (6, 43, 1, 46, [634, 635]), (6, 47, 10, 0, [637, 438, 56, 439]), (7, 1, 8, 0, [229, 64, 65]), (8, 3, 8, 0, [71, 64, 65]), (8, 17, 3, 10, [74, 75]), (8, 29, 0, 9, [338, 79, 80]), (8, 45, 0, 55, [339, 341, 0]), (8, 51, 0, 60, [353, 355, 2]), (8, 54, 0, 57, [357, 359, 3]), (8, 64, 0, 58, [365, 367, 5]), (8, 67, 0, 56, [361, 363, 4]), (8, 70, 0, 59, [381, 383, 6]), (8, 76, 0, 15, [369, 370, 371]), (8, 80, 0, 28, [377, 378, 379]), (8, 87, 1, 52, [343, 344]), (8, 91, 0, 53, [346, 348, 1]), (8, 95, 1, 54, [350, 351]), (9, 1, 4, 0, [251, 242]), (9, 15, 5, 3, [660, 645, 252, 643]), (10, 1, 4, 0, [279, 242]), (10, 15, 5, 3, [671, 645, 280, 643]), (11, 1, 8, 0, [63, 64, 65]), (11, 9, 4, 50, [68, 69]), (11, 18, 3, 10, [165, 75]), (11, 39, 4, 41, [169, 170]), (11, 46, 4, 11, [187, 188]), (11, 59, 4, 49, [226, 227]), (11, 68, 4, 0, [241, 242]), (11, 71, 4, 5, [248, 249]), (11, 74, 4, 1, [255, 256]), (11, 77, 4, 6, [262, 263]), (11, 80, 4, 25, [269, 270]), (11, 83, 4, 62, [276, 277]), (11, 87, 0, 51, [322, 323, 324]), (11, 91, 0, 61, [334, 335, 336]), (11, 101, 0, 13, [385, 386, 387]), (11, 115, 0, 27, [396, 397, 398]), (11, 132, 0, 38, [400, 401, 402]), (11, 136, 0, 34, [412, 413, 414]), (11, 139, 0, 14, [448, 374, 375]), (11, 142, 0, 15, [449, 370, 371]), (11, 148, 0, 35, [454, 455, 456]), (11, 152, 0, 36, [458, 459, 460]), (11, 155, 0, 23, [462, 463, 464]), (11, 161, 0, 71, [500, 502, 12]), (11, 164, 0, 33, [504, 417, 418]), (11, 167, 0, 2, [509, 405, 406]), (11, 170, 0, 30, [510, 511, 512]), (11, 174, 1, 74, [518, 519]), (11, 178, 0, 32, [530, 421, 422]), (11, 181, 1, 78, [535, 536]), (11, 184, 0, 79, [538, 540, 13]), (11, 188, 1, 80, [542, 543]), (11, 195, 0, 82, [549, 551, 14]), (11, 198, 0, 24, [557, 558, 559]), (11, 201, 0, 40, [565, 566, 567]), (11, 204, 0, 86, [577, 579, 15]), (11, 208, 1, 45, [581, 582]), (11, 213, 1, 88, [587, 588]), (11, 217, 1, 87, [590, 591]), (11, 220, 1, 89, [593, 594]), (11, 223, 0, 42, [600, 601, 602]), (11, 225, 0, 44, [612, 613, 614]), (11, 228, 0, 48, [625, 626, 627]), (11, 231, 6, 3, [642, 645, 643, 646, 647, 652, 653, 644, 643, 661, 662, 666, 657, 667, 668]), (11, 235, 1, 96, [677, 678]), (11, 245, 11, 0, [434, 435, 56, 436]), (11, 250, 10, 0, [437, 438, 56, 439]), (12, 1, 8, 0, [697, 64, 65]), (12, 50, 0, 108, [698, 700, 17]), (12, 54, 0, 109, [728, 730, 23]), (12, 57, 1, 102, [713, 714]), (12, 68, 0, 101, [706, 708, 19]), (12, 75, 1, 103, [710, 711]), (12, 85, 0, 104, [702, 704, 18]), (12, 88, 0, 105, [720, 722, 21]), (12, 91, 0, 106, [724, 726, 22]), (12, 94, 0, 107, [716, 718, 20]), (12, 103, 0, 116, [820, 822, 26]), (12, 106, 0, 118, [816, 818, 25]), (12, 109, 1, 119, [840, 841]), (12, 113, 0, 120, [836, 838, 30]), (12, 116, 0, 121, [832, 834, 29]), (12, 120, 0, 111, [812, 814, 24]), (12, 123, 0, 122, [824, 826, 27]), (12, 126, 0, 124, [828, 830, 28]), (12, 129, 0, 123, [843, 845, 31]), (12, 132, 0, 112, [851, 853, 32]), (12, 135, 0, 117, [855, 857, 33]), (12, 138, 0, 127, [863, 865, 34]), (12, 141, 0, 128, [867, 869, 35]), (12, 144, 0, 130, [871, 873, 36]), (12, 147, 0, 132, [883, 885, 38]), (12, 151, 0, 138, [908, 910, 39]), (12, 155, 0, 129, [875, 877, 37]), (12, 158, 0, 146, [940, 942, 40]), (20, 9, 3, 64, [60, 61]), (20, 12, 3, 110, [694, 695]), (20, 13, 0, 65, [318, 319, 320]), (20, 17, 0, 113, [796, 797, 798]), (20, 18, 0, 66, [326, 327, 328]), (20, 22, 0, 114, [800, 801, 802]), (20, 23, 0, 67, [330, 331, 332]), (20, 26, 0, 115, [804, 805, 806]), (20, 27, 0, 68, [392, 393, 394]), (20, 31, 0, 125, [808, 809, 810]), (20, 32, 0, 69, [444, 445, 446]), (20, 35, 0, 126, [847, 848, 849]), (20, 36, 0, 70, [450, 451, 452]), (20, 39, 0, 131, [859, 860, 861]), (20, 40, 0, 72, [496, 497, 498]), (20, 43, 0, 133, [879, 880, 881]), (20, 44, 0, 73, [505, 506, 507]), (20, 47, 0, 134, [887, 888, 889]), (20, 48, 0, 75, [514, 515, 516]), (20, 51, 0, 135, [891, 892, 893]), (20, 52, 0, 76, [521, 522, 523]), (20, 55, 0, 136, [895, 896, 897]), (20, 56, 0, 77, [525, 526, 527]), (20, 59, 0, 137, [899, 900, 901]), (20, 60, 0, 81, [531, 532, 533]), (20, 63, 0, 139, [904, 905, 906]), (20, 64, 0, 83, [545, 546, 547]), (20, 67, 0, 140, [912, 913, 914]), (20, 68, 0, 84, [553, 554, 555]), (20, 71, 0, 141, [916, 917, 918]), (20, 72, 0, 85, [561, 562, 563]), (20, 75, 0, 142, [920, 921, 922]), (20, 76, 0, 90, [573, 574, 575]), (20, 80, 0, 143, [924, 925, 926]), (20, 81, 0, 91, [596, 597, 598]), (20, 84, 0, 144, [928, 929, 930]), (20, 85, 0, 92, [604, 605, 606]), (20, 88, 0, 145, [932, 933, 934]), (20, 89, 0, 93, [608, 609, 610]), (20, 92, 0, 147, [936, 937, 938]), (20, 93, 0, 94, [621, 622, 623]), (20, 96, 0, 148, [944, 945, 946]), (20, 97, 0, 95, [638, 639, 640]), (20, 100, 0, 149, [948, 949, 950]), (20, 101, 0, 97, [673, 674, 675]), (20, 104, 0, 150, [957, 958, 959]), (20, 105, 0, 98, [680, 681, 682]), (20, 108, 0, 151, [961, 962, 963]), (20, 109, 0, 99, [684, 685, 686]), (20, 112, 0, 152, [965, 966, 967]), (20, 113, 0, 100, [688, 689, 690]), (20, 117, 0, 153, [969, 970, 971])]
def am_ws : List Nat := [0, 1, 3, 4, 9, 10]
def am_wo : Nat → Nat := fun c => match c with
  | 0 => 4
  | 1 => 8
  | 3 => 3
  | 4 => 26
  | 9 => 7
  | 10 => 63
  | _ => 9999
def am_CK : List (Nat × Nat × Int × Nat) := [(11, 177, -1000000, 529), (21, 265, 1431655765, 584), (21, 266, 858993459, 585), (21, 267, 252645135, 586), (12, 150, -1000000, 903)]
def am_CL : List (Nat × Nat × Int × Nat) := [(0, 13, 100, 649), (1, 13, 1000, 655), (9, 13, 10, 659), (4, 13, 10000, 664), (10, 13, 100000, 670), (12, 165, 11, 952), (12, 167, 101, 953), (12, 169, 1011, 954), (12, 171, 10101, 955), (12, 173, 100001, 956)]
def am_NC : List (Nat × Nat × Nat × Nat) := [(20, 7, 11, 58), (11, 7, 8, 66), (8, 15, 5, 72), (11, 16, 5, 164), (11, 37, 6, 167), (11, 44, 2, 185), (2, 9, 5, 191), (11, 51, 3, 222), (11, 57, 7, 224), (11, 69, 9, 246), (11, 72, 0, 253), (11, 75, 1, 260), (11, 78, 4, 267), (11, 81, 10, 274), (20, 10, 12, 692)]
/-- places of each method: its code, its class initialized -/
def am_MP : List (Nat × Nat) := [(243, 48), (257, 50), (407, 44), (672, 48), (648, 50), (250, 49), (264, 51), (658, 49), (654, 51), (81, 44), (76, 44), (189, 46), (469, 44), (388, 44), (376, 44), (372, 44), (430, 42), (474, 46), (485, 46), (433, 42), (481, 46), (495, 46), (491, 46), (465, 46), (560, 46), (271, 52), (663, 52), (399, 44), (380, 44), (443, 44), (513, 44), (427, 44), (423, 44), (419, 44), (415, 44), (457, 44), (461, 44), (411, 44), (403, 44), (572, 44), (568, 44), (171, 45), (603, 45), (619, 45), (615, 45), (583, 57), (636, 45), (633, 45), (628, 45), (228, 47), (70, 43), (325, 43), (345, 43), (349, 43), (352, 43), (342, 43), (364, 43), (360, 43), (368, 43), (384, 43), (356, 43), (337, 43), (278, 53), (669, 53), (62, 42), (321, 42), (329, 42), (333, 42), (395, 42), (447, 42), (453, 42), (503, 42), (499, 42), (508, 42), (520, 42), (517, 42), (524, 42), (528, 42), (537, 42), (541, 42), (544, 42), (534, 42), (552, 42), (548, 42), (556, 42), (564, 42), (580, 42), (592, 42), (589, 42), (595, 42), (576, 42), (599, 42), (607, 42), (611, 42), (624, 42), (641, 42), (679, 42), (676, 42), (683, 42), (687, 42), (691, 42), (709, 54), (715, 54), (712, 54), (705, 54), (723, 54), (727, 54), (719, 54), (701, 54), (731, 54), (696, 54), (815, 54), (854, 54), (799, 54), (803, 54), (807, 54), (823, 54), (858, 54), (819, 54), (842, 54), (839, 54), (835, 54), (827, 54), (846, 54), (831, 54), (811, 54), (850, 54), (866, 54), (870, 54), (878, 54), (874, 54), (862, 54), (886, 54), (882, 54), (890, 54), (894, 54), (898, 54), (902, 54), (911, 54), (907, 54), (915, 54), (919, 54), (923, 54), (927, 54), (931, 54), (935, 54), (943, 54), (939, 54), (947, 54), (951, 54), (960, 54), (964, 54), (968, 54), (972, 54)]
def am_cp : List (Nat × Nat × Nat) := [(0, 254, 50), (1, 261, 51), (2, 186, 46), (3, 240, 48), (4, 268, 52), (5, 73, 44), (6, 168, 45), (7, 225, 47), (8, 67, 43), (9, 247, 49), (10, 275, 53), (11, 59, 42), (12, 693, 54)]
/-- places of the words that are no good words: nest links, castable -/
def am_NW : List Nat := [68, 169, 187, 226, 241, 248, 251, 255, 258, 262, 265, 269, 272, 276, 279, 428, 431, 477, 486, 620, 975, 976, 977, 978, 979]
