/-! ===== BEGIN printed: names, fields, word lists, decode rows ===== -/
def RX0 : String := "HidingBoxes$Box"
def TX0 : u_T := fun k => match k with
  | 0 => ("HidingBoxes$Box", "number", "I", false)
  | 1 => ("HidingBoxes$Box", "low", "[I", true)
  | _ => ("HidingBoxes$Box", "high", "[I", true)
def tyX0 : Nat → FieldType := fun k => match k with
  | 0 => .int
  | 1 => .array .int
  | _ => .array .int
abbrev wsX00 : List Cond := u_ws RX0 TX0 3
theorem nmX0 : ∀ a, a < 3 → ∀ b, b < 3 → a ≠ b → (TX0 a).2.1 ≠ (TX0 b).2.1 := by decide +kernel
theorem tyX0_ok : ∀ k, k < 3 → parseFieldDescriptor (TX0 k).2.2.1 = some (tyX0 k) := by decide +kernel
abbrev cX0_init : ByteArray := prog_2_method_1_code
def yX0_init : MethodName := ⟨RX0, "<init>", "()V"⟩
abbrev cX0_copyFrom : ByteArray := prog_2_method_2_code
def yX0_copyFrom : MethodName := ⟨RX0, "copyFrom", "(LHidingBoxes$Box;)V"⟩
abbrev cX0_lay : ByteArray := prog_2_method_3_code
def yX0_lay : MethodName := ⟨RX0, "lay", "(III)Z"⟩
abbrev cX0_shift : ByteArray := prog_2_method_4_code
def yX0_shift : MethodName := ⟨RX0, "shift", "(II)V"⟩
abbrev cX0_size : ByteArray := prog_2_method_5_code
def yX0_size : MethodName := ⟨RX0, "size", "(I)I"⟩
abbrev cX0_volume : ByteArray := prog_2_method_6_code
def yX0_volume : MethodName := ⟨RX0, "volume", "()I"⟩
abbrev cX0_sumOfCorner : ByteArray := prog_2_method_7_code
def yX0_sumOfCorner : MethodName := ⟨RX0, "sumOfCorner", "()I"⟩
abbrev cX0_longestDirection : ByteArray := prog_2_method_8_code
def yX0_longestDirection : MethodName := ⟨RX0, "longestDirection", "()I"⟩
abbrev cX0_meets : ByteArray := prog_2_method_9_code
def yX0_meets : MethodName := ⟨RX0, "meets", "(LHidingBoxes$Box;I)Z"⟩
abbrev cX0_cuts : ByteArray := prog_2_method_10_code
def yX0_cuts : MethodName := ⟨RX0, "cuts", "(LHidingBoxes$Box;)Z"⟩
abbrev cX0_meetsInDifference : ByteArray := prog_2_method_11_code
def yX0_meetsInDifference : MethodName := ⟨RX0, "meetsInDifference", "(LHidingBoxes$Box;II)Z"⟩
abbrev cX0_overlapsOutlineOf : ByteArray := prog_2_method_12_code
def yX0_overlapsOutlineOf : MethodName := ⟨RX0, "overlapsOutlineOf", "(LHidingBoxes$Box;)Z"⟩
abbrev cX0_directionOfHiding : ByteArray := prog_2_method_13_code
def yX0_directionOfHiding : MethodName := ⟨RX0, "directionOfHiding", "(LHidingBoxes$Box;)I"⟩
abbrev cX0_isBelow : ByteArray := prog_2_method_14_code
def yX0_isBelow : MethodName := ⟨RX0, "isBelow", "(LHidingBoxes$Box;)Z"⟩
abbrev cX0_coversRow : ByteArray := prog_2_method_15_code
def yX0_coversRow : MethodName := ⟨RX0, "coversRow", "(I)Z"⟩
abbrev cX0_rowOfCells : ByteArray := prog_2_method_16_code
def yX0_rowOfCells : MethodName := ⟨RX0, "rowOfCells", "()I"⟩
def RX1 : String := "HidingBoxes$History"
def TX1 : u_T := fun k => match k with
  | 0 => ("HidingBoxes$History", "states", "[LHidingBoxes$Space;", true)
  | _ => ("HidingBoxes$History", "count", "I", false)
def tyX1 : Nat → FieldType := fun k => match k with
  | 0 => .array (.object "HidingBoxes$Space")
  | _ => .int
abbrev wsX10 : List Cond := u_ws RX1 TX1 2
theorem nmX1 : ∀ a, a < 2 → ∀ b, b < 2 → a ≠ b → (TX1 a).2.1 ≠ (TX1 b).2.1 := by decide +kernel
theorem tyX1_ok : ∀ k, k < 2 → parseFieldDescriptor (TX1 k).2.2.1 = some (tyX1 k) := by decide +kernel
abbrev cX1_init : ByteArray := prog_3_method_1_code
def yX1_init : MethodName := ⟨RX1, "<init>", "()V"⟩
abbrev cX1_remember : ByteArray := prog_3_method_2_code
def yX1_remember : MethodName := ⟨RX1, "remember", "(LHidingBoxes$Space;)V"⟩
abbrev cX1_dropOldest : ByteArray := prog_3_method_3_code
def yX1_dropOldest : MethodName := ⟨RX1, "dropOldest", "()V"⟩
abbrev cX1_recall : ByteArray := prog_3_method_4_code
def yX1_recall : MethodName := ⟨RX1, "recall", "(LHidingBoxes$Space;)V"⟩
def RX2 : String := "HidingBoxes$Picture"
def TX2 : u_T := fun k => match k with
  | 0 => ("HidingBoxes$Picture", "count", "I", false)
  | 1 => ("HidingBoxes$Picture", "hides", "[I", true)
  | 2 => ("HidingBoxes$Picture", "chains", "[I", true)
  | 3 => ("HidingBoxes$Picture", "order", "[I", true)
  | 4 => ("HidingBoxes$Picture", "drawnBits", "I", false)
  | 5 => ("HidingBoxes$Picture", "drawnCount", "I", false)
  | _ => ("HidingBoxes$Picture", "layers", "[I", true)
def tyX2 : Nat → FieldType := fun k => match k with
  | 0 => .int
  | 1 => .array .int
  | 2 => .array .int
  | 3 => .array .int
  | 4 => .int
  | 5 => .int
  | _ => .array .int
abbrev wsX20 : List Cond := u_ws RX2 TX2 7
theorem nmX2 : ∀ a, a < 7 → ∀ b, b < 7 → a ≠ b → (TX2 a).2.1 ≠ (TX2 b).2.1 := by decide +kernel
theorem tyX2_ok : ∀ k, k < 7 → parseFieldDescriptor (TX2 k).2.2.1 = some (tyX2 k) := by decide +kernel
abbrev cX2_init : ByteArray := prog_4_method_1_code
def yX2_init : MethodName := ⟨RX2, "<init>", "()V"⟩
abbrev cX2_look : ByteArray := prog_4_method_2_code
def yX2_look : MethodName := ⟨RX2, "look", "(LHidingBoxes$Space;)V"⟩
abbrev cX2_bitsHiddenBy : ByteArray := prog_4_method_3_code
def yX2_bitsHiddenBy : MethodName := ⟨RX2, "bitsHiddenBy", "(LHidingBoxes$Space;I)I"⟩
abbrev cX2_hasBit : ByteArray := prog_4_method_4_code
def yX2_hasBit : MethodName := ⟨RX2, "hasBit", "(II)Z"⟩
abbrev cX2_followChains : ByteArray := prog_4_method_5_code
def yX2_followChains : MethodName := ⟨RX2, "followChains", "()V"⟩
abbrev cX2_draw : ByteArray := prog_4_method_6_code
def yX2_draw : MethodName := ⟨RX2, "draw", "(LHidingBoxes$Space;)V"⟩
abbrev cX2_nextToDraw : ByteArray := prog_4_method_7_code
def yX2_nextToDraw : MethodName := ⟨RX2, "nextToDraw", "(LHidingBoxes$Space;)I"⟩
abbrev cX2_layerAbove : ByteArray := prog_4_method_8_code
def yX2_layerAbove : MethodName := ⟨RX2, "layerAbove", "(I)I"⟩
abbrev cX2_hiddenBy : ByteArray := prog_4_method_9_code
def yX2_hiddenBy : MethodName := ⟨RX2, "hiddenBy", "(I)I"⟩
abbrev cX2_hidersOf : ByteArray := prog_4_method_10_code
def yX2_hidersOf : MethodName := ⟨RX2, "hidersOf", "(I)I"⟩
abbrev cX2_hidings : ByteArray := prog_4_method_11_code
def yX2_hidings : MethodName := ⟨RX2, "hidings", "()I"⟩
abbrev cX2_hidingsNotIn : ByteArray := prog_4_method_12_code
def yX2_hidingsNotIn : MethodName := ⟨RX2, "hidingsNotIn", "(LHidingBoxes$Picture;)I"⟩
abbrev cX2_slotDrawn : ByteArray := prog_4_method_13_code
def yX2_slotDrawn : MethodName := ⟨RX2, "slotDrawn", "(I)I"⟩
abbrev cX2_greatestLayer : ByteArray := prog_4_method_14_code
def yX2_greatestLayer : MethodName := ⟨RX2, "greatestLayer", "()I"⟩
abbrev cX2_firstNotDrawnUnder : ByteArray := prog_4_method_15_code
def yX2_firstNotDrawnUnder : MethodName := ⟨RX2, "firstNotDrawnUnder", "(I)I"⟩
abbrev cX2_isInRing : ByteArray := prog_4_method_16_code
def yX2_isInRing : MethodName := ⟨RX2, "isInRing", "(I)Z"⟩
abbrev cX2_boxesInRings : ByteArray := prog_4_method_17_code
def yX2_boxesInRings : MethodName := ⟨RX2, "boxesInRings", "()I"⟩
abbrev cX2_shortestRing : ByteArray := prog_4_method_18_code
def yX2_shortestRing : MethodName := ⟨RX2, "shortestRing", "()I"⟩
abbrev cX2_shortestRingOf : ByteArray := prog_4_method_19_code
def yX2_shortestRingOf : MethodName := ⟨RX2, "shortestRingOf", "(I)I"⟩
abbrev cX2_bitsHiddenByAll : ByteArray := prog_4_method_20_code
def yX2_bitsHiddenByAll : MethodName := ⟨RX2, "bitsHiddenByAll", "(I)I"⟩
abbrev cX2_greatestInRings : ByteArray := prog_4_method_21_code
def yX2_greatestInRings : MethodName := ⟨RX2, "greatestInRings", "(LHidingBoxes$Space;)I"⟩
def RX3 : String := "HidingBoxes$Space"
def TX3 : u_T := fun k => match k with
  | 0 => ("HidingBoxes$Space", "boxes", "[LHidingBoxes$Box;", true)
  | 1 => ("HidingBoxes$Space", "count", "I", false)
  | 2 => ("HidingBoxes$Space", "nextNumber", "I", false)
  | 3 => ("HidingBoxes$Space", "splits", "I", false)
  | _ => ("HidingBoxes$Space", "rule", "I", false)
def tyX3 : Nat → FieldType := fun k => match k with
  | 0 => .array (.object "HidingBoxes$Box")
  | 1 => .int
  | 2 => .int
  | 3 => .int
  | _ => .int
abbrev wsX30 : List Cond := u_ws RX3 TX3 5
theorem nmX3 : ∀ a, a < 5 → ∀ b, b < 5 → a ≠ b → (TX3 a).2.1 ≠ (TX3 b).2.1 := by decide +kernel
theorem tyX3_ok : ∀ k, k < 5 → parseFieldDescriptor (TX3 k).2.2.1 = some (tyX3 k) := by decide +kernel
abbrev cX3_init : ByteArray := prog_5_method_1_code
def yX3_init : MethodName := ⟨RX3, "<init>", "()V"⟩
abbrev cX3_copyFrom : ByteArray := prog_5_method_2_code
def yX3_copyFrom : MethodName := ⟨RX3, "copyFrom", "(LHidingBoxes$Space;)V"⟩
abbrev cX3_isFull : ByteArray := prog_5_method_3_code
def yX3_isFull : MethodName := ⟨RX3, "isFull", "()Z"⟩
abbrev cX3_slotOf : ByteArray := prog_5_method_4_code
def yX3_slotOf : MethodName := ⟨RX3, "slotOf", "(I)I"⟩
abbrev cX3_isCutBy : ByteArray := prog_5_method_5_code
def yX3_isCutBy : MethodName := ⟨RX3, "isCutBy", "(LHidingBoxes$Box;I)Z"⟩
abbrev cX3_append : ByteArray := prog_5_method_6_code
def yX3_append : MethodName := ⟨RX3, "append", "(LHidingBoxes$Box;)I"⟩
abbrev cX3_takeOut : ByteArray := prog_5_method_7_code
def yX3_takeOut : MethodName := ⟨RX3, "takeOut", "(I)V"⟩
abbrev cX3_cutInTwo : ByteArray := prog_5_method_8_code
def yX3_cutInTwo : MethodName := ⟨RX3, "cutInTwo", "(III)I"⟩
abbrev cX3_quarterTurn : ByteArray := prog_5_method_9_code
def yX3_quarterTurn : MethodName := ⟨RX3, "quarterTurn", "()V"⟩
abbrev cX3_weightInDrawing : ByteArray := prog_5_method_10_code
def yX3_weightInDrawing : MethodName := ⟨RX3, "weightInDrawing", "(I)I"⟩
abbrev cX3_volume : ByteArray := prog_5_method_11_code
def yX3_volume : MethodName := ⟨RX3, "volume", "()I"⟩
abbrev cX3_groundUnder : ByteArray := prog_5_method_12_code
def yX3_groundUnder : MethodName := ⟨RX3, "groundUnder", "(I)I"⟩
abbrev cX3_boxesBelow : ByteArray := prog_5_method_13_code
def yX3_boxesBelow : MethodName := ⟨RX3, "boxesBelow", "(I)I"⟩
abbrev cX3_supportsOf : ByteArray := prog_5_method_14_code
def yX3_supportsOf : MethodName := ⟨RX3, "supportsOf", "(I)I"⟩
abbrev cX3_shadowOn : ByteArray := prog_5_method_15_code
def yX3_shadowOn : MethodName := ⟨RX3, "shadowOn", "(I)I"⟩
abbrev cX3_shadow : ByteArray := prog_5_method_16_code
def yX3_shadow : MethodName := ⟨RX3, "shadow", "()I"⟩
def RX4 : String := "HidingBoxes$Text"
def TX4 : u_T := fun k => match k with
  | 0 => ("HidingBoxes$Text", "signs", "[C", true)
  | 1 => ("HidingBoxes$Text", "length", "I", false)
  | 2 => ("HidingBoxes$Text", "values", "[I", true)
  | _ => ("HidingBoxes$Text", "valueCount", "I", false)
def tyX4 : Nat → FieldType := fun k => match k with
  | 0 => .array .char
  | 1 => .int
  | 2 => .array .int
  | _ => .int
abbrev wsX40 : List Cond := u_ws RX4 TX4 4
theorem nmX4 : ∀ a, a < 4 → ∀ b, b < 4 → a ≠ b → (TX4 a).2.1 ≠ (TX4 b).2.1 := by decide +kernel
theorem tyX4_ok : ∀ k, k < 4 → parseFieldDescriptor (TX4 k).2.2.1 = some (tyX4 k) := by decide +kernel
abbrev cX4_init : ByteArray := prog_6_method_1_code
def yX4_init : MethodName := ⟨RX4, "<init>", "()V"⟩
abbrev cX4_append : ByteArray := prog_6_method_2_code
def yX4_append : MethodName := ⟨RX4, "append", "(C)Z"⟩
abbrev cX4_read : ByteArray := prog_6_method_3_code
def yX4_read : MethodName := ⟨RX4, "read", "()I"⟩
abbrev cX4_withDigit : ByteArray := prog_6_method_4_code
def yX4_withDigit : MethodName := ⟨RX4, "withDigit", "(III)I"⟩
abbrev cX4_signBehind : ByteArray := prog_6_method_5_code
def yX4_signBehind : MethodName := ⟨RX4, "signBehind", "(I)C"⟩
abbrev cX4_store : ByteArray := prog_6_method_6_code
def yX4_store : MethodName := ⟨RX4, "store", "(I)V"⟩
abbrev cX4_boxCount : ByteArray := prog_6_method_7_code
def yX4_boxCount : MethodName := ⟨RX4, "boxCount", "()I"⟩
abbrev cX4_valueOf : ByteArray := prog_6_method_8_code
def yX4_valueOf : MethodName := ⟨RX4, "valueOf", "(II)I"⟩
def RX5 : String := "HidingBoxes"
def TX5 : u_T := fun k => match k with
  | 0 => ("HidingBoxes", "now", "LHidingBoxes$Space;", true)
  | 1 => ("HidingBoxes", "trial", "LHidingBoxes$Space;", true)
  | 2 => ("HidingBoxes", "snapshot", "LHidingBoxes$Space;", true)
  | 3 => ("HidingBoxes", "hasSnapshot", "Z", false)
  | 4 => ("HidingBoxes", "history", "LHidingBoxes$History;", true)
  | 5 => ("HidingBoxes", "text", "LHidingBoxes$Text;", true)
  | 6 => ("HidingBoxes", "picture", "LHidingBoxes$Picture;", true)
  | 7 => ("HidingBoxes", "turnedPicture", "LHidingBoxes$Picture;", true)
  | _ => ("HidingBoxes", "newcomer", "LHidingBoxes$Box;", true)
def tyX5 : Nat → FieldType := fun k => match k with
  | 0 => .object "HidingBoxes$Space"
  | 1 => .object "HidingBoxes$Space"
  | 2 => .object "HidingBoxes$Space"
  | 3 => .boolean
  | 4 => .object "HidingBoxes$History"
  | 5 => .object "HidingBoxes$Text"
  | 6 => .object "HidingBoxes$Picture"
  | 7 => .object "HidingBoxes$Picture"
  | _ => .object "HidingBoxes$Box"
abbrev wsX50 : List Cond := u_ws RX5 TX5 9
theorem nmX5 : ∀ a, a < 9 → ∀ b, b < 9 → a ≠ b → (TX5 a).2.1 ≠ (TX5 b).2.1 := by decide +kernel
theorem tyX5_ok : ∀ k, k < 9 → parseFieldDescriptor (TX5 k).2.2.1 = some (tyX5 k) := by decide +kernel
abbrev cX5_init : ByteArray := prog_1_method_1_code
def yX5_init : MethodName := ⟨RX5, "<init>", "()V"⟩
abbrev cX5_add : ByteArray := prog_1_method_2_code
def yX5_add : MethodName := ⟨RX5, "add", "(IIIIII)I"⟩
abbrev cX5_remove : ByteArray := prog_1_method_3_code
def yX5_remove : MethodName := ⟨RX5, "remove", "(I)I"⟩
abbrev cX5_move : ByteArray := prog_1_method_4_code
def yX5_move : MethodName := ⟨RX5, "move", "(III)I"⟩
abbrev cX5_fall : ByteArray := prog_1_method_5_code
def yX5_fall : MethodName := ⟨RX5, "fall", "(I)I"⟩
abbrev cX5_split : ByteArray := prog_1_method_6_code
def yX5_split : MethodName := ⟨RX5, "split", "(III)I"⟩
abbrev cX5_breakRing : ByteArray := prog_1_method_7_code
def yX5_breakRing : MethodName := ⟨RX5, "breakRing", "()I"⟩
abbrev cX5_turn : ByteArray := prog_1_method_8_code
def yX5_turn : MethodName := ⟨RX5, "turn", "()I"⟩
abbrev cX5_set : ByteArray := prog_1_method_9_code
def yX5_set : MethodName := ⟨RX5, "set", "(II)I"⟩
abbrev cX5_type : ByteArray := prog_1_method_10_code
def yX5_type : MethodName := ⟨RX5, "type", "(C)I"⟩
abbrev cX5_clearText : ByteArray := prog_1_method_11_code
def yX5_clearText : MethodName := ⟨RX5, "clearText", "()I"⟩
abbrev cX5_addAll : ByteArray := prog_1_method_12_code
def yX5_addAll : MethodName := ⟨RX5, "addAll", "()I"⟩
abbrev cX5_undo : ByteArray := prog_1_method_13_code
def yX5_undo : MethodName := ⟨RX5, "undo", "()I"⟩
abbrev cX5_keep : ByteArray := prog_1_method_14_code
def yX5_keep : MethodName := ⟨RX5, "keep", "()I"⟩
abbrev cX5_restore : ByteArray := prog_1_method_15_code
def yX5_restore : MethodName := ⟨RX5, "restore", "()I"⟩
abbrev cX5_box : ByteArray := prog_1_method_16_code
def yX5_box : MethodName := ⟨RX5, "box", "(I)I"⟩
abbrev cX5_end : ByteArray := prog_1_method_17_code
def yX5_end : MethodName := ⟨RX5, "end", "(IIZ)I"⟩
abbrev cX5_ofBox : ByteArray := prog_1_method_18_code
def yX5_ofBox : MethodName := ⟨RX5, "ofBox", "(II)I"⟩
abbrev cX5_pair : ByteArray := prog_1_method_19_code
def yX5_pair : MethodName := ⟨RX5, "pair", "(II)I"⟩
abbrev cX5_drawn : ByteArray := prog_1_method_20_code
def yX5_drawn : MethodName := ⟨RX5, "drawn", "(I)I"⟩
abbrev cX5_total : ByteArray := prog_1_method_21_code
def yX5_total : MethodName := ⟨RX5, "total", "(I)I"⟩
abbrev cX5_waitsFor : ByteArray := prog_1_method_22_code
def yX5_waitsFor : MethodName := ⟨RX5, "waitsFor", "(I)I"⟩
abbrev cX5_breaks : ByteArray := prog_1_method_23_code
def yX5_breaks : MethodName := ⟨RX5, "breaks", "()I"⟩
abbrev cX5_drawnWithout : ByteArray := prog_1_method_24_code
def yX5_drawnWithout : MethodName := ⟨RX5, "drawnWithout", "(I)I"⟩
abbrev cX5_isDirection : ByteArray := prog_1_method_25_code
def yX5_isDirection : MethodName := ⟨RX5, "isDirection", "(I)Z"⟩
abbrev cX5_look : ByteArray := prog_1_method_26_code
def yX5_look : MethodName := ⟨RX5, "look", "()LHidingBoxes$Picture;"⟩
abbrev cX5_adoptTrial : ByteArray := prog_1_method_27_code
def yX5_adoptTrial : MethodName := ⟨RX5, "adoptTrial", "()V"⟩
abbrev cX5_enter : ByteArray := prog_1_method_28_code
def yX5_enter : MethodName := ⟨RX5, "enter", "(LHidingBoxes$Space;IIIIII)I"⟩
abbrev cX5_breakOne : ByteArray := prog_1_method_29_code
def yX5_breakOne : MethodName := ⟨RX5, "breakOne", "(LHidingBoxes$Space;)I"⟩
def RX6 : String := "HidingBoxesModel"
def TX6 : u_T := fun k => match k with
  | 0 => ("HidingBoxesModel", "z", "[I", true)
  | 1 => ("HidingBoxesModel", "aside", "[I", true)
  | 2 => ("HidingBoxesModel", "old", "[I", true)
  | 3 => ("HidingBoxesModel", "states", "I", false)
  | 4 => ("HidingBoxesModel", "kept", "[I", true)
  | 5 => ("HidingBoxesModel", "isKept", "Z", false)
  | 6 => ("HidingBoxesModel", "text", "[I", true)
  | 7 => ("HidingBoxesModel", "length", "I", false)
  | 8 => ("HidingBoxesModel", "hides", "[I", true)
  | 9 => ("HidingBoxesModel", "reaches", "[I", true)
  | 10 => ("HidingBoxesModel", "layers", "[I", true)
  | 11 => ("HidingBoxesModel", "order", "[I", true)
  | 12 => ("HidingBoxesModel", "drawn", "I", false)
  | 13 => ("HidingBoxesModel", "before", "[I", true)
  | 14 => ("HidingBoxesModel", "given", "[I", true)
  | 15 => ("HidingBoxesModel", "place", "I", false)
  | _ => ("HidingBoxesModel", "isWrong", "Z", false)
def tyX6 : Nat → FieldType := fun k => match k with
  | 0 => .array .int
  | 1 => .array .int
  | 2 => .array .int
  | 3 => .int
  | 4 => .array .int
  | 5 => .boolean
  | 6 => .array .int
  | 7 => .int
  | 8 => .array .int
  | 9 => .array .int
  | 10 => .array .int
  | 11 => .array .int
  | 12 => .int
  | 13 => .array .int
  | 14 => .array .int
  | 15 => .int
  | _ => .boolean
abbrev wsX60 : List Cond := u_ws RX6 TX6 17
theorem nmX6 : ∀ a, a < 17 → ∀ b, b < 17 → a ≠ b → (TX6 a).2.1 ≠ (TX6 b).2.1 := by decide +kernel
theorem tyX6_ok : ∀ k, k < 17 → parseFieldDescriptor (TX6 k).2.2.1 = some (tyX6 k) := by decide +kernel
abbrev cX6_init : ByteArray := prog_8_method_1_code
def yX6_init : MethodName := ⟨RX6, "<init>", "()V"⟩
abbrev cX6_in : ByteArray := prog_8_method_3_code
def yX6_in : MethodName := ⟨RX6, "in", "(JII)Z"⟩
abbrev cX6_has : ByteArray := prog_8_method_4_code
def yX6_has : MethodName := ⟨RX6, "has", "(II)Z"⟩
abbrev cX6_ones : ByteArray := prog_8_method_5_code
def yX6_ones : MethodName := ⟨RX6, "ones", "(I)I"⟩
abbrev cX6_of : ByteArray := prog_8_method_6_code
def yX6_of : MethodName := ⟨RX6, "of", "(II)I"⟩
abbrev cX6_put : ByteArray := prog_8_method_7_code
def yX6_put : MethodName := ⟨RX6, "put", "(III)V"⟩
abbrev cX6_low : ByteArray := prog_8_method_8_code
def yX6_low : MethodName := ⟨RX6, "low", "(II)I"⟩
abbrev cX6_size : ByteArray := prog_8_method_9_code
def yX6_size : MethodName := ⟨RX6, "size", "(II)I"⟩
abbrev cX6_high : ByteArray := prog_8_method_10_code
def yX6_high : MethodName := ⟨RX6, "high", "(II)I"⟩
abbrev cX6_volume : ByteArray := prog_8_method_11_code
def yX6_volume : MethodName := ⟨RX6, "volume", "(I)I"⟩
abbrev cX6_rankOf : ByteArray := prog_8_method_12_code
def yX6_rankOf : MethodName := ⟨RX6, "rankOf", "(I)I"⟩
abbrev cX6_isDirection : ByteArray := prog_8_method_13_code
def yX6_isDirection : MethodName := ⟨RX6, "isDirection", "(I)Z"⟩
abbrev cX6_cross : ByteArray := prog_8_method_14_code
def yX6_cross : MethodName := ⟨RX6, "cross", "(III)Z"⟩
abbrev cX6_cutsAny : ByteArray := prog_8_method_15_code
def yX6_cutsAny : MethodName := ⟨RX6, "cutsAny", "(II)Z"⟩
abbrev cX6_reachesBelow : ByteArray := prog_8_method_16_code
def yX6_reachesBelow : MethodName := ⟨RX6, "reachesBelow", "(IIII)Z"⟩
abbrev cX6_overlap : ByteArray := prog_8_method_17_code
def yX6_overlap : MethodName := ⟨RX6, "overlap", "(II)Z"⟩
abbrev cX6_hidesBy : ByteArray := prog_8_method_18_code
def yX6_hidesBy : MethodName := ⟨RX6, "hidesBy", "(II)I"⟩
abbrev cX6_findHiding : ByteArray := prog_8_method_19_code
def yX6_findHiding : MethodName := ⟨RX6, "findHiding", "()V"⟩
abbrev cX6_isInRing : ByteArray := prog_8_method_20_code
def yX6_isInRing : MethodName := ⟨RX6, "isInRing", "(I)Z"⟩
abbrev cX6_ringBoxes : ByteArray := prog_8_method_21_code
def yX6_ringBoxes : MethodName := ⟨RX6, "ringBoxes", "()I"⟩
abbrev cX6_hiddenByAny : ByteArray := prog_8_method_22_code
def yX6_hiddenByAny : MethodName := ⟨RX6, "hiddenByAny", "(I)I"⟩
abbrev cX6_shortestRing : ByteArray := prog_8_method_23_code
def yX6_shortestRing : MethodName := ⟨RX6, "shortestRing", "(I)I"⟩
abbrev cX6_shortestOfAll : ByteArray := prog_8_method_24_code
def yX6_shortestOfAll : MethodName := ⟨RX6, "shortestOfAll", "()I"⟩
abbrev cX6_findLayers : ByteArray := prog_8_method_25_code
def yX6_findLayers : MethodName := ⟨RX6, "findLayers", "()V"⟩
abbrev cX6_weight : ByteArray := prog_8_method_26_code
def yX6_weight : MethodName := ⟨RX6, "weight", "(I)I"⟩
abbrev cX6_drawAll : ByteArray := prog_8_method_27_code
def yX6_drawAll : MethodName := ⟨RX6, "drawAll", "(I)V"⟩
abbrev cX6_drawnSet : ByteArray := prog_8_method_28_code
def yX6_drawnSet : MethodName := ⟨RX6, "drawnSet", "()I"⟩
abbrev cX6_push : ByteArray := prog_8_method_29_code
def yX6_push : MethodName := ⟨RX6, "push", "([I)V"⟩
abbrev cX6_putAside : ByteArray := prog_8_method_30_code
def yX6_putAside : MethodName := ⟨RX6, "putAside", "()V"⟩
abbrev cX6_putBack : ByteArray := prog_8_method_31_code
def yX6_putBack : MethodName := ⟨RX6, "putBack", "()V"⟩
abbrev cX6_undo : ByteArray := prog_8_method_32_code
def yX6_undo : MethodName := ⟨RX6, "undo", "()I"⟩
abbrev cX6_keep : ByteArray := prog_8_method_33_code
def yX6_keep : MethodName := ⟨RX6, "keep", "()I"⟩
abbrev cX6_restore : ByteArray := prog_8_method_34_code
def yX6_restore : MethodName := ⟨RX6, "restore", "()I"⟩
abbrev cX6_tryBox : ByteArray := prog_8_method_35_code
def yX6_tryBox : MethodName := ⟨RX6, "tryBox", "(IIIIII)I"⟩
abbrev cX6_putBox : ByteArray := prog_8_method_36_code
def yX6_putBox : MethodName := ⟨RX6, "putBox", "(IIIIII)I"⟩
abbrev cX6_add : ByteArray := prog_8_method_37_code
def yX6_add : MethodName := ⟨RX6, "add", "(IIIIII)I"⟩
abbrev cX6_remove : ByteArray := prog_8_method_38_code
def yX6_remove : MethodName := ⟨RX6, "remove", "(I)I"⟩
abbrev cX6_move : ByteArray := prog_8_method_39_code
def yX6_move : MethodName := ⟨RX6, "move", "(III)I"⟩
abbrev cX6_isBelow : ByteArray := prog_8_method_40_code
def yX6_isBelow : MethodName := ⟨RX6, "isBelow", "(II)Z"⟩
abbrev cX6_fall : ByteArray := prog_8_method_41_code
def yX6_fall : MethodName := ⟨RX6, "fall", "(I)I"⟩
abbrev cX6_doSplit : ByteArray := prog_8_method_42_code
def yX6_doSplit : MethodName := ⟨RX6, "doSplit", "(III)I"⟩
abbrev cX6_split : ByteArray := prog_8_method_43_code
def yX6_split : MethodName := ⟨RX6, "split", "(III)I"⟩
abbrev cX6_breakAt : ByteArray := prog_8_method_44_code
def yX6_breakAt : MethodName := ⟨RX6, "breakAt", "()I"⟩
abbrev cX6_greatestDirection : ByteArray := prog_8_method_45_code
def yX6_greatestDirection : MethodName := ⟨RX6, "greatestDirection", "(I)I"⟩
abbrev cX6_whyNoBreak : ByteArray := prog_8_method_46_code
def yX6_whyNoBreak : MethodName := ⟨RX6, "whyNoBreak", "(I)I"⟩
abbrev cX6_doBreak : ByteArray := prog_8_method_47_code
def yX6_doBreak : MethodName := ⟨RX6, "doBreak", "(I)I"⟩
abbrev cX6_breakRing : ByteArray := prog_8_method_48_code
def yX6_breakRing : MethodName := ⟨RX6, "breakRing", "()I"⟩
abbrev cX6_turn : ByteArray := prog_8_method_49_code
def yX6_turn : MethodName := ⟨RX6, "turn", "()I"⟩
abbrev cX6_set : ByteArray := prog_8_method_50_code
def yX6_set : MethodName := ⟨RX6, "set", "(II)I"⟩
abbrev cX6_type : ByteArray := prog_8_method_51_code
def yX6_type : MethodName := ⟨RX6, "type", "(C)I"⟩
abbrev cX6_clearText : ByteArray := prog_8_method_52_code
def yX6_clearText : MethodName := ⟨RX6, "clearText", "()I"⟩
abbrev cX6_sign : ByteArray := prog_8_method_53_code
def yX6_sign : MethodName := ⟨RX6, "sign", "()I"⟩
abbrev cX6_take : ByteArray := prog_8_method_54_code
def yX6_take : MethodName := ⟨RX6, "take", "(Z)V"⟩
abbrev cX6_readNumber : ByteArray := prog_8_method_55_code
def yX6_readNumber : MethodName := ⟨RX6, "readNumber", "(II)I"⟩
abbrev cX6_readBox : ByteArray := prog_8_method_56_code
def yX6_readBox : MethodName := ⟨RX6, "readBox", "()V"⟩
abbrev cX6_findFault : ByteArray := prog_8_method_57_code
def yX6_findFault : MethodName := ⟨RX6, "findFault", "()I"⟩
abbrev cX6_addAll : ByteArray := prog_8_method_58_code
def yX6_addAll : MethodName := ⟨RX6, "addAll", "()I"⟩
abbrev cX6_box : ByteArray := prog_8_method_59_code
def yX6_box : MethodName := ⟨RX6, "box", "(I)I"⟩
abbrev cX6_end : ByteArray := prog_8_method_60_code
def yX6_end : MethodName := ⟨RX6, "end", "(IIZ)I"⟩
abbrev cX6_hiders : ByteArray := prog_8_method_61_code
def yX6_hiders : MethodName := ⟨RX6, "hiders", "(I)I"⟩
abbrev cX6_boxesBelow : ByteArray := prog_8_method_62_code
def yX6_boxesBelow : MethodName := ⟨RX6, "boxesBelow", "(IZ)I"⟩
abbrev cX6_covers : ByteArray := prog_8_method_63_code
def yX6_covers : MethodName := ⟨RX6, "covers", "(III)Z"⟩
abbrev cX6_shadows : ByteArray := prog_8_method_64_code
def yX6_shadows : MethodName := ⟨RX6, "shadows", "(I)I"⟩
abbrev cX6_ofBox : ByteArray := prog_8_method_65_code
def yX6_ofBox : MethodName := ⟨RX6, "ofBox", "(II)I"⟩
abbrev cX6_pair : ByteArray := prog_8_method_66_code
def yX6_pair : MethodName := ⟨RX6, "pair", "(II)I"⟩
abbrev cX6_drawn : ByteArray := prog_8_method_67_code
def yX6_drawn : MethodName := ⟨RX6, "drawn", "(I)I"⟩
abbrev cX6_total : ByteArray := prog_8_method_68_code
def yX6_total : MethodName := ⟨RX6, "total", "(I)I"⟩
abbrev cX6_waitsFor : ByteArray := prog_8_method_69_code
def yX6_waitsFor : MethodName := ⟨RX6, "waitsFor", "(I)I"⟩
abbrev cX6_breaks : ByteArray := prog_8_method_70_code
def yX6_breaks : MethodName := ⟨RX6, "breaks", "()I"⟩
abbrev cX6_drawnWithout : ByteArray := prog_8_method_71_code
def yX6_drawnWithout : MethodName := ⟨RX6, "drawnWithout", "(I)I"⟩
def RJ6 : String := "java/lang/Integer"
def TJ6 : u_T := fun k => match k with
  | _ => ("", "", "", false)
def tyJ6 : Nat → FieldType := fun k => match k with
  | _ => .int
abbrev wsJ60 : List Cond := u_ws RJ6 TJ6 0
theorem nmJ6 : ∀ a, a < 0 → ∀ b, b < 0 → a ≠ b → (TJ6 a).2.1 ≠ (TJ6 b).2.1 := by decide +kernel
theorem tyJ6_ok : ∀ k, k < 0 → parseFieldDescriptor (TJ6 k).2.2.1 = some (tyJ6 k) := by decide +kernel
abbrev cJ6_bitCount_0f7a4 : ByteArray := prog_9_method_49_code
def yJ6_bitCount_0f7a4 : MethodName := ⟨RJ6, "bitCount", "(I)I"⟩
def RJ9 : String := "java/lang/Math"
def TJ9 : u_T := fun k => match k with
  | _ => ("", "", "", false)
def tyJ9 : Nat → FieldType := fun k => match k with
  | _ => .int
abbrev wsJ90 : List Cond := u_ws RJ9 TJ9 0
theorem nmJ9 : ∀ a, a < 0 → ∀ b, b < 0 → a ≠ b → (TJ9 a).2.1 ≠ (TJ9 b).2.1 := by decide +kernel
theorem tyJ9_ok : ∀ k, k < 0 → parseFieldDescriptor (TJ9 k).2.2.1 = some (tyJ9 k) := by decide +kernel
abbrev cJ9_max_7cf53 : ByteArray := prog_10_method_65_code
def yJ9_max_7cf53 : MethodName := ⟨RJ9, "max", "(II)I"⟩
def RJ10 : String := "java/lang/System"
def TJ10 : u_T := fun k => match k with
  | _ => ("", "", "", false)
def tyJ10 : Nat → FieldType := fun k => match k with
  | _ => .int
abbrev wsJ100 : List Cond := u_ws RJ10 TJ10 0
theorem nmJ10 : ∀ a, a < 0 → ∀ b, b < 0 → a ≠ b → (TJ10 a).2.1 ≠ (TJ10 b).2.1 := by decide +kernel
theorem tyJ10_ok : ∀ k, k < 0 → parseFieldDescriptor (TJ10 k).2.2.1 = some (tyJ10 k) := by decide +kernel
def RJ7 : String := "java/util/Arrays"
def TJ7 : u_T := fun k => match k with
  | _ => ("", "", "", false)
def tyJ7 : Nat → FieldType := fun k => match k with
  | _ => .int
abbrev wsJ70 : List Cond := u_ws RJ7 TJ7 0
theorem nmJ7 : ∀ a, a < 0 → ∀ b, b < 0 → a ≠ b → (TJ7 a).2.1 ≠ (TJ7 b).2.1 := by decide +kernel
theorem tyJ7_ok : ∀ k, k < 0 → parseFieldDescriptor (TJ7 k).2.2.1 = some (tyJ7 k) := by decide +kernel
abbrev cJ7_fill_53178 : ByteArray := prog_12_method_103_code
def yJ7_fill_53178 : MethodName := ⟨RJ7, "fill", "([II)V"⟩
def RL : String := "HidingBoxesLaw"
def wsX0_init : List Cond := .code yX0_init cX0_init 1 none :: ([.methodLink RX0 3 objectInit, .instanceMethod objectInit, .code objectInit ⟨#[0xb1]⟩ 1 none, .arrayClass .int, .fieldLink RX0 9 "HidingBoxes$Box" "low" "[I", .fieldLink RX0 15 "HidingBoxes$Box" "high" "[I"] ++ wsX00)
def wsX0_copyFrom : List Cond := .code yX0_copyFrom cX0_copyFrom 2 none :: ([.fieldLink RX0 18 "HidingBoxes$Box" "number" "I", .fieldLink RX0 9 "HidingBoxes$Box" "low" "[I", .methodLink RX0 22 arraycopyName, .native arraycopyName, .static arraycopyName, .initialized "java/lang/System", .fieldLink RX0 15 "HidingBoxes$Box" "high" "[I"] ++ wsX00)
def wsX0_lay : List Cond := .code yX0_lay cX0_lay 4 (some .boolean) :: ([.fieldLink RX0 9 "HidingBoxes$Box" "low" "[I", .fieldLink RX0 15 "HidingBoxes$Box" "high" "[I"] ++ wsX00)
def wsX0_shift : List Cond := .code yX0_shift cX0_shift 3 none :: ([.fieldLink RX0 9 "HidingBoxes$Box" "low" "[I", .fieldLink RX0 15 "HidingBoxes$Box" "high" "[I"] ++ wsX00)
def wsX0_size : List Cond := .code yX0_size cX0_size 2 (some .int) :: ([.fieldLink RX0 15 "HidingBoxes$Box" "high" "[I", .fieldLink RX0 9 "HidingBoxes$Box" "low" "[I"] ++ wsX00)
def wsX0_volume : List Cond := .code yX0_volume cX0_volume 1 (some .int) :: ([.methodLink RX0 28 yX0_size, .instanceMethod yX0_size, .selects RX0 yX0_size yX0_size, .initialized RX0, .code yX0_size cX0_size 2 (some .int), .fieldLink RX0 15 "HidingBoxes$Box" "high" "[I", .fieldLink RX0 9 "HidingBoxes$Box" "low" "[I"] ++ wsX00)
def wsX0_sumOfCorner : List Cond := .code yX0_sumOfCorner cX0_sumOfCorner 1 (some .int) :: ([.fieldLink RX0 9 "HidingBoxes$Box" "low" "[I"] ++ wsX00)
def wsX0_longestDirection : List Cond := .code yX0_longestDirection cX0_longestDirection 3 (some .int) :: ([.methodLink RX0 28 yX0_size, .instanceMethod yX0_size, .selects RX0 yX0_size yX0_size, .initialized RX0, .code yX0_size cX0_size 2 (some .int), .fieldLink RX0 15 "HidingBoxes$Box" "high" "[I", .fieldLink RX0 9 "HidingBoxes$Box" "low" "[I"] ++ wsX00)
def wsX0_meets : List Cond := .code yX0_meets cX0_meets 3 (some .boolean) :: ([.fieldLink RX0 9 "HidingBoxes$Box" "low" "[I", .fieldLink RX0 15 "HidingBoxes$Box" "high" "[I"] ++ wsX00)
def wsX0_cuts : List Cond := .code yX0_cuts cX0_cuts 2 (some .boolean) :: ([.methodLink RX0 32 yX0_meets, .instanceMethod yX0_meets, .selects RX0 yX0_meets yX0_meets, .initialized RX0, .code yX0_meets cX0_meets 3 (some .boolean), .fieldLink RX0 9 "HidingBoxes$Box" "low" "[I", .fieldLink RX0 15 "HidingBoxes$Box" "high" "[I"] ++ wsX00)
def wsX0_meetsInDifference : List Cond := .code yX0_meetsInDifference cX0_meetsInDifference 4 (some .boolean) :: ([.fieldLink RX0 9 "HidingBoxes$Box" "low" "[I", .fieldLink RX0 15 "HidingBoxes$Box" "high" "[I"] ++ wsX00)
def wsX0_overlapsOutlineOf : List Cond := .code yX0_overlapsOutlineOf cX0_overlapsOutlineOf 2 (some .boolean) :: ([.methodLink RX0 36 yX0_meetsInDifference, .instanceMethod yX0_meetsInDifference, .selects RX0 yX0_meetsInDifference yX0_meetsInDifference, .initialized RX0, .code yX0_meetsInDifference cX0_meetsInDifference 4 (some .boolean), .fieldLink RX0 9 "HidingBoxes$Box" "low" "[I", .fieldLink RX0 15 "HidingBoxes$Box" "high" "[I"] ++ wsX00)
def wsX0_directionOfHiding : List Cond := .code yX0_directionOfHiding cX0_directionOfHiding 3 (some .int) :: ([.fieldLink RX0 9 "HidingBoxes$Box" "low" "[I", .fieldLink RX0 15 "HidingBoxes$Box" "high" "[I", .methodLink RX0 40 yX0_overlapsOutlineOf, .instanceMethod yX0_overlapsOutlineOf, .selects RX0 yX0_overlapsOutlineOf yX0_overlapsOutlineOf, .initialized RX0, .code yX0_overlapsOutlineOf cX0_overlapsOutlineOf 2 (some .boolean), .methodLink RX0 36 yX0_meetsInDifference, .instanceMethod yX0_meetsInDifference, .selects RX0 yX0_meetsInDifference yX0_meetsInDifference, .code yX0_meetsInDifference cX0_meetsInDifference 4 (some .boolean)] ++ wsX00)
def wsX0_isBelow : List Cond := .code yX0_isBelow cX0_isBelow 2 (some .boolean) :: ([.fieldLink RX0 15 "HidingBoxes$Box" "high" "[I", .fieldLink RX0 9 "HidingBoxes$Box" "low" "[I", .methodLink RX0 32 yX0_meets, .instanceMethod yX0_meets, .selects RX0 yX0_meets yX0_meets, .initialized RX0, .code yX0_meets cX0_meets 3 (some .boolean)] ++ wsX00)
def wsX0_coversRow : List Cond := .code yX0_coversRow cX0_coversRow 2 (some .boolean) :: ([.fieldLink RX0 9 "HidingBoxes$Box" "low" "[I", .fieldLink RX0 15 "HidingBoxes$Box" "high" "[I"] ++ wsX00)
def wsX0_rowOfCells : List Cond := .code yX0_rowOfCells cX0_rowOfCells 1 (some .int) :: ([.fieldLink RX0 9 "HidingBoxes$Box" "low" "[I", .methodLink RX0 28 yX0_size, .instanceMethod yX0_size, .selects RX0 yX0_size yX0_size, .initialized RX0, .code yX0_size cX0_size 2 (some .int), .fieldLink RX0 15 "HidingBoxes$Box" "high" "[I"] ++ wsX00)
def wsX3_init : List Cond := .code yX3_init cX3_init 2 none :: ([.methodLink RX3 3 objectInit, .instanceMethod objectInit, .code objectInit ⟨#[0xb1]⟩ 1 none, .classLink RX3 9 RX0, .fieldLink RX3 11 "HidingBoxes$Space" "boxes" "[LHidingBoxes$Box;", .instantiable RX0 3, .initialized RX0, .instanceMethod yX0_init, .code yX0_init cX0_init 1 none, .methodLink RX0 3 objectInit, .arrayClass .int, .fieldLink RX0 9 "HidingBoxes$Box" "low" "[I", .fieldLink RX0 15 "HidingBoxes$Box" "high" "[I"] ++ wsX30 ++ wsX00)
def wsX1_init : List Cond := .code yX1_init cX1_init 2 none :: ([.methodLink RX1 3 objectInit, .instanceMethod objectInit, .code objectInit ⟨#[0xb1]⟩ 1 none, .classLink RX1 9 RX3, .fieldLink RX1 11 "HidingBoxes$History" "states" "[LHidingBoxes$Space;", .instantiable RX3 5, .initialized RX3, .methodLink RX1 17 yX3_init, .instanceMethod yX3_init, .code yX3_init cX3_init 2 none, .methodLink RX3 3 objectInit, .classLink RX3 9 RX0, .fieldLink RX3 11 "HidingBoxes$Space" "boxes" "[LHidingBoxes$Box;", .instantiable RX0 3, .initialized RX0, .instanceMethod yX0_init, .code yX0_init cX0_init 1 none, .methodLink RX0 3 objectInit, .arrayClass .int, .fieldLink RX0 9 "HidingBoxes$Box" "low" "[I", .fieldLink RX0 15 "HidingBoxes$Box" "high" "[I"] ++ wsX10 ++ wsX30 ++ wsX00)
def wsX1_dropOldest : List Cond := .code yX1_dropOldest cX1_dropOldest 3 none :: ([.fieldLink RX1 11 "HidingBoxes$History" "states" "[LHidingBoxes$Space;", .fieldLink RX1 18 "HidingBoxes$History" "count" "I"] ++ wsX10)
def wsX3_copyFrom : List Cond := .code yX3_copyFrom cX3_copyFrom 3 none :: ([.fieldLink RX3 18 "HidingBoxes$Space" "count" "I", .fieldLink RX3 22 "HidingBoxes$Space" "nextNumber" "I", .fieldLink RX3 25 "HidingBoxes$Space" "splits" "I", .fieldLink RX3 28 "HidingBoxes$Space" "rule" "I", .fieldLink RX3 11 "HidingBoxes$Space" "boxes" "[LHidingBoxes$Box;", .methodLink RX3 31 yX0_copyFrom, .instanceMethod yX0_copyFrom, .selects RX0 yX0_copyFrom yX0_copyFrom, .initialized RX0, .code yX0_copyFrom cX0_copyFrom 2 none, .fieldLink RX0 18 "HidingBoxes$Box" "number" "I", .fieldLink RX0 9 "HidingBoxes$Box" "low" "[I", .methodLink RX0 22 arraycopyName, .native arraycopyName, .static arraycopyName, .initialized "java/lang/System", .fieldLink RX0 15 "HidingBoxes$Box" "high" "[I"] ++ wsX30 ++ wsX00)
def wsX1_remember_r1 : List Cond := [Cond.fieldLink RX1 18 "HidingBoxes$History" "count" "I", Cond.fieldLink RX1 11 "HidingBoxes$History" "states" "[LHidingBoxes$Space;", Cond.methodLink RX1 22 yX1_dropOldest, Cond.instanceMethod yX1_dropOldest, Cond.selects RX1 yX1_dropOldest yX1_dropOldest, Cond.initialized RX1, Cond.code yX1_dropOldest cX1_dropOldest 3 none, Cond.methodLink RX1 25 yX3_copyFrom, Cond.instanceMethod yX3_copyFrom, Cond.selects RX3 yX3_copyFrom yX3_copyFrom, Cond.initialized RX3, Cond.code yX3_copyFrom cX3_copyFrom 3 none, Cond.fieldLink RX3 18 "HidingBoxes$Space" "count" "I", Cond.fieldLink RX3 22 "HidingBoxes$Space" "nextNumber" "I", Cond.fieldLink RX3 25 "HidingBoxes$Space" "splits" "I", Cond.fieldLink RX3 28 "HidingBoxes$Space" "rule" "I", Cond.fieldLink RX3 11 "HidingBoxes$Space" "boxes" "[LHidingBoxes$Box;", Cond.methodLink RX3 31 yX0_copyFrom, Cond.instanceMethod yX0_copyFrom, Cond.selects RX0 yX0_copyFrom yX0_copyFrom, Cond.initialized RX0, Cond.code yX0_copyFrom cX0_copyFrom 2 none, Cond.fieldLink RX0 18 "HidingBoxes$Box" "number" "I", Cond.fieldLink RX0 9 "HidingBoxes$Box" "low" "[I"]
def wsX1_remember_r2 : List Cond := [Cond.methodLink RX0 22 arraycopyName, Cond.native arraycopyName, Cond.static arraycopyName, Cond.initialized "java/lang/System", Cond.fieldLink RX0 15 "HidingBoxes$Box" "high" "[I"]
def wsX1_remember : List Cond := .code yX1_remember cX1_remember 2 none :: ((wsX1_remember_r1 ++ wsX1_remember_r2) ++ wsX10 ++ wsX30 ++ wsX00)
def wsX1_recall : List Cond := .code yX1_recall cX1_recall 2 none :: ([.fieldLink RX1 18 "HidingBoxes$History" "count" "I", .fieldLink RX1 11 "HidingBoxes$History" "states" "[LHidingBoxes$Space;", .methodLink RX1 25 yX3_copyFrom, .instanceMethod yX3_copyFrom, .selects RX3 yX3_copyFrom yX3_copyFrom, .initialized RX3, .code yX3_copyFrom cX3_copyFrom 3 none, .fieldLink RX3 18 "HidingBoxes$Space" "count" "I", .fieldLink RX3 22 "HidingBoxes$Space" "nextNumber" "I", .fieldLink RX3 25 "HidingBoxes$Space" "splits" "I", .fieldLink RX3 28 "HidingBoxes$Space" "rule" "I", .fieldLink RX3 11 "HidingBoxes$Space" "boxes" "[LHidingBoxes$Box;", .methodLink RX3 31 yX0_copyFrom, .instanceMethod yX0_copyFrom, .selects RX0 yX0_copyFrom yX0_copyFrom, .initialized RX0, .code yX0_copyFrom cX0_copyFrom 2 none, .fieldLink RX0 18 "HidingBoxes$Box" "number" "I", .fieldLink RX0 9 "HidingBoxes$Box" "low" "[I", .methodLink RX0 22 arraycopyName, .native arraycopyName, .static arraycopyName, .initialized "java/lang/System", .fieldLink RX0 15 "HidingBoxes$Box" "high" "[I"] ++ wsX10 ++ wsX30 ++ wsX00)
def wsX2_init : List Cond := .code yX2_init cX2_init 1 none :: ([.methodLink RX2 3 objectInit, .instanceMethod objectInit, .code objectInit ⟨#[0xb1]⟩ 1 none, .arrayClass .int, .fieldLink RX2 9 "HidingBoxes$Picture" "hides" "[I", .fieldLink RX2 15 "HidingBoxes$Picture" "chains" "[I", .fieldLink RX2 18 "HidingBoxes$Picture" "order" "[I", .fieldLink RX2 21 "HidingBoxes$Picture" "layers" "[I"] ++ wsX20)
def wsX2_bitsHiddenBy : List Cond := .code yX2_bitsHiddenBy cX2_bitsHiddenBy 4 (some .int) :: ([.fieldLink RX2 24 "HidingBoxes$Space" "count" "I", .fieldLink RX2 42 "HidingBoxes$Space" "boxes" "[LHidingBoxes$Box;", .methodLink RX2 46 yX0_directionOfHiding, .instanceMethod yX0_directionOfHiding, .selects RX0 yX0_directionOfHiding yX0_directionOfHiding, .initialized RX0, .code yX0_directionOfHiding cX0_directionOfHiding 3 (some .int), .fieldLink RX0 9 "HidingBoxes$Box" "low" "[I", .fieldLink RX0 15 "HidingBoxes$Box" "high" "[I", .methodLink RX0 40 yX0_overlapsOutlineOf, .instanceMethod yX0_overlapsOutlineOf, .selects RX0 yX0_overlapsOutlineOf yX0_overlapsOutlineOf, .code yX0_overlapsOutlineOf cX0_overlapsOutlineOf 2 (some .boolean), .methodLink RX0 36 yX0_meetsInDifference, .instanceMethod yX0_meetsInDifference, .selects RX0 yX0_meetsInDifference yX0_meetsInDifference, .code yX0_meetsInDifference cX0_meetsInDifference 4 (some .boolean)] ++ wsX30 ++ wsX00)
def wsX2_hasBit : List Cond := .code yX2_hasBit cX2_hasBit 2 (some .boolean) :: ([])
def wsX2_followChains : List Cond := .code yX2_followChains cX2_followChains 3 none :: ([.fieldLink RX2 9 "HidingBoxes$Picture" "hides" "[I", .fieldLink RX2 15 "HidingBoxes$Picture" "chains" "[I", .methodLink RX2 52 arraycopyName, .native arraycopyName, .static arraycopyName, .initialized "java/lang/System", .fieldLink RX2 30 "HidingBoxes$Picture" "count" "I", .methodLink RX2 58 yX2_hasBit, .static yX2_hasBit, .initialized RX2, .code yX2_hasBit cX2_hasBit 2 (some .boolean)] ++ wsX20)
def wsJ7_fill_53178 : List Cond := .code yJ7_fill_53178 cJ7_fill_53178 4 none :: ([])
def wsX3_weightInDrawing : List Cond := .code yX3_weightInDrawing cX3_weightInDrawing 2 (some .int) :: ([.fieldLink RX3 28 "HidingBoxes$Space" "rule" "I", .fieldLink RX3 11 "HidingBoxes$Space" "boxes" "[LHidingBoxes$Box;", .methodLink RX3 57 yX0_sumOfCorner, .instanceMethod yX0_sumOfCorner, .selects RX0 yX0_sumOfCorner yX0_sumOfCorner, .initialized RX0, .code yX0_sumOfCorner cX0_sumOfCorner 1 (some .int), .fieldLink RX0 9 "HidingBoxes$Box" "low" "[I", .methodLink RX3 61 yX0_volume, .instanceMethod yX0_volume, .selects RX0 yX0_volume yX0_volume, .code yX0_volume cX0_volume 1 (some .int), .methodLink RX0 28 yX0_size, .instanceMethod yX0_size, .selects RX0 yX0_size yX0_size, .code yX0_size cX0_size 2 (some .int), .fieldLink RX0 15 "HidingBoxes$Box" "high" "[I"] ++ wsX30 ++ wsX00)
def wsX2_nextToDraw_r1 : List Cond := [Cond.fieldLink RX2 30 "HidingBoxes$Picture" "count" "I", Cond.fieldLink RX2 68 "HidingBoxes$Picture" "drawnBits" "I", Cond.fieldLink RX2 9 "HidingBoxes$Picture" "hides" "[I", Cond.methodLink RX2 58 yX2_hasBit, Cond.static yX2_hasBit, Cond.initialized RX2, Cond.code yX2_hasBit cX2_hasBit 2 (some .boolean), Cond.methodLink RX2 82 yX3_weightInDrawing, Cond.instanceMethod yX3_weightInDrawing, Cond.selects RX3 yX3_weightInDrawing yX3_weightInDrawing, Cond.initialized RX3, Cond.code yX3_weightInDrawing cX3_weightInDrawing 2 (some .int), Cond.fieldLink RX3 28 "HidingBoxes$Space" "rule" "I", Cond.fieldLink RX3 11 "HidingBoxes$Space" "boxes" "[LHidingBoxes$Box;", Cond.methodLink RX3 57 yX0_sumOfCorner, Cond.instanceMethod yX0_sumOfCorner, Cond.selects RX0 yX0_sumOfCorner yX0_sumOfCorner, Cond.initialized RX0, Cond.code yX0_sumOfCorner cX0_sumOfCorner 1 (some .int), Cond.fieldLink RX0 9 "HidingBoxes$Box" "low" "[I", Cond.methodLink RX3 61 yX0_volume, Cond.instanceMethod yX0_volume, Cond.selects RX0 yX0_volume yX0_volume, Cond.code yX0_volume cX0_volume 1 (some .int)]
def wsX2_nextToDraw_r2 : List Cond := [Cond.methodLink RX0 28 yX0_size, Cond.instanceMethod yX0_size, Cond.selects RX0 yX0_size yX0_size, Cond.code yX0_size cX0_size 2 (some .int), Cond.fieldLink RX0 15 "HidingBoxes$Box" "high" "[I"]
def wsX2_nextToDraw : List Cond := .code yX2_nextToDraw cX2_nextToDraw 5 (some .int) :: ((wsX2_nextToDraw_r1 ++ wsX2_nextToDraw_r2) ++ wsX20 ++ wsX30 ++ wsX00)
def wsX2_layerAbove : List Cond := .code yX2_layerAbove cX2_layerAbove 4 (some .int) :: ([.fieldLink RX2 30 "HidingBoxes$Picture" "count" "I", .fieldLink RX2 21 "HidingBoxes$Picture" "layers" "[I", .methodLink RX2 85 Lib.Math.max.name, .static Lib.Math.max.name, .initialized "java/lang/Math", .code Lib.Math.max.name Lib.Math.max.code 2 (some .int), .methodLink RX2 58 yX2_hasBit, .static yX2_hasBit, .initialized RX2, .code yX2_hasBit cX2_hasBit 2 (some .boolean)] ++ wsX20)
def wsX2_draw_r1 : List Cond := [Cond.fieldLink RX2 21 "HidingBoxes$Picture" "layers" "[I", Cond.fieldLink RX2 68 "HidingBoxes$Picture" "drawnBits" "I", Cond.fieldLink RX2 71 "HidingBoxes$Picture" "drawnCount" "I", Cond.fieldLink RX2 30 "HidingBoxes$Picture" "count" "I", Cond.fieldLink RX2 18 "HidingBoxes$Picture" "order" "[I", Cond.fieldLink RX2 9 "HidingBoxes$Picture" "hides" "[I", Cond.methodLink RX2 62 yJ7_fill_53178, Cond.static yJ7_fill_53178, Cond.initialized RJ7, Cond.code yJ7_fill_53178 cJ7_fill_53178 4 none, Cond.methodLink RX2 74 yX2_nextToDraw, Cond.instanceMethod yX2_nextToDraw, Cond.selects RX2 yX2_nextToDraw yX2_nextToDraw, Cond.initialized RX2, Cond.code yX2_nextToDraw cX2_nextToDraw 5 (some .int), Cond.methodLink RX2 58 yX2_hasBit, Cond.static yX2_hasBit, Cond.code yX2_hasBit cX2_hasBit 2 (some .boolean), Cond.methodLink RX2 82 yX3_weightInDrawing, Cond.instanceMethod yX3_weightInDrawing, Cond.selects RX3 yX3_weightInDrawing yX3_weightInDrawing, Cond.initialized RX3, Cond.code yX3_weightInDrawing cX3_weightInDrawing 2 (some .int), Cond.fieldLink RX3 28 "HidingBoxes$Space" "rule" "I"]
def wsX2_draw_r2 : List Cond := [Cond.fieldLink RX3 11 "HidingBoxes$Space" "boxes" "[LHidingBoxes$Box;", Cond.methodLink RX3 57 yX0_sumOfCorner, Cond.instanceMethod yX0_sumOfCorner, Cond.selects RX0 yX0_sumOfCorner yX0_sumOfCorner, Cond.initialized RX0, Cond.code yX0_sumOfCorner cX0_sumOfCorner 1 (some .int), Cond.fieldLink RX0 9 "HidingBoxes$Box" "low" "[I", Cond.methodLink RX3 61 yX0_volume, Cond.instanceMethod yX0_volume, Cond.selects RX0 yX0_volume yX0_volume, Cond.code yX0_volume cX0_volume 1 (some .int), Cond.methodLink RX0 28 yX0_size, Cond.instanceMethod yX0_size, Cond.selects RX0 yX0_size yX0_size, Cond.code yX0_size cX0_size 2 (some .int), Cond.fieldLink RX0 15 "HidingBoxes$Box" "high" "[I", Cond.methodLink RX2 78 yX2_layerAbove, Cond.instanceMethod yX2_layerAbove, Cond.selects RX2 yX2_layerAbove yX2_layerAbove, Cond.code yX2_layerAbove cX2_layerAbove 4 (some .int), Cond.methodLink RX2 85 Lib.Math.max.name, Cond.static Lib.Math.max.name, Cond.initialized "java/lang/Math", Cond.code Lib.Math.max.name Lib.Math.max.code 2 (some .int)]
def wsX2_draw : List Cond := .code yX2_draw cX2_draw 4 none :: ((wsX2_draw_r1 ++ wsX2_draw_r2) ++ wsX20 ++ wsX30 ++ wsX00)
def wsX2_look_r1 : List Cond := [Cond.fieldLink RX2 24 "HidingBoxes$Space" "count" "I", Cond.fieldLink RX2 30 "HidingBoxes$Picture" "count" "I", Cond.fieldLink RX2 9 "HidingBoxes$Picture" "hides" "[I", Cond.methodLink RX2 31 yX2_bitsHiddenBy, Cond.static yX2_bitsHiddenBy, Cond.initialized RX2, Cond.code yX2_bitsHiddenBy cX2_bitsHiddenBy 4 (some .int), Cond.fieldLink RX2 42 "HidingBoxes$Space" "boxes" "[LHidingBoxes$Box;", Cond.methodLink RX2 46 yX0_directionOfHiding, Cond.instanceMethod yX0_directionOfHiding, Cond.selects RX0 yX0_directionOfHiding yX0_directionOfHiding, Cond.initialized RX0, Cond.code yX0_directionOfHiding cX0_directionOfHiding 3 (some .int), Cond.fieldLink RX0 9 "HidingBoxes$Box" "low" "[I", Cond.fieldLink RX0 15 "HidingBoxes$Box" "high" "[I", Cond.methodLink RX0 40 yX0_overlapsOutlineOf, Cond.instanceMethod yX0_overlapsOutlineOf, Cond.selects RX0 yX0_overlapsOutlineOf yX0_overlapsOutlineOf, Cond.code yX0_overlapsOutlineOf cX0_overlapsOutlineOf 2 (some .boolean), Cond.methodLink RX0 36 yX0_meetsInDifference, Cond.instanceMethod yX0_meetsInDifference, Cond.selects RX0 yX0_meetsInDifference yX0_meetsInDifference, Cond.code yX0_meetsInDifference cX0_meetsInDifference 4 (some .boolean), Cond.methodLink RX2 35 yX2_followChains]
def wsX2_look_r2 : List Cond := [Cond.instanceMethod yX2_followChains, Cond.selects RX2 yX2_followChains yX2_followChains, Cond.code yX2_followChains cX2_followChains 3 none, Cond.fieldLink RX2 15 "HidingBoxes$Picture" "chains" "[I", Cond.methodLink RX2 52 arraycopyName, Cond.native arraycopyName, Cond.static arraycopyName, Cond.initialized "java/lang/System", Cond.methodLink RX2 58 yX2_hasBit, Cond.static yX2_hasBit, Cond.code yX2_hasBit cX2_hasBit 2 (some .boolean), Cond.methodLink RX2 38 yX2_draw, Cond.instanceMethod yX2_draw, Cond.selects RX2 yX2_draw yX2_draw, Cond.code yX2_draw cX2_draw 4 none, Cond.fieldLink RX2 21 "HidingBoxes$Picture" "layers" "[I", Cond.fieldLink RX2 68 "HidingBoxes$Picture" "drawnBits" "I", Cond.fieldLink RX2 71 "HidingBoxes$Picture" "drawnCount" "I", Cond.fieldLink RX2 18 "HidingBoxes$Picture" "order" "[I", Cond.methodLink RX2 62 yJ7_fill_53178, Cond.static yJ7_fill_53178, Cond.initialized RJ7, Cond.code yJ7_fill_53178 cJ7_fill_53178 4 none, Cond.methodLink RX2 74 yX2_nextToDraw]
def wsX2_look_r3 : List Cond := [Cond.instanceMethod yX2_nextToDraw, Cond.selects RX2 yX2_nextToDraw yX2_nextToDraw, Cond.code yX2_nextToDraw cX2_nextToDraw 5 (some .int), Cond.methodLink RX2 82 yX3_weightInDrawing, Cond.instanceMethod yX3_weightInDrawing, Cond.selects RX3 yX3_weightInDrawing yX3_weightInDrawing, Cond.initialized RX3, Cond.code yX3_weightInDrawing cX3_weightInDrawing 2 (some .int), Cond.fieldLink RX3 28 "HidingBoxes$Space" "rule" "I", Cond.fieldLink RX3 11 "HidingBoxes$Space" "boxes" "[LHidingBoxes$Box;", Cond.methodLink RX3 57 yX0_sumOfCorner, Cond.instanceMethod yX0_sumOfCorner, Cond.selects RX0 yX0_sumOfCorner yX0_sumOfCorner, Cond.code yX0_sumOfCorner cX0_sumOfCorner 1 (some .int), Cond.methodLink RX3 61 yX0_volume, Cond.instanceMethod yX0_volume, Cond.selects RX0 yX0_volume yX0_volume, Cond.code yX0_volume cX0_volume 1 (some .int), Cond.methodLink RX0 28 yX0_size, Cond.instanceMethod yX0_size, Cond.selects RX0 yX0_size yX0_size, Cond.code yX0_size cX0_size 2 (some .int), Cond.methodLink RX2 78 yX2_layerAbove, Cond.instanceMethod yX2_layerAbove]
def wsX2_look_r4 : List Cond := [Cond.selects RX2 yX2_layerAbove yX2_layerAbove, Cond.code yX2_layerAbove cX2_layerAbove 4 (some .int), Cond.methodLink RX2 85 Lib.Math.max.name, Cond.static Lib.Math.max.name, Cond.initialized "java/lang/Math", Cond.code Lib.Math.max.name Lib.Math.max.code 2 (some .int)]
def wsX2_look : List Cond := .code yX2_look cX2_look 3 none :: ((wsX2_look_r1 ++ (wsX2_look_r2 ++ (wsX2_look_r3 ++ wsX2_look_r4))) ++ wsX30 ++ wsX20 ++ wsX00)
def wsJ6_bitCount_0f7a4 : List Cond := .code yJ6_bitCount_0f7a4 cJ6_bitCount_0f7a4 1 (some .int) :: ([.constant RJ6 265 (1431655765), .constant RJ6 266 (858993459), .constant RJ6 267 (252645135)])
def wsX2_hiddenBy : List Cond := .code yX2_hiddenBy cX2_hiddenBy 2 (some .int) :: ([.fieldLink RX2 9 "HidingBoxes$Picture" "hides" "[I", .methodLink RX2 91 yJ6_bitCount_0f7a4, .static yJ6_bitCount_0f7a4, .initialized RJ6, .code yJ6_bitCount_0f7a4 cJ6_bitCount_0f7a4 1 (some .int), .constant RJ6 265 (1431655765), .constant RJ6 266 (858993459), .constant RJ6 267 (252645135)] ++ wsX20)
def wsX2_hidersOf : List Cond := .code yX2_hidersOf cX2_hidersOf 4 (some .int) :: ([.fieldLink RX2 30 "HidingBoxes$Picture" "count" "I", .fieldLink RX2 9 "HidingBoxes$Picture" "hides" "[I", .methodLink RX2 58 yX2_hasBit, .static yX2_hasBit, .initialized RX2, .code yX2_hasBit cX2_hasBit 2 (some .boolean)] ++ wsX20)
def wsX2_hidings : List Cond := .code yX2_hidings cX2_hidings 3 (some .int) :: ([.fieldLink RX2 30 "HidingBoxes$Picture" "count" "I", .methodLink RX2 96 yX2_hiddenBy, .instanceMethod yX2_hiddenBy, .selects RX2 yX2_hiddenBy yX2_hiddenBy, .initialized RX2, .code yX2_hiddenBy cX2_hiddenBy 2 (some .int), .fieldLink RX2 9 "HidingBoxes$Picture" "hides" "[I", .methodLink RX2 91 yJ6_bitCount_0f7a4, .static yJ6_bitCount_0f7a4, .initialized RJ6, .code yJ6_bitCount_0f7a4 cJ6_bitCount_0f7a4 1 (some .int), .constant RJ6 265 (1431655765), .constant RJ6 266 (858993459), .constant RJ6 267 (252645135)] ++ wsX20)
def wsX2_hidingsNotIn : List Cond := .code yX2_hidingsNotIn cX2_hidingsNotIn 4 (some .int) :: ([.fieldLink RX2 30 "HidingBoxes$Picture" "count" "I", .fieldLink RX2 9 "HidingBoxes$Picture" "hides" "[I", .methodLink RX2 91 yJ6_bitCount_0f7a4, .static yJ6_bitCount_0f7a4, .initialized RJ6, .code yJ6_bitCount_0f7a4 cJ6_bitCount_0f7a4 1 (some .int), .constant RJ6 265 (1431655765), .constant RJ6 266 (858993459), .constant RJ6 267 (252645135)] ++ wsX20)
def wsX2_slotDrawn : List Cond := .code yX2_slotDrawn cX2_slotDrawn 2 (some .int) :: ([.fieldLink RX2 71 "HidingBoxes$Picture" "drawnCount" "I", .fieldLink RX2 18 "HidingBoxes$Picture" "order" "[I"] ++ wsX20)
def wsX2_greatestLayer : List Cond := .code yX2_greatestLayer cX2_greatestLayer 3 (some .int) :: ([.fieldLink RX2 30 "HidingBoxes$Picture" "count" "I", .fieldLink RX2 21 "HidingBoxes$Picture" "layers" "[I", .methodLink RX2 85 Lib.Math.max.name, .static Lib.Math.max.name, .initialized "java/lang/Math", .code Lib.Math.max.name Lib.Math.max.code 2 (some .int)] ++ wsX20)
def wsX2_firstNotDrawnUnder : List Cond := .code yX2_firstNotDrawnUnder cX2_firstNotDrawnUnder 3 (some .int) :: ([.fieldLink RX2 30 "HidingBoxes$Picture" "count" "I", .fieldLink RX2 9 "HidingBoxes$Picture" "hides" "[I", .fieldLink RX2 68 "HidingBoxes$Picture" "drawnBits" "I", .methodLink RX2 58 yX2_hasBit, .static yX2_hasBit, .initialized RX2, .code yX2_hasBit cX2_hasBit 2 (some .boolean)] ++ wsX20)
def wsX2_isInRing : List Cond := .code yX2_isInRing cX2_isInRing 2 (some .boolean) :: ([.fieldLink RX2 15 "HidingBoxes$Picture" "chains" "[I", .methodLink RX2 58 yX2_hasBit, .static yX2_hasBit, .initialized RX2, .code yX2_hasBit cX2_hasBit 2 (some .boolean)] ++ wsX20)
def wsX2_boxesInRings : List Cond := .code yX2_boxesInRings cX2_boxesInRings 3 (some .int) :: ([.fieldLink RX2 30 "HidingBoxes$Picture" "count" "I", .methodLink RX2 99 yX2_isInRing, .instanceMethod yX2_isInRing, .selects RX2 yX2_isInRing yX2_isInRing, .initialized RX2, .code yX2_isInRing cX2_isInRing 2 (some .boolean), .fieldLink RX2 15 "HidingBoxes$Picture" "chains" "[I", .methodLink RX2 58 yX2_hasBit, .static yX2_hasBit, .code yX2_hasBit cX2_hasBit 2 (some .boolean)] ++ wsX20)
def wsX2_bitsHiddenByAll : List Cond := .code yX2_bitsHiddenByAll cX2_bitsHiddenByAll 4 (some .int) :: ([.fieldLink RX2 30 "HidingBoxes$Picture" "count" "I", .fieldLink RX2 9 "HidingBoxes$Picture" "hides" "[I", .methodLink RX2 58 yX2_hasBit, .static yX2_hasBit, .initialized RX2, .code yX2_hasBit cX2_hasBit 2 (some .boolean)] ++ wsX20)
def wsX2_shortestRingOf : List Cond := .code yX2_shortestRingOf cX2_shortestRingOf 4 (some .int) :: ([.fieldLink RX2 9 "HidingBoxes$Picture" "hides" "[I", .fieldLink RX2 30 "HidingBoxes$Picture" "count" "I", .methodLink RX2 58 yX2_hasBit, .static yX2_hasBit, .initialized RX2, .code yX2_hasBit cX2_hasBit 2 (some .boolean), .methodLink RX2 106 yX2_bitsHiddenByAll, .instanceMethod yX2_bitsHiddenByAll, .selects RX2 yX2_bitsHiddenByAll yX2_bitsHiddenByAll, .code yX2_bitsHiddenByAll cX2_bitsHiddenByAll 4 (some .int)] ++ wsX20)
def wsX2_shortestRing : List Cond := .code yX2_shortestRing cX2_shortestRing 4 (some .int) :: ([.fieldLink RX2 30 "HidingBoxes$Picture" "count" "I", .methodLink RX2 103 yX2_shortestRingOf, .instanceMethod yX2_shortestRingOf, .selects RX2 yX2_shortestRingOf yX2_shortestRingOf, .initialized RX2, .code yX2_shortestRingOf cX2_shortestRingOf 4 (some .int), .fieldLink RX2 9 "HidingBoxes$Picture" "hides" "[I", .methodLink RX2 58 yX2_hasBit, .static yX2_hasBit, .code yX2_hasBit cX2_hasBit 2 (some .boolean), .methodLink RX2 106 yX2_bitsHiddenByAll, .instanceMethod yX2_bitsHiddenByAll, .selects RX2 yX2_bitsHiddenByAll yX2_bitsHiddenByAll, .code yX2_bitsHiddenByAll cX2_bitsHiddenByAll 4 (some .int)] ++ wsX20)
def wsX2_greatestInRings : List Cond := .code yX2_greatestInRings cX2_greatestInRings 4 (some .int) :: ([.fieldLink RX2 30 "HidingBoxes$Picture" "count" "I", .fieldLink RX2 42 "HidingBoxes$Space" "boxes" "[LHidingBoxes$Box;", .methodLink RX2 99 yX2_isInRing, .instanceMethod yX2_isInRing, .selects RX2 yX2_isInRing yX2_isInRing, .initialized RX2, .code yX2_isInRing cX2_isInRing 2 (some .boolean), .fieldLink RX2 15 "HidingBoxes$Picture" "chains" "[I", .methodLink RX2 58 yX2_hasBit, .static yX2_hasBit, .code yX2_hasBit cX2_hasBit 2 (some .boolean), .methodLink RX2 109 yX0_volume, .instanceMethod yX0_volume, .selects RX0 yX0_volume yX0_volume, .initialized RX0, .code yX0_volume cX0_volume 1 (some .int), .methodLink RX0 28 yX0_size, .instanceMethod yX0_size, .selects RX0 yX0_size yX0_size, .code yX0_size cX0_size 2 (some .int), .fieldLink RX0 15 "HidingBoxes$Box" "high" "[I", .fieldLink RX0 9 "HidingBoxes$Box" "low" "[I"] ++ wsX20 ++ wsX30 ++ wsX00)
def wsX3_isFull : List Cond := .code yX3_isFull cX3_isFull 1 (some .boolean) :: ([.fieldLink RX3 18 "HidingBoxes$Space" "count" "I"] ++ wsX30)
def wsX3_slotOf : List Cond := .code yX3_slotOf cX3_slotOf 3 (some .int) :: ([.fieldLink RX3 18 "HidingBoxes$Space" "count" "I", .fieldLink RX3 11 "HidingBoxes$Space" "boxes" "[LHidingBoxes$Box;", .fieldLink RX3 35 "HidingBoxes$Box" "number" "I"] ++ wsX30 ++ wsX00)
def wsX3_isCutBy : List Cond := .code yX3_isCutBy cX3_isCutBy 4 (some .boolean) :: ([.fieldLink RX3 18 "HidingBoxes$Space" "count" "I", .fieldLink RX3 11 "HidingBoxes$Space" "boxes" "[LHidingBoxes$Box;", .methodLink RX3 38 yX0_cuts, .instanceMethod yX0_cuts, .selects RX0 yX0_cuts yX0_cuts, .initialized RX0, .code yX0_cuts cX0_cuts 2 (some .boolean), .methodLink RX0 32 yX0_meets, .instanceMethod yX0_meets, .selects RX0 yX0_meets yX0_meets, .code yX0_meets cX0_meets 3 (some .boolean), .fieldLink RX0 9 "HidingBoxes$Box" "low" "[I", .fieldLink RX0 15 "HidingBoxes$Box" "high" "[I"] ++ wsX30 ++ wsX00)
def wsX3_append : List Cond := .code yX3_append cX3_append 3 (some .int) :: ([.fieldLink RX3 11 "HidingBoxes$Space" "boxes" "[LHidingBoxes$Box;", .fieldLink RX3 18 "HidingBoxes$Space" "count" "I", .fieldLink RX3 22 "HidingBoxes$Space" "nextNumber" "I", .fieldLink RX3 35 "HidingBoxes$Box" "number" "I", .methodLink RX3 42 yX3_isFull, .instanceMethod yX3_isFull, .selects RX3 yX3_isFull yX3_isFull, .initialized RX3, .code yX3_isFull cX3_isFull 1 (some .boolean), .methodLink RX3 31 yX0_copyFrom, .instanceMethod yX0_copyFrom, .selects RX0 yX0_copyFrom yX0_copyFrom, .initialized RX0, .code yX0_copyFrom cX0_copyFrom 2 none, .fieldLink RX0 18 "HidingBoxes$Box" "number" "I", .fieldLink RX0 9 "HidingBoxes$Box" "low" "[I", .methodLink RX0 22 arraycopyName, .native arraycopyName, .static arraycopyName, .initialized "java/lang/System", .fieldLink RX0 15 "HidingBoxes$Box" "high" "[I"] ++ wsX30 ++ wsX00)
def wsX3_takeOut : List Cond := .code yX3_takeOut cX3_takeOut 3 none :: ([.fieldLink RX3 18 "HidingBoxes$Space" "count" "I", .fieldLink RX3 11 "HidingBoxes$Space" "boxes" "[LHidingBoxes$Box;", .methodLink RX3 31 yX0_copyFrom, .instanceMethod yX0_copyFrom, .selects RX0 yX0_copyFrom yX0_copyFrom, .initialized RX0, .code yX0_copyFrom cX0_copyFrom 2 none, .fieldLink RX0 18 "HidingBoxes$Box" "number" "I", .fieldLink RX0 9 "HidingBoxes$Box" "low" "[I", .methodLink RX0 22 arraycopyName, .native arraycopyName, .static arraycopyName, .initialized "java/lang/System", .fieldLink RX0 15 "HidingBoxes$Box" "high" "[I"] ++ wsX30 ++ wsX00)
def wsX3_cutInTwo_r1 : List Cond := [Cond.fieldLink RX3 11 "HidingBoxes$Space" "boxes" "[LHidingBoxes$Box;", Cond.fieldLink RX3 18 "HidingBoxes$Space" "count" "I", Cond.fieldLink RX3 50 "HidingBoxes$Box" "low" "[I", Cond.fieldLink RX3 54 "HidingBoxes$Box" "high" "[I", Cond.fieldLink RX3 25 "HidingBoxes$Space" "splits" "I", Cond.methodLink RX3 46 yX3_append, Cond.instanceMethod yX3_append, Cond.selects RX3 yX3_append yX3_append, Cond.initialized RX3, Cond.code yX3_append cX3_append 3 (some .int), Cond.fieldLink RX3 22 "HidingBoxes$Space" "nextNumber" "I", Cond.fieldLink RX3 35 "HidingBoxes$Box" "number" "I", Cond.methodLink RX3 42 yX3_isFull, Cond.instanceMethod yX3_isFull, Cond.selects RX3 yX3_isFull yX3_isFull, Cond.code yX3_isFull cX3_isFull 1 (some .boolean), Cond.methodLink RX3 31 yX0_copyFrom, Cond.instanceMethod yX0_copyFrom, Cond.selects RX0 yX0_copyFrom yX0_copyFrom, Cond.initialized RX0, Cond.code yX0_copyFrom cX0_copyFrom 2 none, Cond.fieldLink RX0 18 "HidingBoxes$Box" "number" "I", Cond.fieldLink RX0 9 "HidingBoxes$Box" "low" "[I", Cond.methodLink RX0 22 arraycopyName]
def wsX3_cutInTwo_r2 : List Cond := [Cond.native arraycopyName, Cond.static arraycopyName, Cond.initialized "java/lang/System", Cond.fieldLink RX0 15 "HidingBoxes$Box" "high" "[I"]
def wsX3_cutInTwo : List Cond := .code yX3_cutInTwo cX3_cutInTwo 5 (some .int) :: ((wsX3_cutInTwo_r1 ++ wsX3_cutInTwo_r2) ++ wsX30 ++ wsX00)
def wsX3_quarterTurn : List Cond := .code yX3_quarterTurn cX3_quarterTurn 5 none :: ([.fieldLink RX3 18 "HidingBoxes$Space" "count" "I", .fieldLink RX3 11 "HidingBoxes$Space" "boxes" "[LHidingBoxes$Box;", .fieldLink RX3 50 "HidingBoxes$Box" "low" "[I", .fieldLink RX3 54 "HidingBoxes$Box" "high" "[I"] ++ wsX30 ++ wsX00)
def wsX3_volume : List Cond := .code yX3_volume cX3_volume 3 (some .int) :: ([.fieldLink RX3 18 "HidingBoxes$Space" "count" "I", .fieldLink RX3 11 "HidingBoxes$Space" "boxes" "[LHidingBoxes$Box;", .methodLink RX3 61 yX0_volume, .instanceMethod yX0_volume, .selects RX0 yX0_volume yX0_volume, .initialized RX0, .code yX0_volume cX0_volume 1 (some .int), .methodLink RX0 28 yX0_size, .instanceMethod yX0_size, .selects RX0 yX0_size yX0_size, .code yX0_size cX0_size 2 (some .int), .fieldLink RX0 15 "HidingBoxes$Box" "high" "[I", .fieldLink RX0 9 "HidingBoxes$Box" "low" "[I"] ++ wsX30 ++ wsX00)
def wsX3_groundUnder : List Cond := .code yX3_groundUnder cX3_groundUnder 4 (some .int) :: ([.fieldLink RX3 18 "HidingBoxes$Space" "count" "I", .fieldLink RX3 11 "HidingBoxes$Space" "boxes" "[LHidingBoxes$Box;", .fieldLink RX3 54 "HidingBoxes$Box" "high" "[I", .methodLink RX3 67 Lib.Math.max.name, .static Lib.Math.max.name, .initialized "java/lang/Math", .code Lib.Math.max.name Lib.Math.max.code 2 (some .int), .methodLink RX3 64 yX0_isBelow, .instanceMethod yX0_isBelow, .selects RX0 yX0_isBelow yX0_isBelow, .initialized RX0, .code yX0_isBelow cX0_isBelow 2 (some .boolean), .fieldLink RX0 15 "HidingBoxes$Box" "high" "[I", .fieldLink RX0 9 "HidingBoxes$Box" "low" "[I", .methodLink RX0 32 yX0_meets, .instanceMethod yX0_meets, .selects RX0 yX0_meets yX0_meets, .code yX0_meets cX0_meets 3 (some .boolean)] ++ wsX30 ++ wsX00)
def wsX3_boxesBelow : List Cond := .code yX3_boxesBelow cX3_boxesBelow 4 (some .int) :: ([.fieldLink RX3 18 "HidingBoxes$Space" "count" "I", .fieldLink RX3 11 "HidingBoxes$Space" "boxes" "[LHidingBoxes$Box;", .methodLink RX3 64 yX0_isBelow, .instanceMethod yX0_isBelow, .selects RX0 yX0_isBelow yX0_isBelow, .initialized RX0, .code yX0_isBelow cX0_isBelow 2 (some .boolean), .fieldLink RX0 15 "HidingBoxes$Box" "high" "[I", .fieldLink RX0 9 "HidingBoxes$Box" "low" "[I", .methodLink RX0 32 yX0_meets, .instanceMethod yX0_meets, .selects RX0 yX0_meets yX0_meets, .code yX0_meets cX0_meets 3 (some .boolean)] ++ wsX30 ++ wsX00)
def wsX3_supportsOf : List Cond := .code yX3_supportsOf cX3_supportsOf 5 (some .int) :: ([.fieldLink RX3 11 "HidingBoxes$Space" "boxes" "[LHidingBoxes$Box;", .fieldLink RX3 18 "HidingBoxes$Space" "count" "I", .fieldLink RX3 54 "HidingBoxes$Box" "high" "[I", .fieldLink RX3 50 "HidingBoxes$Box" "low" "[I", .methodLink RX3 64 yX0_isBelow, .instanceMethod yX0_isBelow, .selects RX0 yX0_isBelow yX0_isBelow, .initialized RX0, .code yX0_isBelow cX0_isBelow 2 (some .boolean), .fieldLink RX0 15 "HidingBoxes$Box" "high" "[I", .fieldLink RX0 9 "HidingBoxes$Box" "low" "[I", .methodLink RX0 32 yX0_meets, .instanceMethod yX0_meets, .selects RX0 yX0_meets yX0_meets, .code yX0_meets cX0_meets 3 (some .boolean)] ++ wsX30 ++ wsX00)
def wsX3_shadowOn_r1 : List Cond := [Cond.fieldLink RX3 11 "HidingBoxes$Space" "boxes" "[LHidingBoxes$Box;", Cond.fieldLink RX3 50 "HidingBoxes$Box" "low" "[I", Cond.fieldLink RX3 54 "HidingBoxes$Box" "high" "[I", Cond.fieldLink RX3 18 "HidingBoxes$Space" "count" "I", Cond.methodLink RX3 64 yX0_isBelow, Cond.instanceMethod yX0_isBelow, Cond.selects RX0 yX0_isBelow yX0_isBelow, Cond.initialized RX0, Cond.code yX0_isBelow cX0_isBelow 2 (some .boolean), Cond.fieldLink RX0 15 "HidingBoxes$Box" "high" "[I", Cond.fieldLink RX0 9 "HidingBoxes$Box" "low" "[I", Cond.methodLink RX0 32 yX0_meets, Cond.instanceMethod yX0_meets, Cond.selects RX0 yX0_meets yX0_meets, Cond.code yX0_meets cX0_meets 3 (some .boolean), Cond.methodLink RX3 73 yX0_coversRow, Cond.instanceMethod yX0_coversRow, Cond.selects RX0 yX0_coversRow yX0_coversRow, Cond.code yX0_coversRow cX0_coversRow 2 (some .boolean), Cond.methodLink RX3 77 yX0_rowOfCells, Cond.instanceMethod yX0_rowOfCells, Cond.selects RX0 yX0_rowOfCells yX0_rowOfCells, Cond.code yX0_rowOfCells cX0_rowOfCells 1 (some .int), Cond.methodLink RX0 28 yX0_size]
def wsX3_shadowOn_r2 : List Cond := [Cond.instanceMethod yX0_size, Cond.selects RX0 yX0_size yX0_size, Cond.code yX0_size cX0_size 2 (some .int), Cond.methodLink RX3 80 yJ6_bitCount_0f7a4, Cond.static yJ6_bitCount_0f7a4, Cond.initialized RJ6, Cond.code yJ6_bitCount_0f7a4 cJ6_bitCount_0f7a4 1 (some .int), Cond.constant RJ6 265 (1431655765), Cond.constant RJ6 266 (858993459), Cond.constant RJ6 267 (252645135)]
def wsX3_shadowOn : List Cond := .code yX3_shadowOn cX3_shadowOn 7 (some .int) :: ((wsX3_shadowOn_r1 ++ wsX3_shadowOn_r2) ++ wsX30 ++ wsX00)
def wsX3_shadow_r1 : List Cond := [Cond.fieldLink RX3 18 "HidingBoxes$Space" "count" "I", Cond.methodLink RX3 86 yX3_shadowOn, Cond.instanceMethod yX3_shadowOn, Cond.selects RX3 yX3_shadowOn yX3_shadowOn, Cond.initialized RX3, Cond.code yX3_shadowOn cX3_shadowOn 7 (some .int), Cond.fieldLink RX3 11 "HidingBoxes$Space" "boxes" "[LHidingBoxes$Box;", Cond.fieldLink RX3 50 "HidingBoxes$Box" "low" "[I", Cond.fieldLink RX3 54 "HidingBoxes$Box" "high" "[I", Cond.methodLink RX3 64 yX0_isBelow, Cond.instanceMethod yX0_isBelow, Cond.selects RX0 yX0_isBelow yX0_isBelow, Cond.initialized RX0, Cond.code yX0_isBelow cX0_isBelow 2 (some .boolean), Cond.fieldLink RX0 15 "HidingBoxes$Box" "high" "[I", Cond.fieldLink RX0 9 "HidingBoxes$Box" "low" "[I", Cond.methodLink RX0 32 yX0_meets, Cond.instanceMethod yX0_meets, Cond.selects RX0 yX0_meets yX0_meets, Cond.code yX0_meets cX0_meets 3 (some .boolean), Cond.methodLink RX3 73 yX0_coversRow, Cond.instanceMethod yX0_coversRow, Cond.selects RX0 yX0_coversRow yX0_coversRow, Cond.code yX0_coversRow cX0_coversRow 2 (some .boolean)]
def wsX3_shadow_r2 : List Cond := [Cond.methodLink RX3 77 yX0_rowOfCells, Cond.instanceMethod yX0_rowOfCells, Cond.selects RX0 yX0_rowOfCells yX0_rowOfCells, Cond.code yX0_rowOfCells cX0_rowOfCells 1 (some .int), Cond.methodLink RX0 28 yX0_size, Cond.instanceMethod yX0_size, Cond.selects RX0 yX0_size yX0_size, Cond.code yX0_size cX0_size 2 (some .int), Cond.methodLink RX3 80 yJ6_bitCount_0f7a4, Cond.static yJ6_bitCount_0f7a4, Cond.initialized RJ6, Cond.code yJ6_bitCount_0f7a4 cJ6_bitCount_0f7a4 1 (some .int), Cond.constant RJ6 265 (1431655765), Cond.constant RJ6 266 (858993459), Cond.constant RJ6 267 (252645135)]
def wsX3_shadow : List Cond := .code yX3_shadow cX3_shadow 3 (some .int) :: ((wsX3_shadow_r1 ++ wsX3_shadow_r2) ++ wsX30 ++ wsX00)
def wsX4_init : List Cond := .code yX4_init cX4_init 1 none :: ([.methodLink RX4 3 objectInit, .instanceMethod objectInit, .code objectInit ⟨#[0xb1]⟩ 1 none, .arrayClass .char, .fieldLink RX4 9 "HidingBoxes$Text" "signs" "[C", .arrayClass .int, .fieldLink RX4 15 "HidingBoxes$Text" "values" "[I"] ++ wsX40)
def wsX4_append : List Cond := .code yX4_append cX4_append 2 (some .boolean) :: ([.fieldLink RX4 19 "HidingBoxes$Text" "length" "I", .fieldLink RX4 9 "HidingBoxes$Text" "signs" "[C"] ++ wsX40)
def wsX4_withDigit : List Cond := .code yX4_withDigit cX4_withDigit 6 (some .int) :: ([])
def wsX4_signBehind : List Cond := .code yX4_signBehind cX4_signBehind 1 (some .char) :: ([])
def wsX4_store : List Cond := .code yX4_store cX4_store 2 none :: ([.fieldLink RX4 23 "HidingBoxes$Text" "valueCount" "I", .fieldLink RX4 15 "HidingBoxes$Text" "values" "[I"] ++ wsX40)
def wsX4_read : List Cond := .code yX4_read cX4_read 5 (some .int) :: ([.fieldLink RX4 23 "HidingBoxes$Text" "valueCount" "I", .fieldLink RX4 19 "HidingBoxes$Text" "length" "I", .fieldLink RX4 9 "HidingBoxes$Text" "signs" "[C", .methodLink RX4 26 yX4_withDigit, .static yX4_withDigit, .initialized RX4, .code yX4_withDigit cX4_withDigit 6 (some .int), .methodLink RX4 30 yX4_signBehind, .static yX4_signBehind, .code yX4_signBehind cX4_signBehind 1 (some .char), .methodLink RX4 34 yX4_store, .instanceMethod yX4_store, .selects RX4 yX4_store yX4_store, .code yX4_store cX4_store 2 none, .fieldLink RX4 15 "HidingBoxes$Text" "values" "[I"] ++ wsX40)
def wsX4_boxCount : List Cond := .code yX4_boxCount cX4_boxCount 1 (some .int) :: ([.fieldLink RX4 23 "HidingBoxes$Text" "valueCount" "I"] ++ wsX40)
def wsX4_valueOf : List Cond := .code yX4_valueOf cX4_valueOf 4 (some .int) :: ([.fieldLink RX4 23 "HidingBoxes$Text" "valueCount" "I", .fieldLink RX4 15 "HidingBoxes$Text" "values" "[I"] ++ wsX40)
def wsX5_init_r1 : List Cond := [Cond.methodLink RX5 1 objectInit, Cond.instanceMethod objectInit, Cond.code objectInit ⟨#[0xb1]⟩ 1 none, Cond.classLink RX5 7 RX3, Cond.instantiable RX3 5, Cond.initialized RX3, Cond.fieldLink RX5 10 "HidingBoxes" "now" "LHidingBoxes$Space;", Cond.fieldLink RX5 16 "HidingBoxes" "trial" "LHidingBoxes$Space;", Cond.fieldLink RX5 19 "HidingBoxes" "snapshot" "LHidingBoxes$Space;", Cond.classLink RX5 22 RX1, Cond.instantiable RX1 2, Cond.initialized RX1, Cond.fieldLink RX5 25 "HidingBoxes" "history" "LHidingBoxes$History;", Cond.classLink RX5 29 RX4, Cond.instantiable RX4 4, Cond.initialized RX4, Cond.fieldLink RX5 32 "HidingBoxes" "text" "LHidingBoxes$Text;", Cond.classLink RX5 36 RX2, Cond.instantiable RX2 7, Cond.initialized RX2, Cond.fieldLink RX5 39 "HidingBoxes" "picture" "LHidingBoxes$Picture;", Cond.fieldLink RX5 43 "HidingBoxes" "turnedPicture" "LHidingBoxes$Picture;", Cond.classLink RX5 46 RX0, Cond.instantiable RX0 3]
def wsX5_init_r2 : List Cond := [Cond.initialized RX0, Cond.fieldLink RX5 49 "HidingBoxes" "newcomer" "LHidingBoxes$Box;", Cond.fieldLink RX5 53 "HidingBoxes" "hasSnapshot" "Z", Cond.methodLink RX5 9 yX3_init, Cond.instanceMethod yX3_init, Cond.code yX3_init cX3_init 2 none, Cond.methodLink RX3 3 objectInit, Cond.classLink RX3 9 RX0, Cond.fieldLink RX3 11 "HidingBoxes$Space" "boxes" "[LHidingBoxes$Box;", Cond.instanceMethod yX0_init, Cond.code yX0_init cX0_init 1 none, Cond.methodLink RX0 3 objectInit, Cond.arrayClass .int, Cond.fieldLink RX0 9 "HidingBoxes$Box" "low" "[I", Cond.fieldLink RX0 15 "HidingBoxes$Box" "high" "[I", Cond.methodLink RX5 24 yX1_init, Cond.instanceMethod yX1_init, Cond.code yX1_init cX1_init 2 none, Cond.methodLink RX1 3 objectInit, Cond.classLink RX1 9 RX3, Cond.fieldLink RX1 11 "HidingBoxes$History" "states" "[LHidingBoxes$Space;", Cond.methodLink RX1 17 yX3_init, Cond.instanceMethod yX4_init, Cond.code yX4_init cX4_init 1 none]
def wsX5_init_r3 : List Cond := [Cond.methodLink RX4 3 objectInit, Cond.arrayClass .char, Cond.fieldLink RX4 9 "HidingBoxes$Text" "signs" "[C", Cond.fieldLink RX4 15 "HidingBoxes$Text" "values" "[I", Cond.instanceMethod yX2_init, Cond.code yX2_init cX2_init 1 none, Cond.methodLink RX2 3 objectInit, Cond.fieldLink RX2 9 "HidingBoxes$Picture" "hides" "[I", Cond.fieldLink RX2 15 "HidingBoxes$Picture" "chains" "[I", Cond.fieldLink RX2 18 "HidingBoxes$Picture" "order" "[I", Cond.fieldLink RX2 21 "HidingBoxes$Picture" "layers" "[I"]
def wsX5_init : List Cond := .code yX5_init cX5_init 1 none :: ((wsX5_init_r1 ++ (wsX5_init_r2 ++ wsX5_init_r3)) ++ wsX30 ++ wsX50 ++ wsX10 ++ wsX40 ++ wsX20 ++ wsX00)
def wsX5_enter_r1 : List Cond := [Cond.fieldLink RX5 49 "HidingBoxes" "newcomer" "LHidingBoxes$Box;", Cond.methodLink RX5 221 yX0_lay, Cond.instanceMethod yX0_lay, Cond.selects RX0 yX0_lay yX0_lay, Cond.initialized RX0, Cond.code yX0_lay cX0_lay 4 (some .boolean), Cond.fieldLink RX0 9 "HidingBoxes$Box" "low" "[I", Cond.fieldLink RX0 15 "HidingBoxes$Box" "high" "[I", Cond.methodLink RX5 99 yX3_isCutBy, Cond.instanceMethod yX3_isCutBy, Cond.selects RX3 yX3_isCutBy yX3_isCutBy, Cond.initialized RX3, Cond.code yX3_isCutBy cX3_isCutBy 4 (some .boolean), Cond.fieldLink RX3 18 "HidingBoxes$Space" "count" "I", Cond.fieldLink RX3 11 "HidingBoxes$Space" "boxes" "[LHidingBoxes$Box;", Cond.methodLink RX3 38 yX0_cuts, Cond.instanceMethod yX0_cuts, Cond.selects RX0 yX0_cuts yX0_cuts, Cond.code yX0_cuts cX0_cuts 2 (some .boolean), Cond.methodLink RX0 32 yX0_meets, Cond.instanceMethod yX0_meets, Cond.selects RX0 yX0_meets yX0_meets, Cond.code yX0_meets cX0_meets 3 (some .boolean), Cond.methodLink RX5 106 yX3_isFull]
def wsX5_enter_r2 : List Cond := [Cond.instanceMethod yX3_isFull, Cond.selects RX3 yX3_isFull yX3_isFull, Cond.code yX3_isFull cX3_isFull 1 (some .boolean), Cond.methodLink RX5 225 yX3_append, Cond.instanceMethod yX3_append, Cond.selects RX3 yX3_append yX3_append, Cond.code yX3_append cX3_append 3 (some .int), Cond.fieldLink RX3 22 "HidingBoxes$Space" "nextNumber" "I", Cond.fieldLink RX3 35 "HidingBoxes$Box" "number" "I", Cond.methodLink RX3 42 yX3_isFull, Cond.methodLink RX3 31 yX0_copyFrom, Cond.instanceMethod yX0_copyFrom, Cond.selects RX0 yX0_copyFrom yX0_copyFrom, Cond.code yX0_copyFrom cX0_copyFrom 2 none, Cond.fieldLink RX0 18 "HidingBoxes$Box" "number" "I", Cond.methodLink RX0 22 arraycopyName, Cond.native arraycopyName, Cond.static arraycopyName, Cond.initialized "java/lang/System"]
def wsX5_enter : List Cond := .code yX5_enter cX5_enter 9 (some .int) :: ((wsX5_enter_r1 ++ wsX5_enter_r2) ++ wsX50 ++ wsX00 ++ wsX30)
def wsX5_adoptTrial_r1 : List Cond := [Cond.fieldLink RX5 25 "HidingBoxes" "history" "LHidingBoxes$History;", Cond.fieldLink RX5 10 "HidingBoxes" "now" "LHidingBoxes$Space;", Cond.fieldLink RX5 16 "HidingBoxes" "trial" "LHidingBoxes$Space;", Cond.methodLink RX5 218 yX1_remember, Cond.instanceMethod yX1_remember, Cond.selects RX1 yX1_remember yX1_remember, Cond.initialized RX1, Cond.code yX1_remember cX1_remember 2 none, Cond.fieldLink RX1 18 "HidingBoxes$History" "count" "I", Cond.fieldLink RX1 11 "HidingBoxes$History" "states" "[LHidingBoxes$Space;", Cond.methodLink RX1 22 yX1_dropOldest, Cond.instanceMethod yX1_dropOldest, Cond.selects RX1 yX1_dropOldest yX1_dropOldest, Cond.code yX1_dropOldest cX1_dropOldest 3 none, Cond.methodLink RX1 25 yX3_copyFrom, Cond.instanceMethod yX3_copyFrom, Cond.selects RX3 yX3_copyFrom yX3_copyFrom, Cond.initialized RX3, Cond.code yX3_copyFrom cX3_copyFrom 3 none, Cond.fieldLink RX3 18 "HidingBoxes$Space" "count" "I", Cond.fieldLink RX3 22 "HidingBoxes$Space" "nextNumber" "I", Cond.fieldLink RX3 25 "HidingBoxes$Space" "splits" "I", Cond.fieldLink RX3 28 "HidingBoxes$Space" "rule" "I", Cond.fieldLink RX3 11 "HidingBoxes$Space" "boxes" "[LHidingBoxes$Box;"]
def wsX5_adoptTrial_r2 : List Cond := [Cond.methodLink RX3 31 yX0_copyFrom, Cond.instanceMethod yX0_copyFrom, Cond.selects RX0 yX0_copyFrom yX0_copyFrom, Cond.initialized RX0, Cond.code yX0_copyFrom cX0_copyFrom 2 none, Cond.fieldLink RX0 18 "HidingBoxes$Box" "number" "I", Cond.fieldLink RX0 9 "HidingBoxes$Box" "low" "[I", Cond.methodLink RX0 22 arraycopyName, Cond.native arraycopyName, Cond.static arraycopyName, Cond.initialized "java/lang/System", Cond.fieldLink RX0 15 "HidingBoxes$Box" "high" "[I", Cond.methodLink RX5 57 yX3_copyFrom]
def wsX5_adoptTrial : List Cond := .code yX5_adoptTrial cX5_adoptTrial 1 none :: ((wsX5_adoptTrial_r1 ++ wsX5_adoptTrial_r2) ++ wsX50 ++ wsX10 ++ wsX30 ++ wsX00)
def wsX5_add_r1 : List Cond := [Cond.fieldLink RX5 16 "HidingBoxes" "trial" "LHidingBoxes$Space;", Cond.fieldLink RX5 10 "HidingBoxes" "now" "LHidingBoxes$Space;", Cond.methodLink RX5 57 yX3_copyFrom, Cond.instanceMethod yX3_copyFrom, Cond.selects RX3 yX3_copyFrom yX3_copyFrom, Cond.initialized RX3, Cond.code yX3_copyFrom cX3_copyFrom 3 none, Cond.fieldLink RX3 18 "HidingBoxes$Space" "count" "I", Cond.fieldLink RX3 22 "HidingBoxes$Space" "nextNumber" "I", Cond.fieldLink RX3 25 "HidingBoxes$Space" "splits" "I", Cond.fieldLink RX3 28 "HidingBoxes$Space" "rule" "I", Cond.fieldLink RX3 11 "HidingBoxes$Space" "boxes" "[LHidingBoxes$Box;", Cond.methodLink RX3 31 yX0_copyFrom, Cond.instanceMethod yX0_copyFrom, Cond.selects RX0 yX0_copyFrom yX0_copyFrom, Cond.initialized RX0, Cond.code yX0_copyFrom cX0_copyFrom 2 none, Cond.fieldLink RX0 18 "HidingBoxes$Box" "number" "I", Cond.fieldLink RX0 9 "HidingBoxes$Box" "low" "[I", Cond.methodLink RX0 22 arraycopyName, Cond.native arraycopyName, Cond.static arraycopyName, Cond.initialized "java/lang/System", Cond.fieldLink RX0 15 "HidingBoxes$Box" "high" "[I"]
def wsX5_add_r2 : List Cond := [Cond.methodLink RX5 61 yX5_enter, Cond.instanceMethod yX5_enter, Cond.selects RX5 yX5_enter yX5_enter, Cond.initialized RX5, Cond.code yX5_enter cX5_enter 9 (some .int), Cond.fieldLink RX5 49 "HidingBoxes" "newcomer" "LHidingBoxes$Box;", Cond.methodLink RX5 221 yX0_lay, Cond.instanceMethod yX0_lay, Cond.selects RX0 yX0_lay yX0_lay, Cond.code yX0_lay cX0_lay 4 (some .boolean), Cond.methodLink RX5 99 yX3_isCutBy, Cond.instanceMethod yX3_isCutBy, Cond.selects RX3 yX3_isCutBy yX3_isCutBy, Cond.code yX3_isCutBy cX3_isCutBy 4 (some .boolean), Cond.methodLink RX3 38 yX0_cuts, Cond.instanceMethod yX0_cuts, Cond.selects RX0 yX0_cuts yX0_cuts, Cond.code yX0_cuts cX0_cuts 2 (some .boolean), Cond.methodLink RX0 32 yX0_meets, Cond.instanceMethod yX0_meets, Cond.selects RX0 yX0_meets yX0_meets, Cond.code yX0_meets cX0_meets 3 (some .boolean), Cond.methodLink RX5 106 yX3_isFull, Cond.instanceMethod yX3_isFull]
def wsX5_add_r3 : List Cond := [Cond.selects RX3 yX3_isFull yX3_isFull, Cond.code yX3_isFull cX3_isFull 1 (some .boolean), Cond.methodLink RX5 225 yX3_append, Cond.instanceMethod yX3_append, Cond.selects RX3 yX3_append yX3_append, Cond.code yX3_append cX3_append 3 (some .int), Cond.fieldLink RX3 35 "HidingBoxes$Box" "number" "I", Cond.methodLink RX3 42 yX3_isFull, Cond.methodLink RX5 65 yX5_adoptTrial, Cond.instanceMethod yX5_adoptTrial, Cond.selects RX5 yX5_adoptTrial yX5_adoptTrial, Cond.code yX5_adoptTrial cX5_adoptTrial 1 none, Cond.fieldLink RX5 25 "HidingBoxes" "history" "LHidingBoxes$History;", Cond.methodLink RX5 218 yX1_remember, Cond.instanceMethod yX1_remember, Cond.selects RX1 yX1_remember yX1_remember, Cond.initialized RX1, Cond.code yX1_remember cX1_remember 2 none, Cond.fieldLink RX1 18 "HidingBoxes$History" "count" "I", Cond.fieldLink RX1 11 "HidingBoxes$History" "states" "[LHidingBoxes$Space;", Cond.methodLink RX1 22 yX1_dropOldest, Cond.instanceMethod yX1_dropOldest, Cond.selects RX1 yX1_dropOldest yX1_dropOldest, Cond.code yX1_dropOldest cX1_dropOldest 3 none]
def wsX5_add_r4 : List Cond := [Cond.methodLink RX1 25 yX3_copyFrom]
def wsX5_add : List Cond := .code yX5_add cX5_add 8 (some .int) :: ((wsX5_add_r1 ++ (wsX5_add_r2 ++ (wsX5_add_r3 ++ wsX5_add_r4))) ++ wsX50 ++ wsX30 ++ wsX00 ++ wsX10)
def wsX5_remove_r1 : List Cond := [Cond.fieldLink RX5 10 "HidingBoxes" "now" "LHidingBoxes$Space;", Cond.fieldLink RX5 72 "HidingBoxes$Space" "boxes" "[LHidingBoxes$Box;", Cond.fieldLink RX5 16 "HidingBoxes" "trial" "LHidingBoxes$Space;", Cond.methodLink RX5 68 yX3_slotOf, Cond.instanceMethod yX3_slotOf, Cond.selects RX3 yX3_slotOf yX3_slotOf, Cond.initialized RX3, Cond.code yX3_slotOf cX3_slotOf 3 (some .int), Cond.fieldLink RX3 18 "HidingBoxes$Space" "count" "I", Cond.fieldLink RX3 11 "HidingBoxes$Space" "boxes" "[LHidingBoxes$Box;", Cond.fieldLink RX3 35 "HidingBoxes$Box" "number" "I", Cond.methodLink RX5 76 yX0_volume, Cond.instanceMethod yX0_volume, Cond.selects RX0 yX0_volume yX0_volume, Cond.initialized RX0, Cond.code yX0_volume cX0_volume 1 (some .int), Cond.methodLink RX0 28 yX0_size, Cond.instanceMethod yX0_size, Cond.selects RX0 yX0_size yX0_size, Cond.code yX0_size cX0_size 2 (some .int), Cond.fieldLink RX0 15 "HidingBoxes$Box" "high" "[I", Cond.fieldLink RX0 9 "HidingBoxes$Box" "low" "[I", Cond.methodLink RX5 57 yX3_copyFrom, Cond.instanceMethod yX3_copyFrom]
def wsX5_remove_r2 : List Cond := [Cond.selects RX3 yX3_copyFrom yX3_copyFrom, Cond.code yX3_copyFrom cX3_copyFrom 3 none, Cond.fieldLink RX3 22 "HidingBoxes$Space" "nextNumber" "I", Cond.fieldLink RX3 25 "HidingBoxes$Space" "splits" "I", Cond.fieldLink RX3 28 "HidingBoxes$Space" "rule" "I", Cond.methodLink RX3 31 yX0_copyFrom, Cond.instanceMethod yX0_copyFrom, Cond.selects RX0 yX0_copyFrom yX0_copyFrom, Cond.code yX0_copyFrom cX0_copyFrom 2 none, Cond.fieldLink RX0 18 "HidingBoxes$Box" "number" "I", Cond.methodLink RX0 22 arraycopyName, Cond.native arraycopyName, Cond.static arraycopyName, Cond.initialized "java/lang/System", Cond.methodLink RX5 80 yX3_takeOut, Cond.instanceMethod yX3_takeOut, Cond.selects RX3 yX3_takeOut yX3_takeOut, Cond.code yX3_takeOut cX3_takeOut 3 none, Cond.methodLink RX5 65 yX5_adoptTrial, Cond.instanceMethod yX5_adoptTrial, Cond.selects RX5 yX5_adoptTrial yX5_adoptTrial, Cond.initialized RX5, Cond.code yX5_adoptTrial cX5_adoptTrial 1 none, Cond.fieldLink RX5 25 "HidingBoxes" "history" "LHidingBoxes$History;"]
def wsX5_remove_r3 : List Cond := [Cond.methodLink RX5 218 yX1_remember, Cond.instanceMethod yX1_remember, Cond.selects RX1 yX1_remember yX1_remember, Cond.initialized RX1, Cond.code yX1_remember cX1_remember 2 none, Cond.fieldLink RX1 18 "HidingBoxes$History" "count" "I", Cond.fieldLink RX1 11 "HidingBoxes$History" "states" "[LHidingBoxes$Space;", Cond.methodLink RX1 22 yX1_dropOldest, Cond.instanceMethod yX1_dropOldest, Cond.selects RX1 yX1_dropOldest yX1_dropOldest, Cond.code yX1_dropOldest cX1_dropOldest 3 none, Cond.methodLink RX1 25 yX3_copyFrom]
def wsX5_remove : List Cond := .code yX5_remove cX5_remove 4 (some .int) :: ((wsX5_remove_r1 ++ (wsX5_remove_r2 ++ wsX5_remove_r3)) ++ wsX50 ++ wsX30 ++ wsX00 ++ wsX10)
def wsX5_isDirection : List Cond := .code yX5_isDirection cX5_isDirection 1 (some .boolean) :: ([])
def wsX5_move_r1 : List Cond := [Cond.fieldLink RX5 10 "HidingBoxes" "now" "LHidingBoxes$Space;", Cond.fieldLink RX5 16 "HidingBoxes" "trial" "LHidingBoxes$Space;", Cond.fieldLink RX5 72 "HidingBoxes$Space" "boxes" "[LHidingBoxes$Box;", Cond.fieldLink RX5 88 "HidingBoxes$Box" "low" "[I", Cond.fieldLink RX5 92 "HidingBoxes$Box" "high" "[I", Cond.methodLink RX5 68 yX3_slotOf, Cond.instanceMethod yX3_slotOf, Cond.selects RX3 yX3_slotOf yX3_slotOf, Cond.initialized RX3, Cond.code yX3_slotOf cX3_slotOf 3 (some .int), Cond.fieldLink RX3 18 "HidingBoxes$Space" "count" "I", Cond.fieldLink RX3 11 "HidingBoxes$Space" "boxes" "[LHidingBoxes$Box;", Cond.fieldLink RX3 35 "HidingBoxes$Box" "number" "I", Cond.methodLink RX5 84 yX5_isDirection, Cond.static yX5_isDirection, Cond.initialized RX5, Cond.code yX5_isDirection cX5_isDirection 1 (some .boolean), Cond.methodLink RX5 57 yX3_copyFrom, Cond.instanceMethod yX3_copyFrom, Cond.selects RX3 yX3_copyFrom yX3_copyFrom, Cond.code yX3_copyFrom cX3_copyFrom 3 none, Cond.fieldLink RX3 22 "HidingBoxes$Space" "nextNumber" "I", Cond.fieldLink RX3 25 "HidingBoxes$Space" "splits" "I", Cond.fieldLink RX3 28 "HidingBoxes$Space" "rule" "I"]
def wsX5_move_r2 : List Cond := [Cond.methodLink RX3 31 yX0_copyFrom, Cond.instanceMethod yX0_copyFrom, Cond.selects RX0 yX0_copyFrom yX0_copyFrom, Cond.initialized RX0, Cond.code yX0_copyFrom cX0_copyFrom 2 none, Cond.fieldLink RX0 18 "HidingBoxes$Box" "number" "I", Cond.fieldLink RX0 9 "HidingBoxes$Box" "low" "[I", Cond.methodLink RX0 22 arraycopyName, Cond.native arraycopyName, Cond.static arraycopyName, Cond.initialized "java/lang/System", Cond.fieldLink RX0 15 "HidingBoxes$Box" "high" "[I", Cond.methodLink RX5 95 yX0_shift, Cond.instanceMethod yX0_shift, Cond.selects RX0 yX0_shift yX0_shift, Cond.code yX0_shift cX0_shift 3 none, Cond.methodLink RX5 99 yX3_isCutBy, Cond.instanceMethod yX3_isCutBy, Cond.selects RX3 yX3_isCutBy yX3_isCutBy, Cond.code yX3_isCutBy cX3_isCutBy 4 (some .boolean), Cond.methodLink RX3 38 yX0_cuts, Cond.instanceMethod yX0_cuts, Cond.selects RX0 yX0_cuts yX0_cuts, Cond.code yX0_cuts cX0_cuts 2 (some .boolean)]
def wsX5_move_r3 : List Cond := [Cond.methodLink RX0 32 yX0_meets, Cond.instanceMethod yX0_meets, Cond.selects RX0 yX0_meets yX0_meets, Cond.code yX0_meets cX0_meets 3 (some .boolean), Cond.methodLink RX5 65 yX5_adoptTrial, Cond.instanceMethod yX5_adoptTrial, Cond.selects RX5 yX5_adoptTrial yX5_adoptTrial, Cond.code yX5_adoptTrial cX5_adoptTrial 1 none, Cond.fieldLink RX5 25 "HidingBoxes" "history" "LHidingBoxes$History;", Cond.methodLink RX5 218 yX1_remember, Cond.instanceMethod yX1_remember, Cond.selects RX1 yX1_remember yX1_remember, Cond.initialized RX1, Cond.code yX1_remember cX1_remember 2 none, Cond.fieldLink RX1 18 "HidingBoxes$History" "count" "I", Cond.fieldLink RX1 11 "HidingBoxes$History" "states" "[LHidingBoxes$Space;", Cond.methodLink RX1 22 yX1_dropOldest, Cond.instanceMethod yX1_dropOldest, Cond.selects RX1 yX1_dropOldest yX1_dropOldest, Cond.code yX1_dropOldest cX1_dropOldest 3 none, Cond.methodLink RX1 25 yX3_copyFrom]
def wsX5_move : List Cond := .code yX5_move cX5_move 6 (some .int) :: ((wsX5_move_r1 ++ (wsX5_move_r2 ++ wsX5_move_r3)) ++ wsX50 ++ wsX30 ++ wsX00 ++ wsX10)
def wsX5_fall_r1 : List Cond := [Cond.fieldLink RX5 10 "HidingBoxes" "now" "LHidingBoxes$Space;", Cond.fieldLink RX5 72 "HidingBoxes$Space" "boxes" "[LHidingBoxes$Box;", Cond.fieldLink RX5 88 "HidingBoxes$Box" "low" "[I", Cond.fieldLink RX5 16 "HidingBoxes" "trial" "LHidingBoxes$Space;", Cond.methodLink RX5 68 yX3_slotOf, Cond.instanceMethod yX3_slotOf, Cond.selects RX3 yX3_slotOf yX3_slotOf, Cond.initialized RX3, Cond.code yX3_slotOf cX3_slotOf 3 (some .int), Cond.fieldLink RX3 18 "HidingBoxes$Space" "count" "I", Cond.fieldLink RX3 11 "HidingBoxes$Space" "boxes" "[LHidingBoxes$Box;", Cond.fieldLink RX3 35 "HidingBoxes$Box" "number" "I", Cond.methodLink RX5 103 yX3_groundUnder, Cond.instanceMethod yX3_groundUnder, Cond.selects RX3 yX3_groundUnder yX3_groundUnder, Cond.code yX3_groundUnder cX3_groundUnder 4 (some .int), Cond.fieldLink RX3 54 "HidingBoxes$Box" "high" "[I", Cond.methodLink RX3 67 Lib.Math.max.name, Cond.static Lib.Math.max.name, Cond.initialized "java/lang/Math", Cond.code Lib.Math.max.name Lib.Math.max.code 2 (some .int), Cond.methodLink RX3 64 yX0_isBelow, Cond.instanceMethod yX0_isBelow, Cond.selects RX0 yX0_isBelow yX0_isBelow]
def wsX5_fall_r2 : List Cond := [Cond.initialized RX0, Cond.code yX0_isBelow cX0_isBelow 2 (some .boolean), Cond.fieldLink RX0 15 "HidingBoxes$Box" "high" "[I", Cond.fieldLink RX0 9 "HidingBoxes$Box" "low" "[I", Cond.methodLink RX0 32 yX0_meets, Cond.instanceMethod yX0_meets, Cond.selects RX0 yX0_meets yX0_meets, Cond.code yX0_meets cX0_meets 3 (some .boolean), Cond.methodLink RX5 57 yX3_copyFrom, Cond.instanceMethod yX3_copyFrom, Cond.selects RX3 yX3_copyFrom yX3_copyFrom, Cond.code yX3_copyFrom cX3_copyFrom 3 none, Cond.fieldLink RX3 22 "HidingBoxes$Space" "nextNumber" "I", Cond.fieldLink RX3 25 "HidingBoxes$Space" "splits" "I", Cond.fieldLink RX3 28 "HidingBoxes$Space" "rule" "I", Cond.methodLink RX3 31 yX0_copyFrom, Cond.instanceMethod yX0_copyFrom, Cond.selects RX0 yX0_copyFrom yX0_copyFrom, Cond.code yX0_copyFrom cX0_copyFrom 2 none, Cond.fieldLink RX0 18 "HidingBoxes$Box" "number" "I", Cond.methodLink RX0 22 arraycopyName, Cond.native arraycopyName, Cond.static arraycopyName, Cond.initialized "java/lang/System"]
def wsX5_fall_r3 : List Cond := [Cond.methodLink RX5 95 yX0_shift, Cond.instanceMethod yX0_shift, Cond.selects RX0 yX0_shift yX0_shift, Cond.code yX0_shift cX0_shift 3 none, Cond.methodLink RX5 65 yX5_adoptTrial, Cond.instanceMethod yX5_adoptTrial, Cond.selects RX5 yX5_adoptTrial yX5_adoptTrial, Cond.initialized RX5, Cond.code yX5_adoptTrial cX5_adoptTrial 1 none, Cond.fieldLink RX5 25 "HidingBoxes" "history" "LHidingBoxes$History;", Cond.methodLink RX5 218 yX1_remember, Cond.instanceMethod yX1_remember, Cond.selects RX1 yX1_remember yX1_remember, Cond.initialized RX1, Cond.code yX1_remember cX1_remember 2 none, Cond.fieldLink RX1 18 "HidingBoxes$History" "count" "I", Cond.fieldLink RX1 11 "HidingBoxes$History" "states" "[LHidingBoxes$Space;", Cond.methodLink RX1 22 yX1_dropOldest, Cond.instanceMethod yX1_dropOldest, Cond.selects RX1 yX1_dropOldest yX1_dropOldest, Cond.code yX1_dropOldest cX1_dropOldest 3 none, Cond.methodLink RX1 25 yX3_copyFrom]
def wsX5_fall : List Cond := .code yX5_fall cX5_fall 4 (some .int) :: ((wsX5_fall_r1 ++ (wsX5_fall_r2 ++ wsX5_fall_r3)) ++ wsX50 ++ wsX30 ++ wsX00 ++ wsX10)
def wsX5_split_r1 : List Cond := [Cond.fieldLink RX5 10 "HidingBoxes" "now" "LHidingBoxes$Space;", Cond.fieldLink RX5 72 "HidingBoxes$Space" "boxes" "[LHidingBoxes$Box;", Cond.fieldLink RX5 88 "HidingBoxes$Box" "low" "[I", Cond.fieldLink RX5 92 "HidingBoxes$Box" "high" "[I", Cond.fieldLink RX5 16 "HidingBoxes" "trial" "LHidingBoxes$Space;", Cond.methodLink RX5 68 yX3_slotOf, Cond.instanceMethod yX3_slotOf, Cond.selects RX3 yX3_slotOf yX3_slotOf, Cond.initialized RX3, Cond.code yX3_slotOf cX3_slotOf 3 (some .int), Cond.fieldLink RX3 18 "HidingBoxes$Space" "count" "I", Cond.fieldLink RX3 11 "HidingBoxes$Space" "boxes" "[LHidingBoxes$Box;", Cond.fieldLink RX3 35 "HidingBoxes$Box" "number" "I", Cond.methodLink RX5 84 yX5_isDirection, Cond.static yX5_isDirection, Cond.initialized RX5, Cond.code yX5_isDirection cX5_isDirection 1 (some .boolean), Cond.methodLink RX5 106 yX3_isFull, Cond.instanceMethod yX3_isFull, Cond.selects RX3 yX3_isFull yX3_isFull, Cond.code yX3_isFull cX3_isFull 1 (some .boolean), Cond.methodLink RX5 57 yX3_copyFrom, Cond.instanceMethod yX3_copyFrom, Cond.selects RX3 yX3_copyFrom yX3_copyFrom]
def wsX5_split_r2 : List Cond := [Cond.code yX3_copyFrom cX3_copyFrom 3 none, Cond.fieldLink RX3 22 "HidingBoxes$Space" "nextNumber" "I", Cond.fieldLink RX3 25 "HidingBoxes$Space" "splits" "I", Cond.fieldLink RX3 28 "HidingBoxes$Space" "rule" "I", Cond.methodLink RX3 31 yX0_copyFrom, Cond.instanceMethod yX0_copyFrom, Cond.selects RX0 yX0_copyFrom yX0_copyFrom, Cond.initialized RX0, Cond.code yX0_copyFrom cX0_copyFrom 2 none, Cond.fieldLink RX0 18 "HidingBoxes$Box" "number" "I", Cond.fieldLink RX0 9 "HidingBoxes$Box" "low" "[I", Cond.methodLink RX0 22 arraycopyName, Cond.native arraycopyName, Cond.static arraycopyName, Cond.initialized "java/lang/System", Cond.fieldLink RX0 15 "HidingBoxes$Box" "high" "[I", Cond.methodLink RX5 110 yX3_cutInTwo, Cond.instanceMethod yX3_cutInTwo, Cond.selects RX3 yX3_cutInTwo yX3_cutInTwo, Cond.code yX3_cutInTwo cX3_cutInTwo 5 (some .int), Cond.fieldLink RX3 50 "HidingBoxes$Box" "low" "[I", Cond.fieldLink RX3 54 "HidingBoxes$Box" "high" "[I", Cond.methodLink RX3 46 yX3_append, Cond.instanceMethod yX3_append]
def wsX5_split_r3 : List Cond := [Cond.selects RX3 yX3_append yX3_append, Cond.code yX3_append cX3_append 3 (some .int), Cond.methodLink RX3 42 yX3_isFull, Cond.methodLink RX5 65 yX5_adoptTrial, Cond.instanceMethod yX5_adoptTrial, Cond.selects RX5 yX5_adoptTrial yX5_adoptTrial, Cond.code yX5_adoptTrial cX5_adoptTrial 1 none, Cond.fieldLink RX5 25 "HidingBoxes" "history" "LHidingBoxes$History;", Cond.methodLink RX5 218 yX1_remember, Cond.instanceMethod yX1_remember, Cond.selects RX1 yX1_remember yX1_remember, Cond.initialized RX1, Cond.code yX1_remember cX1_remember 2 none, Cond.fieldLink RX1 18 "HidingBoxes$History" "count" "I", Cond.fieldLink RX1 11 "HidingBoxes$History" "states" "[LHidingBoxes$Space;", Cond.methodLink RX1 22 yX1_dropOldest, Cond.instanceMethod yX1_dropOldest, Cond.selects RX1 yX1_dropOldest yX1_dropOldest, Cond.code yX1_dropOldest cX1_dropOldest 3 none, Cond.methodLink RX1 25 yX3_copyFrom]
def wsX5_split : List Cond := .code yX5_split cX5_split 7 (some .int) :: ((wsX5_split_r1 ++ (wsX5_split_r2 ++ wsX5_split_r3)) ++ wsX50 ++ wsX30 ++ wsX00 ++ wsX10)
def wsX5_breakOne_r1 : List Cond := [Cond.fieldLink RX5 39 "HidingBoxes" "picture" "LHidingBoxes$Picture;", Cond.fieldLink RX5 72 "HidingBoxes$Space" "boxes" "[LHidingBoxes$Box;", Cond.fieldLink RX5 88 "HidingBoxes$Box" "low" "[I", Cond.methodLink RX5 125 yX2_look, Cond.instanceMethod yX2_look, Cond.selects RX2 yX2_look yX2_look, Cond.initialized RX2, Cond.code yX2_look cX2_look 3 none, Cond.fieldLink RX2 24 "HidingBoxes$Space" "count" "I", Cond.fieldLink RX2 30 "HidingBoxes$Picture" "count" "I", Cond.fieldLink RX2 9 "HidingBoxes$Picture" "hides" "[I", Cond.methodLink RX2 31 yX2_bitsHiddenBy, Cond.static yX2_bitsHiddenBy, Cond.code yX2_bitsHiddenBy cX2_bitsHiddenBy 4 (some .int), Cond.fieldLink RX2 42 "HidingBoxes$Space" "boxes" "[LHidingBoxes$Box;", Cond.methodLink RX2 46 yX0_directionOfHiding, Cond.instanceMethod yX0_directionOfHiding, Cond.selects RX0 yX0_directionOfHiding yX0_directionOfHiding, Cond.initialized RX0, Cond.code yX0_directionOfHiding cX0_directionOfHiding 3 (some .int), Cond.fieldLink RX0 9 "HidingBoxes$Box" "low" "[I", Cond.fieldLink RX0 15 "HidingBoxes$Box" "high" "[I", Cond.methodLink RX0 40 yX0_overlapsOutlineOf, Cond.instanceMethod yX0_overlapsOutlineOf]
def wsX5_breakOne_r2 : List Cond := [Cond.selects RX0 yX0_overlapsOutlineOf yX0_overlapsOutlineOf, Cond.code yX0_overlapsOutlineOf cX0_overlapsOutlineOf 2 (some .boolean), Cond.methodLink RX0 36 yX0_meetsInDifference, Cond.instanceMethod yX0_meetsInDifference, Cond.selects RX0 yX0_meetsInDifference yX0_meetsInDifference, Cond.code yX0_meetsInDifference cX0_meetsInDifference 4 (some .boolean), Cond.methodLink RX2 35 yX2_followChains, Cond.instanceMethod yX2_followChains, Cond.selects RX2 yX2_followChains yX2_followChains, Cond.code yX2_followChains cX2_followChains 3 none, Cond.fieldLink RX2 15 "HidingBoxes$Picture" "chains" "[I", Cond.methodLink RX2 52 arraycopyName, Cond.native arraycopyName, Cond.static arraycopyName, Cond.initialized "java/lang/System", Cond.methodLink RX2 58 yX2_hasBit, Cond.static yX2_hasBit, Cond.code yX2_hasBit cX2_hasBit 2 (some .boolean), Cond.methodLink RX2 38 yX2_draw, Cond.instanceMethod yX2_draw, Cond.selects RX2 yX2_draw yX2_draw, Cond.code yX2_draw cX2_draw 4 none, Cond.fieldLink RX2 21 "HidingBoxes$Picture" "layers" "[I", Cond.fieldLink RX2 68 "HidingBoxes$Picture" "drawnBits" "I"]
def wsX5_breakOne_r3 : List Cond := [Cond.fieldLink RX2 71 "HidingBoxes$Picture" "drawnCount" "I", Cond.fieldLink RX2 18 "HidingBoxes$Picture" "order" "[I", Cond.methodLink RX2 62 yJ7_fill_53178, Cond.static yJ7_fill_53178, Cond.initialized RJ7, Cond.code yJ7_fill_53178 cJ7_fill_53178 4 none, Cond.methodLink RX2 74 yX2_nextToDraw, Cond.instanceMethod yX2_nextToDraw, Cond.selects RX2 yX2_nextToDraw yX2_nextToDraw, Cond.code yX2_nextToDraw cX2_nextToDraw 5 (some .int), Cond.methodLink RX2 82 yX3_weightInDrawing, Cond.instanceMethod yX3_weightInDrawing, Cond.selects RX3 yX3_weightInDrawing yX3_weightInDrawing, Cond.initialized RX3, Cond.code yX3_weightInDrawing cX3_weightInDrawing 2 (some .int), Cond.fieldLink RX3 28 "HidingBoxes$Space" "rule" "I", Cond.fieldLink RX3 11 "HidingBoxes$Space" "boxes" "[LHidingBoxes$Box;", Cond.methodLink RX3 57 yX0_sumOfCorner, Cond.instanceMethod yX0_sumOfCorner, Cond.selects RX0 yX0_sumOfCorner yX0_sumOfCorner, Cond.code yX0_sumOfCorner cX0_sumOfCorner 1 (some .int), Cond.methodLink RX3 61 yX0_volume, Cond.instanceMethod yX0_volume, Cond.selects RX0 yX0_volume yX0_volume]
def wsX5_breakOne_r4 : List Cond := [Cond.code yX0_volume cX0_volume 1 (some .int), Cond.methodLink RX0 28 yX0_size, Cond.instanceMethod yX0_size, Cond.selects RX0 yX0_size yX0_size, Cond.code yX0_size cX0_size 2 (some .int), Cond.methodLink RX2 78 yX2_layerAbove, Cond.instanceMethod yX2_layerAbove, Cond.selects RX2 yX2_layerAbove yX2_layerAbove, Cond.code yX2_layerAbove cX2_layerAbove 4 (some .int), Cond.methodLink RX2 85 Lib.Math.max.name, Cond.static Lib.Math.max.name, Cond.initialized "java/lang/Math", Cond.code Lib.Math.max.name Lib.Math.max.code 2 (some .int), Cond.methodLink RX5 227 yX2_greatestInRings, Cond.instanceMethod yX2_greatestInRings, Cond.selects RX2 yX2_greatestInRings yX2_greatestInRings, Cond.code yX2_greatestInRings cX2_greatestInRings 4 (some .int), Cond.methodLink RX2 99 yX2_isInRing, Cond.instanceMethod yX2_isInRing, Cond.selects RX2 yX2_isInRing yX2_isInRing, Cond.code yX2_isInRing cX2_isInRing 2 (some .boolean), Cond.methodLink RX2 109 yX0_volume, Cond.methodLink RX5 230 yX0_longestDirection, Cond.instanceMethod yX0_longestDirection]
def wsX5_breakOne_r5 : List Cond := [Cond.selects RX0 yX0_longestDirection yX0_longestDirection, Cond.code yX0_longestDirection cX0_longestDirection 3 (some .int), Cond.methodLink RX5 233 yX0_size, Cond.methodLink RX5 106 yX3_isFull, Cond.instanceMethod yX3_isFull, Cond.selects RX3 yX3_isFull yX3_isFull, Cond.code yX3_isFull cX3_isFull 1 (some .boolean), Cond.fieldLink RX3 18 "HidingBoxes$Space" "count" "I", Cond.methodLink RX5 110 yX3_cutInTwo, Cond.instanceMethod yX3_cutInTwo, Cond.selects RX3 yX3_cutInTwo yX3_cutInTwo, Cond.code yX3_cutInTwo cX3_cutInTwo 5 (some .int), Cond.fieldLink RX3 50 "HidingBoxes$Box" "low" "[I", Cond.fieldLink RX3 54 "HidingBoxes$Box" "high" "[I", Cond.fieldLink RX3 25 "HidingBoxes$Space" "splits" "I", Cond.methodLink RX3 46 yX3_append, Cond.instanceMethod yX3_append, Cond.selects RX3 yX3_append yX3_append, Cond.code yX3_append cX3_append 3 (some .int), Cond.fieldLink RX3 22 "HidingBoxes$Space" "nextNumber" "I", Cond.fieldLink RX3 35 "HidingBoxes$Box" "number" "I", Cond.methodLink RX3 42 yX3_isFull, Cond.methodLink RX3 31 yX0_copyFrom, Cond.instanceMethod yX0_copyFrom]
def wsX5_breakOne_r6 : List Cond := [Cond.selects RX0 yX0_copyFrom yX0_copyFrom, Cond.code yX0_copyFrom cX0_copyFrom 2 none, Cond.fieldLink RX0 18 "HidingBoxes$Box" "number" "I", Cond.methodLink RX0 22 arraycopyName]
def wsX5_breakOne : List Cond := .code yX5_breakOne cX5_breakOne 6 (some .int) :: ((wsX5_breakOne_r1 ++ (wsX5_breakOne_r2 ++ (wsX5_breakOne_r3 ++ (wsX5_breakOne_r4 ++ (wsX5_breakOne_r5 ++ wsX5_breakOne_r6))))) ++ wsX50 ++ wsX30 ++ wsX00 ++ wsX20)
def wsX5_breakRing_r1 : List Cond := [Cond.fieldLink RX5 16 "HidingBoxes" "trial" "LHidingBoxes$Space;", Cond.fieldLink RX5 10 "HidingBoxes" "now" "LHidingBoxes$Space;", Cond.methodLink RX5 57 yX3_copyFrom, Cond.instanceMethod yX3_copyFrom, Cond.selects RX3 yX3_copyFrom yX3_copyFrom, Cond.initialized RX3, Cond.code yX3_copyFrom cX3_copyFrom 3 none, Cond.fieldLink RX3 18 "HidingBoxes$Space" "count" "I", Cond.fieldLink RX3 22 "HidingBoxes$Space" "nextNumber" "I", Cond.fieldLink RX3 25 "HidingBoxes$Space" "splits" "I", Cond.fieldLink RX3 28 "HidingBoxes$Space" "rule" "I", Cond.fieldLink RX3 11 "HidingBoxes$Space" "boxes" "[LHidingBoxes$Box;", Cond.methodLink RX3 31 yX0_copyFrom, Cond.instanceMethod yX0_copyFrom, Cond.selects RX0 yX0_copyFrom yX0_copyFrom, Cond.initialized RX0, Cond.code yX0_copyFrom cX0_copyFrom 2 none, Cond.fieldLink RX0 18 "HidingBoxes$Box" "number" "I", Cond.fieldLink RX0 9 "HidingBoxes$Box" "low" "[I", Cond.methodLink RX0 22 arraycopyName, Cond.native arraycopyName, Cond.static arraycopyName, Cond.initialized "java/lang/System", Cond.fieldLink RX0 15 "HidingBoxes$Box" "high" "[I"]
def wsX5_breakRing_r2 : List Cond := [Cond.methodLink RX5 114 yX5_breakOne, Cond.instanceMethod yX5_breakOne, Cond.selects RX5 yX5_breakOne yX5_breakOne, Cond.initialized RX5, Cond.code yX5_breakOne cX5_breakOne 6 (some .int), Cond.fieldLink RX5 39 "HidingBoxes" "picture" "LHidingBoxes$Picture;", Cond.fieldLink RX5 72 "HidingBoxes$Space" "boxes" "[LHidingBoxes$Box;", Cond.fieldLink RX5 88 "HidingBoxes$Box" "low" "[I", Cond.methodLink RX5 125 yX2_look, Cond.instanceMethod yX2_look, Cond.selects RX2 yX2_look yX2_look, Cond.initialized RX2, Cond.code yX2_look cX2_look 3 none, Cond.fieldLink RX2 24 "HidingBoxes$Space" "count" "I", Cond.fieldLink RX2 30 "HidingBoxes$Picture" "count" "I", Cond.fieldLink RX2 9 "HidingBoxes$Picture" "hides" "[I", Cond.methodLink RX2 31 yX2_bitsHiddenBy, Cond.static yX2_bitsHiddenBy, Cond.code yX2_bitsHiddenBy cX2_bitsHiddenBy 4 (some .int), Cond.fieldLink RX2 42 "HidingBoxes$Space" "boxes" "[LHidingBoxes$Box;", Cond.methodLink RX2 46 yX0_directionOfHiding, Cond.instanceMethod yX0_directionOfHiding, Cond.selects RX0 yX0_directionOfHiding yX0_directionOfHiding, Cond.code yX0_directionOfHiding cX0_directionOfHiding 3 (some .int)]
def wsX5_breakRing_r3 : List Cond := [Cond.methodLink RX0 40 yX0_overlapsOutlineOf, Cond.instanceMethod yX0_overlapsOutlineOf, Cond.selects RX0 yX0_overlapsOutlineOf yX0_overlapsOutlineOf, Cond.code yX0_overlapsOutlineOf cX0_overlapsOutlineOf 2 (some .boolean), Cond.methodLink RX0 36 yX0_meetsInDifference, Cond.instanceMethod yX0_meetsInDifference, Cond.selects RX0 yX0_meetsInDifference yX0_meetsInDifference, Cond.code yX0_meetsInDifference cX0_meetsInDifference 4 (some .boolean), Cond.methodLink RX2 35 yX2_followChains, Cond.instanceMethod yX2_followChains, Cond.selects RX2 yX2_followChains yX2_followChains, Cond.code yX2_followChains cX2_followChains 3 none, Cond.fieldLink RX2 15 "HidingBoxes$Picture" "chains" "[I", Cond.methodLink RX2 52 arraycopyName, Cond.methodLink RX2 58 yX2_hasBit, Cond.static yX2_hasBit, Cond.code yX2_hasBit cX2_hasBit 2 (some .boolean), Cond.methodLink RX2 38 yX2_draw, Cond.instanceMethod yX2_draw, Cond.selects RX2 yX2_draw yX2_draw, Cond.code yX2_draw cX2_draw 4 none, Cond.fieldLink RX2 21 "HidingBoxes$Picture" "layers" "[I", Cond.fieldLink RX2 68 "HidingBoxes$Picture" "drawnBits" "I", Cond.fieldLink RX2 71 "HidingBoxes$Picture" "drawnCount" "I"]
def wsX5_breakRing_r4 : List Cond := [Cond.fieldLink RX2 18 "HidingBoxes$Picture" "order" "[I", Cond.methodLink RX2 62 yJ7_fill_53178, Cond.static yJ7_fill_53178, Cond.initialized RJ7, Cond.code yJ7_fill_53178 cJ7_fill_53178 4 none, Cond.methodLink RX2 74 yX2_nextToDraw, Cond.instanceMethod yX2_nextToDraw, Cond.selects RX2 yX2_nextToDraw yX2_nextToDraw, Cond.code yX2_nextToDraw cX2_nextToDraw 5 (some .int), Cond.methodLink RX2 82 yX3_weightInDrawing, Cond.instanceMethod yX3_weightInDrawing, Cond.selects RX3 yX3_weightInDrawing yX3_weightInDrawing, Cond.code yX3_weightInDrawing cX3_weightInDrawing 2 (some .int), Cond.methodLink RX3 57 yX0_sumOfCorner, Cond.instanceMethod yX0_sumOfCorner, Cond.selects RX0 yX0_sumOfCorner yX0_sumOfCorner, Cond.code yX0_sumOfCorner cX0_sumOfCorner 1 (some .int), Cond.methodLink RX3 61 yX0_volume, Cond.instanceMethod yX0_volume, Cond.selects RX0 yX0_volume yX0_volume, Cond.code yX0_volume cX0_volume 1 (some .int), Cond.methodLink RX0 28 yX0_size, Cond.instanceMethod yX0_size, Cond.selects RX0 yX0_size yX0_size]
def wsX5_breakRing_r5 : List Cond := [Cond.code yX0_size cX0_size 2 (some .int), Cond.methodLink RX2 78 yX2_layerAbove, Cond.instanceMethod yX2_layerAbove, Cond.selects RX2 yX2_layerAbove yX2_layerAbove, Cond.code yX2_layerAbove cX2_layerAbove 4 (some .int), Cond.methodLink RX2 85 Lib.Math.max.name, Cond.static Lib.Math.max.name, Cond.initialized "java/lang/Math", Cond.code Lib.Math.max.name Lib.Math.max.code 2 (some .int), Cond.methodLink RX5 227 yX2_greatestInRings, Cond.instanceMethod yX2_greatestInRings, Cond.selects RX2 yX2_greatestInRings yX2_greatestInRings, Cond.code yX2_greatestInRings cX2_greatestInRings 4 (some .int), Cond.methodLink RX2 99 yX2_isInRing, Cond.instanceMethod yX2_isInRing, Cond.selects RX2 yX2_isInRing yX2_isInRing, Cond.code yX2_isInRing cX2_isInRing 2 (some .boolean), Cond.methodLink RX2 109 yX0_volume, Cond.methodLink RX5 230 yX0_longestDirection, Cond.instanceMethod yX0_longestDirection, Cond.selects RX0 yX0_longestDirection yX0_longestDirection, Cond.code yX0_longestDirection cX0_longestDirection 3 (some .int), Cond.methodLink RX5 233 yX0_size, Cond.methodLink RX5 106 yX3_isFull]
def wsX5_breakRing_r6 : List Cond := [Cond.instanceMethod yX3_isFull, Cond.selects RX3 yX3_isFull yX3_isFull, Cond.code yX3_isFull cX3_isFull 1 (some .boolean), Cond.methodLink RX5 110 yX3_cutInTwo, Cond.instanceMethod yX3_cutInTwo, Cond.selects RX3 yX3_cutInTwo yX3_cutInTwo, Cond.code yX3_cutInTwo cX3_cutInTwo 5 (some .int), Cond.fieldLink RX3 50 "HidingBoxes$Box" "low" "[I", Cond.fieldLink RX3 54 "HidingBoxes$Box" "high" "[I", Cond.methodLink RX3 46 yX3_append, Cond.instanceMethod yX3_append, Cond.selects RX3 yX3_append yX3_append, Cond.code yX3_append cX3_append 3 (some .int), Cond.fieldLink RX3 35 "HidingBoxes$Box" "number" "I", Cond.methodLink RX3 42 yX3_isFull, Cond.methodLink RX5 65 yX5_adoptTrial, Cond.instanceMethod yX5_adoptTrial, Cond.selects RX5 yX5_adoptTrial yX5_adoptTrial, Cond.code yX5_adoptTrial cX5_adoptTrial 1 none, Cond.fieldLink RX5 25 "HidingBoxes" "history" "LHidingBoxes$History;", Cond.methodLink RX5 218 yX1_remember, Cond.instanceMethod yX1_remember, Cond.selects RX1 yX1_remember yX1_remember, Cond.initialized RX1]
def wsX5_breakRing_r7 : List Cond := [Cond.code yX1_remember cX1_remember 2 none, Cond.fieldLink RX1 18 "HidingBoxes$History" "count" "I", Cond.fieldLink RX1 11 "HidingBoxes$History" "states" "[LHidingBoxes$Space;", Cond.methodLink RX1 22 yX1_dropOldest, Cond.instanceMethod yX1_dropOldest, Cond.selects RX1 yX1_dropOldest yX1_dropOldest, Cond.code yX1_dropOldest cX1_dropOldest 3 none, Cond.methodLink RX1 25 yX3_copyFrom]
def wsX5_breakRing : List Cond := .code yX5_breakRing cX5_breakRing 2 (some .int) :: ((wsX5_breakRing_r1 ++ (wsX5_breakRing_r2 ++ (wsX5_breakRing_r3 ++ (wsX5_breakRing_r4 ++ (wsX5_breakRing_r5 ++ (wsX5_breakRing_r6 ++ wsX5_breakRing_r7)))))) ++ wsX50 ++ wsX30 ++ wsX00 ++ wsX20 ++ wsX10)
def wsX5_turn_r1 : List Cond := [Cond.fieldLink RX5 10 "HidingBoxes" "now" "LHidingBoxes$Space;", Cond.fieldLink RX5 118 "HidingBoxes$Space" "count" "I", Cond.fieldLink RX5 16 "HidingBoxes" "trial" "LHidingBoxes$Space;", Cond.fieldLink RX5 39 "HidingBoxes" "picture" "LHidingBoxes$Picture;", Cond.fieldLink RX5 43 "HidingBoxes" "turnedPicture" "LHidingBoxes$Picture;", Cond.methodLink RX5 57 yX3_copyFrom, Cond.instanceMethod yX3_copyFrom, Cond.selects RX3 yX3_copyFrom yX3_copyFrom, Cond.initialized RX3, Cond.code yX3_copyFrom cX3_copyFrom 3 none, Cond.fieldLink RX3 18 "HidingBoxes$Space" "count" "I", Cond.fieldLink RX3 22 "HidingBoxes$Space" "nextNumber" "I", Cond.fieldLink RX3 25 "HidingBoxes$Space" "splits" "I", Cond.fieldLink RX3 28 "HidingBoxes$Space" "rule" "I", Cond.fieldLink RX3 11 "HidingBoxes$Space" "boxes" "[LHidingBoxes$Box;", Cond.methodLink RX3 31 yX0_copyFrom, Cond.instanceMethod yX0_copyFrom, Cond.selects RX0 yX0_copyFrom yX0_copyFrom, Cond.initialized RX0, Cond.code yX0_copyFrom cX0_copyFrom 2 none, Cond.fieldLink RX0 18 "HidingBoxes$Box" "number" "I", Cond.fieldLink RX0 9 "HidingBoxes$Box" "low" "[I", Cond.methodLink RX0 22 arraycopyName, Cond.native arraycopyName]
def wsX5_turn_r2 : List Cond := [Cond.static arraycopyName, Cond.initialized "java/lang/System", Cond.fieldLink RX0 15 "HidingBoxes$Box" "high" "[I", Cond.methodLink RX5 122 yX3_quarterTurn, Cond.instanceMethod yX3_quarterTurn, Cond.selects RX3 yX3_quarterTurn yX3_quarterTurn, Cond.code yX3_quarterTurn cX3_quarterTurn 5 none, Cond.fieldLink RX3 50 "HidingBoxes$Box" "low" "[I", Cond.fieldLink RX3 54 "HidingBoxes$Box" "high" "[I", Cond.methodLink RX5 125 yX2_look, Cond.instanceMethod yX2_look, Cond.selects RX2 yX2_look yX2_look, Cond.initialized RX2, Cond.code yX2_look cX2_look 3 none, Cond.fieldLink RX2 24 "HidingBoxes$Space" "count" "I", Cond.fieldLink RX2 30 "HidingBoxes$Picture" "count" "I", Cond.fieldLink RX2 9 "HidingBoxes$Picture" "hides" "[I", Cond.methodLink RX2 31 yX2_bitsHiddenBy, Cond.static yX2_bitsHiddenBy, Cond.code yX2_bitsHiddenBy cX2_bitsHiddenBy 4 (some .int), Cond.fieldLink RX2 42 "HidingBoxes$Space" "boxes" "[LHidingBoxes$Box;", Cond.methodLink RX2 46 yX0_directionOfHiding, Cond.instanceMethod yX0_directionOfHiding, Cond.selects RX0 yX0_directionOfHiding yX0_directionOfHiding]
def wsX5_turn_r3 : List Cond := [Cond.code yX0_directionOfHiding cX0_directionOfHiding 3 (some .int), Cond.methodLink RX0 40 yX0_overlapsOutlineOf, Cond.instanceMethod yX0_overlapsOutlineOf, Cond.selects RX0 yX0_overlapsOutlineOf yX0_overlapsOutlineOf, Cond.code yX0_overlapsOutlineOf cX0_overlapsOutlineOf 2 (some .boolean), Cond.methodLink RX0 36 yX0_meetsInDifference, Cond.instanceMethod yX0_meetsInDifference, Cond.selects RX0 yX0_meetsInDifference yX0_meetsInDifference, Cond.code yX0_meetsInDifference cX0_meetsInDifference 4 (some .boolean), Cond.methodLink RX2 35 yX2_followChains, Cond.instanceMethod yX2_followChains, Cond.selects RX2 yX2_followChains yX2_followChains, Cond.code yX2_followChains cX2_followChains 3 none, Cond.fieldLink RX2 15 "HidingBoxes$Picture" "chains" "[I", Cond.methodLink RX2 52 arraycopyName, Cond.methodLink RX2 58 yX2_hasBit, Cond.static yX2_hasBit, Cond.code yX2_hasBit cX2_hasBit 2 (some .boolean), Cond.methodLink RX2 38 yX2_draw, Cond.instanceMethod yX2_draw, Cond.selects RX2 yX2_draw yX2_draw, Cond.code yX2_draw cX2_draw 4 none, Cond.fieldLink RX2 21 "HidingBoxes$Picture" "layers" "[I", Cond.fieldLink RX2 68 "HidingBoxes$Picture" "drawnBits" "I"]
def wsX5_turn_r4 : List Cond := [Cond.fieldLink RX2 71 "HidingBoxes$Picture" "drawnCount" "I", Cond.fieldLink RX2 18 "HidingBoxes$Picture" "order" "[I", Cond.methodLink RX2 62 yJ7_fill_53178, Cond.static yJ7_fill_53178, Cond.initialized RJ7, Cond.code yJ7_fill_53178 cJ7_fill_53178 4 none, Cond.methodLink RX2 74 yX2_nextToDraw, Cond.instanceMethod yX2_nextToDraw, Cond.selects RX2 yX2_nextToDraw yX2_nextToDraw, Cond.code yX2_nextToDraw cX2_nextToDraw 5 (some .int), Cond.methodLink RX2 82 yX3_weightInDrawing, Cond.instanceMethod yX3_weightInDrawing, Cond.selects RX3 yX3_weightInDrawing yX3_weightInDrawing, Cond.code yX3_weightInDrawing cX3_weightInDrawing 2 (some .int), Cond.methodLink RX3 57 yX0_sumOfCorner, Cond.instanceMethod yX0_sumOfCorner, Cond.selects RX0 yX0_sumOfCorner yX0_sumOfCorner, Cond.code yX0_sumOfCorner cX0_sumOfCorner 1 (some .int), Cond.methodLink RX3 61 yX0_volume, Cond.instanceMethod yX0_volume, Cond.selects RX0 yX0_volume yX0_volume, Cond.code yX0_volume cX0_volume 1 (some .int), Cond.methodLink RX0 28 yX0_size, Cond.instanceMethod yX0_size]
def wsX5_turn_r5 : List Cond := [Cond.selects RX0 yX0_size yX0_size, Cond.code yX0_size cX0_size 2 (some .int), Cond.methodLink RX2 78 yX2_layerAbove, Cond.instanceMethod yX2_layerAbove, Cond.selects RX2 yX2_layerAbove yX2_layerAbove, Cond.code yX2_layerAbove cX2_layerAbove 4 (some .int), Cond.methodLink RX2 85 Lib.Math.max.name, Cond.static Lib.Math.max.name, Cond.initialized "java/lang/Math", Cond.code Lib.Math.max.name Lib.Math.max.code 2 (some .int), Cond.methodLink RX5 128 yX2_hidingsNotIn, Cond.instanceMethod yX2_hidingsNotIn, Cond.selects RX2 yX2_hidingsNotIn yX2_hidingsNotIn, Cond.code yX2_hidingsNotIn cX2_hidingsNotIn 4 (some .int), Cond.methodLink RX2 91 yJ6_bitCount_0f7a4, Cond.static yJ6_bitCount_0f7a4, Cond.initialized RJ6, Cond.code yJ6_bitCount_0f7a4 cJ6_bitCount_0f7a4 1 (some .int), Cond.constant RJ6 265 (1431655765), Cond.constant RJ6 266 (858993459), Cond.constant RJ6 267 (252645135), Cond.methodLink RX5 65 yX5_adoptTrial, Cond.instanceMethod yX5_adoptTrial, Cond.selects RX5 yX5_adoptTrial yX5_adoptTrial]
def wsX5_turn_r6 : List Cond := [Cond.initialized RX5, Cond.code yX5_adoptTrial cX5_adoptTrial 1 none, Cond.fieldLink RX5 25 "HidingBoxes" "history" "LHidingBoxes$History;", Cond.methodLink RX5 218 yX1_remember, Cond.instanceMethod yX1_remember, Cond.selects RX1 yX1_remember yX1_remember, Cond.initialized RX1, Cond.code yX1_remember cX1_remember 2 none, Cond.fieldLink RX1 18 "HidingBoxes$History" "count" "I", Cond.fieldLink RX1 11 "HidingBoxes$History" "states" "[LHidingBoxes$Space;", Cond.methodLink RX1 22 yX1_dropOldest, Cond.instanceMethod yX1_dropOldest, Cond.selects RX1 yX1_dropOldest yX1_dropOldest, Cond.code yX1_dropOldest cX1_dropOldest 3 none, Cond.methodLink RX1 25 yX3_copyFrom]
def wsX5_turn : List Cond := .code yX5_turn cX5_turn 2 (some .int) :: ((wsX5_turn_r1 ++ (wsX5_turn_r2 ++ (wsX5_turn_r3 ++ (wsX5_turn_r4 ++ (wsX5_turn_r5 ++ wsX5_turn_r6))))) ++ wsX50 ++ wsX30 ++ wsX00 ++ wsX20 ++ wsX10)
def wsX5_set_r1 : List Cond := [Cond.fieldLink RX5 10 "HidingBoxes" "now" "LHidingBoxes$Space;", Cond.fieldLink RX5 132 "HidingBoxes$Space" "rule" "I", Cond.fieldLink RX5 16 "HidingBoxes" "trial" "LHidingBoxes$Space;", Cond.methodLink RX5 57 yX3_copyFrom, Cond.instanceMethod yX3_copyFrom, Cond.selects RX3 yX3_copyFrom yX3_copyFrom, Cond.initialized RX3, Cond.code yX3_copyFrom cX3_copyFrom 3 none, Cond.fieldLink RX3 18 "HidingBoxes$Space" "count" "I", Cond.fieldLink RX3 22 "HidingBoxes$Space" "nextNumber" "I", Cond.fieldLink RX3 25 "HidingBoxes$Space" "splits" "I", Cond.fieldLink RX3 28 "HidingBoxes$Space" "rule" "I", Cond.fieldLink RX3 11 "HidingBoxes$Space" "boxes" "[LHidingBoxes$Box;", Cond.methodLink RX3 31 yX0_copyFrom, Cond.instanceMethod yX0_copyFrom, Cond.selects RX0 yX0_copyFrom yX0_copyFrom, Cond.initialized RX0, Cond.code yX0_copyFrom cX0_copyFrom 2 none, Cond.fieldLink RX0 18 "HidingBoxes$Box" "number" "I", Cond.fieldLink RX0 9 "HidingBoxes$Box" "low" "[I", Cond.methodLink RX0 22 arraycopyName, Cond.native arraycopyName, Cond.static arraycopyName, Cond.initialized "java/lang/System"]
def wsX5_set_r2 : List Cond := [Cond.fieldLink RX0 15 "HidingBoxes$Box" "high" "[I", Cond.methodLink RX5 65 yX5_adoptTrial, Cond.instanceMethod yX5_adoptTrial, Cond.selects RX5 yX5_adoptTrial yX5_adoptTrial, Cond.initialized RX5, Cond.code yX5_adoptTrial cX5_adoptTrial 1 none, Cond.fieldLink RX5 25 "HidingBoxes" "history" "LHidingBoxes$History;", Cond.methodLink RX5 218 yX1_remember, Cond.instanceMethod yX1_remember, Cond.selects RX1 yX1_remember yX1_remember, Cond.initialized RX1, Cond.code yX1_remember cX1_remember 2 none, Cond.fieldLink RX1 18 "HidingBoxes$History" "count" "I", Cond.fieldLink RX1 11 "HidingBoxes$History" "states" "[LHidingBoxes$Space;", Cond.methodLink RX1 22 yX1_dropOldest, Cond.instanceMethod yX1_dropOldest, Cond.selects RX1 yX1_dropOldest yX1_dropOldest, Cond.code yX1_dropOldest cX1_dropOldest 3 none, Cond.methodLink RX1 25 yX3_copyFrom]
def wsX5_set : List Cond := .code yX5_set cX5_set 4 (some .int) :: ((wsX5_set_r1 ++ wsX5_set_r2) ++ wsX50 ++ wsX30 ++ wsX00 ++ wsX10)
def wsX5_type : List Cond := .code yX5_type cX5_type 2 (some .int) :: ([.fieldLink RX5 32 "HidingBoxes" "text" "LHidingBoxes$Text;", .fieldLink RX5 139 "HidingBoxes$Text" "length" "I", .methodLink RX5 135 yX4_append, .instanceMethod yX4_append, .selects RX4 yX4_append yX4_append, .initialized RX4, .code yX4_append cX4_append 2 (some .boolean), .fieldLink RX4 19 "HidingBoxes$Text" "length" "I", .fieldLink RX4 9 "HidingBoxes$Text" "signs" "[C"] ++ wsX50 ++ wsX40)
def wsX5_clearText : List Cond := .code yX5_clearText cX5_clearText 2 (some .int) :: ([.fieldLink RX5 32 "HidingBoxes" "text" "LHidingBoxes$Text;", .fieldLink RX5 139 "HidingBoxes$Text" "length" "I"] ++ wsX50 ++ wsX40)
def wsX5_addAll_r1 : List Cond := [Cond.fieldLink RX5 32 "HidingBoxes" "text" "LHidingBoxes$Text;", Cond.fieldLink RX5 16 "HidingBoxes" "trial" "LHidingBoxes$Space;", Cond.fieldLink RX5 10 "HidingBoxes" "now" "LHidingBoxes$Space;", Cond.methodLink RX5 142 yX4_read, Cond.instanceMethod yX4_read, Cond.selects RX4 yX4_read yX4_read, Cond.initialized RX4, Cond.code yX4_read cX4_read 5 (some .int), Cond.fieldLink RX4 23 "HidingBoxes$Text" "valueCount" "I", Cond.fieldLink RX4 19 "HidingBoxes$Text" "length" "I", Cond.fieldLink RX4 9 "HidingBoxes$Text" "signs" "[C", Cond.methodLink RX4 26 yX4_withDigit, Cond.static yX4_withDigit, Cond.code yX4_withDigit cX4_withDigit 6 (some .int), Cond.methodLink RX4 30 yX4_signBehind, Cond.static yX4_signBehind, Cond.code yX4_signBehind cX4_signBehind 1 (some .char), Cond.methodLink RX4 34 yX4_store, Cond.instanceMethod yX4_store, Cond.selects RX4 yX4_store yX4_store, Cond.code yX4_store cX4_store 2 none, Cond.fieldLink RX4 15 "HidingBoxes$Text" "values" "[I", Cond.methodLink RX5 57 yX3_copyFrom, Cond.instanceMethod yX3_copyFrom]
def wsX5_addAll_r2 : List Cond := [Cond.selects RX3 yX3_copyFrom yX3_copyFrom, Cond.initialized RX3, Cond.code yX3_copyFrom cX3_copyFrom 3 none, Cond.fieldLink RX3 18 "HidingBoxes$Space" "count" "I", Cond.fieldLink RX3 22 "HidingBoxes$Space" "nextNumber" "I", Cond.fieldLink RX3 25 "HidingBoxes$Space" "splits" "I", Cond.fieldLink RX3 28 "HidingBoxes$Space" "rule" "I", Cond.fieldLink RX3 11 "HidingBoxes$Space" "boxes" "[LHidingBoxes$Box;", Cond.methodLink RX3 31 yX0_copyFrom, Cond.instanceMethod yX0_copyFrom, Cond.selects RX0 yX0_copyFrom yX0_copyFrom, Cond.initialized RX0, Cond.code yX0_copyFrom cX0_copyFrom 2 none, Cond.fieldLink RX0 18 "HidingBoxes$Box" "number" "I", Cond.fieldLink RX0 9 "HidingBoxes$Box" "low" "[I", Cond.methodLink RX0 22 arraycopyName, Cond.native arraycopyName, Cond.static arraycopyName, Cond.initialized "java/lang/System", Cond.fieldLink RX0 15 "HidingBoxes$Box" "high" "[I", Cond.methodLink RX5 145 yX4_boxCount, Cond.instanceMethod yX4_boxCount, Cond.selects RX4 yX4_boxCount yX4_boxCount, Cond.code yX4_boxCount cX4_boxCount 1 (some .int)]
def wsX5_addAll_r3 : List Cond := [Cond.methodLink RX5 148 yX4_valueOf, Cond.instanceMethod yX4_valueOf, Cond.selects RX4 yX4_valueOf yX4_valueOf, Cond.code yX4_valueOf cX4_valueOf 4 (some .int), Cond.methodLink RX5 61 yX5_enter, Cond.instanceMethod yX5_enter, Cond.selects RX5 yX5_enter yX5_enter, Cond.initialized RX5, Cond.code yX5_enter cX5_enter 9 (some .int), Cond.fieldLink RX5 49 "HidingBoxes" "newcomer" "LHidingBoxes$Box;", Cond.methodLink RX5 221 yX0_lay, Cond.instanceMethod yX0_lay, Cond.selects RX0 yX0_lay yX0_lay, Cond.code yX0_lay cX0_lay 4 (some .boolean), Cond.methodLink RX5 99 yX3_isCutBy, Cond.instanceMethod yX3_isCutBy, Cond.selects RX3 yX3_isCutBy yX3_isCutBy, Cond.code yX3_isCutBy cX3_isCutBy 4 (some .boolean), Cond.methodLink RX3 38 yX0_cuts, Cond.instanceMethod yX0_cuts, Cond.selects RX0 yX0_cuts yX0_cuts, Cond.code yX0_cuts cX0_cuts 2 (some .boolean), Cond.methodLink RX0 32 yX0_meets, Cond.instanceMethod yX0_meets]
def wsX5_addAll_r4 : List Cond := [Cond.selects RX0 yX0_meets yX0_meets, Cond.code yX0_meets cX0_meets 3 (some .boolean), Cond.methodLink RX5 106 yX3_isFull, Cond.instanceMethod yX3_isFull, Cond.selects RX3 yX3_isFull yX3_isFull, Cond.code yX3_isFull cX3_isFull 1 (some .boolean), Cond.methodLink RX5 225 yX3_append, Cond.instanceMethod yX3_append, Cond.selects RX3 yX3_append yX3_append, Cond.code yX3_append cX3_append 3 (some .int), Cond.fieldLink RX3 35 "HidingBoxes$Box" "number" "I", Cond.methodLink RX3 42 yX3_isFull, Cond.methodLink RX5 65 yX5_adoptTrial, Cond.instanceMethod yX5_adoptTrial, Cond.selects RX5 yX5_adoptTrial yX5_adoptTrial, Cond.code yX5_adoptTrial cX5_adoptTrial 1 none, Cond.fieldLink RX5 25 "HidingBoxes" "history" "LHidingBoxes$History;", Cond.methodLink RX5 218 yX1_remember, Cond.instanceMethod yX1_remember, Cond.selects RX1 yX1_remember yX1_remember, Cond.initialized RX1, Cond.code yX1_remember cX1_remember 2 none, Cond.fieldLink RX1 18 "HidingBoxes$History" "count" "I", Cond.fieldLink RX1 11 "HidingBoxes$History" "states" "[LHidingBoxes$Space;"]
def wsX5_addAll_r5 : List Cond := [Cond.methodLink RX1 22 yX1_dropOldest, Cond.instanceMethod yX1_dropOldest, Cond.selects RX1 yX1_dropOldest yX1_dropOldest, Cond.code yX1_dropOldest cX1_dropOldest 3 none, Cond.methodLink RX1 25 yX3_copyFrom]
def wsX5_addAll : List Cond := .code yX5_addAll cX5_addAll 5 (some .int) :: ((wsX5_addAll_r1 ++ (wsX5_addAll_r2 ++ (wsX5_addAll_r3 ++ (wsX5_addAll_r4 ++ wsX5_addAll_r5)))) ++ wsX50 ++ wsX40 ++ wsX30 ++ wsX00 ++ wsX10)
def wsX5_undo_r1 : List Cond := [Cond.fieldLink RX5 25 "HidingBoxes" "history" "LHidingBoxes$History;", Cond.fieldLink RX5 152 "HidingBoxes$History" "count" "I", Cond.fieldLink RX5 10 "HidingBoxes" "now" "LHidingBoxes$Space;", Cond.methodLink RX5 153 yX1_recall, Cond.instanceMethod yX1_recall, Cond.selects RX1 yX1_recall yX1_recall, Cond.initialized RX1, Cond.code yX1_recall cX1_recall 2 none, Cond.fieldLink RX1 18 "HidingBoxes$History" "count" "I", Cond.fieldLink RX1 11 "HidingBoxes$History" "states" "[LHidingBoxes$Space;", Cond.methodLink RX1 25 yX3_copyFrom, Cond.instanceMethod yX3_copyFrom, Cond.selects RX3 yX3_copyFrom yX3_copyFrom, Cond.initialized RX3, Cond.code yX3_copyFrom cX3_copyFrom 3 none, Cond.fieldLink RX3 18 "HidingBoxes$Space" "count" "I", Cond.fieldLink RX3 22 "HidingBoxes$Space" "nextNumber" "I", Cond.fieldLink RX3 25 "HidingBoxes$Space" "splits" "I", Cond.fieldLink RX3 28 "HidingBoxes$Space" "rule" "I", Cond.fieldLink RX3 11 "HidingBoxes$Space" "boxes" "[LHidingBoxes$Box;", Cond.methodLink RX3 31 yX0_copyFrom, Cond.instanceMethod yX0_copyFrom, Cond.selects RX0 yX0_copyFrom yX0_copyFrom, Cond.initialized RX0]
def wsX5_undo_r2 : List Cond := [Cond.code yX0_copyFrom cX0_copyFrom 2 none, Cond.fieldLink RX0 18 "HidingBoxes$Box" "number" "I", Cond.fieldLink RX0 9 "HidingBoxes$Box" "low" "[I", Cond.methodLink RX0 22 arraycopyName, Cond.native arraycopyName, Cond.static arraycopyName, Cond.initialized "java/lang/System", Cond.fieldLink RX0 15 "HidingBoxes$Box" "high" "[I"]
def wsX5_undo : List Cond := .code yX5_undo cX5_undo 1 (some .int) :: ((wsX5_undo_r1 ++ wsX5_undo_r2) ++ wsX50 ++ wsX10 ++ wsX30 ++ wsX00)
def wsX5_keep_r1 : List Cond := [Cond.fieldLink RX5 19 "HidingBoxes" "snapshot" "LHidingBoxes$Space;", Cond.fieldLink RX5 10 "HidingBoxes" "now" "LHidingBoxes$Space;", Cond.fieldLink RX5 53 "HidingBoxes" "hasSnapshot" "Z", Cond.fieldLink RX5 118 "HidingBoxes$Space" "count" "I", Cond.methodLink RX5 57 yX3_copyFrom, Cond.instanceMethod yX3_copyFrom, Cond.selects RX3 yX3_copyFrom yX3_copyFrom, Cond.initialized RX3, Cond.code yX3_copyFrom cX3_copyFrom 3 none, Cond.fieldLink RX3 18 "HidingBoxes$Space" "count" "I", Cond.fieldLink RX3 22 "HidingBoxes$Space" "nextNumber" "I", Cond.fieldLink RX3 25 "HidingBoxes$Space" "splits" "I", Cond.fieldLink RX3 28 "HidingBoxes$Space" "rule" "I", Cond.fieldLink RX3 11 "HidingBoxes$Space" "boxes" "[LHidingBoxes$Box;", Cond.methodLink RX3 31 yX0_copyFrom, Cond.instanceMethod yX0_copyFrom, Cond.selects RX0 yX0_copyFrom yX0_copyFrom, Cond.initialized RX0, Cond.code yX0_copyFrom cX0_copyFrom 2 none, Cond.fieldLink RX0 18 "HidingBoxes$Box" "number" "I", Cond.fieldLink RX0 9 "HidingBoxes$Box" "low" "[I", Cond.methodLink RX0 22 arraycopyName, Cond.native arraycopyName, Cond.static arraycopyName]
def wsX5_keep_r2 : List Cond := [Cond.initialized "java/lang/System", Cond.fieldLink RX0 15 "HidingBoxes$Box" "high" "[I"]
def wsX5_keep : List Cond := .code yX5_keep cX5_keep 1 (some .int) :: ((wsX5_keep_r1 ++ wsX5_keep_r2) ++ wsX50 ++ wsX30 ++ wsX00)
def wsX5_restore_r1 : List Cond := [Cond.fieldLink RX5 53 "HidingBoxes" "hasSnapshot" "Z", Cond.fieldLink RX5 16 "HidingBoxes" "trial" "LHidingBoxes$Space;", Cond.fieldLink RX5 19 "HidingBoxes" "snapshot" "LHidingBoxes$Space;", Cond.fieldLink RX5 10 "HidingBoxes" "now" "LHidingBoxes$Space;", Cond.fieldLink RX5 118 "HidingBoxes$Space" "count" "I", Cond.methodLink RX5 57 yX3_copyFrom, Cond.instanceMethod yX3_copyFrom, Cond.selects RX3 yX3_copyFrom yX3_copyFrom, Cond.initialized RX3, Cond.code yX3_copyFrom cX3_copyFrom 3 none, Cond.fieldLink RX3 18 "HidingBoxes$Space" "count" "I", Cond.fieldLink RX3 22 "HidingBoxes$Space" "nextNumber" "I", Cond.fieldLink RX3 25 "HidingBoxes$Space" "splits" "I", Cond.fieldLink RX3 28 "HidingBoxes$Space" "rule" "I", Cond.fieldLink RX3 11 "HidingBoxes$Space" "boxes" "[LHidingBoxes$Box;", Cond.methodLink RX3 31 yX0_copyFrom, Cond.instanceMethod yX0_copyFrom, Cond.selects RX0 yX0_copyFrom yX0_copyFrom, Cond.initialized RX0, Cond.code yX0_copyFrom cX0_copyFrom 2 none, Cond.fieldLink RX0 18 "HidingBoxes$Box" "number" "I", Cond.fieldLink RX0 9 "HidingBoxes$Box" "low" "[I", Cond.methodLink RX0 22 arraycopyName, Cond.native arraycopyName]
def wsX5_restore_r2 : List Cond := [Cond.static arraycopyName, Cond.initialized "java/lang/System", Cond.fieldLink RX0 15 "HidingBoxes$Box" "high" "[I", Cond.methodLink RX5 65 yX5_adoptTrial, Cond.instanceMethod yX5_adoptTrial, Cond.selects RX5 yX5_adoptTrial yX5_adoptTrial, Cond.initialized RX5, Cond.code yX5_adoptTrial cX5_adoptTrial 1 none, Cond.fieldLink RX5 25 "HidingBoxes" "history" "LHidingBoxes$History;", Cond.methodLink RX5 218 yX1_remember, Cond.instanceMethod yX1_remember, Cond.selects RX1 yX1_remember yX1_remember, Cond.initialized RX1, Cond.code yX1_remember cX1_remember 2 none, Cond.fieldLink RX1 18 "HidingBoxes$History" "count" "I", Cond.fieldLink RX1 11 "HidingBoxes$History" "states" "[LHidingBoxes$Space;", Cond.methodLink RX1 22 yX1_dropOldest, Cond.instanceMethod yX1_dropOldest, Cond.selects RX1 yX1_dropOldest yX1_dropOldest, Cond.code yX1_dropOldest cX1_dropOldest 3 none, Cond.methodLink RX1 25 yX3_copyFrom]
def wsX5_restore : List Cond := .code yX5_restore cX5_restore 1 (some .int) :: ((wsX5_restore_r1 ++ wsX5_restore_r2) ++ wsX50 ++ wsX30 ++ wsX00 ++ wsX10)
def wsX5_box : List Cond := .code yX5_box cX5_box 2 (some .int) :: ([.fieldLink RX5 10 "HidingBoxes" "now" "LHidingBoxes$Space;", .fieldLink RX5 118 "HidingBoxes$Space" "count" "I", .fieldLink RX5 72 "HidingBoxes$Space" "boxes" "[LHidingBoxes$Box;", .fieldLink RX5 156 "HidingBoxes$Box" "number" "I"] ++ wsX50 ++ wsX30 ++ wsX00)
def wsX5_end : List Cond := .code yX5_end cX5_end 6 (some .int) :: ([.fieldLink RX5 10 "HidingBoxes" "now" "LHidingBoxes$Space;", .fieldLink RX5 72 "HidingBoxes$Space" "boxes" "[LHidingBoxes$Box;", .fieldLink RX5 92 "HidingBoxes$Box" "high" "[I", .fieldLink RX5 88 "HidingBoxes$Box" "low" "[I", .methodLink RX5 68 yX3_slotOf, .instanceMethod yX3_slotOf, .selects RX3 yX3_slotOf yX3_slotOf, .initialized RX3, .code yX3_slotOf cX3_slotOf 3 (some .int), .fieldLink RX3 18 "HidingBoxes$Space" "count" "I", .fieldLink RX3 11 "HidingBoxes$Space" "boxes" "[LHidingBoxes$Box;", .fieldLink RX3 35 "HidingBoxes$Box" "number" "I", .methodLink RX5 84 yX5_isDirection, .static yX5_isDirection, .initialized RX5, .code yX5_isDirection cX5_isDirection 1 (some .boolean)] ++ wsX50 ++ wsX30 ++ wsX00)
def wsX5_look_r1 : List Cond := [Cond.fieldLink RX5 39 "HidingBoxes" "picture" "LHidingBoxes$Picture;", Cond.fieldLink RX5 10 "HidingBoxes" "now" "LHidingBoxes$Space;", Cond.methodLink RX5 125 yX2_look, Cond.instanceMethod yX2_look, Cond.selects RX2 yX2_look yX2_look, Cond.initialized RX2, Cond.code yX2_look cX2_look 3 none, Cond.fieldLink RX2 24 "HidingBoxes$Space" "count" "I", Cond.fieldLink RX2 30 "HidingBoxes$Picture" "count" "I", Cond.fieldLink RX2 9 "HidingBoxes$Picture" "hides" "[I", Cond.methodLink RX2 31 yX2_bitsHiddenBy, Cond.static yX2_bitsHiddenBy, Cond.code yX2_bitsHiddenBy cX2_bitsHiddenBy 4 (some .int), Cond.fieldLink RX2 42 "HidingBoxes$Space" "boxes" "[LHidingBoxes$Box;", Cond.methodLink RX2 46 yX0_directionOfHiding, Cond.instanceMethod yX0_directionOfHiding, Cond.selects RX0 yX0_directionOfHiding yX0_directionOfHiding, Cond.initialized RX0, Cond.code yX0_directionOfHiding cX0_directionOfHiding 3 (some .int), Cond.fieldLink RX0 9 "HidingBoxes$Box" "low" "[I", Cond.fieldLink RX0 15 "HidingBoxes$Box" "high" "[I", Cond.methodLink RX0 40 yX0_overlapsOutlineOf, Cond.instanceMethod yX0_overlapsOutlineOf, Cond.selects RX0 yX0_overlapsOutlineOf yX0_overlapsOutlineOf]
def wsX5_look_r2 : List Cond := [Cond.code yX0_overlapsOutlineOf cX0_overlapsOutlineOf 2 (some .boolean), Cond.methodLink RX0 36 yX0_meetsInDifference, Cond.instanceMethod yX0_meetsInDifference, Cond.selects RX0 yX0_meetsInDifference yX0_meetsInDifference, Cond.code yX0_meetsInDifference cX0_meetsInDifference 4 (some .boolean), Cond.methodLink RX2 35 yX2_followChains, Cond.instanceMethod yX2_followChains, Cond.selects RX2 yX2_followChains yX2_followChains, Cond.code yX2_followChains cX2_followChains 3 none, Cond.fieldLink RX2 15 "HidingBoxes$Picture" "chains" "[I", Cond.methodLink RX2 52 arraycopyName, Cond.native arraycopyName, Cond.static arraycopyName, Cond.initialized "java/lang/System", Cond.methodLink RX2 58 yX2_hasBit, Cond.static yX2_hasBit, Cond.code yX2_hasBit cX2_hasBit 2 (some .boolean), Cond.methodLink RX2 38 yX2_draw, Cond.instanceMethod yX2_draw, Cond.selects RX2 yX2_draw yX2_draw, Cond.code yX2_draw cX2_draw 4 none, Cond.fieldLink RX2 21 "HidingBoxes$Picture" "layers" "[I", Cond.fieldLink RX2 68 "HidingBoxes$Picture" "drawnBits" "I", Cond.fieldLink RX2 71 "HidingBoxes$Picture" "drawnCount" "I"]
def wsX5_look_r3 : List Cond := [Cond.fieldLink RX2 18 "HidingBoxes$Picture" "order" "[I", Cond.methodLink RX2 62 yJ7_fill_53178, Cond.static yJ7_fill_53178, Cond.initialized RJ7, Cond.code yJ7_fill_53178 cJ7_fill_53178 4 none, Cond.methodLink RX2 74 yX2_nextToDraw, Cond.instanceMethod yX2_nextToDraw, Cond.selects RX2 yX2_nextToDraw yX2_nextToDraw, Cond.code yX2_nextToDraw cX2_nextToDraw 5 (some .int), Cond.methodLink RX2 82 yX3_weightInDrawing, Cond.instanceMethod yX3_weightInDrawing, Cond.selects RX3 yX3_weightInDrawing yX3_weightInDrawing, Cond.initialized RX3, Cond.code yX3_weightInDrawing cX3_weightInDrawing 2 (some .int), Cond.fieldLink RX3 28 "HidingBoxes$Space" "rule" "I", Cond.fieldLink RX3 11 "HidingBoxes$Space" "boxes" "[LHidingBoxes$Box;", Cond.methodLink RX3 57 yX0_sumOfCorner, Cond.instanceMethod yX0_sumOfCorner, Cond.selects RX0 yX0_sumOfCorner yX0_sumOfCorner, Cond.code yX0_sumOfCorner cX0_sumOfCorner 1 (some .int), Cond.methodLink RX3 61 yX0_volume, Cond.instanceMethod yX0_volume, Cond.selects RX0 yX0_volume yX0_volume, Cond.code yX0_volume cX0_volume 1 (some .int)]
def wsX5_look_r4 : List Cond := [Cond.methodLink RX0 28 yX0_size, Cond.instanceMethod yX0_size, Cond.selects RX0 yX0_size yX0_size, Cond.code yX0_size cX0_size 2 (some .int), Cond.methodLink RX2 78 yX2_layerAbove, Cond.instanceMethod yX2_layerAbove, Cond.selects RX2 yX2_layerAbove yX2_layerAbove, Cond.code yX2_layerAbove cX2_layerAbove 4 (some .int), Cond.methodLink RX2 85 Lib.Math.max.name, Cond.static Lib.Math.max.name, Cond.initialized "java/lang/Math", Cond.code Lib.Math.max.name Lib.Math.max.code 2 (some .int)]
def wsX5_look : List Cond := .code yX5_look cX5_look 1 (some (.object "HidingBoxes$Picture")) :: ((wsX5_look_r1 ++ (wsX5_look_r2 ++ (wsX5_look_r3 ++ wsX5_look_r4))) ++ wsX50 ++ wsX30 ++ wsX20 ++ wsX00)
def wsX5_ofBox_r1 : List Cond := [Cond.fieldLink RX5 10 "HidingBoxes" "now" "LHidingBoxes$Space;", Cond.fieldLink RX5 72 "HidingBoxes$Space" "boxes" "[LHidingBoxes$Box;", Cond.fieldLink RX5 168 "HidingBoxes$Picture" "layers" "[I", Cond.fieldLink RX5 88 "HidingBoxes$Box" "low" "[I", Cond.methodLink RX5 68 yX3_slotOf, Cond.instanceMethod yX3_slotOf, Cond.selects RX3 yX3_slotOf yX3_slotOf, Cond.initialized RX3, Cond.code yX3_slotOf cX3_slotOf 3 (some .int), Cond.fieldLink RX3 18 "HidingBoxes$Space" "count" "I", Cond.fieldLink RX3 11 "HidingBoxes$Space" "boxes" "[LHidingBoxes$Box;", Cond.fieldLink RX3 35 "HidingBoxes$Box" "number" "I", Cond.methodLink RX5 76 yX0_volume, Cond.instanceMethod yX0_volume, Cond.selects RX0 yX0_volume yX0_volume, Cond.initialized RX0, Cond.code yX0_volume cX0_volume 1 (some .int), Cond.methodLink RX0 28 yX0_size, Cond.instanceMethod yX0_size, Cond.selects RX0 yX0_size yX0_size, Cond.code yX0_size cX0_size 2 (some .int), Cond.fieldLink RX0 15 "HidingBoxes$Box" "high" "[I", Cond.fieldLink RX0 9 "HidingBoxes$Box" "low" "[I", Cond.methodLink RX5 159 yX5_look]
def wsX5_ofBox_r2 : List Cond := [Cond.instanceMethod yX5_look, Cond.selects RX5 yX5_look yX5_look, Cond.initialized RX5, Cond.code yX5_look cX5_look 1 (some (.object "HidingBoxes$Picture")), Cond.fieldLink RX5 39 "HidingBoxes" "picture" "LHidingBoxes$Picture;", Cond.methodLink RX5 125 yX2_look, Cond.instanceMethod yX2_look, Cond.selects RX2 yX2_look yX2_look, Cond.initialized RX2, Cond.code yX2_look cX2_look 3 none, Cond.fieldLink RX2 24 "HidingBoxes$Space" "count" "I", Cond.fieldLink RX2 30 "HidingBoxes$Picture" "count" "I", Cond.fieldLink RX2 9 "HidingBoxes$Picture" "hides" "[I", Cond.methodLink RX2 31 yX2_bitsHiddenBy, Cond.static yX2_bitsHiddenBy, Cond.code yX2_bitsHiddenBy cX2_bitsHiddenBy 4 (some .int), Cond.fieldLink RX2 42 "HidingBoxes$Space" "boxes" "[LHidingBoxes$Box;", Cond.methodLink RX2 46 yX0_directionOfHiding, Cond.instanceMethod yX0_directionOfHiding, Cond.selects RX0 yX0_directionOfHiding yX0_directionOfHiding, Cond.code yX0_directionOfHiding cX0_directionOfHiding 3 (some .int), Cond.methodLink RX0 40 yX0_overlapsOutlineOf, Cond.instanceMethod yX0_overlapsOutlineOf, Cond.selects RX0 yX0_overlapsOutlineOf yX0_overlapsOutlineOf]
def wsX5_ofBox_r3 : List Cond := [Cond.code yX0_overlapsOutlineOf cX0_overlapsOutlineOf 2 (some .boolean), Cond.methodLink RX0 36 yX0_meetsInDifference, Cond.instanceMethod yX0_meetsInDifference, Cond.selects RX0 yX0_meetsInDifference yX0_meetsInDifference, Cond.code yX0_meetsInDifference cX0_meetsInDifference 4 (some .boolean), Cond.methodLink RX2 35 yX2_followChains, Cond.instanceMethod yX2_followChains, Cond.selects RX2 yX2_followChains yX2_followChains, Cond.code yX2_followChains cX2_followChains 3 none, Cond.fieldLink RX2 15 "HidingBoxes$Picture" "chains" "[I", Cond.methodLink RX2 52 arraycopyName, Cond.native arraycopyName, Cond.static arraycopyName, Cond.initialized "java/lang/System", Cond.methodLink RX2 58 yX2_hasBit, Cond.static yX2_hasBit, Cond.code yX2_hasBit cX2_hasBit 2 (some .boolean), Cond.methodLink RX2 38 yX2_draw, Cond.instanceMethod yX2_draw, Cond.selects RX2 yX2_draw yX2_draw, Cond.code yX2_draw cX2_draw 4 none, Cond.fieldLink RX2 21 "HidingBoxes$Picture" "layers" "[I", Cond.fieldLink RX2 68 "HidingBoxes$Picture" "drawnBits" "I", Cond.fieldLink RX2 71 "HidingBoxes$Picture" "drawnCount" "I"]
def wsX5_ofBox_r4 : List Cond := [Cond.fieldLink RX2 18 "HidingBoxes$Picture" "order" "[I", Cond.methodLink RX2 62 yJ7_fill_53178, Cond.static yJ7_fill_53178, Cond.initialized RJ7, Cond.code yJ7_fill_53178 cJ7_fill_53178 4 none, Cond.methodLink RX2 74 yX2_nextToDraw, Cond.instanceMethod yX2_nextToDraw, Cond.selects RX2 yX2_nextToDraw yX2_nextToDraw, Cond.code yX2_nextToDraw cX2_nextToDraw 5 (some .int), Cond.methodLink RX2 82 yX3_weightInDrawing, Cond.instanceMethod yX3_weightInDrawing, Cond.selects RX3 yX3_weightInDrawing yX3_weightInDrawing, Cond.code yX3_weightInDrawing cX3_weightInDrawing 2 (some .int), Cond.fieldLink RX3 28 "HidingBoxes$Space" "rule" "I", Cond.methodLink RX3 57 yX0_sumOfCorner, Cond.instanceMethod yX0_sumOfCorner, Cond.selects RX0 yX0_sumOfCorner yX0_sumOfCorner, Cond.code yX0_sumOfCorner cX0_sumOfCorner 1 (some .int), Cond.methodLink RX3 61 yX0_volume, Cond.methodLink RX2 78 yX2_layerAbove, Cond.instanceMethod yX2_layerAbove, Cond.selects RX2 yX2_layerAbove yX2_layerAbove, Cond.code yX2_layerAbove cX2_layerAbove 4 (some .int), Cond.methodLink RX2 85 Lib.Math.max.name]
def wsX5_ofBox_r5 : List Cond := [Cond.static Lib.Math.max.name, Cond.initialized "java/lang/Math", Cond.code Lib.Math.max.name Lib.Math.max.code 2 (some .int), Cond.methodLink RX5 162 yX2_hiddenBy, Cond.instanceMethod yX2_hiddenBy, Cond.selects RX2 yX2_hiddenBy yX2_hiddenBy, Cond.code yX2_hiddenBy cX2_hiddenBy 2 (some .int), Cond.methodLink RX2 91 yJ6_bitCount_0f7a4, Cond.static yJ6_bitCount_0f7a4, Cond.initialized RJ6, Cond.code yJ6_bitCount_0f7a4 cJ6_bitCount_0f7a4 1 (some .int), Cond.constant RJ6 265 (1431655765), Cond.constant RJ6 266 (858993459), Cond.constant RJ6 267 (252645135), Cond.methodLink RX5 165 yX2_hidersOf, Cond.instanceMethod yX2_hidersOf, Cond.selects RX2 yX2_hidersOf yX2_hidersOf, Cond.code yX2_hidersOf cX2_hidersOf 4 (some .int), Cond.methodLink RX5 171 yX2_shortestRingOf, Cond.instanceMethod yX2_shortestRingOf, Cond.selects RX2 yX2_shortestRingOf yX2_shortestRingOf, Cond.code yX2_shortestRingOf cX2_shortestRingOf 4 (some .int), Cond.methodLink RX2 106 yX2_bitsHiddenByAll, Cond.instanceMethod yX2_bitsHiddenByAll]
def wsX5_ofBox_r6 : List Cond := [Cond.selects RX2 yX2_bitsHiddenByAll yX2_bitsHiddenByAll, Cond.code yX2_bitsHiddenByAll cX2_bitsHiddenByAll 4 (some .int), Cond.methodLink RX5 174 yX3_supportsOf, Cond.instanceMethod yX3_supportsOf, Cond.selects RX3 yX3_supportsOf yX3_supportsOf, Cond.code yX3_supportsOf cX3_supportsOf 5 (some .int), Cond.fieldLink RX3 54 "HidingBoxes$Box" "high" "[I", Cond.fieldLink RX3 50 "HidingBoxes$Box" "low" "[I", Cond.methodLink RX3 64 yX0_isBelow, Cond.instanceMethod yX0_isBelow, Cond.selects RX0 yX0_isBelow yX0_isBelow, Cond.code yX0_isBelow cX0_isBelow 2 (some .boolean), Cond.methodLink RX0 32 yX0_meets, Cond.instanceMethod yX0_meets, Cond.selects RX0 yX0_meets yX0_meets, Cond.code yX0_meets cX0_meets 3 (some .boolean), Cond.methodLink RX5 177 yX3_boxesBelow, Cond.instanceMethod yX3_boxesBelow, Cond.selects RX3 yX3_boxesBelow yX3_boxesBelow, Cond.code yX3_boxesBelow cX3_boxesBelow 4 (some .int), Cond.methodLink RX5 180 yX3_shadowOn, Cond.instanceMethod yX3_shadowOn, Cond.selects RX3 yX3_shadowOn yX3_shadowOn, Cond.code yX3_shadowOn cX3_shadowOn 7 (some .int)]
def wsX5_ofBox_r7 : List Cond := [Cond.methodLink RX3 73 yX0_coversRow, Cond.instanceMethod yX0_coversRow, Cond.selects RX0 yX0_coversRow yX0_coversRow, Cond.code yX0_coversRow cX0_coversRow 2 (some .boolean), Cond.methodLink RX3 77 yX0_rowOfCells, Cond.instanceMethod yX0_rowOfCells, Cond.selects RX0 yX0_rowOfCells yX0_rowOfCells, Cond.code yX0_rowOfCells cX0_rowOfCells 1 (some .int), Cond.methodLink RX3 80 yJ6_bitCount_0f7a4]
def wsX5_ofBox : List Cond := .code yX5_ofBox cX5_ofBox 4 (some .int) :: ((wsX5_ofBox_r1 ++ (wsX5_ofBox_r2 ++ (wsX5_ofBox_r3 ++ (wsX5_ofBox_r4 ++ (wsX5_ofBox_r5 ++ (wsX5_ofBox_r6 ++ wsX5_ofBox_r7)))))) ++ wsX50 ++ wsX30 ++ wsX20 ++ wsX00)
def wsX5_pair_r1 : List Cond := [Cond.fieldLink RX5 10 "HidingBoxes" "now" "LHidingBoxes$Space;", Cond.fieldLink RX5 72 "HidingBoxes$Space" "boxes" "[LHidingBoxes$Box;", Cond.methodLink RX5 68 yX3_slotOf, Cond.instanceMethod yX3_slotOf, Cond.selects RX3 yX3_slotOf yX3_slotOf, Cond.initialized RX3, Cond.code yX3_slotOf cX3_slotOf 3 (some .int), Cond.fieldLink RX3 18 "HidingBoxes$Space" "count" "I", Cond.fieldLink RX3 11 "HidingBoxes$Space" "boxes" "[LHidingBoxes$Box;", Cond.fieldLink RX3 35 "HidingBoxes$Box" "number" "I", Cond.methodLink RX5 183 yX0_directionOfHiding, Cond.instanceMethod yX0_directionOfHiding, Cond.selects RX0 yX0_directionOfHiding yX0_directionOfHiding, Cond.initialized RX0, Cond.code yX0_directionOfHiding cX0_directionOfHiding 3 (some .int), Cond.fieldLink RX0 9 "HidingBoxes$Box" "low" "[I", Cond.fieldLink RX0 15 "HidingBoxes$Box" "high" "[I", Cond.methodLink RX0 40 yX0_overlapsOutlineOf, Cond.instanceMethod yX0_overlapsOutlineOf, Cond.selects RX0 yX0_overlapsOutlineOf yX0_overlapsOutlineOf, Cond.code yX0_overlapsOutlineOf cX0_overlapsOutlineOf 2 (some .boolean), Cond.methodLink RX0 36 yX0_meetsInDifference, Cond.instanceMethod yX0_meetsInDifference, Cond.selects RX0 yX0_meetsInDifference yX0_meetsInDifference]
def wsX5_pair_r2 : List Cond := [Cond.code yX0_meetsInDifference cX0_meetsInDifference 4 (some .boolean)]
def wsX5_pair : List Cond := .code yX5_pair cX5_pair 7 (some .int) :: ((wsX5_pair_r1 ++ wsX5_pair_r2) ++ wsX50 ++ wsX30 ++ wsX00)
def wsX5_drawn_r1 : List Cond := [Cond.fieldLink RX5 10 "HidingBoxes" "now" "LHidingBoxes$Space;", Cond.fieldLink RX5 72 "HidingBoxes$Space" "boxes" "[LHidingBoxes$Box;", Cond.fieldLink RX5 156 "HidingBoxes$Box" "number" "I", Cond.methodLink RX5 159 yX5_look, Cond.instanceMethod yX5_look, Cond.selects RX5 yX5_look yX5_look, Cond.initialized RX5, Cond.code yX5_look cX5_look 1 (some (.object "HidingBoxes$Picture")), Cond.fieldLink RX5 39 "HidingBoxes" "picture" "LHidingBoxes$Picture;", Cond.methodLink RX5 125 yX2_look, Cond.instanceMethod yX2_look, Cond.selects RX2 yX2_look yX2_look, Cond.initialized RX2, Cond.code yX2_look cX2_look 3 none, Cond.fieldLink RX2 24 "HidingBoxes$Space" "count" "I", Cond.fieldLink RX2 30 "HidingBoxes$Picture" "count" "I", Cond.fieldLink RX2 9 "HidingBoxes$Picture" "hides" "[I", Cond.methodLink RX2 31 yX2_bitsHiddenBy, Cond.static yX2_bitsHiddenBy, Cond.code yX2_bitsHiddenBy cX2_bitsHiddenBy 4 (some .int), Cond.fieldLink RX2 42 "HidingBoxes$Space" "boxes" "[LHidingBoxes$Box;", Cond.methodLink RX2 46 yX0_directionOfHiding, Cond.instanceMethod yX0_directionOfHiding, Cond.selects RX0 yX0_directionOfHiding yX0_directionOfHiding]
def wsX5_drawn_r2 : List Cond := [Cond.initialized RX0, Cond.code yX0_directionOfHiding cX0_directionOfHiding 3 (some .int), Cond.fieldLink RX0 9 "HidingBoxes$Box" "low" "[I", Cond.fieldLink RX0 15 "HidingBoxes$Box" "high" "[I", Cond.methodLink RX0 40 yX0_overlapsOutlineOf, Cond.instanceMethod yX0_overlapsOutlineOf, Cond.selects RX0 yX0_overlapsOutlineOf yX0_overlapsOutlineOf, Cond.code yX0_overlapsOutlineOf cX0_overlapsOutlineOf 2 (some .boolean), Cond.methodLink RX0 36 yX0_meetsInDifference, Cond.instanceMethod yX0_meetsInDifference, Cond.selects RX0 yX0_meetsInDifference yX0_meetsInDifference, Cond.code yX0_meetsInDifference cX0_meetsInDifference 4 (some .boolean), Cond.methodLink RX2 35 yX2_followChains, Cond.instanceMethod yX2_followChains, Cond.selects RX2 yX2_followChains yX2_followChains, Cond.code yX2_followChains cX2_followChains 3 none, Cond.fieldLink RX2 15 "HidingBoxes$Picture" "chains" "[I", Cond.methodLink RX2 52 arraycopyName, Cond.native arraycopyName, Cond.static arraycopyName, Cond.initialized "java/lang/System", Cond.methodLink RX2 58 yX2_hasBit, Cond.static yX2_hasBit, Cond.code yX2_hasBit cX2_hasBit 2 (some .boolean)]
def wsX5_drawn_r3 : List Cond := [Cond.methodLink RX2 38 yX2_draw, Cond.instanceMethod yX2_draw, Cond.selects RX2 yX2_draw yX2_draw, Cond.code yX2_draw cX2_draw 4 none, Cond.fieldLink RX2 21 "HidingBoxes$Picture" "layers" "[I", Cond.fieldLink RX2 68 "HidingBoxes$Picture" "drawnBits" "I", Cond.fieldLink RX2 71 "HidingBoxes$Picture" "drawnCount" "I", Cond.fieldLink RX2 18 "HidingBoxes$Picture" "order" "[I", Cond.methodLink RX2 62 yJ7_fill_53178, Cond.static yJ7_fill_53178, Cond.initialized RJ7, Cond.code yJ7_fill_53178 cJ7_fill_53178 4 none, Cond.methodLink RX2 74 yX2_nextToDraw, Cond.instanceMethod yX2_nextToDraw, Cond.selects RX2 yX2_nextToDraw yX2_nextToDraw, Cond.code yX2_nextToDraw cX2_nextToDraw 5 (some .int), Cond.methodLink RX2 82 yX3_weightInDrawing, Cond.instanceMethod yX3_weightInDrawing, Cond.selects RX3 yX3_weightInDrawing yX3_weightInDrawing, Cond.initialized RX3, Cond.code yX3_weightInDrawing cX3_weightInDrawing 2 (some .int), Cond.fieldLink RX3 28 "HidingBoxes$Space" "rule" "I", Cond.fieldLink RX3 11 "HidingBoxes$Space" "boxes" "[LHidingBoxes$Box;", Cond.methodLink RX3 57 yX0_sumOfCorner]
def wsX5_drawn_r4 : List Cond := [Cond.instanceMethod yX0_sumOfCorner, Cond.selects RX0 yX0_sumOfCorner yX0_sumOfCorner, Cond.code yX0_sumOfCorner cX0_sumOfCorner 1 (some .int), Cond.methodLink RX3 61 yX0_volume, Cond.instanceMethod yX0_volume, Cond.selects RX0 yX0_volume yX0_volume, Cond.code yX0_volume cX0_volume 1 (some .int), Cond.methodLink RX0 28 yX0_size, Cond.instanceMethod yX0_size, Cond.selects RX0 yX0_size yX0_size, Cond.code yX0_size cX0_size 2 (some .int), Cond.methodLink RX2 78 yX2_layerAbove, Cond.instanceMethod yX2_layerAbove, Cond.selects RX2 yX2_layerAbove yX2_layerAbove, Cond.code yX2_layerAbove cX2_layerAbove 4 (some .int), Cond.methodLink RX2 85 Lib.Math.max.name, Cond.static Lib.Math.max.name, Cond.initialized "java/lang/Math", Cond.code Lib.Math.max.name Lib.Math.max.code 2 (some .int), Cond.methodLink RX5 187 yX2_slotDrawn, Cond.instanceMethod yX2_slotDrawn, Cond.selects RX2 yX2_slotDrawn yX2_slotDrawn, Cond.code yX2_slotDrawn cX2_slotDrawn 2 (some .int)]
def wsX5_drawn : List Cond := .code yX5_drawn cX5_drawn 3 (some .int) :: ((wsX5_drawn_r1 ++ (wsX5_drawn_r2 ++ (wsX5_drawn_r3 ++ wsX5_drawn_r4))) ++ wsX50 ++ wsX30 ++ wsX00 ++ wsX20)
def wsX5_total_r1 : List Cond := [Cond.fieldLink RX5 10 "HidingBoxes" "now" "LHidingBoxes$Space;", Cond.fieldLink RX5 118 "HidingBoxes$Space" "count" "I", Cond.fieldLink RX5 190 "HidingBoxes$Space" "nextNumber" "I", Cond.fieldLink RX5 196 "HidingBoxes$Picture" "drawnCount" "I", Cond.fieldLink RX5 208 "HidingBoxes$Space" "splits" "I", Cond.fieldLink RX5 132 "HidingBoxes$Space" "rule" "I", Cond.fieldLink RX5 25 "HidingBoxes" "history" "LHidingBoxes$History;", Cond.fieldLink RX5 152 "HidingBoxes$History" "count" "I", Cond.fieldLink RX5 32 "HidingBoxes" "text" "LHidingBoxes$Text;", Cond.fieldLink RX5 139 "HidingBoxes$Text" "length" "I", Cond.methodLink RX5 159 yX5_look, Cond.instanceMethod yX5_look, Cond.selects RX5 yX5_look yX5_look, Cond.initialized RX5, Cond.code yX5_look cX5_look 1 (some (.object "HidingBoxes$Picture")), Cond.fieldLink RX5 39 "HidingBoxes" "picture" "LHidingBoxes$Picture;", Cond.methodLink RX5 125 yX2_look, Cond.instanceMethod yX2_look, Cond.selects RX2 yX2_look yX2_look, Cond.initialized RX2, Cond.code yX2_look cX2_look 3 none, Cond.fieldLink RX2 24 "HidingBoxes$Space" "count" "I", Cond.fieldLink RX2 30 "HidingBoxes$Picture" "count" "I", Cond.fieldLink RX2 9 "HidingBoxes$Picture" "hides" "[I"]
def wsX5_total_r2 : List Cond := [Cond.methodLink RX2 31 yX2_bitsHiddenBy, Cond.static yX2_bitsHiddenBy, Cond.code yX2_bitsHiddenBy cX2_bitsHiddenBy 4 (some .int), Cond.fieldLink RX2 42 "HidingBoxes$Space" "boxes" "[LHidingBoxes$Box;", Cond.methodLink RX2 46 yX0_directionOfHiding, Cond.instanceMethod yX0_directionOfHiding, Cond.selects RX0 yX0_directionOfHiding yX0_directionOfHiding, Cond.initialized RX0, Cond.code yX0_directionOfHiding cX0_directionOfHiding 3 (some .int), Cond.fieldLink RX0 9 "HidingBoxes$Box" "low" "[I", Cond.fieldLink RX0 15 "HidingBoxes$Box" "high" "[I", Cond.methodLink RX0 40 yX0_overlapsOutlineOf, Cond.instanceMethod yX0_overlapsOutlineOf, Cond.selects RX0 yX0_overlapsOutlineOf yX0_overlapsOutlineOf, Cond.code yX0_overlapsOutlineOf cX0_overlapsOutlineOf 2 (some .boolean), Cond.methodLink RX0 36 yX0_meetsInDifference, Cond.instanceMethod yX0_meetsInDifference, Cond.selects RX0 yX0_meetsInDifference yX0_meetsInDifference, Cond.code yX0_meetsInDifference cX0_meetsInDifference 4 (some .boolean), Cond.methodLink RX2 35 yX2_followChains, Cond.instanceMethod yX2_followChains, Cond.selects RX2 yX2_followChains yX2_followChains, Cond.code yX2_followChains cX2_followChains 3 none, Cond.fieldLink RX2 15 "HidingBoxes$Picture" "chains" "[I"]
def wsX5_total_r3 : List Cond := [Cond.methodLink RX2 52 arraycopyName, Cond.native arraycopyName, Cond.static arraycopyName, Cond.initialized "java/lang/System", Cond.methodLink RX2 58 yX2_hasBit, Cond.static yX2_hasBit, Cond.code yX2_hasBit cX2_hasBit 2 (some .boolean), Cond.methodLink RX2 38 yX2_draw, Cond.instanceMethod yX2_draw, Cond.selects RX2 yX2_draw yX2_draw, Cond.code yX2_draw cX2_draw 4 none, Cond.fieldLink RX2 21 "HidingBoxes$Picture" "layers" "[I", Cond.fieldLink RX2 68 "HidingBoxes$Picture" "drawnBits" "I", Cond.fieldLink RX2 71 "HidingBoxes$Picture" "drawnCount" "I", Cond.fieldLink RX2 18 "HidingBoxes$Picture" "order" "[I", Cond.methodLink RX2 62 yJ7_fill_53178, Cond.static yJ7_fill_53178, Cond.initialized RJ7, Cond.code yJ7_fill_53178 cJ7_fill_53178 4 none, Cond.methodLink RX2 74 yX2_nextToDraw, Cond.instanceMethod yX2_nextToDraw, Cond.selects RX2 yX2_nextToDraw yX2_nextToDraw, Cond.code yX2_nextToDraw cX2_nextToDraw 5 (some .int), Cond.methodLink RX2 82 yX3_weightInDrawing]
def wsX5_total_r4 : List Cond := [Cond.instanceMethod yX3_weightInDrawing, Cond.selects RX3 yX3_weightInDrawing yX3_weightInDrawing, Cond.initialized RX3, Cond.code yX3_weightInDrawing cX3_weightInDrawing 2 (some .int), Cond.fieldLink RX3 28 "HidingBoxes$Space" "rule" "I", Cond.fieldLink RX3 11 "HidingBoxes$Space" "boxes" "[LHidingBoxes$Box;", Cond.methodLink RX3 57 yX0_sumOfCorner, Cond.instanceMethod yX0_sumOfCorner, Cond.selects RX0 yX0_sumOfCorner yX0_sumOfCorner, Cond.code yX0_sumOfCorner cX0_sumOfCorner 1 (some .int), Cond.methodLink RX3 61 yX0_volume, Cond.instanceMethod yX0_volume, Cond.selects RX0 yX0_volume yX0_volume, Cond.code yX0_volume cX0_volume 1 (some .int), Cond.methodLink RX0 28 yX0_size, Cond.instanceMethod yX0_size, Cond.selects RX0 yX0_size yX0_size, Cond.code yX0_size cX0_size 2 (some .int), Cond.methodLink RX2 78 yX2_layerAbove, Cond.instanceMethod yX2_layerAbove, Cond.selects RX2 yX2_layerAbove yX2_layerAbove, Cond.code yX2_layerAbove cX2_layerAbove 4 (some .int), Cond.methodLink RX2 85 Lib.Math.max.name, Cond.static Lib.Math.max.name]
def wsX5_total_r5 : List Cond := [Cond.initialized "java/lang/Math", Cond.code Lib.Math.max.name Lib.Math.max.code 2 (some .int), Cond.methodLink RX5 193 yX2_hidings, Cond.instanceMethod yX2_hidings, Cond.selects RX2 yX2_hidings yX2_hidings, Cond.code yX2_hidings cX2_hidings 3 (some .int), Cond.methodLink RX2 96 yX2_hiddenBy, Cond.instanceMethod yX2_hiddenBy, Cond.selects RX2 yX2_hiddenBy yX2_hiddenBy, Cond.code yX2_hiddenBy cX2_hiddenBy 2 (some .int), Cond.methodLink RX2 91 yJ6_bitCount_0f7a4, Cond.static yJ6_bitCount_0f7a4, Cond.initialized RJ6, Cond.code yJ6_bitCount_0f7a4 cJ6_bitCount_0f7a4 1 (some .int), Cond.constant RJ6 265 (1431655765), Cond.constant RJ6 266 (858993459), Cond.constant RJ6 267 (252645135), Cond.methodLink RX5 199 yX2_boxesInRings, Cond.instanceMethod yX2_boxesInRings, Cond.selects RX2 yX2_boxesInRings yX2_boxesInRings, Cond.code yX2_boxesInRings cX2_boxesInRings 3 (some .int), Cond.methodLink RX2 99 yX2_isInRing, Cond.instanceMethod yX2_isInRing, Cond.selects RX2 yX2_isInRing yX2_isInRing]
def wsX5_total_r6 : List Cond := [Cond.code yX2_isInRing cX2_isInRing 2 (some .boolean), Cond.methodLink RX5 202 yX2_shortestRing, Cond.instanceMethod yX2_shortestRing, Cond.selects RX2 yX2_shortestRing yX2_shortestRing, Cond.code yX2_shortestRing cX2_shortestRing 4 (some .int), Cond.methodLink RX2 103 yX2_shortestRingOf, Cond.instanceMethod yX2_shortestRingOf, Cond.selects RX2 yX2_shortestRingOf yX2_shortestRingOf, Cond.code yX2_shortestRingOf cX2_shortestRingOf 4 (some .int), Cond.methodLink RX2 106 yX2_bitsHiddenByAll, Cond.instanceMethod yX2_bitsHiddenByAll, Cond.selects RX2 yX2_bitsHiddenByAll yX2_bitsHiddenByAll, Cond.code yX2_bitsHiddenByAll cX2_bitsHiddenByAll 4 (some .int), Cond.methodLink RX5 205 yX2_greatestLayer, Cond.instanceMethod yX2_greatestLayer, Cond.selects RX2 yX2_greatestLayer yX2_greatestLayer, Cond.code yX2_greatestLayer cX2_greatestLayer 3 (some .int), Cond.methodLink RX5 211 yX3_volume, Cond.instanceMethod yX3_volume, Cond.selects RX3 yX3_volume yX3_volume, Cond.code yX3_volume cX3_volume 3 (some .int), Cond.fieldLink RX3 18 "HidingBoxes$Space" "count" "I", Cond.methodLink RX5 212 yX3_shadow, Cond.instanceMethod yX3_shadow]
def wsX5_total_r7 : List Cond := [Cond.selects RX3 yX3_shadow yX3_shadow, Cond.code yX3_shadow cX3_shadow 3 (some .int), Cond.methodLink RX3 86 yX3_shadowOn, Cond.instanceMethod yX3_shadowOn, Cond.selects RX3 yX3_shadowOn yX3_shadowOn, Cond.code yX3_shadowOn cX3_shadowOn 7 (some .int), Cond.fieldLink RX3 50 "HidingBoxes$Box" "low" "[I", Cond.fieldLink RX3 54 "HidingBoxes$Box" "high" "[I", Cond.methodLink RX3 64 yX0_isBelow, Cond.instanceMethod yX0_isBelow, Cond.selects RX0 yX0_isBelow yX0_isBelow, Cond.code yX0_isBelow cX0_isBelow 2 (some .boolean), Cond.methodLink RX0 32 yX0_meets, Cond.instanceMethod yX0_meets, Cond.selects RX0 yX0_meets yX0_meets, Cond.code yX0_meets cX0_meets 3 (some .boolean), Cond.methodLink RX3 73 yX0_coversRow, Cond.instanceMethod yX0_coversRow, Cond.selects RX0 yX0_coversRow yX0_coversRow, Cond.code yX0_coversRow cX0_coversRow 2 (some .boolean), Cond.methodLink RX3 77 yX0_rowOfCells, Cond.instanceMethod yX0_rowOfCells, Cond.selects RX0 yX0_rowOfCells yX0_rowOfCells, Cond.code yX0_rowOfCells cX0_rowOfCells 1 (some .int)]
def wsX5_total_r8 : List Cond := [Cond.methodLink RX3 80 yJ6_bitCount_0f7a4]
def wsX5_total : List Cond := .code yX5_total cX5_total 2 (some .int) :: ((wsX5_total_r1 ++ (wsX5_total_r2 ++ (wsX5_total_r3 ++ (wsX5_total_r4 ++ (wsX5_total_r5 ++ (wsX5_total_r6 ++ (wsX5_total_r7 ++ wsX5_total_r8))))))) ++ wsX50 ++ wsX30 ++ wsX20 ++ wsX10 ++ wsX40 ++ wsX00)
def wsX5_waitsFor_r1 : List Cond := [Cond.fieldLink RX5 10 "HidingBoxes" "now" "LHidingBoxes$Space;", Cond.fieldLink RX5 72 "HidingBoxes$Space" "boxes" "[LHidingBoxes$Box;", Cond.fieldLink RX5 156 "HidingBoxes$Box" "number" "I", Cond.methodLink RX5 68 yX3_slotOf, Cond.instanceMethod yX3_slotOf, Cond.selects RX3 yX3_slotOf yX3_slotOf, Cond.initialized RX3, Cond.code yX3_slotOf cX3_slotOf 3 (some .int), Cond.fieldLink RX3 18 "HidingBoxes$Space" "count" "I", Cond.fieldLink RX3 11 "HidingBoxes$Space" "boxes" "[LHidingBoxes$Box;", Cond.fieldLink RX3 35 "HidingBoxes$Box" "number" "I", Cond.methodLink RX5 159 yX5_look, Cond.instanceMethod yX5_look, Cond.selects RX5 yX5_look yX5_look, Cond.initialized RX5, Cond.code yX5_look cX5_look 1 (some (.object "HidingBoxes$Picture")), Cond.fieldLink RX5 39 "HidingBoxes" "picture" "LHidingBoxes$Picture;", Cond.methodLink RX5 125 yX2_look, Cond.instanceMethod yX2_look, Cond.selects RX2 yX2_look yX2_look, Cond.initialized RX2, Cond.code yX2_look cX2_look 3 none, Cond.fieldLink RX2 24 "HidingBoxes$Space" "count" "I", Cond.fieldLink RX2 30 "HidingBoxes$Picture" "count" "I"]
def wsX5_waitsFor_r2 : List Cond := [Cond.fieldLink RX2 9 "HidingBoxes$Picture" "hides" "[I", Cond.methodLink RX2 31 yX2_bitsHiddenBy, Cond.static yX2_bitsHiddenBy, Cond.code yX2_bitsHiddenBy cX2_bitsHiddenBy 4 (some .int), Cond.fieldLink RX2 42 "HidingBoxes$Space" "boxes" "[LHidingBoxes$Box;", Cond.methodLink RX2 46 yX0_directionOfHiding, Cond.instanceMethod yX0_directionOfHiding, Cond.selects RX0 yX0_directionOfHiding yX0_directionOfHiding, Cond.initialized RX0, Cond.code yX0_directionOfHiding cX0_directionOfHiding 3 (some .int), Cond.fieldLink RX0 9 "HidingBoxes$Box" "low" "[I", Cond.fieldLink RX0 15 "HidingBoxes$Box" "high" "[I", Cond.methodLink RX0 40 yX0_overlapsOutlineOf, Cond.instanceMethod yX0_overlapsOutlineOf, Cond.selects RX0 yX0_overlapsOutlineOf yX0_overlapsOutlineOf, Cond.code yX0_overlapsOutlineOf cX0_overlapsOutlineOf 2 (some .boolean), Cond.methodLink RX0 36 yX0_meetsInDifference, Cond.instanceMethod yX0_meetsInDifference, Cond.selects RX0 yX0_meetsInDifference yX0_meetsInDifference, Cond.code yX0_meetsInDifference cX0_meetsInDifference 4 (some .boolean), Cond.methodLink RX2 35 yX2_followChains, Cond.instanceMethod yX2_followChains, Cond.selects RX2 yX2_followChains yX2_followChains, Cond.code yX2_followChains cX2_followChains 3 none]
def wsX5_waitsFor_r3 : List Cond := [Cond.fieldLink RX2 15 "HidingBoxes$Picture" "chains" "[I", Cond.methodLink RX2 52 arraycopyName, Cond.native arraycopyName, Cond.static arraycopyName, Cond.initialized "java/lang/System", Cond.methodLink RX2 58 yX2_hasBit, Cond.static yX2_hasBit, Cond.code yX2_hasBit cX2_hasBit 2 (some .boolean), Cond.methodLink RX2 38 yX2_draw, Cond.instanceMethod yX2_draw, Cond.selects RX2 yX2_draw yX2_draw, Cond.code yX2_draw cX2_draw 4 none, Cond.fieldLink RX2 21 "HidingBoxes$Picture" "layers" "[I", Cond.fieldLink RX2 68 "HidingBoxes$Picture" "drawnBits" "I", Cond.fieldLink RX2 71 "HidingBoxes$Picture" "drawnCount" "I", Cond.fieldLink RX2 18 "HidingBoxes$Picture" "order" "[I", Cond.methodLink RX2 62 yJ7_fill_53178, Cond.static yJ7_fill_53178, Cond.initialized RJ7, Cond.code yJ7_fill_53178 cJ7_fill_53178 4 none, Cond.methodLink RX2 74 yX2_nextToDraw, Cond.instanceMethod yX2_nextToDraw, Cond.selects RX2 yX2_nextToDraw yX2_nextToDraw, Cond.code yX2_nextToDraw cX2_nextToDraw 5 (some .int)]
def wsX5_waitsFor_r4 : List Cond := [Cond.methodLink RX2 82 yX3_weightInDrawing, Cond.instanceMethod yX3_weightInDrawing, Cond.selects RX3 yX3_weightInDrawing yX3_weightInDrawing, Cond.code yX3_weightInDrawing cX3_weightInDrawing 2 (some .int), Cond.fieldLink RX3 28 "HidingBoxes$Space" "rule" "I", Cond.methodLink RX3 57 yX0_sumOfCorner, Cond.instanceMethod yX0_sumOfCorner, Cond.selects RX0 yX0_sumOfCorner yX0_sumOfCorner, Cond.code yX0_sumOfCorner cX0_sumOfCorner 1 (some .int), Cond.methodLink RX3 61 yX0_volume, Cond.instanceMethod yX0_volume, Cond.selects RX0 yX0_volume yX0_volume, Cond.code yX0_volume cX0_volume 1 (some .int), Cond.methodLink RX0 28 yX0_size, Cond.instanceMethod yX0_size, Cond.selects RX0 yX0_size yX0_size, Cond.code yX0_size cX0_size 2 (some .int), Cond.methodLink RX2 78 yX2_layerAbove, Cond.instanceMethod yX2_layerAbove, Cond.selects RX2 yX2_layerAbove yX2_layerAbove, Cond.code yX2_layerAbove cX2_layerAbove 4 (some .int), Cond.methodLink RX2 85 Lib.Math.max.name, Cond.static Lib.Math.max.name, Cond.initialized "java/lang/Math"]
def wsX5_waitsFor_r5 : List Cond := [Cond.code Lib.Math.max.name Lib.Math.max.code 2 (some .int), Cond.methodLink RX5 215 yX2_firstNotDrawnUnder, Cond.instanceMethod yX2_firstNotDrawnUnder, Cond.selects RX2 yX2_firstNotDrawnUnder yX2_firstNotDrawnUnder, Cond.code yX2_firstNotDrawnUnder cX2_firstNotDrawnUnder 3 (some .int)]
def wsX5_waitsFor : List Cond := .code yX5_waitsFor cX5_waitsFor 4 (some .int) :: ((wsX5_waitsFor_r1 ++ (wsX5_waitsFor_r2 ++ (wsX5_waitsFor_r3 ++ (wsX5_waitsFor_r4 ++ wsX5_waitsFor_r5)))) ++ wsX50 ++ wsX30 ++ wsX00 ++ wsX20)
def wsX5_breaks_r1 : List Cond := [Cond.fieldLink RX5 16 "HidingBoxes" "trial" "LHidingBoxes$Space;", Cond.fieldLink RX5 10 "HidingBoxes" "now" "LHidingBoxes$Space;", Cond.methodLink RX5 57 yX3_copyFrom, Cond.instanceMethod yX3_copyFrom, Cond.selects RX3 yX3_copyFrom yX3_copyFrom, Cond.initialized RX3, Cond.code yX3_copyFrom cX3_copyFrom 3 none, Cond.fieldLink RX3 18 "HidingBoxes$Space" "count" "I", Cond.fieldLink RX3 22 "HidingBoxes$Space" "nextNumber" "I", Cond.fieldLink RX3 25 "HidingBoxes$Space" "splits" "I", Cond.fieldLink RX3 28 "HidingBoxes$Space" "rule" "I", Cond.fieldLink RX3 11 "HidingBoxes$Space" "boxes" "[LHidingBoxes$Box;", Cond.methodLink RX3 31 yX0_copyFrom, Cond.instanceMethod yX0_copyFrom, Cond.selects RX0 yX0_copyFrom yX0_copyFrom, Cond.initialized RX0, Cond.code yX0_copyFrom cX0_copyFrom 2 none, Cond.fieldLink RX0 18 "HidingBoxes$Box" "number" "I", Cond.fieldLink RX0 9 "HidingBoxes$Box" "low" "[I", Cond.methodLink RX0 22 arraycopyName, Cond.native arraycopyName, Cond.static arraycopyName, Cond.initialized "java/lang/System", Cond.fieldLink RX0 15 "HidingBoxes$Box" "high" "[I"]
def wsX5_breaks_r2 : List Cond := [Cond.methodLink RX5 114 yX5_breakOne, Cond.instanceMethod yX5_breakOne, Cond.selects RX5 yX5_breakOne yX5_breakOne, Cond.initialized RX5, Cond.code yX5_breakOne cX5_breakOne 6 (some .int), Cond.fieldLink RX5 39 "HidingBoxes" "picture" "LHidingBoxes$Picture;", Cond.fieldLink RX5 72 "HidingBoxes$Space" "boxes" "[LHidingBoxes$Box;", Cond.fieldLink RX5 88 "HidingBoxes$Box" "low" "[I", Cond.methodLink RX5 125 yX2_look, Cond.instanceMethod yX2_look, Cond.selects RX2 yX2_look yX2_look, Cond.initialized RX2, Cond.code yX2_look cX2_look 3 none, Cond.fieldLink RX2 24 "HidingBoxes$Space" "count" "I", Cond.fieldLink RX2 30 "HidingBoxes$Picture" "count" "I", Cond.fieldLink RX2 9 "HidingBoxes$Picture" "hides" "[I", Cond.methodLink RX2 31 yX2_bitsHiddenBy, Cond.static yX2_bitsHiddenBy, Cond.code yX2_bitsHiddenBy cX2_bitsHiddenBy 4 (some .int), Cond.fieldLink RX2 42 "HidingBoxes$Space" "boxes" "[LHidingBoxes$Box;", Cond.methodLink RX2 46 yX0_directionOfHiding, Cond.instanceMethod yX0_directionOfHiding, Cond.selects RX0 yX0_directionOfHiding yX0_directionOfHiding, Cond.code yX0_directionOfHiding cX0_directionOfHiding 3 (some .int)]
def wsX5_breaks_r3 : List Cond := [Cond.methodLink RX0 40 yX0_overlapsOutlineOf, Cond.instanceMethod yX0_overlapsOutlineOf, Cond.selects RX0 yX0_overlapsOutlineOf yX0_overlapsOutlineOf, Cond.code yX0_overlapsOutlineOf cX0_overlapsOutlineOf 2 (some .boolean), Cond.methodLink RX0 36 yX0_meetsInDifference, Cond.instanceMethod yX0_meetsInDifference, Cond.selects RX0 yX0_meetsInDifference yX0_meetsInDifference, Cond.code yX0_meetsInDifference cX0_meetsInDifference 4 (some .boolean), Cond.methodLink RX2 35 yX2_followChains, Cond.instanceMethod yX2_followChains, Cond.selects RX2 yX2_followChains yX2_followChains, Cond.code yX2_followChains cX2_followChains 3 none, Cond.fieldLink RX2 15 "HidingBoxes$Picture" "chains" "[I", Cond.methodLink RX2 52 arraycopyName, Cond.methodLink RX2 58 yX2_hasBit, Cond.static yX2_hasBit, Cond.code yX2_hasBit cX2_hasBit 2 (some .boolean), Cond.methodLink RX2 38 yX2_draw, Cond.instanceMethod yX2_draw, Cond.selects RX2 yX2_draw yX2_draw, Cond.code yX2_draw cX2_draw 4 none, Cond.fieldLink RX2 21 "HidingBoxes$Picture" "layers" "[I", Cond.fieldLink RX2 68 "HidingBoxes$Picture" "drawnBits" "I", Cond.fieldLink RX2 71 "HidingBoxes$Picture" "drawnCount" "I"]
def wsX5_breaks_r4 : List Cond := [Cond.fieldLink RX2 18 "HidingBoxes$Picture" "order" "[I", Cond.methodLink RX2 62 yJ7_fill_53178, Cond.static yJ7_fill_53178, Cond.initialized RJ7, Cond.code yJ7_fill_53178 cJ7_fill_53178 4 none, Cond.methodLink RX2 74 yX2_nextToDraw, Cond.instanceMethod yX2_nextToDraw, Cond.selects RX2 yX2_nextToDraw yX2_nextToDraw, Cond.code yX2_nextToDraw cX2_nextToDraw 5 (some .int), Cond.methodLink RX2 82 yX3_weightInDrawing, Cond.instanceMethod yX3_weightInDrawing, Cond.selects RX3 yX3_weightInDrawing yX3_weightInDrawing, Cond.code yX3_weightInDrawing cX3_weightInDrawing 2 (some .int), Cond.methodLink RX3 57 yX0_sumOfCorner, Cond.instanceMethod yX0_sumOfCorner, Cond.selects RX0 yX0_sumOfCorner yX0_sumOfCorner, Cond.code yX0_sumOfCorner cX0_sumOfCorner 1 (some .int), Cond.methodLink RX3 61 yX0_volume, Cond.instanceMethod yX0_volume, Cond.selects RX0 yX0_volume yX0_volume, Cond.code yX0_volume cX0_volume 1 (some .int), Cond.methodLink RX0 28 yX0_size, Cond.instanceMethod yX0_size, Cond.selects RX0 yX0_size yX0_size]
def wsX5_breaks_r5 : List Cond := [Cond.code yX0_size cX0_size 2 (some .int), Cond.methodLink RX2 78 yX2_layerAbove, Cond.instanceMethod yX2_layerAbove, Cond.selects RX2 yX2_layerAbove yX2_layerAbove, Cond.code yX2_layerAbove cX2_layerAbove 4 (some .int), Cond.methodLink RX2 85 Lib.Math.max.name, Cond.static Lib.Math.max.name, Cond.initialized "java/lang/Math", Cond.code Lib.Math.max.name Lib.Math.max.code 2 (some .int), Cond.methodLink RX5 227 yX2_greatestInRings, Cond.instanceMethod yX2_greatestInRings, Cond.selects RX2 yX2_greatestInRings yX2_greatestInRings, Cond.code yX2_greatestInRings cX2_greatestInRings 4 (some .int), Cond.methodLink RX2 99 yX2_isInRing, Cond.instanceMethod yX2_isInRing, Cond.selects RX2 yX2_isInRing yX2_isInRing, Cond.code yX2_isInRing cX2_isInRing 2 (some .boolean), Cond.methodLink RX2 109 yX0_volume, Cond.methodLink RX5 230 yX0_longestDirection, Cond.instanceMethod yX0_longestDirection, Cond.selects RX0 yX0_longestDirection yX0_longestDirection, Cond.code yX0_longestDirection cX0_longestDirection 3 (some .int), Cond.methodLink RX5 233 yX0_size, Cond.methodLink RX5 106 yX3_isFull]
def wsX5_breaks_r6 : List Cond := [Cond.instanceMethod yX3_isFull, Cond.selects RX3 yX3_isFull yX3_isFull, Cond.code yX3_isFull cX3_isFull 1 (some .boolean), Cond.methodLink RX5 110 yX3_cutInTwo, Cond.instanceMethod yX3_cutInTwo, Cond.selects RX3 yX3_cutInTwo yX3_cutInTwo, Cond.code yX3_cutInTwo cX3_cutInTwo 5 (some .int), Cond.fieldLink RX3 50 "HidingBoxes$Box" "low" "[I", Cond.fieldLink RX3 54 "HidingBoxes$Box" "high" "[I", Cond.methodLink RX3 46 yX3_append, Cond.instanceMethod yX3_append, Cond.selects RX3 yX3_append yX3_append, Cond.code yX3_append cX3_append 3 (some .int), Cond.fieldLink RX3 35 "HidingBoxes$Box" "number" "I", Cond.methodLink RX3 42 yX3_isFull]
def wsX5_breaks : List Cond := .code yX5_breaks cX5_breaks 3 (some .int) :: ((wsX5_breaks_r1 ++ (wsX5_breaks_r2 ++ (wsX5_breaks_r3 ++ (wsX5_breaks_r4 ++ (wsX5_breaks_r5 ++ wsX5_breaks_r6))))) ++ wsX50 ++ wsX30 ++ wsX00 ++ wsX20)
def wsX5_drawnWithout_r1 : List Cond := [Cond.fieldLink RX5 10 "HidingBoxes" "now" "LHidingBoxes$Space;", Cond.fieldLink RX5 16 "HidingBoxes" "trial" "LHidingBoxes$Space;", Cond.fieldLink RX5 39 "HidingBoxes" "picture" "LHidingBoxes$Picture;", Cond.fieldLink RX5 196 "HidingBoxes$Picture" "drawnCount" "I", Cond.methodLink RX5 68 yX3_slotOf, Cond.instanceMethod yX3_slotOf, Cond.selects RX3 yX3_slotOf yX3_slotOf, Cond.initialized RX3, Cond.code yX3_slotOf cX3_slotOf 3 (some .int), Cond.fieldLink RX3 18 "HidingBoxes$Space" "count" "I", Cond.fieldLink RX3 11 "HidingBoxes$Space" "boxes" "[LHidingBoxes$Box;", Cond.fieldLink RX3 35 "HidingBoxes$Box" "number" "I", Cond.methodLink RX5 57 yX3_copyFrom, Cond.instanceMethod yX3_copyFrom, Cond.selects RX3 yX3_copyFrom yX3_copyFrom, Cond.code yX3_copyFrom cX3_copyFrom 3 none, Cond.fieldLink RX3 22 "HidingBoxes$Space" "nextNumber" "I", Cond.fieldLink RX3 25 "HidingBoxes$Space" "splits" "I", Cond.fieldLink RX3 28 "HidingBoxes$Space" "rule" "I", Cond.methodLink RX3 31 yX0_copyFrom, Cond.instanceMethod yX0_copyFrom, Cond.selects RX0 yX0_copyFrom yX0_copyFrom, Cond.initialized RX0, Cond.code yX0_copyFrom cX0_copyFrom 2 none]
def wsX5_drawnWithout_r2 : List Cond := [Cond.fieldLink RX0 18 "HidingBoxes$Box" "number" "I", Cond.fieldLink RX0 9 "HidingBoxes$Box" "low" "[I", Cond.methodLink RX0 22 arraycopyName, Cond.native arraycopyName, Cond.static arraycopyName, Cond.initialized "java/lang/System", Cond.fieldLink RX0 15 "HidingBoxes$Box" "high" "[I", Cond.methodLink RX5 80 yX3_takeOut, Cond.instanceMethod yX3_takeOut, Cond.selects RX3 yX3_takeOut yX3_takeOut, Cond.code yX3_takeOut cX3_takeOut 3 none, Cond.methodLink RX5 125 yX2_look, Cond.instanceMethod yX2_look, Cond.selects RX2 yX2_look yX2_look, Cond.initialized RX2, Cond.code yX2_look cX2_look 3 none, Cond.fieldLink RX2 24 "HidingBoxes$Space" "count" "I", Cond.fieldLink RX2 30 "HidingBoxes$Picture" "count" "I", Cond.fieldLink RX2 9 "HidingBoxes$Picture" "hides" "[I", Cond.methodLink RX2 31 yX2_bitsHiddenBy, Cond.static yX2_bitsHiddenBy, Cond.code yX2_bitsHiddenBy cX2_bitsHiddenBy 4 (some .int), Cond.fieldLink RX2 42 "HidingBoxes$Space" "boxes" "[LHidingBoxes$Box;", Cond.methodLink RX2 46 yX0_directionOfHiding]
def wsX5_drawnWithout_r3 : List Cond := [Cond.instanceMethod yX0_directionOfHiding, Cond.selects RX0 yX0_directionOfHiding yX0_directionOfHiding, Cond.code yX0_directionOfHiding cX0_directionOfHiding 3 (some .int), Cond.methodLink RX0 40 yX0_overlapsOutlineOf, Cond.instanceMethod yX0_overlapsOutlineOf, Cond.selects RX0 yX0_overlapsOutlineOf yX0_overlapsOutlineOf, Cond.code yX0_overlapsOutlineOf cX0_overlapsOutlineOf 2 (some .boolean), Cond.methodLink RX0 36 yX0_meetsInDifference, Cond.instanceMethod yX0_meetsInDifference, Cond.selects RX0 yX0_meetsInDifference yX0_meetsInDifference, Cond.code yX0_meetsInDifference cX0_meetsInDifference 4 (some .boolean), Cond.methodLink RX2 35 yX2_followChains, Cond.instanceMethod yX2_followChains, Cond.selects RX2 yX2_followChains yX2_followChains, Cond.code yX2_followChains cX2_followChains 3 none, Cond.fieldLink RX2 15 "HidingBoxes$Picture" "chains" "[I", Cond.methodLink RX2 52 arraycopyName, Cond.methodLink RX2 58 yX2_hasBit, Cond.static yX2_hasBit, Cond.code yX2_hasBit cX2_hasBit 2 (some .boolean), Cond.methodLink RX2 38 yX2_draw, Cond.instanceMethod yX2_draw, Cond.selects RX2 yX2_draw yX2_draw, Cond.code yX2_draw cX2_draw 4 none]
def wsX5_drawnWithout_r4 : List Cond := [Cond.fieldLink RX2 21 "HidingBoxes$Picture" "layers" "[I", Cond.fieldLink RX2 68 "HidingBoxes$Picture" "drawnBits" "I", Cond.fieldLink RX2 71 "HidingBoxes$Picture" "drawnCount" "I", Cond.fieldLink RX2 18 "HidingBoxes$Picture" "order" "[I", Cond.methodLink RX2 62 yJ7_fill_53178, Cond.static yJ7_fill_53178, Cond.initialized RJ7, Cond.code yJ7_fill_53178 cJ7_fill_53178 4 none, Cond.methodLink RX2 74 yX2_nextToDraw, Cond.instanceMethod yX2_nextToDraw, Cond.selects RX2 yX2_nextToDraw yX2_nextToDraw, Cond.code yX2_nextToDraw cX2_nextToDraw 5 (some .int), Cond.methodLink RX2 82 yX3_weightInDrawing, Cond.instanceMethod yX3_weightInDrawing, Cond.selects RX3 yX3_weightInDrawing yX3_weightInDrawing, Cond.code yX3_weightInDrawing cX3_weightInDrawing 2 (some .int), Cond.methodLink RX3 57 yX0_sumOfCorner, Cond.instanceMethod yX0_sumOfCorner, Cond.selects RX0 yX0_sumOfCorner yX0_sumOfCorner, Cond.code yX0_sumOfCorner cX0_sumOfCorner 1 (some .int), Cond.methodLink RX3 61 yX0_volume, Cond.instanceMethod yX0_volume, Cond.selects RX0 yX0_volume yX0_volume, Cond.code yX0_volume cX0_volume 1 (some .int)]
def wsX5_drawnWithout_r5 : List Cond := [Cond.methodLink RX0 28 yX0_size, Cond.instanceMethod yX0_size, Cond.selects RX0 yX0_size yX0_size, Cond.code yX0_size cX0_size 2 (some .int), Cond.methodLink RX2 78 yX2_layerAbove, Cond.instanceMethod yX2_layerAbove, Cond.selects RX2 yX2_layerAbove yX2_layerAbove, Cond.code yX2_layerAbove cX2_layerAbove 4 (some .int), Cond.methodLink RX2 85 Lib.Math.max.name, Cond.static Lib.Math.max.name, Cond.initialized "java/lang/Math", Cond.code Lib.Math.max.name Lib.Math.max.code 2 (some .int)]
def wsX5_drawnWithout : List Cond := .code yX5_drawnWithout cX5_drawnWithout 3 (some .int) :: ((wsX5_drawnWithout_r1 ++ (wsX5_drawnWithout_r2 ++ (wsX5_drawnWithout_r3 ++ (wsX5_drawnWithout_r4 ++ wsX5_drawnWithout_r5)))) ++ wsX50 ++ wsX20 ++ wsX30 ++ wsX00)
def wsX6_init : List Cond := .code yX6_init cX6_init 1 none :: ([.methodLink RX6 1 objectInit, .instanceMethod objectInit, .code objectInit ⟨#[0xb1]⟩ 1 none, .arrayClass .int, .fieldLink RX6 7 "HidingBoxesModel" "z" "[I", .fieldLink RX6 13 "HidingBoxesModel" "aside" "[I", .fieldLink RX6 16 "HidingBoxesModel" "old" "[I", .fieldLink RX6 19 "HidingBoxesModel" "kept" "[I", .fieldLink RX6 22 "HidingBoxesModel" "text" "[I", .fieldLink RX6 25 "HidingBoxesModel" "hides" "[I", .fieldLink RX6 28 "HidingBoxesModel" "reaches" "[I", .fieldLink RX6 31 "HidingBoxesModel" "layers" "[I", .fieldLink RX6 34 "HidingBoxesModel" "order" "[I", .fieldLink RX6 37 "HidingBoxesModel" "before" "[I", .fieldLink RX6 40 "HidingBoxesModel" "given" "[I"] ++ wsX60)
def wsX6_in : List Cond := .code yX6_in cX6_in 4 (some .boolean) :: ([])
def wsX6_has : List Cond := .code yX6_has cX6_has 2 (some .boolean) :: ([])
def wsX6_ones : List Cond := .code yX6_ones cX6_ones 3 (some .int) :: ([])
def wsX6_of : List Cond := .code yX6_of cX6_of 3 (some .int) :: ([.fieldLink RX6 7 "HidingBoxesModel" "z" "[I"] ++ wsX60)
def wsX6_put : List Cond := .code yX6_put cX6_put 4 none :: ([.fieldLink RX6 7 "HidingBoxesModel" "z" "[I"] ++ wsX60)
def wsX6_low : List Cond := .code yX6_low cX6_low 3 (some .int) :: ([.methodLink RX6 43 yX6_of, .instanceMethod yX6_of, .selects RX6 yX6_of yX6_of, .initialized RX6, .code yX6_of cX6_of 3 (some .int), .fieldLink RX6 7 "HidingBoxesModel" "z" "[I"] ++ wsX60)
def wsX6_size : List Cond := .code yX6_size cX6_size 3 (some .int) :: ([.methodLink RX6 43 yX6_of, .instanceMethod yX6_of, .selects RX6 yX6_of yX6_of, .initialized RX6, .code yX6_of cX6_of 3 (some .int), .fieldLink RX6 7 "HidingBoxesModel" "z" "[I"] ++ wsX60)
def wsX6_high : List Cond := .code yX6_high cX6_high 3 (some .int) :: ([.methodLink RX6 47 yX6_low, .instanceMethod yX6_low, .selects RX6 yX6_low yX6_low, .initialized RX6, .code yX6_low cX6_low 3 (some .int), .methodLink RX6 43 yX6_of, .instanceMethod yX6_of, .selects RX6 yX6_of yX6_of, .code yX6_of cX6_of 3 (some .int), .fieldLink RX6 7 "HidingBoxesModel" "z" "[I", .methodLink RX6 50 yX6_size, .instanceMethod yX6_size, .selects RX6 yX6_size yX6_size, .code yX6_size cX6_size 3 (some .int)] ++ wsX60)
def wsX6_volume : List Cond := .code yX6_volume cX6_volume 2 (some .int) :: ([.methodLink RX6 50 yX6_size, .instanceMethod yX6_size, .selects RX6 yX6_size yX6_size, .initialized RX6, .code yX6_size cX6_size 3 (some .int), .methodLink RX6 43 yX6_of, .instanceMethod yX6_of, .selects RX6 yX6_of yX6_of, .code yX6_of cX6_of 3 (some .int), .fieldLink RX6 7 "HidingBoxesModel" "z" "[I"] ++ wsX60)
def wsX6_rankOf : List Cond := .code yX6_rankOf cX6_rankOf 4 (some .int) :: ([.fieldLink RX6 7 "HidingBoxesModel" "z" "[I", .methodLink RX6 43 yX6_of, .instanceMethod yX6_of, .selects RX6 yX6_of yX6_of, .initialized RX6, .code yX6_of cX6_of 3 (some .int)] ++ wsX60)
def wsX6_isDirection : List Cond := .code yX6_isDirection cX6_isDirection 1 (some .boolean) :: ([.methodLink RX6 53 yX6_in, .static yX6_in, .initialized RX6, .code yX6_in cX6_in 4 (some .boolean)])
def wsX6_cross : List Cond := .code yX6_cross cX6_cross 4 (some .boolean) :: ([.methodLink RX6 47 yX6_low, .instanceMethod yX6_low, .selects RX6 yX6_low yX6_low, .initialized RX6, .code yX6_low cX6_low 3 (some .int), .methodLink RX6 43 yX6_of, .instanceMethod yX6_of, .selects RX6 yX6_of yX6_of, .code yX6_of cX6_of 3 (some .int), .fieldLink RX6 7 "HidingBoxesModel" "z" "[I", .methodLink RX6 57 yX6_high, .instanceMethod yX6_high, .selects RX6 yX6_high yX6_high, .code yX6_high cX6_high 3 (some .int), .methodLink RX6 50 yX6_size, .instanceMethod yX6_size, .selects RX6 yX6_size yX6_size, .code yX6_size cX6_size 3 (some .int)] ++ wsX60)
def wsX6_cutsAny : List Cond := .code yX6_cutsAny cX6_cutsAny 5 (some .boolean) :: ([.methodLink RX6 60 yX6_cross, .instanceMethod yX6_cross, .selects RX6 yX6_cross yX6_cross, .initialized RX6, .code yX6_cross cX6_cross 4 (some .boolean), .methodLink RX6 47 yX6_low, .instanceMethod yX6_low, .selects RX6 yX6_low yX6_low, .code yX6_low cX6_low 3 (some .int), .methodLink RX6 43 yX6_of, .instanceMethod yX6_of, .selects RX6 yX6_of yX6_of, .code yX6_of cX6_of 3 (some .int), .fieldLink RX6 7 "HidingBoxesModel" "z" "[I", .methodLink RX6 57 yX6_high, .instanceMethod yX6_high, .selects RX6 yX6_high yX6_high, .code yX6_high cX6_high 3 (some .int), .methodLink RX6 50 yX6_size, .instanceMethod yX6_size, .selects RX6 yX6_size yX6_size, .code yX6_size cX6_size 3 (some .int)] ++ wsX60)
def wsX6_reachesBelow : List Cond := .code yX6_reachesBelow cX6_reachesBelow 5 (some .boolean) :: ([.methodLink RX6 47 yX6_low, .instanceMethod yX6_low, .selects RX6 yX6_low yX6_low, .initialized RX6, .code yX6_low cX6_low 3 (some .int), .methodLink RX6 43 yX6_of, .instanceMethod yX6_of, .selects RX6 yX6_of yX6_of, .code yX6_of cX6_of 3 (some .int), .fieldLink RX6 7 "HidingBoxesModel" "z" "[I", .methodLink RX6 57 yX6_high, .instanceMethod yX6_high, .selects RX6 yX6_high yX6_high, .code yX6_high cX6_high 3 (some .int), .methodLink RX6 50 yX6_size, .instanceMethod yX6_size, .selects RX6 yX6_size yX6_size, .code yX6_size cX6_size 3 (some .int)] ++ wsX60)
def wsX6_overlap : List Cond := .code yX6_overlap cX6_overlap 6 (some .boolean) :: ([.methodLink RX6 64 yX6_reachesBelow, .instanceMethod yX6_reachesBelow, .selects RX6 yX6_reachesBelow yX6_reachesBelow, .initialized RX6, .code yX6_reachesBelow cX6_reachesBelow 5 (some .boolean), .methodLink RX6 47 yX6_low, .instanceMethod yX6_low, .selects RX6 yX6_low yX6_low, .code yX6_low cX6_low 3 (some .int), .methodLink RX6 43 yX6_of, .instanceMethod yX6_of, .selects RX6 yX6_of yX6_of, .code yX6_of cX6_of 3 (some .int), .fieldLink RX6 7 "HidingBoxesModel" "z" "[I", .methodLink RX6 57 yX6_high, .instanceMethod yX6_high, .selects RX6 yX6_high yX6_high, .code yX6_high cX6_high 3 (some .int), .methodLink RX6 50 yX6_size, .instanceMethod yX6_size, .selects RX6 yX6_size yX6_size, .code yX6_size cX6_size 3 (some .int)] ++ wsX60)
def wsX6_hidesBy_r1 : List Cond := [Cond.methodLink RX6 47 yX6_low, Cond.instanceMethod yX6_low, Cond.selects RX6 yX6_low yX6_low, Cond.initialized RX6, Cond.code yX6_low cX6_low 3 (some .int), Cond.methodLink RX6 43 yX6_of, Cond.instanceMethod yX6_of, Cond.selects RX6 yX6_of yX6_of, Cond.code yX6_of cX6_of 3 (some .int), Cond.fieldLink RX6 7 "HidingBoxesModel" "z" "[I", Cond.methodLink RX6 57 yX6_high, Cond.instanceMethod yX6_high, Cond.selects RX6 yX6_high yX6_high, Cond.code yX6_high cX6_high 3 (some .int), Cond.methodLink RX6 50 yX6_size, Cond.instanceMethod yX6_size, Cond.selects RX6 yX6_size yX6_size, Cond.code yX6_size cX6_size 3 (some .int), Cond.methodLink RX6 68 yX6_overlap, Cond.instanceMethod yX6_overlap, Cond.selects RX6 yX6_overlap yX6_overlap, Cond.code yX6_overlap cX6_overlap 6 (some .boolean), Cond.methodLink RX6 64 yX6_reachesBelow, Cond.instanceMethod yX6_reachesBelow]
def wsX6_hidesBy_r2 : List Cond := [Cond.selects RX6 yX6_reachesBelow yX6_reachesBelow, Cond.code yX6_reachesBelow cX6_reachesBelow 5 (some .boolean)]
def wsX6_hidesBy : List Cond := .code yX6_hidesBy cX6_hidesBy 5 (some .int) :: ((wsX6_hidesBy_r1 ++ wsX6_hidesBy_r2) ++ wsX60)
def wsX6_findHiding_r1 : List Cond := [Cond.fieldLink RX6 7 "HidingBoxesModel" "z" "[I", Cond.fieldLink RX6 25 "HidingBoxesModel" "hides" "[I", Cond.fieldLink RX6 28 "HidingBoxesModel" "reaches" "[I", Cond.methodLink RX6 72 yX6_hidesBy, Cond.instanceMethod yX6_hidesBy, Cond.selects RX6 yX6_hidesBy yX6_hidesBy, Cond.initialized RX6, Cond.code yX6_hidesBy cX6_hidesBy 5 (some .int), Cond.methodLink RX6 47 yX6_low, Cond.instanceMethod yX6_low, Cond.selects RX6 yX6_low yX6_low, Cond.code yX6_low cX6_low 3 (some .int), Cond.methodLink RX6 43 yX6_of, Cond.instanceMethod yX6_of, Cond.selects RX6 yX6_of yX6_of, Cond.code yX6_of cX6_of 3 (some .int), Cond.methodLink RX6 57 yX6_high, Cond.instanceMethod yX6_high, Cond.selects RX6 yX6_high yX6_high, Cond.code yX6_high cX6_high 3 (some .int), Cond.methodLink RX6 50 yX6_size, Cond.instanceMethod yX6_size, Cond.selects RX6 yX6_size yX6_size, Cond.code yX6_size cX6_size 3 (some .int)]
def wsX6_findHiding_r2 : List Cond := [Cond.methodLink RX6 68 yX6_overlap, Cond.instanceMethod yX6_overlap, Cond.selects RX6 yX6_overlap yX6_overlap, Cond.code yX6_overlap cX6_overlap 6 (some .boolean), Cond.methodLink RX6 64 yX6_reachesBelow, Cond.instanceMethod yX6_reachesBelow, Cond.selects RX6 yX6_reachesBelow yX6_reachesBelow, Cond.code yX6_reachesBelow cX6_reachesBelow 5 (some .boolean), Cond.methodLink RX6 75 yX6_has, Cond.static yX6_has, Cond.code yX6_has cX6_has 2 (some .boolean)]
def wsX6_findHiding : List Cond := .code yX6_findHiding cX6_findHiding 3 none :: ((wsX6_findHiding_r1 ++ wsX6_findHiding_r2) ++ wsX60)
def wsX6_isInRing : List Cond := .code yX6_isInRing cX6_isInRing 2 (some .boolean) :: ([.fieldLink RX6 28 "HidingBoxesModel" "reaches" "[I", .methodLink RX6 75 yX6_has, .static yX6_has, .initialized RX6, .code yX6_has cX6_has 2 (some .boolean)] ++ wsX60)
def wsX6_ringBoxes : List Cond := .code yX6_ringBoxes cX6_ringBoxes 3 (some .int) :: ([.fieldLink RX6 7 "HidingBoxesModel" "z" "[I", .methodLink RX6 78 yX6_isInRing, .instanceMethod yX6_isInRing, .selects RX6 yX6_isInRing yX6_isInRing, .initialized RX6, .code yX6_isInRing cX6_isInRing 2 (some .boolean), .fieldLink RX6 28 "HidingBoxesModel" "reaches" "[I", .methodLink RX6 75 yX6_has, .static yX6_has, .code yX6_has cX6_has 2 (some .boolean)] ++ wsX60)
def wsX6_hiddenByAny : List Cond := .code yX6_hiddenByAny cX6_hiddenByAny 4 (some .int) :: ([.fieldLink RX6 7 "HidingBoxesModel" "z" "[I", .fieldLink RX6 25 "HidingBoxesModel" "hides" "[I", .methodLink RX6 75 yX6_has, .static yX6_has, .initialized RX6, .code yX6_has cX6_has 2 (some .boolean)] ++ wsX60)
def wsX6_shortestRing : List Cond := .code yX6_shortestRing cX6_shortestRing 4 (some .int) :: ([.fieldLink RX6 25 "HidingBoxesModel" "hides" "[I", .methodLink RX6 75 yX6_has, .static yX6_has, .initialized RX6, .code yX6_has cX6_has 2 (some .boolean), .methodLink RX6 82 yX6_hiddenByAny, .instanceMethod yX6_hiddenByAny, .selects RX6 yX6_hiddenByAny yX6_hiddenByAny, .code yX6_hiddenByAny cX6_hiddenByAny 4 (some .int), .fieldLink RX6 7 "HidingBoxesModel" "z" "[I"] ++ wsX60)
def wsX6_shortestOfAll : List Cond := .code yX6_shortestOfAll cX6_shortestOfAll 4 (some .int) :: ([.fieldLink RX6 7 "HidingBoxesModel" "z" "[I", .methodLink RX6 78 yX6_isInRing, .instanceMethod yX6_isInRing, .selects RX6 yX6_isInRing yX6_isInRing, .initialized RX6, .code yX6_isInRing cX6_isInRing 2 (some .boolean), .fieldLink RX6 28 "HidingBoxesModel" "reaches" "[I", .methodLink RX6 75 yX6_has, .static yX6_has, .code yX6_has cX6_has 2 (some .boolean), .methodLink RX6 86 yX6_shortestRing, .instanceMethod yX6_shortestRing, .selects RX6 yX6_shortestRing yX6_shortestRing, .code yX6_shortestRing cX6_shortestRing 4 (some .int), .fieldLink RX6 25 "HidingBoxesModel" "hides" "[I", .methodLink RX6 82 yX6_hiddenByAny, .instanceMethod yX6_hiddenByAny, .selects RX6 yX6_hiddenByAny yX6_hiddenByAny, .code yX6_hiddenByAny cX6_hiddenByAny 4 (some .int)] ++ wsX60)
def wsX6_findLayers : List Cond := .code yX6_findLayers cX6_findLayers 5 none :: ([.fieldLink RX6 7 "HidingBoxesModel" "z" "[I", .fieldLink RX6 31 "HidingBoxesModel" "layers" "[I", .fieldLink RX6 28 "HidingBoxesModel" "reaches" "[I", .fieldLink RX6 25 "HidingBoxesModel" "hides" "[I", .methodLink RX6 89 yX6_ringBoxes, .instanceMethod yX6_ringBoxes, .selects RX6 yX6_ringBoxes yX6_ringBoxes, .initialized RX6, .code yX6_ringBoxes cX6_ringBoxes 3 (some .int), .methodLink RX6 78 yX6_isInRing, .instanceMethod yX6_isInRing, .selects RX6 yX6_isInRing yX6_isInRing, .code yX6_isInRing cX6_isInRing 2 (some .boolean), .methodLink RX6 75 yX6_has, .static yX6_has, .code yX6_has cX6_has 2 (some .boolean)] ++ wsX60)
def wsX6_weight : List Cond := .code yX6_weight cX6_weight 2 (some .int) :: ([.fieldLink RX6 7 "HidingBoxesModel" "z" "[I", .methodLink RX6 47 yX6_low, .instanceMethod yX6_low, .selects RX6 yX6_low yX6_low, .initialized RX6, .code yX6_low cX6_low 3 (some .int), .methodLink RX6 43 yX6_of, .instanceMethod yX6_of, .selects RX6 yX6_of yX6_of, .code yX6_of cX6_of 3 (some .int), .methodLink RX6 93 yX6_volume, .instanceMethod yX6_volume, .selects RX6 yX6_volume yX6_volume, .code yX6_volume cX6_volume 2 (some .int), .methodLink RX6 50 yX6_size, .instanceMethod yX6_size, .selects RX6 yX6_size yX6_size, .code yX6_size cX6_size 3 (some .int)] ++ wsX60)
def wsX6_drawAll_r1 : List Cond := [Cond.fieldLink RX6 7 "HidingBoxesModel" "z" "[I", Cond.fieldLink RX6 96 "HidingBoxesModel" "drawn" "I", Cond.fieldLink RX6 25 "HidingBoxesModel" "hides" "[I", Cond.fieldLink RX6 34 "HidingBoxesModel" "order" "[I", Cond.methodLink RX6 75 yX6_has, Cond.static yX6_has, Cond.initialized RX6, Cond.code yX6_has cX6_has 2 (some .boolean), Cond.methodLink RX6 100 yX6_weight, Cond.instanceMethod yX6_weight, Cond.selects RX6 yX6_weight yX6_weight, Cond.code yX6_weight cX6_weight 2 (some .int), Cond.methodLink RX6 47 yX6_low, Cond.instanceMethod yX6_low, Cond.selects RX6 yX6_low yX6_low, Cond.code yX6_low cX6_low 3 (some .int), Cond.methodLink RX6 43 yX6_of, Cond.instanceMethod yX6_of, Cond.selects RX6 yX6_of yX6_of, Cond.code yX6_of cX6_of 3 (some .int), Cond.methodLink RX6 93 yX6_volume, Cond.instanceMethod yX6_volume, Cond.selects RX6 yX6_volume yX6_volume, Cond.code yX6_volume cX6_volume 2 (some .int)]
def wsX6_drawAll_r2 : List Cond := [Cond.methodLink RX6 50 yX6_size, Cond.instanceMethod yX6_size, Cond.selects RX6 yX6_size yX6_size, Cond.code yX6_size cX6_size 3 (some .int)]
def wsX6_drawAll : List Cond := .code yX6_drawAll cX6_drawAll 6 none :: ((wsX6_drawAll_r1 ++ wsX6_drawAll_r2) ++ wsX60)
def wsX6_drawnSet : List Cond := .code yX6_drawnSet cX6_drawnSet 3 (some .int) :: ([.fieldLink RX6 96 "HidingBoxesModel" "drawn" "I", .fieldLink RX6 34 "HidingBoxesModel" "order" "[I"] ++ wsX60)
def wsX6_push : List Cond := .code yX6_push cX6_push 3 none :: ([.fieldLink RX6 103 "HidingBoxesModel" "states" "I", .fieldLink RX6 16 "HidingBoxesModel" "old" "[I"] ++ wsX60)
def wsX6_putAside : List Cond := .code yX6_putAside cX6_putAside 2 none :: ([.fieldLink RX6 13 "HidingBoxesModel" "aside" "[I", .fieldLink RX6 7 "HidingBoxesModel" "z" "[I"] ++ wsX60)
def wsX6_putBack : List Cond := .code yX6_putBack cX6_putBack 2 none :: ([.fieldLink RX6 7 "HidingBoxesModel" "z" "[I", .fieldLink RX6 13 "HidingBoxesModel" "aside" "[I"] ++ wsX60)
def wsX6_undo : List Cond := .code yX6_undo cX6_undo 2 (some .int) :: ([.fieldLink RX6 103 "HidingBoxesModel" "states" "I", .fieldLink RX6 7 "HidingBoxesModel" "z" "[I", .fieldLink RX6 16 "HidingBoxesModel" "old" "[I"] ++ wsX60)
def wsX6_keep : List Cond := .code yX6_keep cX6_keep 2 (some .int) :: ([.fieldLink RX6 19 "HidingBoxesModel" "kept" "[I", .fieldLink RX6 7 "HidingBoxesModel" "z" "[I", .fieldLink RX6 106 "HidingBoxesModel" "isKept" "Z"] ++ wsX60)
def wsX6_restore : List Cond := .code yX6_restore cX6_restore 2 (some .int) :: ([.fieldLink RX6 106 "HidingBoxesModel" "isKept" "Z", .fieldLink RX6 7 "HidingBoxesModel" "z" "[I", .fieldLink RX6 19 "HidingBoxesModel" "kept" "[I", .methodLink RX6 110 yX6_push, .instanceMethod yX6_push, .selects RX6 yX6_push yX6_push, .initialized RX6, .code yX6_push cX6_push 3 none, .fieldLink RX6 103 "HidingBoxesModel" "states" "I", .fieldLink RX6 16 "HidingBoxesModel" "old" "[I"] ++ wsX60)
def wsX6_tryBox : List Cond := .code yX6_tryBox cX6_tryBox 11 (some .int) :: ([.fieldLink RX6 7 "HidingBoxesModel" "z" "[I", .methodLink RX6 53 yX6_in, .static yX6_in, .initialized RX6, .code yX6_in cX6_in 4 (some .boolean), .methodLink RX6 57 yX6_high, .instanceMethod yX6_high, .selects RX6 yX6_high yX6_high, .code yX6_high cX6_high 3 (some .int), .methodLink RX6 47 yX6_low, .instanceMethod yX6_low, .selects RX6 yX6_low yX6_low, .code yX6_low cX6_low 3 (some .int), .methodLink RX6 43 yX6_of, .instanceMethod yX6_of, .selects RX6 yX6_of yX6_of, .code yX6_of cX6_of 3 (some .int), .methodLink RX6 50 yX6_size, .instanceMethod yX6_size, .selects RX6 yX6_size yX6_size, .code yX6_size cX6_size 3 (some .int)] ++ wsX60)
def wsX6_putBox : List Cond := .code yX6_putBox cX6_putBox 8 (some .int) :: ([.fieldLink RX6 7 "HidingBoxesModel" "z" "[I", .methodLink RX6 114 yX6_put, .instanceMethod yX6_put, .selects RX6 yX6_put yX6_put, .initialized RX6, .code yX6_put cX6_put 4 none] ++ wsX60)
def wsX6_add_r1 : List Cond := [Cond.fieldLink RX6 7 "HidingBoxesModel" "z" "[I", Cond.methodLink RX6 118 yX6_tryBox, Cond.instanceMethod yX6_tryBox, Cond.selects RX6 yX6_tryBox yX6_tryBox, Cond.initialized RX6, Cond.code yX6_tryBox cX6_tryBox 11 (some .int), Cond.methodLink RX6 53 yX6_in, Cond.static yX6_in, Cond.code yX6_in cX6_in 4 (some .boolean), Cond.methodLink RX6 57 yX6_high, Cond.instanceMethod yX6_high, Cond.selects RX6 yX6_high yX6_high, Cond.code yX6_high cX6_high 3 (some .int), Cond.methodLink RX6 47 yX6_low, Cond.instanceMethod yX6_low, Cond.selects RX6 yX6_low yX6_low, Cond.code yX6_low cX6_low 3 (some .int), Cond.methodLink RX6 43 yX6_of, Cond.instanceMethod yX6_of, Cond.selects RX6 yX6_of yX6_of, Cond.code yX6_of cX6_of 3 (some .int), Cond.methodLink RX6 50 yX6_size, Cond.instanceMethod yX6_size, Cond.selects RX6 yX6_size yX6_size]
def wsX6_add_r2 : List Cond := [Cond.code yX6_size cX6_size 3 (some .int), Cond.methodLink RX6 110 yX6_push, Cond.instanceMethod yX6_push, Cond.selects RX6 yX6_push yX6_push, Cond.code yX6_push cX6_push 3 none, Cond.fieldLink RX6 103 "HidingBoxesModel" "states" "I", Cond.fieldLink RX6 16 "HidingBoxesModel" "old" "[I", Cond.methodLink RX6 122 yX6_putBox, Cond.instanceMethod yX6_putBox, Cond.selects RX6 yX6_putBox yX6_putBox, Cond.code yX6_putBox cX6_putBox 8 (some .int), Cond.methodLink RX6 114 yX6_put, Cond.instanceMethod yX6_put, Cond.selects RX6 yX6_put yX6_put, Cond.code yX6_put cX6_put 4 none]
def wsX6_add : List Cond := .code yX6_add cX6_add 8 (some .int) :: ((wsX6_add_r1 ++ wsX6_add_r2) ++ wsX60)
def wsX6_remove : List Cond := .code yX6_remove cX6_remove 5 (some .int) :: ([.fieldLink RX6 7 "HidingBoxesModel" "z" "[I", .methodLink RX6 125 yX6_rankOf, .instanceMethod yX6_rankOf, .selects RX6 yX6_rankOf yX6_rankOf, .initialized RX6, .code yX6_rankOf cX6_rankOf 4 (some .int), .methodLink RX6 43 yX6_of, .instanceMethod yX6_of, .selects RX6 yX6_of yX6_of, .code yX6_of cX6_of 3 (some .int), .methodLink RX6 110 yX6_push, .instanceMethod yX6_push, .selects RX6 yX6_push yX6_push, .code yX6_push cX6_push 3 none, .fieldLink RX6 103 "HidingBoxesModel" "states" "I", .fieldLink RX6 16 "HidingBoxesModel" "old" "[I", .methodLink RX6 93 yX6_volume, .instanceMethod yX6_volume, .selects RX6 yX6_volume yX6_volume, .code yX6_volume cX6_volume 2 (some .int), .methodLink RX6 50 yX6_size, .instanceMethod yX6_size, .selects RX6 yX6_size yX6_size, .code yX6_size cX6_size 3 (some .int)] ++ wsX60)
def wsX6_move_r1 : List Cond := [Cond.fieldLink RX6 7 "HidingBoxesModel" "z" "[I", Cond.methodLink RX6 125 yX6_rankOf, Cond.instanceMethod yX6_rankOf, Cond.selects RX6 yX6_rankOf yX6_rankOf, Cond.initialized RX6, Cond.code yX6_rankOf cX6_rankOf 4 (some .int), Cond.methodLink RX6 43 yX6_of, Cond.instanceMethod yX6_of, Cond.selects RX6 yX6_of yX6_of, Cond.code yX6_of cX6_of 3 (some .int), Cond.methodLink RX6 128 yX6_isDirection, Cond.static yX6_isDirection, Cond.code yX6_isDirection cX6_isDirection 1 (some .boolean), Cond.methodLink RX6 53 yX6_in, Cond.static yX6_in, Cond.code yX6_in cX6_in 4 (some .boolean), Cond.methodLink RX6 47 yX6_low, Cond.instanceMethod yX6_low, Cond.selects RX6 yX6_low yX6_low, Cond.code yX6_low cX6_low 3 (some .int), Cond.methodLink RX6 50 yX6_size, Cond.instanceMethod yX6_size, Cond.selects RX6 yX6_size yX6_size, Cond.code yX6_size cX6_size 3 (some .int)]
def wsX6_move_r2 : List Cond := [Cond.methodLink RX6 114 yX6_put, Cond.instanceMethod yX6_put, Cond.selects RX6 yX6_put yX6_put, Cond.code yX6_put cX6_put 4 none, Cond.methodLink RX6 131 yX6_cutsAny, Cond.instanceMethod yX6_cutsAny, Cond.selects RX6 yX6_cutsAny yX6_cutsAny, Cond.code yX6_cutsAny cX6_cutsAny 5 (some .boolean), Cond.methodLink RX6 60 yX6_cross, Cond.instanceMethod yX6_cross, Cond.selects RX6 yX6_cross yX6_cross, Cond.code yX6_cross cX6_cross 4 (some .boolean), Cond.methodLink RX6 57 yX6_high, Cond.instanceMethod yX6_high, Cond.selects RX6 yX6_high yX6_high, Cond.code yX6_high cX6_high 3 (some .int), Cond.methodLink RX6 110 yX6_push, Cond.instanceMethod yX6_push, Cond.selects RX6 yX6_push yX6_push, Cond.code yX6_push cX6_push 3 none, Cond.fieldLink RX6 103 "HidingBoxesModel" "states" "I", Cond.fieldLink RX6 16 "HidingBoxesModel" "old" "[I"]
def wsX6_move : List Cond := .code yX6_move cX6_move 9 (some .int) :: ((wsX6_move_r1 ++ wsX6_move_r2) ++ wsX60)
def wsX6_isBelow : List Cond := .code yX6_isBelow cX6_isBelow 3 (some .boolean) :: ([.methodLink RX6 60 yX6_cross, .instanceMethod yX6_cross, .selects RX6 yX6_cross yX6_cross, .initialized RX6, .code yX6_cross cX6_cross 4 (some .boolean), .methodLink RX6 47 yX6_low, .instanceMethod yX6_low, .selects RX6 yX6_low yX6_low, .code yX6_low cX6_low 3 (some .int), .methodLink RX6 43 yX6_of, .instanceMethod yX6_of, .selects RX6 yX6_of yX6_of, .code yX6_of cX6_of 3 (some .int), .fieldLink RX6 7 "HidingBoxesModel" "z" "[I", .methodLink RX6 57 yX6_high, .instanceMethod yX6_high, .selects RX6 yX6_high yX6_high, .code yX6_high cX6_high 3 (some .int), .methodLink RX6 50 yX6_size, .instanceMethod yX6_size, .selects RX6 yX6_size yX6_size, .code yX6_size cX6_size 3 (some .int)] ++ wsX60)
def wsX6_fall_r1 : List Cond := [Cond.fieldLink RX6 7 "HidingBoxesModel" "z" "[I", Cond.methodLink RX6 125 yX6_rankOf, Cond.instanceMethod yX6_rankOf, Cond.selects RX6 yX6_rankOf yX6_rankOf, Cond.initialized RX6, Cond.code yX6_rankOf cX6_rankOf 4 (some .int), Cond.methodLink RX6 43 yX6_of, Cond.instanceMethod yX6_of, Cond.selects RX6 yX6_of yX6_of, Cond.code yX6_of cX6_of 3 (some .int), Cond.methodLink RX6 134 yX6_isBelow, Cond.instanceMethod yX6_isBelow, Cond.selects RX6 yX6_isBelow yX6_isBelow, Cond.code yX6_isBelow cX6_isBelow 3 (some .boolean), Cond.methodLink RX6 60 yX6_cross, Cond.instanceMethod yX6_cross, Cond.selects RX6 yX6_cross yX6_cross, Cond.code yX6_cross cX6_cross 4 (some .boolean), Cond.methodLink RX6 47 yX6_low, Cond.instanceMethod yX6_low, Cond.selects RX6 yX6_low yX6_low, Cond.code yX6_low cX6_low 3 (some .int), Cond.methodLink RX6 57 yX6_high, Cond.instanceMethod yX6_high]
def wsX6_fall_r2 : List Cond := [Cond.selects RX6 yX6_high yX6_high, Cond.code yX6_high cX6_high 3 (some .int), Cond.methodLink RX6 50 yX6_size, Cond.instanceMethod yX6_size, Cond.selects RX6 yX6_size yX6_size, Cond.code yX6_size cX6_size 3 (some .int), Cond.methodLink RX6 110 yX6_push, Cond.instanceMethod yX6_push, Cond.selects RX6 yX6_push yX6_push, Cond.code yX6_push cX6_push 3 none, Cond.fieldLink RX6 103 "HidingBoxesModel" "states" "I", Cond.fieldLink RX6 16 "HidingBoxesModel" "old" "[I", Cond.methodLink RX6 114 yX6_put, Cond.instanceMethod yX6_put, Cond.selects RX6 yX6_put yX6_put, Cond.code yX6_put cX6_put 4 none]
def wsX6_fall : List Cond := .code yX6_fall cX6_fall 5 (some .int) :: ((wsX6_fall_r1 ++ wsX6_fall_r2) ++ wsX60)
def wsX6_doSplit_r1 : List Cond := [Cond.fieldLink RX6 7 "HidingBoxesModel" "z" "[I", Cond.methodLink RX6 57 yX6_high, Cond.instanceMethod yX6_high, Cond.selects RX6 yX6_high yX6_high, Cond.initialized RX6, Cond.code yX6_high cX6_high 3 (some .int), Cond.methodLink RX6 47 yX6_low, Cond.instanceMethod yX6_low, Cond.selects RX6 yX6_low yX6_low, Cond.code yX6_low cX6_low 3 (some .int), Cond.methodLink RX6 43 yX6_of, Cond.instanceMethod yX6_of, Cond.selects RX6 yX6_of yX6_of, Cond.code yX6_of cX6_of 3 (some .int), Cond.methodLink RX6 50 yX6_size, Cond.instanceMethod yX6_size, Cond.selects RX6 yX6_size yX6_size, Cond.code yX6_size cX6_size 3 (some .int), Cond.methodLink RX6 114 yX6_put, Cond.instanceMethod yX6_put, Cond.selects RX6 yX6_put yX6_put, Cond.code yX6_put cX6_put 4 none, Cond.methodLink RX6 122 yX6_putBox, Cond.instanceMethod yX6_putBox]
def wsX6_doSplit_r2 : List Cond := [Cond.selects RX6 yX6_putBox yX6_putBox, Cond.code yX6_putBox cX6_putBox 8 (some .int)]
def wsX6_doSplit : List Cond := .code yX6_doSplit cX6_doSplit 6 (some .int) :: ((wsX6_doSplit_r1 ++ wsX6_doSplit_r2) ++ wsX60)
def wsX6_split_r1 : List Cond := [Cond.fieldLink RX6 7 "HidingBoxesModel" "z" "[I", Cond.methodLink RX6 125 yX6_rankOf, Cond.instanceMethod yX6_rankOf, Cond.selects RX6 yX6_rankOf yX6_rankOf, Cond.initialized RX6, Cond.code yX6_rankOf cX6_rankOf 4 (some .int), Cond.methodLink RX6 43 yX6_of, Cond.instanceMethod yX6_of, Cond.selects RX6 yX6_of yX6_of, Cond.code yX6_of cX6_of 3 (some .int), Cond.methodLink RX6 128 yX6_isDirection, Cond.static yX6_isDirection, Cond.code yX6_isDirection cX6_isDirection 1 (some .boolean), Cond.methodLink RX6 53 yX6_in, Cond.static yX6_in, Cond.code yX6_in cX6_in 4 (some .boolean), Cond.methodLink RX6 47 yX6_low, Cond.instanceMethod yX6_low, Cond.selects RX6 yX6_low yX6_low, Cond.code yX6_low cX6_low 3 (some .int), Cond.methodLink RX6 57 yX6_high, Cond.instanceMethod yX6_high, Cond.selects RX6 yX6_high yX6_high, Cond.code yX6_high cX6_high 3 (some .int)]
def wsX6_split_r2 : List Cond := [Cond.methodLink RX6 50 yX6_size, Cond.instanceMethod yX6_size, Cond.selects RX6 yX6_size yX6_size, Cond.code yX6_size cX6_size 3 (some .int), Cond.methodLink RX6 110 yX6_push, Cond.instanceMethod yX6_push, Cond.selects RX6 yX6_push yX6_push, Cond.code yX6_push cX6_push 3 none, Cond.fieldLink RX6 103 "HidingBoxesModel" "states" "I", Cond.fieldLink RX6 16 "HidingBoxesModel" "old" "[I", Cond.methodLink RX6 137 yX6_doSplit, Cond.instanceMethod yX6_doSplit, Cond.selects RX6 yX6_doSplit yX6_doSplit, Cond.code yX6_doSplit cX6_doSplit 6 (some .int), Cond.methodLink RX6 114 yX6_put, Cond.instanceMethod yX6_put, Cond.selects RX6 yX6_put yX6_put, Cond.code yX6_put cX6_put 4 none, Cond.methodLink RX6 122 yX6_putBox, Cond.instanceMethod yX6_putBox, Cond.selects RX6 yX6_putBox yX6_putBox, Cond.code yX6_putBox cX6_putBox 8 (some .int)]
def wsX6_split : List Cond := .code yX6_split cX6_split 5 (some .int) :: ((wsX6_split_r1 ++ wsX6_split_r2) ++ wsX60)
def wsX6_breakAt_r1 : List Cond := [Cond.fieldLink RX6 7 "HidingBoxesModel" "z" "[I", Cond.methodLink RX6 141 yX6_findHiding, Cond.instanceMethod yX6_findHiding, Cond.selects RX6 yX6_findHiding yX6_findHiding, Cond.initialized RX6, Cond.code yX6_findHiding cX6_findHiding 3 none, Cond.fieldLink RX6 25 "HidingBoxesModel" "hides" "[I", Cond.fieldLink RX6 28 "HidingBoxesModel" "reaches" "[I", Cond.methodLink RX6 72 yX6_hidesBy, Cond.instanceMethod yX6_hidesBy, Cond.selects RX6 yX6_hidesBy yX6_hidesBy, Cond.code yX6_hidesBy cX6_hidesBy 5 (some .int), Cond.methodLink RX6 47 yX6_low, Cond.instanceMethod yX6_low, Cond.selects RX6 yX6_low yX6_low, Cond.code yX6_low cX6_low 3 (some .int), Cond.methodLink RX6 43 yX6_of, Cond.instanceMethod yX6_of, Cond.selects RX6 yX6_of yX6_of, Cond.code yX6_of cX6_of 3 (some .int), Cond.methodLink RX6 57 yX6_high, Cond.instanceMethod yX6_high, Cond.selects RX6 yX6_high yX6_high, Cond.code yX6_high cX6_high 3 (some .int)]
def wsX6_breakAt_r2 : List Cond := [Cond.methodLink RX6 50 yX6_size, Cond.instanceMethod yX6_size, Cond.selects RX6 yX6_size yX6_size, Cond.code yX6_size cX6_size 3 (some .int), Cond.methodLink RX6 68 yX6_overlap, Cond.instanceMethod yX6_overlap, Cond.selects RX6 yX6_overlap yX6_overlap, Cond.code yX6_overlap cX6_overlap 6 (some .boolean), Cond.methodLink RX6 64 yX6_reachesBelow, Cond.instanceMethod yX6_reachesBelow, Cond.selects RX6 yX6_reachesBelow yX6_reachesBelow, Cond.code yX6_reachesBelow cX6_reachesBelow 5 (some .boolean), Cond.methodLink RX6 75 yX6_has, Cond.static yX6_has, Cond.code yX6_has cX6_has 2 (some .boolean), Cond.methodLink RX6 78 yX6_isInRing, Cond.instanceMethod yX6_isInRing, Cond.selects RX6 yX6_isInRing yX6_isInRing, Cond.code yX6_isInRing cX6_isInRing 2 (some .boolean), Cond.methodLink RX6 93 yX6_volume, Cond.instanceMethod yX6_volume, Cond.selects RX6 yX6_volume yX6_volume, Cond.code yX6_volume cX6_volume 2 (some .int)]
def wsX6_breakAt : List Cond := .code yX6_breakAt cX6_breakAt 3 (some .int) :: ((wsX6_breakAt_r1 ++ wsX6_breakAt_r2) ++ wsX60)
def wsX6_greatestDirection : List Cond := .code yX6_greatestDirection cX6_greatestDirection 4 (some .int) :: ([.methodLink RX6 50 yX6_size, .instanceMethod yX6_size, .selects RX6 yX6_size yX6_size, .initialized RX6, .code yX6_size cX6_size 3 (some .int), .methodLink RX6 43 yX6_of, .instanceMethod yX6_of, .selects RX6 yX6_of yX6_of, .code yX6_of cX6_of 3 (some .int), .fieldLink RX6 7 "HidingBoxesModel" "z" "[I"] ++ wsX60)
def wsX6_whyNoBreak : List Cond := .code yX6_whyNoBreak cX6_whyNoBreak 2 (some .int) :: ([.fieldLink RX6 7 "HidingBoxesModel" "z" "[I", .methodLink RX6 144 yX6_greatestDirection, .instanceMethod yX6_greatestDirection, .selects RX6 yX6_greatestDirection yX6_greatestDirection, .initialized RX6, .code yX6_greatestDirection cX6_greatestDirection 4 (some .int), .methodLink RX6 50 yX6_size, .instanceMethod yX6_size, .selects RX6 yX6_size yX6_size, .code yX6_size cX6_size 3 (some .int), .methodLink RX6 43 yX6_of, .instanceMethod yX6_of, .selects RX6 yX6_of yX6_of, .code yX6_of cX6_of 3 (some .int)] ++ wsX60)
def wsX6_doBreak_r1 : List Cond := [Cond.methodLink RX6 144 yX6_greatestDirection, Cond.instanceMethod yX6_greatestDirection, Cond.selects RX6 yX6_greatestDirection yX6_greatestDirection, Cond.initialized RX6, Cond.code yX6_greatestDirection cX6_greatestDirection 4 (some .int), Cond.methodLink RX6 50 yX6_size, Cond.instanceMethod yX6_size, Cond.selects RX6 yX6_size yX6_size, Cond.code yX6_size cX6_size 3 (some .int), Cond.methodLink RX6 43 yX6_of, Cond.instanceMethod yX6_of, Cond.selects RX6 yX6_of yX6_of, Cond.code yX6_of cX6_of 3 (some .int), Cond.fieldLink RX6 7 "HidingBoxesModel" "z" "[I", Cond.methodLink RX6 47 yX6_low, Cond.instanceMethod yX6_low, Cond.selects RX6 yX6_low yX6_low, Cond.code yX6_low cX6_low 3 (some .int), Cond.methodLink RX6 137 yX6_doSplit, Cond.instanceMethod yX6_doSplit, Cond.selects RX6 yX6_doSplit yX6_doSplit, Cond.code yX6_doSplit cX6_doSplit 6 (some .int), Cond.methodLink RX6 57 yX6_high, Cond.instanceMethod yX6_high]
def wsX6_doBreak_r2 : List Cond := [Cond.selects RX6 yX6_high yX6_high, Cond.code yX6_high cX6_high 3 (some .int), Cond.methodLink RX6 114 yX6_put, Cond.instanceMethod yX6_put, Cond.selects RX6 yX6_put yX6_put, Cond.code yX6_put cX6_put 4 none, Cond.methodLink RX6 122 yX6_putBox, Cond.instanceMethod yX6_putBox, Cond.selects RX6 yX6_putBox yX6_putBox, Cond.code yX6_putBox cX6_putBox 8 (some .int)]
def wsX6_doBreak : List Cond := .code yX6_doBreak cX6_doBreak 3 (some .int) :: ((wsX6_doBreak_r1 ++ wsX6_doBreak_r2) ++ wsX60)
def wsX6_breakRing_r1 : List Cond := [Cond.fieldLink RX6 7 "HidingBoxesModel" "z" "[I", Cond.methodLink RX6 147 yX6_breakAt, Cond.instanceMethod yX6_breakAt, Cond.selects RX6 yX6_breakAt yX6_breakAt, Cond.initialized RX6, Cond.code yX6_breakAt cX6_breakAt 3 (some .int), Cond.methodLink RX6 141 yX6_findHiding, Cond.instanceMethod yX6_findHiding, Cond.selects RX6 yX6_findHiding yX6_findHiding, Cond.code yX6_findHiding cX6_findHiding 3 none, Cond.fieldLink RX6 25 "HidingBoxesModel" "hides" "[I", Cond.fieldLink RX6 28 "HidingBoxesModel" "reaches" "[I", Cond.methodLink RX6 72 yX6_hidesBy, Cond.instanceMethod yX6_hidesBy, Cond.selects RX6 yX6_hidesBy yX6_hidesBy, Cond.code yX6_hidesBy cX6_hidesBy 5 (some .int), Cond.methodLink RX6 47 yX6_low, Cond.instanceMethod yX6_low, Cond.selects RX6 yX6_low yX6_low, Cond.code yX6_low cX6_low 3 (some .int), Cond.methodLink RX6 43 yX6_of, Cond.instanceMethod yX6_of, Cond.selects RX6 yX6_of yX6_of, Cond.code yX6_of cX6_of 3 (some .int)]
def wsX6_breakRing_r2 : List Cond := [Cond.methodLink RX6 57 yX6_high, Cond.instanceMethod yX6_high, Cond.selects RX6 yX6_high yX6_high, Cond.code yX6_high cX6_high 3 (some .int), Cond.methodLink RX6 50 yX6_size, Cond.instanceMethod yX6_size, Cond.selects RX6 yX6_size yX6_size, Cond.code yX6_size cX6_size 3 (some .int), Cond.methodLink RX6 68 yX6_overlap, Cond.instanceMethod yX6_overlap, Cond.selects RX6 yX6_overlap yX6_overlap, Cond.code yX6_overlap cX6_overlap 6 (some .boolean), Cond.methodLink RX6 64 yX6_reachesBelow, Cond.instanceMethod yX6_reachesBelow, Cond.selects RX6 yX6_reachesBelow yX6_reachesBelow, Cond.code yX6_reachesBelow cX6_reachesBelow 5 (some .boolean), Cond.methodLink RX6 75 yX6_has, Cond.static yX6_has, Cond.code yX6_has cX6_has 2 (some .boolean), Cond.methodLink RX6 78 yX6_isInRing, Cond.instanceMethod yX6_isInRing, Cond.selects RX6 yX6_isInRing yX6_isInRing, Cond.code yX6_isInRing cX6_isInRing 2 (some .boolean), Cond.methodLink RX6 93 yX6_volume]
def wsX6_breakRing_r3 : List Cond := [Cond.instanceMethod yX6_volume, Cond.selects RX6 yX6_volume yX6_volume, Cond.code yX6_volume cX6_volume 2 (some .int), Cond.methodLink RX6 150 yX6_whyNoBreak, Cond.instanceMethod yX6_whyNoBreak, Cond.selects RX6 yX6_whyNoBreak yX6_whyNoBreak, Cond.code yX6_whyNoBreak cX6_whyNoBreak 2 (some .int), Cond.methodLink RX6 144 yX6_greatestDirection, Cond.instanceMethod yX6_greatestDirection, Cond.selects RX6 yX6_greatestDirection yX6_greatestDirection, Cond.code yX6_greatestDirection cX6_greatestDirection 4 (some .int), Cond.methodLink RX6 110 yX6_push, Cond.instanceMethod yX6_push, Cond.selects RX6 yX6_push yX6_push, Cond.code yX6_push cX6_push 3 none, Cond.fieldLink RX6 103 "HidingBoxesModel" "states" "I", Cond.fieldLink RX6 16 "HidingBoxesModel" "old" "[I", Cond.methodLink RX6 153 yX6_doBreak, Cond.instanceMethod yX6_doBreak, Cond.selects RX6 yX6_doBreak yX6_doBreak, Cond.code yX6_doBreak cX6_doBreak 3 (some .int), Cond.methodLink RX6 137 yX6_doSplit, Cond.instanceMethod yX6_doSplit, Cond.selects RX6 yX6_doSplit yX6_doSplit]
def wsX6_breakRing_r4 : List Cond := [Cond.code yX6_doSplit cX6_doSplit 6 (some .int), Cond.methodLink RX6 114 yX6_put, Cond.instanceMethod yX6_put, Cond.selects RX6 yX6_put yX6_put, Cond.code yX6_put cX6_put 4 none, Cond.methodLink RX6 122 yX6_putBox, Cond.instanceMethod yX6_putBox, Cond.selects RX6 yX6_putBox yX6_putBox, Cond.code yX6_putBox cX6_putBox 8 (some .int)]
def wsX6_breakRing : List Cond := .code yX6_breakRing cX6_breakRing 3 (some .int) :: ((wsX6_breakRing_r1 ++ (wsX6_breakRing_r2 ++ (wsX6_breakRing_r3 ++ wsX6_breakRing_r4))) ++ wsX60)
def wsX6_turn_r1 : List Cond := [Cond.fieldLink RX6 7 "HidingBoxesModel" "z" "[I", Cond.fieldLink RX6 37 "HidingBoxesModel" "before" "[I", Cond.fieldLink RX6 25 "HidingBoxesModel" "hides" "[I", Cond.methodLink RX6 110 yX6_push, Cond.instanceMethod yX6_push, Cond.selects RX6 yX6_push yX6_push, Cond.initialized RX6, Cond.code yX6_push cX6_push 3 none, Cond.fieldLink RX6 103 "HidingBoxesModel" "states" "I", Cond.fieldLink RX6 16 "HidingBoxesModel" "old" "[I", Cond.methodLink RX6 141 yX6_findHiding, Cond.instanceMethod yX6_findHiding, Cond.selects RX6 yX6_findHiding yX6_findHiding, Cond.code yX6_findHiding cX6_findHiding 3 none, Cond.fieldLink RX6 28 "HidingBoxesModel" "reaches" "[I", Cond.methodLink RX6 72 yX6_hidesBy, Cond.instanceMethod yX6_hidesBy, Cond.selects RX6 yX6_hidesBy yX6_hidesBy, Cond.code yX6_hidesBy cX6_hidesBy 5 (some .int), Cond.methodLink RX6 47 yX6_low, Cond.instanceMethod yX6_low, Cond.selects RX6 yX6_low yX6_low, Cond.code yX6_low cX6_low 3 (some .int), Cond.methodLink RX6 43 yX6_of]
def wsX6_turn_r2 : List Cond := [Cond.instanceMethod yX6_of, Cond.selects RX6 yX6_of yX6_of, Cond.code yX6_of cX6_of 3 (some .int), Cond.methodLink RX6 57 yX6_high, Cond.instanceMethod yX6_high, Cond.selects RX6 yX6_high yX6_high, Cond.code yX6_high cX6_high 3 (some .int), Cond.methodLink RX6 50 yX6_size, Cond.instanceMethod yX6_size, Cond.selects RX6 yX6_size yX6_size, Cond.code yX6_size cX6_size 3 (some .int), Cond.methodLink RX6 68 yX6_overlap, Cond.instanceMethod yX6_overlap, Cond.selects RX6 yX6_overlap yX6_overlap, Cond.code yX6_overlap cX6_overlap 6 (some .boolean), Cond.methodLink RX6 64 yX6_reachesBelow, Cond.instanceMethod yX6_reachesBelow, Cond.selects RX6 yX6_reachesBelow yX6_reachesBelow, Cond.code yX6_reachesBelow cX6_reachesBelow 5 (some .boolean), Cond.methodLink RX6 75 yX6_has, Cond.static yX6_has, Cond.code yX6_has cX6_has 2 (some .boolean), Cond.methodLink RX6 114 yX6_put, Cond.instanceMethod yX6_put]
def wsX6_turn_r3 : List Cond := [Cond.selects RX6 yX6_put yX6_put, Cond.code yX6_put cX6_put 4 none, Cond.methodLink RX6 156 yX6_ones, Cond.static yX6_ones, Cond.code yX6_ones cX6_ones 3 (some .int)]
def wsX6_turn : List Cond := .code yX6_turn cX6_turn 4 (some .int) :: ((wsX6_turn_r1 ++ (wsX6_turn_r2 ++ wsX6_turn_r3)) ++ wsX60)
def wsX6_set : List Cond := .code yX6_set cX6_set 4 (some .int) :: ([.fieldLink RX6 7 "HidingBoxesModel" "z" "[I", .methodLink RX6 53 yX6_in, .static yX6_in, .initialized RX6, .code yX6_in cX6_in 4 (some .boolean), .methodLink RX6 110 yX6_push, .instanceMethod yX6_push, .selects RX6 yX6_push yX6_push, .code yX6_push cX6_push 3 none, .fieldLink RX6 103 "HidingBoxesModel" "states" "I", .fieldLink RX6 16 "HidingBoxesModel" "old" "[I"] ++ wsX60)
def wsX6_type : List Cond := .code yX6_type cX6_type 2 (some .int) :: ([.fieldLink RX6 159 "HidingBoxesModel" "length" "I", .fieldLink RX6 22 "HidingBoxesModel" "text" "[I"] ++ wsX60)
def wsX6_clearText : List Cond := .code yX6_clearText cX6_clearText 2 (some .int) :: ([.fieldLink RX6 159 "HidingBoxesModel" "length" "I"] ++ wsX60)
def wsX6_sign : List Cond := .code yX6_sign cX6_sign 1 (some .int) :: ([.fieldLink RX6 162 "HidingBoxesModel" "place" "I", .fieldLink RX6 159 "HidingBoxesModel" "length" "I", .fieldLink RX6 22 "HidingBoxesModel" "text" "[I"] ++ wsX60)
def wsX6_take : List Cond := .code yX6_take cX6_take 2 none :: ([.fieldLink RX6 165 "HidingBoxesModel" "isWrong" "Z", .fieldLink RX6 162 "HidingBoxesModel" "place" "I"] ++ wsX60)
def wsX6_readNumber : List Cond := .code yX6_readNumber cX6_readNumber 4 (some .int) :: ([.fieldLink RX6 165 "HidingBoxesModel" "isWrong" "Z", .fieldLink RX6 162 "HidingBoxesModel" "place" "I", .methodLink RX6 168 yX6_sign, .instanceMethod yX6_sign, .selects RX6 yX6_sign yX6_sign, .initialized RX6, .code yX6_sign cX6_sign 1 (some .int), .fieldLink RX6 159 "HidingBoxesModel" "length" "I", .fieldLink RX6 22 "HidingBoxesModel" "text" "[I", .methodLink RX6 53 yX6_in, .static yX6_in, .code yX6_in cX6_in 4 (some .boolean), .methodLink RX6 171 yX6_take, .instanceMethod yX6_take, .selects RX6 yX6_take yX6_take, .code yX6_take cX6_take 2 none] ++ wsX60)
def wsX6_readBox : List Cond := .code yX6_readBox cX6_readBox 2 none :: ([.fieldLink RX6 165 "HidingBoxesModel" "isWrong" "Z", .fieldLink RX6 40 "HidingBoxesModel" "given" "[I", .methodLink RX6 168 yX6_sign, .instanceMethod yX6_sign, .selects RX6 yX6_sign yX6_sign, .initialized RX6, .code yX6_sign cX6_sign 1 (some .int), .fieldLink RX6 162 "HidingBoxesModel" "place" "I", .fieldLink RX6 159 "HidingBoxesModel" "length" "I", .fieldLink RX6 22 "HidingBoxesModel" "text" "[I", .methodLink RX6 171 yX6_take, .instanceMethod yX6_take, .selects RX6 yX6_take yX6_take, .code yX6_take cX6_take 2 none, .methodLink RX6 175 yX6_readNumber, .instanceMethod yX6_readNumber, .selects RX6 yX6_readNumber yX6_readNumber, .code yX6_readNumber cX6_readNumber 4 (some .int), .methodLink RX6 53 yX6_in, .static yX6_in, .code yX6_in cX6_in 4 (some .boolean)] ++ wsX60)
def wsX6_findFault_r1 : List Cond := [Cond.fieldLink RX6 162 "HidingBoxesModel" "place" "I", Cond.fieldLink RX6 165 "HidingBoxesModel" "isWrong" "Z", Cond.fieldLink RX6 159 "HidingBoxesModel" "length" "I", Cond.methodLink RX6 178 yX6_readBox, Cond.instanceMethod yX6_readBox, Cond.selects RX6 yX6_readBox yX6_readBox, Cond.initialized RX6, Cond.code yX6_readBox cX6_readBox 2 none, Cond.fieldLink RX6 40 "HidingBoxesModel" "given" "[I", Cond.methodLink RX6 168 yX6_sign, Cond.instanceMethod yX6_sign, Cond.selects RX6 yX6_sign yX6_sign, Cond.code yX6_sign cX6_sign 1 (some .int), Cond.fieldLink RX6 22 "HidingBoxesModel" "text" "[I", Cond.methodLink RX6 171 yX6_take, Cond.instanceMethod yX6_take, Cond.selects RX6 yX6_take yX6_take, Cond.code yX6_take cX6_take 2 none, Cond.methodLink RX6 175 yX6_readNumber, Cond.instanceMethod yX6_readNumber, Cond.selects RX6 yX6_readNumber yX6_readNumber, Cond.code yX6_readNumber cX6_readNumber 4 (some .int), Cond.methodLink RX6 53 yX6_in, Cond.static yX6_in]
def wsX6_findFault_r2 : List Cond := [Cond.code yX6_in cX6_in 4 (some .boolean)]
def wsX6_findFault : List Cond := .code yX6_findFault cX6_findFault 1 (some .int) :: ((wsX6_findFault_r1 ++ wsX6_findFault_r2) ++ wsX60)
def wsX6_addAll_r1 : List Cond := [Cond.fieldLink RX6 162 "HidingBoxesModel" "place" "I", Cond.fieldLink RX6 159 "HidingBoxesModel" "length" "I", Cond.fieldLink RX6 40 "HidingBoxesModel" "given" "[I", Cond.fieldLink RX6 13 "HidingBoxesModel" "aside" "[I", Cond.methodLink RX6 181 yX6_findFault, Cond.instanceMethod yX6_findFault, Cond.selects RX6 yX6_findFault yX6_findFault, Cond.initialized RX6, Cond.code yX6_findFault cX6_findFault 1 (some .int), Cond.fieldLink RX6 165 "HidingBoxesModel" "isWrong" "Z", Cond.methodLink RX6 178 yX6_readBox, Cond.instanceMethod yX6_readBox, Cond.selects RX6 yX6_readBox yX6_readBox, Cond.code yX6_readBox cX6_readBox 2 none, Cond.methodLink RX6 168 yX6_sign, Cond.instanceMethod yX6_sign, Cond.selects RX6 yX6_sign yX6_sign, Cond.code yX6_sign cX6_sign 1 (some .int), Cond.fieldLink RX6 22 "HidingBoxesModel" "text" "[I", Cond.methodLink RX6 171 yX6_take, Cond.instanceMethod yX6_take, Cond.selects RX6 yX6_take yX6_take, Cond.code yX6_take cX6_take 2 none, Cond.methodLink RX6 175 yX6_readNumber]
def wsX6_addAll_r2 : List Cond := [Cond.instanceMethod yX6_readNumber, Cond.selects RX6 yX6_readNumber yX6_readNumber, Cond.code yX6_readNumber cX6_readNumber 4 (some .int), Cond.methodLink RX6 53 yX6_in, Cond.static yX6_in, Cond.code yX6_in cX6_in 4 (some .boolean), Cond.methodLink RX6 184 yX6_putAside, Cond.instanceMethod yX6_putAside, Cond.selects RX6 yX6_putAside yX6_putAside, Cond.code yX6_putAside cX6_putAside 2 none, Cond.fieldLink RX6 7 "HidingBoxesModel" "z" "[I", Cond.methodLink RX6 118 yX6_tryBox, Cond.instanceMethod yX6_tryBox, Cond.selects RX6 yX6_tryBox yX6_tryBox, Cond.code yX6_tryBox cX6_tryBox 11 (some .int), Cond.methodLink RX6 57 yX6_high, Cond.instanceMethod yX6_high, Cond.selects RX6 yX6_high yX6_high, Cond.code yX6_high cX6_high 3 (some .int), Cond.methodLink RX6 47 yX6_low, Cond.instanceMethod yX6_low, Cond.selects RX6 yX6_low yX6_low, Cond.code yX6_low cX6_low 3 (some .int), Cond.methodLink RX6 43 yX6_of]
def wsX6_addAll_r3 : List Cond := [Cond.instanceMethod yX6_of, Cond.selects RX6 yX6_of yX6_of, Cond.code yX6_of cX6_of 3 (some .int), Cond.methodLink RX6 50 yX6_size, Cond.instanceMethod yX6_size, Cond.selects RX6 yX6_size yX6_size, Cond.code yX6_size cX6_size 3 (some .int), Cond.methodLink RX6 122 yX6_putBox, Cond.instanceMethod yX6_putBox, Cond.selects RX6 yX6_putBox yX6_putBox, Cond.code yX6_putBox cX6_putBox 8 (some .int), Cond.methodLink RX6 114 yX6_put, Cond.instanceMethod yX6_put, Cond.selects RX6 yX6_put yX6_put, Cond.code yX6_put cX6_put 4 none, Cond.methodLink RX6 187 yX6_putBack, Cond.instanceMethod yX6_putBack, Cond.selects RX6 yX6_putBack yX6_putBack, Cond.code yX6_putBack cX6_putBack 2 none, Cond.methodLink RX6 110 yX6_push, Cond.instanceMethod yX6_push, Cond.selects RX6 yX6_push yX6_push, Cond.code yX6_push cX6_push 3 none, Cond.fieldLink RX6 103 "HidingBoxesModel" "states" "I"]
def wsX6_addAll_r4 : List Cond := [Cond.fieldLink RX6 16 "HidingBoxesModel" "old" "[I"]
def wsX6_addAll : List Cond := .code yX6_addAll cX6_addAll 4 (some .int) :: ((wsX6_addAll_r1 ++ (wsX6_addAll_r2 ++ (wsX6_addAll_r3 ++ wsX6_addAll_r4))) ++ wsX60)
def wsX6_box : List Cond := .code yX6_box cX6_box 2 (some .int) :: ([.fieldLink RX6 7 "HidingBoxesModel" "z" "[I", .methodLink RX6 43 yX6_of, .instanceMethod yX6_of, .selects RX6 yX6_of yX6_of, .initialized RX6, .code yX6_of cX6_of 3 (some .int)] ++ wsX60)
def wsX6_end_r1 : List Cond := [Cond.methodLink RX6 125 yX6_rankOf, Cond.instanceMethod yX6_rankOf, Cond.selects RX6 yX6_rankOf yX6_rankOf, Cond.initialized RX6, Cond.code yX6_rankOf cX6_rankOf 4 (some .int), Cond.fieldLink RX6 7 "HidingBoxesModel" "z" "[I", Cond.methodLink RX6 43 yX6_of, Cond.instanceMethod yX6_of, Cond.selects RX6 yX6_of yX6_of, Cond.code yX6_of cX6_of 3 (some .int), Cond.methodLink RX6 128 yX6_isDirection, Cond.static yX6_isDirection, Cond.code yX6_isDirection cX6_isDirection 1 (some .boolean), Cond.methodLink RX6 53 yX6_in, Cond.static yX6_in, Cond.code yX6_in cX6_in 4 (some .boolean), Cond.methodLink RX6 57 yX6_high, Cond.instanceMethod yX6_high, Cond.selects RX6 yX6_high yX6_high, Cond.code yX6_high cX6_high 3 (some .int), Cond.methodLink RX6 47 yX6_low, Cond.instanceMethod yX6_low, Cond.selects RX6 yX6_low yX6_low, Cond.code yX6_low cX6_low 3 (some .int)]
def wsX6_end_r2 : List Cond := [Cond.methodLink RX6 50 yX6_size, Cond.instanceMethod yX6_size, Cond.selects RX6 yX6_size yX6_size, Cond.code yX6_size cX6_size 3 (some .int)]
def wsX6_end : List Cond := .code yX6_end cX6_end 5 (some .int) :: ((wsX6_end_r1 ++ wsX6_end_r2) ++ wsX60)
def wsX6_hiders : List Cond := .code yX6_hiders cX6_hiders 4 (some .int) :: ([.fieldLink RX6 7 "HidingBoxesModel" "z" "[I", .fieldLink RX6 25 "HidingBoxesModel" "hides" "[I", .methodLink RX6 75 yX6_has, .static yX6_has, .initialized RX6, .code yX6_has cX6_has 2 (some .boolean)] ++ wsX60)
def wsX6_boxesBelow_r1 : List Cond := [Cond.fieldLink RX6 7 "HidingBoxesModel" "z" "[I", Cond.methodLink RX6 134 yX6_isBelow, Cond.instanceMethod yX6_isBelow, Cond.selects RX6 yX6_isBelow yX6_isBelow, Cond.initialized RX6, Cond.code yX6_isBelow cX6_isBelow 3 (some .boolean), Cond.methodLink RX6 60 yX6_cross, Cond.instanceMethod yX6_cross, Cond.selects RX6 yX6_cross yX6_cross, Cond.code yX6_cross cX6_cross 4 (some .boolean), Cond.methodLink RX6 47 yX6_low, Cond.instanceMethod yX6_low, Cond.selects RX6 yX6_low yX6_low, Cond.code yX6_low cX6_low 3 (some .int), Cond.methodLink RX6 43 yX6_of, Cond.instanceMethod yX6_of, Cond.selects RX6 yX6_of yX6_of, Cond.code yX6_of cX6_of 3 (some .int), Cond.methodLink RX6 57 yX6_high, Cond.instanceMethod yX6_high, Cond.selects RX6 yX6_high yX6_high, Cond.code yX6_high cX6_high 3 (some .int), Cond.methodLink RX6 50 yX6_size, Cond.instanceMethod yX6_size]
def wsX6_boxesBelow_r2 : List Cond := [Cond.selects RX6 yX6_size yX6_size, Cond.code yX6_size cX6_size 3 (some .int)]
def wsX6_boxesBelow : List Cond := .code yX6_boxesBelow cX6_boxesBelow 5 (some .int) :: ((wsX6_boxesBelow_r1 ++ wsX6_boxesBelow_r2) ++ wsX60)
def wsX6_covers : List Cond := .code yX6_covers cX6_covers 4 (some .boolean) :: ([.methodLink RX6 47 yX6_low, .instanceMethod yX6_low, .selects RX6 yX6_low yX6_low, .initialized RX6, .code yX6_low cX6_low 3 (some .int), .methodLink RX6 43 yX6_of, .instanceMethod yX6_of, .selects RX6 yX6_of yX6_of, .code yX6_of cX6_of 3 (some .int), .fieldLink RX6 7 "HidingBoxesModel" "z" "[I", .methodLink RX6 57 yX6_high, .instanceMethod yX6_high, .selects RX6 yX6_high yX6_high, .code yX6_high cX6_high 3 (some .int), .methodLink RX6 50 yX6_size, .instanceMethod yX6_size, .selects RX6 yX6_size yX6_size, .code yX6_size cX6_size 3 (some .int), .methodLink RX6 53 yX6_in, .static yX6_in, .code yX6_in cX6_in 4 (some .boolean)] ++ wsX60)
def wsX6_shadows_r1 : List Cond := [Cond.fieldLink RX6 7 "HidingBoxesModel" "z" "[I", Cond.methodLink RX6 47 yX6_low, Cond.instanceMethod yX6_low, Cond.selects RX6 yX6_low yX6_low, Cond.initialized RX6, Cond.code yX6_low cX6_low 3 (some .int), Cond.methodLink RX6 43 yX6_of, Cond.instanceMethod yX6_of, Cond.selects RX6 yX6_of yX6_of, Cond.code yX6_of cX6_of 3 (some .int), Cond.methodLink RX6 57 yX6_high, Cond.instanceMethod yX6_high, Cond.selects RX6 yX6_high yX6_high, Cond.code yX6_high cX6_high 3 (some .int), Cond.methodLink RX6 50 yX6_size, Cond.instanceMethod yX6_size, Cond.selects RX6 yX6_size yX6_size, Cond.code yX6_size cX6_size 3 (some .int), Cond.methodLink RX6 134 yX6_isBelow, Cond.instanceMethod yX6_isBelow, Cond.selects RX6 yX6_isBelow yX6_isBelow, Cond.code yX6_isBelow cX6_isBelow 3 (some .boolean), Cond.methodLink RX6 60 yX6_cross, Cond.instanceMethod yX6_cross]
def wsX6_shadows_r2 : List Cond := [Cond.selects RX6 yX6_cross yX6_cross, Cond.code yX6_cross cX6_cross 4 (some .boolean), Cond.methodLink RX6 190 yX6_covers, Cond.instanceMethod yX6_covers, Cond.selects RX6 yX6_covers yX6_covers, Cond.code yX6_covers cX6_covers 4 (some .boolean), Cond.methodLink RX6 53 yX6_in, Cond.static yX6_in, Cond.code yX6_in cX6_in 4 (some .boolean)]
def wsX6_shadows : List Cond := .code yX6_shadows cX6_shadows 7 (some .int) :: ((wsX6_shadows_r1 ++ wsX6_shadows_r2) ++ wsX60)
def wsX6_ofBox_r1 : List Cond := [Cond.fieldLink RX6 25 "HidingBoxesModel" "hides" "[I", Cond.fieldLink RX6 31 "HidingBoxesModel" "layers" "[I", Cond.methodLink RX6 125 yX6_rankOf, Cond.instanceMethod yX6_rankOf, Cond.selects RX6 yX6_rankOf yX6_rankOf, Cond.initialized RX6, Cond.code yX6_rankOf cX6_rankOf 4 (some .int), Cond.fieldLink RX6 7 "HidingBoxesModel" "z" "[I", Cond.methodLink RX6 43 yX6_of, Cond.instanceMethod yX6_of, Cond.selects RX6 yX6_of yX6_of, Cond.code yX6_of cX6_of 3 (some .int), Cond.methodLink RX6 141 yX6_findHiding, Cond.instanceMethod yX6_findHiding, Cond.selects RX6 yX6_findHiding yX6_findHiding, Cond.code yX6_findHiding cX6_findHiding 3 none, Cond.fieldLink RX6 28 "HidingBoxesModel" "reaches" "[I", Cond.methodLink RX6 72 yX6_hidesBy, Cond.instanceMethod yX6_hidesBy, Cond.selects RX6 yX6_hidesBy yX6_hidesBy, Cond.code yX6_hidesBy cX6_hidesBy 5 (some .int), Cond.methodLink RX6 47 yX6_low, Cond.instanceMethod yX6_low, Cond.selects RX6 yX6_low yX6_low]
def wsX6_ofBox_r2 : List Cond := [Cond.code yX6_low cX6_low 3 (some .int), Cond.methodLink RX6 57 yX6_high, Cond.instanceMethod yX6_high, Cond.selects RX6 yX6_high yX6_high, Cond.code yX6_high cX6_high 3 (some .int), Cond.methodLink RX6 50 yX6_size, Cond.instanceMethod yX6_size, Cond.selects RX6 yX6_size yX6_size, Cond.code yX6_size cX6_size 3 (some .int), Cond.methodLink RX6 68 yX6_overlap, Cond.instanceMethod yX6_overlap, Cond.selects RX6 yX6_overlap yX6_overlap, Cond.code yX6_overlap cX6_overlap 6 (some .boolean), Cond.methodLink RX6 64 yX6_reachesBelow, Cond.instanceMethod yX6_reachesBelow, Cond.selects RX6 yX6_reachesBelow yX6_reachesBelow, Cond.code yX6_reachesBelow cX6_reachesBelow 5 (some .boolean), Cond.methodLink RX6 75 yX6_has, Cond.static yX6_has, Cond.code yX6_has cX6_has 2 (some .boolean), Cond.methodLink RX6 193 yX6_findLayers, Cond.instanceMethod yX6_findLayers, Cond.selects RX6 yX6_findLayers yX6_findLayers, Cond.code yX6_findLayers cX6_findLayers 5 none]
def wsX6_ofBox_r3 : List Cond := [Cond.methodLink RX6 89 yX6_ringBoxes, Cond.instanceMethod yX6_ringBoxes, Cond.selects RX6 yX6_ringBoxes yX6_ringBoxes, Cond.code yX6_ringBoxes cX6_ringBoxes 3 (some .int), Cond.methodLink RX6 78 yX6_isInRing, Cond.instanceMethod yX6_isInRing, Cond.selects RX6 yX6_isInRing yX6_isInRing, Cond.code yX6_isInRing cX6_isInRing 2 (some .boolean), Cond.methodLink RX6 93 yX6_volume, Cond.instanceMethod yX6_volume, Cond.selects RX6 yX6_volume yX6_volume, Cond.code yX6_volume cX6_volume 2 (some .int), Cond.methodLink RX6 156 yX6_ones, Cond.static yX6_ones, Cond.code yX6_ones cX6_ones 3 (some .int), Cond.methodLink RX6 196 yX6_hiders, Cond.instanceMethod yX6_hiders, Cond.selects RX6 yX6_hiders yX6_hiders, Cond.code yX6_hiders cX6_hiders 4 (some .int), Cond.methodLink RX6 86 yX6_shortestRing, Cond.instanceMethod yX6_shortestRing, Cond.selects RX6 yX6_shortestRing yX6_shortestRing, Cond.code yX6_shortestRing cX6_shortestRing 4 (some .int), Cond.methodLink RX6 82 yX6_hiddenByAny]
def wsX6_ofBox_r4 : List Cond := [Cond.instanceMethod yX6_hiddenByAny, Cond.selects RX6 yX6_hiddenByAny yX6_hiddenByAny, Cond.code yX6_hiddenByAny cX6_hiddenByAny 4 (some .int), Cond.methodLink RX6 199 yX6_boxesBelow, Cond.instanceMethod yX6_boxesBelow, Cond.selects RX6 yX6_boxesBelow yX6_boxesBelow, Cond.code yX6_boxesBelow cX6_boxesBelow 5 (some .int), Cond.methodLink RX6 134 yX6_isBelow, Cond.instanceMethod yX6_isBelow, Cond.selects RX6 yX6_isBelow yX6_isBelow, Cond.code yX6_isBelow cX6_isBelow 3 (some .boolean), Cond.methodLink RX6 60 yX6_cross, Cond.instanceMethod yX6_cross, Cond.selects RX6 yX6_cross yX6_cross, Cond.code yX6_cross cX6_cross 4 (some .boolean), Cond.methodLink RX6 203 yX6_shadows, Cond.instanceMethod yX6_shadows, Cond.selects RX6 yX6_shadows yX6_shadows, Cond.code yX6_shadows cX6_shadows 7 (some .int), Cond.methodLink RX6 190 yX6_covers, Cond.instanceMethod yX6_covers, Cond.selects RX6 yX6_covers yX6_covers, Cond.code yX6_covers cX6_covers 4 (some .boolean), Cond.methodLink RX6 53 yX6_in]
def wsX6_ofBox_r5 : List Cond := [Cond.static yX6_in, Cond.code yX6_in cX6_in 4 (some .boolean)]
def wsX6_ofBox : List Cond := .code yX6_ofBox cX6_ofBox 4 (some .int) :: ((wsX6_ofBox_r1 ++ (wsX6_ofBox_r2 ++ (wsX6_ofBox_r3 ++ (wsX6_ofBox_r4 ++ wsX6_ofBox_r5)))) ++ wsX60)
def wsX6_pair_r1 : List Cond := [Cond.methodLink RX6 125 yX6_rankOf, Cond.instanceMethod yX6_rankOf, Cond.selects RX6 yX6_rankOf yX6_rankOf, Cond.initialized RX6, Cond.code yX6_rankOf cX6_rankOf 4 (some .int), Cond.fieldLink RX6 7 "HidingBoxesModel" "z" "[I", Cond.methodLink RX6 43 yX6_of, Cond.instanceMethod yX6_of, Cond.selects RX6 yX6_of yX6_of, Cond.code yX6_of cX6_of 3 (some .int), Cond.methodLink RX6 72 yX6_hidesBy, Cond.instanceMethod yX6_hidesBy, Cond.selects RX6 yX6_hidesBy yX6_hidesBy, Cond.code yX6_hidesBy cX6_hidesBy 5 (some .int), Cond.methodLink RX6 47 yX6_low, Cond.instanceMethod yX6_low, Cond.selects RX6 yX6_low yX6_low, Cond.code yX6_low cX6_low 3 (some .int), Cond.methodLink RX6 57 yX6_high, Cond.instanceMethod yX6_high, Cond.selects RX6 yX6_high yX6_high, Cond.code yX6_high cX6_high 3 (some .int), Cond.methodLink RX6 50 yX6_size, Cond.instanceMethod yX6_size]
def wsX6_pair_r2 : List Cond := [Cond.selects RX6 yX6_size yX6_size, Cond.code yX6_size cX6_size 3 (some .int), Cond.methodLink RX6 68 yX6_overlap, Cond.instanceMethod yX6_overlap, Cond.selects RX6 yX6_overlap yX6_overlap, Cond.code yX6_overlap cX6_overlap 6 (some .boolean), Cond.methodLink RX6 64 yX6_reachesBelow, Cond.instanceMethod yX6_reachesBelow, Cond.selects RX6 yX6_reachesBelow yX6_reachesBelow, Cond.code yX6_reachesBelow cX6_reachesBelow 5 (some .boolean)]
def wsX6_pair : List Cond := .code yX6_pair cX6_pair 6 (some .int) :: ((wsX6_pair_r1 ++ wsX6_pair_r2) ++ wsX60)
def wsX6_drawn_r1 : List Cond := [Cond.fieldLink RX6 96 "HidingBoxesModel" "drawn" "I", Cond.fieldLink RX6 34 "HidingBoxesModel" "order" "[I", Cond.methodLink RX6 141 yX6_findHiding, Cond.instanceMethod yX6_findHiding, Cond.selects RX6 yX6_findHiding yX6_findHiding, Cond.initialized RX6, Cond.code yX6_findHiding cX6_findHiding 3 none, Cond.fieldLink RX6 7 "HidingBoxesModel" "z" "[I", Cond.fieldLink RX6 25 "HidingBoxesModel" "hides" "[I", Cond.fieldLink RX6 28 "HidingBoxesModel" "reaches" "[I", Cond.methodLink RX6 72 yX6_hidesBy, Cond.instanceMethod yX6_hidesBy, Cond.selects RX6 yX6_hidesBy yX6_hidesBy, Cond.code yX6_hidesBy cX6_hidesBy 5 (some .int), Cond.methodLink RX6 47 yX6_low, Cond.instanceMethod yX6_low, Cond.selects RX6 yX6_low yX6_low, Cond.code yX6_low cX6_low 3 (some .int), Cond.methodLink RX6 43 yX6_of, Cond.instanceMethod yX6_of, Cond.selects RX6 yX6_of yX6_of, Cond.code yX6_of cX6_of 3 (some .int), Cond.methodLink RX6 57 yX6_high, Cond.instanceMethod yX6_high]
def wsX6_drawn_r2 : List Cond := [Cond.selects RX6 yX6_high yX6_high, Cond.code yX6_high cX6_high 3 (some .int), Cond.methodLink RX6 50 yX6_size, Cond.instanceMethod yX6_size, Cond.selects RX6 yX6_size yX6_size, Cond.code yX6_size cX6_size 3 (some .int), Cond.methodLink RX6 68 yX6_overlap, Cond.instanceMethod yX6_overlap, Cond.selects RX6 yX6_overlap yX6_overlap, Cond.code yX6_overlap cX6_overlap 6 (some .boolean), Cond.methodLink RX6 64 yX6_reachesBelow, Cond.instanceMethod yX6_reachesBelow, Cond.selects RX6 yX6_reachesBelow yX6_reachesBelow, Cond.code yX6_reachesBelow cX6_reachesBelow 5 (some .boolean), Cond.methodLink RX6 75 yX6_has, Cond.static yX6_has, Cond.code yX6_has cX6_has 2 (some .boolean), Cond.methodLink RX6 206 yX6_drawAll, Cond.instanceMethod yX6_drawAll, Cond.selects RX6 yX6_drawAll yX6_drawAll, Cond.code yX6_drawAll cX6_drawAll 6 none, Cond.methodLink RX6 100 yX6_weight, Cond.instanceMethod yX6_weight, Cond.selects RX6 yX6_weight yX6_weight]
def wsX6_drawn_r3 : List Cond := [Cond.code yX6_weight cX6_weight 2 (some .int), Cond.methodLink RX6 93 yX6_volume, Cond.instanceMethod yX6_volume, Cond.selects RX6 yX6_volume yX6_volume, Cond.code yX6_volume cX6_volume 2 (some .int)]
def wsX6_drawn : List Cond := .code yX6_drawn cX6_drawn 2 (some .int) :: ((wsX6_drawn_r1 ++ (wsX6_drawn_r2 ++ wsX6_drawn_r3)) ++ wsX60)
def wsX6_total_r1 : List Cond := [Cond.fieldLink RX6 7 "HidingBoxesModel" "z" "[I", Cond.fieldLink RX6 25 "HidingBoxesModel" "hides" "[I", Cond.fieldLink RX6 31 "HidingBoxesModel" "layers" "[I", Cond.fieldLink RX6 96 "HidingBoxesModel" "drawn" "I", Cond.fieldLink RX6 103 "HidingBoxesModel" "states" "I", Cond.fieldLink RX6 159 "HidingBoxesModel" "length" "I", Cond.methodLink RX6 141 yX6_findHiding, Cond.instanceMethod yX6_findHiding, Cond.selects RX6 yX6_findHiding yX6_findHiding, Cond.initialized RX6, Cond.code yX6_findHiding cX6_findHiding 3 none, Cond.fieldLink RX6 28 "HidingBoxesModel" "reaches" "[I", Cond.methodLink RX6 72 yX6_hidesBy, Cond.instanceMethod yX6_hidesBy, Cond.selects RX6 yX6_hidesBy yX6_hidesBy, Cond.code yX6_hidesBy cX6_hidesBy 5 (some .int), Cond.methodLink RX6 47 yX6_low, Cond.instanceMethod yX6_low, Cond.selects RX6 yX6_low yX6_low, Cond.code yX6_low cX6_low 3 (some .int), Cond.methodLink RX6 43 yX6_of, Cond.instanceMethod yX6_of, Cond.selects RX6 yX6_of yX6_of, Cond.code yX6_of cX6_of 3 (some .int)]
def wsX6_total_r2 : List Cond := [Cond.methodLink RX6 57 yX6_high, Cond.instanceMethod yX6_high, Cond.selects RX6 yX6_high yX6_high, Cond.code yX6_high cX6_high 3 (some .int), Cond.methodLink RX6 50 yX6_size, Cond.instanceMethod yX6_size, Cond.selects RX6 yX6_size yX6_size, Cond.code yX6_size cX6_size 3 (some .int), Cond.methodLink RX6 68 yX6_overlap, Cond.instanceMethod yX6_overlap, Cond.selects RX6 yX6_overlap yX6_overlap, Cond.code yX6_overlap cX6_overlap 6 (some .boolean), Cond.methodLink RX6 64 yX6_reachesBelow, Cond.instanceMethod yX6_reachesBelow, Cond.selects RX6 yX6_reachesBelow yX6_reachesBelow, Cond.code yX6_reachesBelow cX6_reachesBelow 5 (some .boolean), Cond.methodLink RX6 75 yX6_has, Cond.static yX6_has, Cond.code yX6_has cX6_has 2 (some .boolean), Cond.methodLink RX6 193 yX6_findLayers, Cond.instanceMethod yX6_findLayers, Cond.selects RX6 yX6_findLayers yX6_findLayers, Cond.code yX6_findLayers cX6_findLayers 5 none, Cond.methodLink RX6 89 yX6_ringBoxes]
def wsX6_total_r3 : List Cond := [Cond.instanceMethod yX6_ringBoxes, Cond.selects RX6 yX6_ringBoxes yX6_ringBoxes, Cond.code yX6_ringBoxes cX6_ringBoxes 3 (some .int), Cond.methodLink RX6 78 yX6_isInRing, Cond.instanceMethod yX6_isInRing, Cond.selects RX6 yX6_isInRing yX6_isInRing, Cond.code yX6_isInRing cX6_isInRing 2 (some .boolean), Cond.methodLink RX6 206 yX6_drawAll, Cond.instanceMethod yX6_drawAll, Cond.selects RX6 yX6_drawAll yX6_drawAll, Cond.code yX6_drawAll cX6_drawAll 6 none, Cond.fieldLink RX6 34 "HidingBoxesModel" "order" "[I", Cond.methodLink RX6 100 yX6_weight, Cond.instanceMethod yX6_weight, Cond.selects RX6 yX6_weight yX6_weight, Cond.code yX6_weight cX6_weight 2 (some .int), Cond.methodLink RX6 93 yX6_volume, Cond.instanceMethod yX6_volume, Cond.selects RX6 yX6_volume yX6_volume, Cond.code yX6_volume cX6_volume 2 (some .int), Cond.methodLink RX6 156 yX6_ones, Cond.static yX6_ones, Cond.code yX6_ones cX6_ones 3 (some .int), Cond.methodLink RX6 203 yX6_shadows]
def wsX6_total_r4 : List Cond := [Cond.instanceMethod yX6_shadows, Cond.selects RX6 yX6_shadows yX6_shadows, Cond.code yX6_shadows cX6_shadows 7 (some .int), Cond.methodLink RX6 134 yX6_isBelow, Cond.instanceMethod yX6_isBelow, Cond.selects RX6 yX6_isBelow yX6_isBelow, Cond.code yX6_isBelow cX6_isBelow 3 (some .boolean), Cond.methodLink RX6 60 yX6_cross, Cond.instanceMethod yX6_cross, Cond.selects RX6 yX6_cross yX6_cross, Cond.code yX6_cross cX6_cross 4 (some .boolean), Cond.methodLink RX6 190 yX6_covers, Cond.instanceMethod yX6_covers, Cond.selects RX6 yX6_covers yX6_covers, Cond.code yX6_covers cX6_covers 4 (some .boolean), Cond.methodLink RX6 53 yX6_in, Cond.static yX6_in, Cond.code yX6_in cX6_in 4 (some .boolean), Cond.methodLink RX6 210 yX6_shortestOfAll, Cond.instanceMethod yX6_shortestOfAll, Cond.selects RX6 yX6_shortestOfAll yX6_shortestOfAll, Cond.code yX6_shortestOfAll cX6_shortestOfAll 4 (some .int), Cond.methodLink RX6 86 yX6_shortestRing, Cond.instanceMethod yX6_shortestRing]
def wsX6_total_r5 : List Cond := [Cond.selects RX6 yX6_shortestRing yX6_shortestRing, Cond.code yX6_shortestRing cX6_shortestRing 4 (some .int), Cond.methodLink RX6 82 yX6_hiddenByAny, Cond.instanceMethod yX6_hiddenByAny, Cond.selects RX6 yX6_hiddenByAny yX6_hiddenByAny, Cond.code yX6_hiddenByAny cX6_hiddenByAny 4 (some .int)]
def wsX6_total : List Cond := .code yX6_total cX6_total 7 (some .int) :: ((wsX6_total_r1 ++ (wsX6_total_r2 ++ (wsX6_total_r3 ++ (wsX6_total_r4 ++ wsX6_total_r5)))) ++ wsX60)
def wsX6_waitsFor_r1 : List Cond := [Cond.fieldLink RX6 25 "HidingBoxesModel" "hides" "[I", Cond.fieldLink RX6 7 "HidingBoxesModel" "z" "[I", Cond.methodLink RX6 125 yX6_rankOf, Cond.instanceMethod yX6_rankOf, Cond.selects RX6 yX6_rankOf yX6_rankOf, Cond.initialized RX6, Cond.code yX6_rankOf cX6_rankOf 4 (some .int), Cond.methodLink RX6 43 yX6_of, Cond.instanceMethod yX6_of, Cond.selects RX6 yX6_of yX6_of, Cond.code yX6_of cX6_of 3 (some .int), Cond.methodLink RX6 141 yX6_findHiding, Cond.instanceMethod yX6_findHiding, Cond.selects RX6 yX6_findHiding yX6_findHiding, Cond.code yX6_findHiding cX6_findHiding 3 none, Cond.fieldLink RX6 28 "HidingBoxesModel" "reaches" "[I", Cond.methodLink RX6 72 yX6_hidesBy, Cond.instanceMethod yX6_hidesBy, Cond.selects RX6 yX6_hidesBy yX6_hidesBy, Cond.code yX6_hidesBy cX6_hidesBy 5 (some .int), Cond.methodLink RX6 47 yX6_low, Cond.instanceMethod yX6_low, Cond.selects RX6 yX6_low yX6_low, Cond.code yX6_low cX6_low 3 (some .int)]
def wsX6_waitsFor_r2 : List Cond := [Cond.methodLink RX6 57 yX6_high, Cond.instanceMethod yX6_high, Cond.selects RX6 yX6_high yX6_high, Cond.code yX6_high cX6_high 3 (some .int), Cond.methodLink RX6 50 yX6_size, Cond.instanceMethod yX6_size, Cond.selects RX6 yX6_size yX6_size, Cond.code yX6_size cX6_size 3 (some .int), Cond.methodLink RX6 68 yX6_overlap, Cond.instanceMethod yX6_overlap, Cond.selects RX6 yX6_overlap yX6_overlap, Cond.code yX6_overlap cX6_overlap 6 (some .boolean), Cond.methodLink RX6 64 yX6_reachesBelow, Cond.instanceMethod yX6_reachesBelow, Cond.selects RX6 yX6_reachesBelow yX6_reachesBelow, Cond.code yX6_reachesBelow cX6_reachesBelow 5 (some .boolean), Cond.methodLink RX6 75 yX6_has, Cond.static yX6_has, Cond.code yX6_has cX6_has 2 (some .boolean), Cond.methodLink RX6 206 yX6_drawAll, Cond.instanceMethod yX6_drawAll, Cond.selects RX6 yX6_drawAll yX6_drawAll, Cond.code yX6_drawAll cX6_drawAll 6 none, Cond.fieldLink RX6 96 "HidingBoxesModel" "drawn" "I"]
def wsX6_waitsFor_r3 : List Cond := [Cond.fieldLink RX6 34 "HidingBoxesModel" "order" "[I", Cond.methodLink RX6 100 yX6_weight, Cond.instanceMethod yX6_weight, Cond.selects RX6 yX6_weight yX6_weight, Cond.code yX6_weight cX6_weight 2 (some .int), Cond.methodLink RX6 93 yX6_volume, Cond.instanceMethod yX6_volume, Cond.selects RX6 yX6_volume yX6_volume, Cond.code yX6_volume cX6_volume 2 (some .int), Cond.methodLink RX6 213 yX6_drawnSet, Cond.instanceMethod yX6_drawnSet, Cond.selects RX6 yX6_drawnSet yX6_drawnSet, Cond.code yX6_drawnSet cX6_drawnSet 3 (some .int)]
def wsX6_waitsFor : List Cond := .code yX6_waitsFor cX6_waitsFor 6 (some .int) :: ((wsX6_waitsFor_r1 ++ (wsX6_waitsFor_r2 ++ wsX6_waitsFor_r3)) ++ wsX60)
def wsX6_breaks_r1 : List Cond := [Cond.methodLink RX6 184 yX6_putAside, Cond.instanceMethod yX6_putAside, Cond.selects RX6 yX6_putAside yX6_putAside, Cond.initialized RX6, Cond.code yX6_putAside cX6_putAside 2 none, Cond.fieldLink RX6 13 "HidingBoxesModel" "aside" "[I", Cond.fieldLink RX6 7 "HidingBoxesModel" "z" "[I", Cond.methodLink RX6 147 yX6_breakAt, Cond.instanceMethod yX6_breakAt, Cond.selects RX6 yX6_breakAt yX6_breakAt, Cond.code yX6_breakAt cX6_breakAt 3 (some .int), Cond.methodLink RX6 141 yX6_findHiding, Cond.instanceMethod yX6_findHiding, Cond.selects RX6 yX6_findHiding yX6_findHiding, Cond.code yX6_findHiding cX6_findHiding 3 none, Cond.fieldLink RX6 25 "HidingBoxesModel" "hides" "[I", Cond.fieldLink RX6 28 "HidingBoxesModel" "reaches" "[I", Cond.methodLink RX6 72 yX6_hidesBy, Cond.instanceMethod yX6_hidesBy, Cond.selects RX6 yX6_hidesBy yX6_hidesBy, Cond.code yX6_hidesBy cX6_hidesBy 5 (some .int), Cond.methodLink RX6 47 yX6_low, Cond.instanceMethod yX6_low, Cond.selects RX6 yX6_low yX6_low]
def wsX6_breaks_r2 : List Cond := [Cond.code yX6_low cX6_low 3 (some .int), Cond.methodLink RX6 43 yX6_of, Cond.instanceMethod yX6_of, Cond.selects RX6 yX6_of yX6_of, Cond.code yX6_of cX6_of 3 (some .int), Cond.methodLink RX6 57 yX6_high, Cond.instanceMethod yX6_high, Cond.selects RX6 yX6_high yX6_high, Cond.code yX6_high cX6_high 3 (some .int), Cond.methodLink RX6 50 yX6_size, Cond.instanceMethod yX6_size, Cond.selects RX6 yX6_size yX6_size, Cond.code yX6_size cX6_size 3 (some .int), Cond.methodLink RX6 68 yX6_overlap, Cond.instanceMethod yX6_overlap, Cond.selects RX6 yX6_overlap yX6_overlap, Cond.code yX6_overlap cX6_overlap 6 (some .boolean), Cond.methodLink RX6 64 yX6_reachesBelow, Cond.instanceMethod yX6_reachesBelow, Cond.selects RX6 yX6_reachesBelow yX6_reachesBelow, Cond.code yX6_reachesBelow cX6_reachesBelow 5 (some .boolean), Cond.methodLink RX6 75 yX6_has, Cond.static yX6_has, Cond.code yX6_has cX6_has 2 (some .boolean)]
def wsX6_breaks_r3 : List Cond := [Cond.methodLink RX6 78 yX6_isInRing, Cond.instanceMethod yX6_isInRing, Cond.selects RX6 yX6_isInRing yX6_isInRing, Cond.code yX6_isInRing cX6_isInRing 2 (some .boolean), Cond.methodLink RX6 93 yX6_volume, Cond.instanceMethod yX6_volume, Cond.selects RX6 yX6_volume yX6_volume, Cond.code yX6_volume cX6_volume 2 (some .int), Cond.methodLink RX6 150 yX6_whyNoBreak, Cond.instanceMethod yX6_whyNoBreak, Cond.selects RX6 yX6_whyNoBreak yX6_whyNoBreak, Cond.code yX6_whyNoBreak cX6_whyNoBreak 2 (some .int), Cond.methodLink RX6 144 yX6_greatestDirection, Cond.instanceMethod yX6_greatestDirection, Cond.selects RX6 yX6_greatestDirection yX6_greatestDirection, Cond.code yX6_greatestDirection cX6_greatestDirection 4 (some .int), Cond.methodLink RX6 153 yX6_doBreak, Cond.instanceMethod yX6_doBreak, Cond.selects RX6 yX6_doBreak yX6_doBreak, Cond.code yX6_doBreak cX6_doBreak 3 (some .int), Cond.methodLink RX6 137 yX6_doSplit, Cond.instanceMethod yX6_doSplit, Cond.selects RX6 yX6_doSplit yX6_doSplit, Cond.code yX6_doSplit cX6_doSplit 6 (some .int)]
def wsX6_breaks_r4 : List Cond := [Cond.methodLink RX6 114 yX6_put, Cond.instanceMethod yX6_put, Cond.selects RX6 yX6_put yX6_put, Cond.code yX6_put cX6_put 4 none, Cond.methodLink RX6 122 yX6_putBox, Cond.instanceMethod yX6_putBox, Cond.selects RX6 yX6_putBox yX6_putBox, Cond.code yX6_putBox cX6_putBox 8 (some .int), Cond.methodLink RX6 187 yX6_putBack, Cond.instanceMethod yX6_putBack, Cond.selects RX6 yX6_putBack yX6_putBack, Cond.code yX6_putBack cX6_putBack 2 none]
def wsX6_breaks : List Cond := .code yX6_breaks cX6_breaks 4 (some .int) :: ((wsX6_breaks_r1 ++ (wsX6_breaks_r2 ++ (wsX6_breaks_r3 ++ wsX6_breaks_r4))) ++ wsX60)
def wsX6_drawnWithout_r1 : List Cond := [Cond.fieldLink RX6 96 "HidingBoxesModel" "drawn" "I", Cond.methodLink RX6 125 yX6_rankOf, Cond.instanceMethod yX6_rankOf, Cond.selects RX6 yX6_rankOf yX6_rankOf, Cond.initialized RX6, Cond.code yX6_rankOf cX6_rankOf 4 (some .int), Cond.fieldLink RX6 7 "HidingBoxesModel" "z" "[I", Cond.methodLink RX6 43 yX6_of, Cond.instanceMethod yX6_of, Cond.selects RX6 yX6_of yX6_of, Cond.code yX6_of cX6_of 3 (some .int), Cond.methodLink RX6 141 yX6_findHiding, Cond.instanceMethod yX6_findHiding, Cond.selects RX6 yX6_findHiding yX6_findHiding, Cond.code yX6_findHiding cX6_findHiding 3 none, Cond.fieldLink RX6 25 "HidingBoxesModel" "hides" "[I", Cond.fieldLink RX6 28 "HidingBoxesModel" "reaches" "[I", Cond.methodLink RX6 72 yX6_hidesBy, Cond.instanceMethod yX6_hidesBy, Cond.selects RX6 yX6_hidesBy yX6_hidesBy, Cond.code yX6_hidesBy cX6_hidesBy 5 (some .int), Cond.methodLink RX6 47 yX6_low, Cond.instanceMethod yX6_low, Cond.selects RX6 yX6_low yX6_low]
def wsX6_drawnWithout_r2 : List Cond := [Cond.code yX6_low cX6_low 3 (some .int), Cond.methodLink RX6 57 yX6_high, Cond.instanceMethod yX6_high, Cond.selects RX6 yX6_high yX6_high, Cond.code yX6_high cX6_high 3 (some .int), Cond.methodLink RX6 50 yX6_size, Cond.instanceMethod yX6_size, Cond.selects RX6 yX6_size yX6_size, Cond.code yX6_size cX6_size 3 (some .int), Cond.methodLink RX6 68 yX6_overlap, Cond.instanceMethod yX6_overlap, Cond.selects RX6 yX6_overlap yX6_overlap, Cond.code yX6_overlap cX6_overlap 6 (some .boolean), Cond.methodLink RX6 64 yX6_reachesBelow, Cond.instanceMethod yX6_reachesBelow, Cond.selects RX6 yX6_reachesBelow yX6_reachesBelow, Cond.code yX6_reachesBelow cX6_reachesBelow 5 (some .boolean), Cond.methodLink RX6 75 yX6_has, Cond.static yX6_has, Cond.code yX6_has cX6_has 2 (some .boolean), Cond.methodLink RX6 206 yX6_drawAll, Cond.instanceMethod yX6_drawAll, Cond.selects RX6 yX6_drawAll yX6_drawAll, Cond.code yX6_drawAll cX6_drawAll 6 none]
def wsX6_drawnWithout_r3 : List Cond := [Cond.fieldLink RX6 34 "HidingBoxesModel" "order" "[I", Cond.methodLink RX6 100 yX6_weight, Cond.instanceMethod yX6_weight, Cond.selects RX6 yX6_weight yX6_weight, Cond.code yX6_weight cX6_weight 2 (some .int), Cond.methodLink RX6 93 yX6_volume, Cond.instanceMethod yX6_volume, Cond.selects RX6 yX6_volume yX6_volume, Cond.code yX6_volume cX6_volume 2 (some .int)]
def wsX6_drawnWithout : List Cond := .code yX6_drawnWithout cX6_drawnWithout 3 (some .int) :: ((wsX6_drawnWithout_r1 ++ (wsX6_drawnWithout_r2 ++ wsX6_drawnWithout_r3)) ++ wsX60)
def wsJ9_max_7cf53 : List Cond := .code yJ9_max_7cf53 cJ9_max_7cf53 2 (some .int) :: ([])
theorem dX0_init_0 : decode cX0_init 0 = .ok (.aload_n 0, 1) := by decide +kernel
theorem dX0_init_1 : decode cX0_init 1 = .ok (.invokespecial 3, 3) := by decide +kernel
theorem dX0_init_4 : decode cX0_init 4 = .ok (.aload_n 0, 1) := by decide +kernel
theorem dX0_init_5 : decode cX0_init 5 = .ok (.iconst 3, 1) := by decide +kernel
theorem dX0_init_6 : decode cX0_init 6 = .ok (.newarray .int, 2) := by decide +kernel
theorem dX0_init_8 : decode cX0_init 8 = .ok (.putfield 9, 3) := by decide +kernel
theorem dX0_init_11 : decode cX0_init 11 = .ok (.aload_n 0, 1) := by decide +kernel
theorem dX0_init_12 : decode cX0_init 12 = .ok (.iconst 3, 1) := by decide +kernel
theorem dX0_init_13 : decode cX0_init 13 = .ok (.newarray .int, 2) := by decide +kernel
theorem dX0_init_15 : decode cX0_init 15 = .ok (.putfield 15, 3) := by decide +kernel
theorem dX0_init_18 : decode cX0_init 18 = .ok (.return_, 1) := by decide +kernel
theorem dX0_copyFrom_0 : decode cX0_copyFrom 0 = .ok (.aload_n 0, 1) := by decide +kernel
theorem dX0_copyFrom_1 : decode cX0_copyFrom 1 = .ok (.aload_n 1, 1) := by decide +kernel
theorem dX0_copyFrom_2 : decode cX0_copyFrom 2 = .ok (.getfield 18, 3) := by decide +kernel
theorem dX0_copyFrom_5 : decode cX0_copyFrom 5 = .ok (.putfield 18, 3) := by decide +kernel
theorem dX0_copyFrom_8 : decode cX0_copyFrom 8 = .ok (.aload_n 1, 1) := by decide +kernel
theorem dX0_copyFrom_9 : decode cX0_copyFrom 9 = .ok (.getfield 9, 3) := by decide +kernel
theorem dX0_copyFrom_12 : decode cX0_copyFrom 12 = .ok (.iconst 0, 1) := by decide +kernel
theorem dX0_copyFrom_13 : decode cX0_copyFrom 13 = .ok (.aload_n 0, 1) := by decide +kernel
theorem dX0_copyFrom_14 : decode cX0_copyFrom 14 = .ok (.getfield 9, 3) := by decide +kernel
theorem dX0_copyFrom_17 : decode cX0_copyFrom 17 = .ok (.iconst 0, 1) := by decide +kernel
theorem dX0_copyFrom_18 : decode cX0_copyFrom 18 = .ok (.iconst 3, 1) := by decide +kernel
theorem dX0_copyFrom_19 : decode cX0_copyFrom 19 = .ok (.invokestatic 22, 3) := by decide +kernel
theorem dX0_copyFrom_22 : decode cX0_copyFrom 22 = .ok (.aload_n 1, 1) := by decide +kernel
theorem dX0_copyFrom_23 : decode cX0_copyFrom 23 = .ok (.getfield 15, 3) := by decide +kernel
theorem dX0_copyFrom_26 : decode cX0_copyFrom 26 = .ok (.iconst 0, 1) := by decide +kernel
theorem dX0_copyFrom_27 : decode cX0_copyFrom 27 = .ok (.aload_n 0, 1) := by decide +kernel
theorem dX0_copyFrom_28 : decode cX0_copyFrom 28 = .ok (.getfield 15, 3) := by decide +kernel
theorem dX0_copyFrom_31 : decode cX0_copyFrom 31 = .ok (.iconst 0, 1) := by decide +kernel
theorem dX0_copyFrom_32 : decode cX0_copyFrom 32 = .ok (.iconst 3, 1) := by decide +kernel
theorem dX0_copyFrom_33 : decode cX0_copyFrom 33 = .ok (.invokestatic 22, 3) := by decide +kernel
theorem dX0_copyFrom_36 : decode cX0_copyFrom 36 = .ok (.return_, 1) := by decide +kernel
theorem dX0_lay_0 : decode cX0_lay 0 = .ok (.iload_n 2, 1) := by decide +kernel
theorem dX0_lay_1 : decode cX0_lay 1 = .ok (.ifCond .lt 28, 3) := by decide +kernel
theorem dX0_lay_4 : decode cX0_lay 4 = .ok (.iload_n 2, 1) := by decide +kernel
theorem dX0_lay_5 : decode cX0_lay 5 = .ok (.bipush 31, 2) := by decide +kernel
theorem dX0_lay_7 : decode cX0_lay 7 = .ok (.if_icmp .gt 22, 3) := by decide +kernel
theorem dX0_lay_10 : decode cX0_lay 10 = .ok (.iload_n 3, 1) := by decide +kernel
theorem dX0_lay_11 : decode cX0_lay 11 = .ok (.iconst 1, 1) := by decide +kernel
theorem dX0_lay_12 : decode cX0_lay 12 = .ok (.if_icmp .lt 17, 3) := by decide +kernel
theorem dX0_lay_15 : decode cX0_lay 15 = .ok (.iload_n 3, 1) := by decide +kernel
theorem dX0_lay_16 : decode cX0_lay 16 = .ok (.bipush 12, 2) := by decide +kernel
theorem dX0_lay_18 : decode cX0_lay 18 = .ok (.if_icmp .gt 11, 3) := by decide +kernel
theorem dX0_lay_21 : decode cX0_lay 21 = .ok (.iload_n 2, 1) := by decide +kernel
theorem dX0_lay_22 : decode cX0_lay 22 = .ok (.iload_n 3, 1) := by decide +kernel
theorem dX0_lay_23 : decode cX0_lay 23 = .ok (.iadd, 1) := by decide +kernel
theorem dX0_lay_24 : decode cX0_lay 24 = .ok (.bipush 32, 2) := by decide +kernel
theorem dX0_lay_26 : decode cX0_lay 26 = .ok (.if_icmp .le 5, 3) := by decide +kernel
theorem dX0_lay_29 : decode cX0_lay 29 = .ok (.iconst 0, 1) := by decide +kernel
theorem dX0_lay_30 : decode cX0_lay 30 = .ok (.ireturn, 1) := by decide +kernel
theorem dX0_lay_31 : decode cX0_lay 31 = .ok (.aload_n 0, 1) := by decide +kernel
theorem dX0_lay_32 : decode cX0_lay 32 = .ok (.getfield 9, 3) := by decide +kernel
theorem dX0_lay_35 : decode cX0_lay 35 = .ok (.iload_n 1, 1) := by decide +kernel
theorem dX0_lay_36 : decode cX0_lay 36 = .ok (.iload_n 2, 1) := by decide +kernel
theorem dX0_lay_37 : decode cX0_lay 37 = .ok (.iastore, 1) := by decide +kernel
theorem dX0_lay_38 : decode cX0_lay 38 = .ok (.aload_n 0, 1) := by decide +kernel
theorem dX0_lay_39 : decode cX0_lay 39 = .ok (.getfield 15, 3) := by decide +kernel
theorem dX0_lay_42 : decode cX0_lay 42 = .ok (.iload_n 1, 1) := by decide +kernel
theorem dX0_lay_43 : decode cX0_lay 43 = .ok (.iload_n 2, 1) := by decide +kernel
theorem dX0_lay_44 : decode cX0_lay 44 = .ok (.iload_n 3, 1) := by decide +kernel
theorem dX0_lay_45 : decode cX0_lay 45 = .ok (.iadd, 1) := by decide +kernel
theorem dX0_lay_46 : decode cX0_lay 46 = .ok (.iastore, 1) := by decide +kernel
theorem dX0_lay_47 : decode cX0_lay 47 = .ok (.iconst 1, 1) := by decide +kernel
theorem dX0_lay_48 : decode cX0_lay 48 = .ok (.ireturn, 1) := by decide +kernel
theorem dX0_shift_0 : decode cX0_shift 0 = .ok (.aload_n 0, 1) := by decide +kernel
theorem dX0_shift_1 : decode cX0_shift 1 = .ok (.getfield 9, 3) := by decide +kernel
theorem dX0_shift_4 : decode cX0_shift 4 = .ok (.iload_n 1, 1) := by decide +kernel
theorem dX0_shift_5 : decode cX0_shift 5 = .ok (.dup2, 1) := by decide +kernel
theorem dX0_shift_6 : decode cX0_shift 6 = .ok (.iaload, 1) := by decide +kernel
theorem dX0_shift_7 : decode cX0_shift 7 = .ok (.iload_n 2, 1) := by decide +kernel
theorem dX0_shift_8 : decode cX0_shift 8 = .ok (.iadd, 1) := by decide +kernel
theorem dX0_shift_9 : decode cX0_shift 9 = .ok (.iastore, 1) := by decide +kernel
theorem dX0_shift_10 : decode cX0_shift 10 = .ok (.aload_n 0, 1) := by decide +kernel
theorem dX0_shift_11 : decode cX0_shift 11 = .ok (.getfield 15, 3) := by decide +kernel
theorem dX0_shift_14 : decode cX0_shift 14 = .ok (.iload_n 1, 1) := by decide +kernel
theorem dX0_shift_15 : decode cX0_shift 15 = .ok (.dup2, 1) := by decide +kernel
theorem dX0_shift_16 : decode cX0_shift 16 = .ok (.iaload, 1) := by decide +kernel
theorem dX0_shift_17 : decode cX0_shift 17 = .ok (.iload_n 2, 1) := by decide +kernel
theorem dX0_shift_18 : decode cX0_shift 18 = .ok (.iadd, 1) := by decide +kernel
theorem dX0_shift_19 : decode cX0_shift 19 = .ok (.iastore, 1) := by decide +kernel
theorem dX0_shift_20 : decode cX0_shift 20 = .ok (.return_, 1) := by decide +kernel
theorem dX0_size_0 : decode cX0_size 0 = .ok (.aload_n 0, 1) := by decide +kernel
theorem dX0_size_1 : decode cX0_size 1 = .ok (.getfield 15, 3) := by decide +kernel
theorem dX0_size_4 : decode cX0_size 4 = .ok (.iload_n 1, 1) := by decide +kernel
theorem dX0_size_5 : decode cX0_size 5 = .ok (.iaload, 1) := by decide +kernel
theorem dX0_size_6 : decode cX0_size 6 = .ok (.aload_n 0, 1) := by decide +kernel
theorem dX0_size_7 : decode cX0_size 7 = .ok (.getfield 9, 3) := by decide +kernel
theorem dX0_size_10 : decode cX0_size 10 = .ok (.iload_n 1, 1) := by decide +kernel
theorem dX0_size_11 : decode cX0_size 11 = .ok (.iaload, 1) := by decide +kernel
theorem dX0_size_12 : decode cX0_size 12 = .ok (.isub, 1) := by decide +kernel
theorem dX0_size_13 : decode cX0_size 13 = .ok (.ireturn, 1) := by decide +kernel
set_option maxRecDepth 20000 in
theorem ggX0_volume_X0_size : GoodIn wsX0_volume wsX0_size := goodIn_r _ [5, 6, 7, 8, 9, 10] (by decide +kernel) (by decide +kernel)
set_option maxRecDepth 20000 in
theorem gX0_volume_X0_size : GoodIn wsX0_volume (wsV RX0 28 RX0 yX0_size wsX0_size) := goodIn_app (goodIn_of _ (by decide +kernel)) ggX0_volume_X0_size
theorem dX0_volume_0 : decode cX0_volume 0 = .ok (.aload_n 0, 1) := by decide +kernel
theorem dX0_volume_1 : decode cX0_volume 1 = .ok (.iconst 0, 1) := by decide +kernel
theorem dX0_volume_2 : decode cX0_volume 2 = .ok (.invokevirtual 28, 3) := by decide +kernel
theorem dX0_volume_5 : decode cX0_volume 5 = .ok (.aload_n 0, 1) := by decide +kernel
theorem dX0_volume_6 : decode cX0_volume 6 = .ok (.iconst 1, 1) := by decide +kernel
theorem dX0_volume_7 : decode cX0_volume 7 = .ok (.invokevirtual 28, 3) := by decide +kernel
theorem dX0_volume_10 : decode cX0_volume 10 = .ok (.imul, 1) := by decide +kernel
theorem dX0_volume_11 : decode cX0_volume 11 = .ok (.aload_n 0, 1) := by decide +kernel
theorem dX0_volume_12 : decode cX0_volume 12 = .ok (.iconst 2, 1) := by decide +kernel
theorem dX0_volume_13 : decode cX0_volume 13 = .ok (.invokevirtual 28, 3) := by decide +kernel
theorem dX0_volume_16 : decode cX0_volume 16 = .ok (.imul, 1) := by decide +kernel
theorem dX0_volume_17 : decode cX0_volume 17 = .ok (.ireturn, 1) := by decide +kernel
theorem dX0_sumOfCorner_0 : decode cX0_sumOfCorner 0 = .ok (.aload_n 0, 1) := by decide +kernel
theorem dX0_sumOfCorner_1 : decode cX0_sumOfCorner 1 = .ok (.getfield 9, 3) := by decide +kernel
theorem dX0_sumOfCorner_4 : decode cX0_sumOfCorner 4 = .ok (.iconst 0, 1) := by decide +kernel
theorem dX0_sumOfCorner_5 : decode cX0_sumOfCorner 5 = .ok (.iaload, 1) := by decide +kernel
theorem dX0_sumOfCorner_6 : decode cX0_sumOfCorner 6 = .ok (.aload_n 0, 1) := by decide +kernel
theorem dX0_sumOfCorner_7 : decode cX0_sumOfCorner 7 = .ok (.getfield 9, 3) := by decide +kernel
theorem dX0_sumOfCorner_10 : decode cX0_sumOfCorner 10 = .ok (.iconst 1, 1) := by decide +kernel
theorem dX0_sumOfCorner_11 : decode cX0_sumOfCorner 11 = .ok (.iaload, 1) := by decide +kernel
theorem dX0_sumOfCorner_12 : decode cX0_sumOfCorner 12 = .ok (.iadd, 1) := by decide +kernel
theorem dX0_sumOfCorner_13 : decode cX0_sumOfCorner 13 = .ok (.aload_n 0, 1) := by decide +kernel
theorem dX0_sumOfCorner_14 : decode cX0_sumOfCorner 14 = .ok (.getfield 9, 3) := by decide +kernel
theorem dX0_sumOfCorner_17 : decode cX0_sumOfCorner 17 = .ok (.iconst 2, 1) := by decide +kernel
theorem dX0_sumOfCorner_18 : decode cX0_sumOfCorner 18 = .ok (.iaload, 1) := by decide +kernel
theorem dX0_sumOfCorner_19 : decode cX0_sumOfCorner 19 = .ok (.iadd, 1) := by decide +kernel
theorem dX0_sumOfCorner_20 : decode cX0_sumOfCorner 20 = .ok (.ireturn, 1) := by decide +kernel
set_option maxRecDepth 20000 in
theorem ggX0_longestDirection_X0_size : GoodIn wsX0_longestDirection wsX0_size := goodIn_r _ [5, 6, 7, 8, 9, 10] (by decide +kernel) (by decide +kernel)
set_option maxRecDepth 20000 in
theorem gX0_longestDirection_X0_size : GoodIn wsX0_longestDirection (wsV RX0 28 RX0 yX0_size wsX0_size) := goodIn_app (goodIn_of _ (by decide +kernel)) ggX0_longestDirection_X0_size
theorem dX0_longestDirection_0 : decode cX0_longestDirection 0 = .ok (.iconst 0, 1) := by decide +kernel
theorem dX0_longestDirection_1 : decode cX0_longestDirection 1 = .ok (.istore_n 1, 1) := by decide +kernel
theorem dX0_longestDirection_2 : decode cX0_longestDirection 2 = .ok (.iconst 1, 1) := by decide +kernel
theorem dX0_longestDirection_3 : decode cX0_longestDirection 3 = .ok (.istore_n 2, 1) := by decide +kernel
theorem dX0_longestDirection_4 : decode cX0_longestDirection 4 = .ok (.iload_n 2, 1) := by decide +kernel
theorem dX0_longestDirection_5 : decode cX0_longestDirection 5 = .ok (.iconst 3, 1) := by decide +kernel
theorem dX0_longestDirection_6 : decode cX0_longestDirection 6 = .ok (.if_icmp .ge 24, 3) := by decide +kernel
theorem dX0_longestDirection_9 : decode cX0_longestDirection 9 = .ok (.aload_n 0, 1) := by decide +kernel
theorem dX0_longestDirection_10 : decode cX0_longestDirection 10 = .ok (.iload_n 2, 1) := by decide +kernel
theorem dX0_longestDirection_11 : decode cX0_longestDirection 11 = .ok (.invokevirtual 28, 3) := by decide +kernel
theorem dX0_longestDirection_14 : decode cX0_longestDirection 14 = .ok (.aload_n 0, 1) := by decide +kernel
theorem dX0_longestDirection_15 : decode cX0_longestDirection 15 = .ok (.iload_n 1, 1) := by decide +kernel
theorem dX0_longestDirection_16 : decode cX0_longestDirection 16 = .ok (.invokevirtual 28, 3) := by decide +kernel
theorem dX0_longestDirection_19 : decode cX0_longestDirection 19 = .ok (.if_icmp .le 5, 3) := by decide +kernel
theorem dX0_longestDirection_22 : decode cX0_longestDirection 22 = .ok (.iload_n 2, 1) := by decide +kernel
theorem dX0_longestDirection_23 : decode cX0_longestDirection 23 = .ok (.istore_n 1, 1) := by decide +kernel
theorem dX0_longestDirection_24 : decode cX0_longestDirection 24 = .ok (.iinc 2 1, 3) := by decide +kernel
theorem dX0_longestDirection_27 : decode cX0_longestDirection 27 = .ok (.goto (-23), 3) := by decide +kernel
theorem dX0_longestDirection_30 : decode cX0_longestDirection 30 = .ok (.iload_n 1, 1) := by decide +kernel
theorem dX0_longestDirection_31 : decode cX0_longestDirection 31 = .ok (.ireturn, 1) := by decide +kernel
theorem dX0_meets_0 : decode cX0_meets 0 = .ok (.aload_n 0, 1) := by decide +kernel
theorem dX0_meets_1 : decode cX0_meets 1 = .ok (.getfield 9, 3) := by decide +kernel
theorem dX0_meets_4 : decode cX0_meets 4 = .ok (.iload_n 2, 1) := by decide +kernel
theorem dX0_meets_5 : decode cX0_meets 5 = .ok (.iaload, 1) := by decide +kernel
theorem dX0_meets_6 : decode cX0_meets 6 = .ok (.aload_n 1, 1) := by decide +kernel
theorem dX0_meets_7 : decode cX0_meets 7 = .ok (.getfield 15, 3) := by decide +kernel
theorem dX0_meets_10 : decode cX0_meets 10 = .ok (.iload_n 2, 1) := by decide +kernel
theorem dX0_meets_11 : decode cX0_meets 11 = .ok (.iaload, 1) := by decide +kernel
theorem dX0_meets_12 : decode cX0_meets 12 = .ok (.if_icmp .ge 22, 3) := by decide +kernel
theorem dX0_meets_15 : decode cX0_meets 15 = .ok (.aload_n 1, 1) := by decide +kernel
theorem dX0_meets_16 : decode cX0_meets 16 = .ok (.getfield 9, 3) := by decide +kernel
theorem dX0_meets_19 : decode cX0_meets 19 = .ok (.iload_n 2, 1) := by decide +kernel
theorem dX0_meets_20 : decode cX0_meets 20 = .ok (.iaload, 1) := by decide +kernel
theorem dX0_meets_21 : decode cX0_meets 21 = .ok (.aload_n 0, 1) := by decide +kernel
theorem dX0_meets_22 : decode cX0_meets 22 = .ok (.getfield 15, 3) := by decide +kernel
theorem dX0_meets_25 : decode cX0_meets 25 = .ok (.iload_n 2, 1) := by decide +kernel
theorem dX0_meets_26 : decode cX0_meets 26 = .ok (.iaload, 1) := by decide +kernel
theorem dX0_meets_27 : decode cX0_meets 27 = .ok (.if_icmp .ge 7, 3) := by decide +kernel
theorem dX0_meets_30 : decode cX0_meets 30 = .ok (.iconst 1, 1) := by decide +kernel
theorem dX0_meets_31 : decode cX0_meets 31 = .ok (.goto 4, 3) := by decide +kernel
theorem dX0_meets_34 : decode cX0_meets 34 = .ok (.iconst 0, 1) := by decide +kernel
theorem dX0_meets_35 : decode cX0_meets 35 = .ok (.ireturn, 1) := by decide +kernel
set_option maxRecDepth 20000 in
theorem ggX0_cuts_X0_meets : GoodIn wsX0_cuts wsX0_meets := goodIn_r _ [5, 6, 7, 8, 9, 10] (by decide +kernel) (by decide +kernel)
set_option maxRecDepth 20000 in
theorem gX0_cuts_X0_meets : GoodIn wsX0_cuts (wsV RX0 32 RX0 yX0_meets wsX0_meets) := goodIn_app (goodIn_of _ (by decide +kernel)) ggX0_cuts_X0_meets
theorem dX0_cuts_0 : decode cX0_cuts 0 = .ok (.aload_n 0, 1) := by decide +kernel
theorem dX0_cuts_1 : decode cX0_cuts 1 = .ok (.aload_n 1, 1) := by decide +kernel
theorem dX0_cuts_2 : decode cX0_cuts 2 = .ok (.iconst 0, 1) := by decide +kernel
theorem dX0_cuts_3 : decode cX0_cuts 3 = .ok (.invokevirtual 32, 3) := by decide +kernel
theorem dX0_cuts_6 : decode cX0_cuts 6 = .ok (.ifCond .eq 25, 3) := by decide +kernel
theorem dX0_cuts_9 : decode cX0_cuts 9 = .ok (.aload_n 0, 1) := by decide +kernel
theorem dX0_cuts_10 : decode cX0_cuts 10 = .ok (.aload_n 1, 1) := by decide +kernel
theorem dX0_cuts_11 : decode cX0_cuts 11 = .ok (.iconst 1, 1) := by decide +kernel
theorem dX0_cuts_12 : decode cX0_cuts 12 = .ok (.invokevirtual 32, 3) := by decide +kernel
theorem dX0_cuts_15 : decode cX0_cuts 15 = .ok (.ifCond .eq 16, 3) := by decide +kernel
theorem dX0_cuts_18 : decode cX0_cuts 18 = .ok (.aload_n 0, 1) := by decide +kernel
theorem dX0_cuts_19 : decode cX0_cuts 19 = .ok (.aload_n 1, 1) := by decide +kernel
theorem dX0_cuts_20 : decode cX0_cuts 20 = .ok (.iconst 2, 1) := by decide +kernel
theorem dX0_cuts_21 : decode cX0_cuts 21 = .ok (.invokevirtual 32, 3) := by decide +kernel
theorem dX0_cuts_24 : decode cX0_cuts 24 = .ok (.ifCond .eq 7, 3) := by decide +kernel
theorem dX0_cuts_27 : decode cX0_cuts 27 = .ok (.iconst 1, 1) := by decide +kernel
theorem dX0_cuts_28 : decode cX0_cuts 28 = .ok (.goto 4, 3) := by decide +kernel
theorem dX0_cuts_31 : decode cX0_cuts 31 = .ok (.iconst 0, 1) := by decide +kernel
theorem dX0_cuts_32 : decode cX0_cuts 32 = .ok (.ireturn, 1) := by decide +kernel
theorem dX0_meetsInDifference_0 : decode cX0_meetsInDifference 0 = .ok (.aload_n 0, 1) := by decide +kernel
theorem dX0_meetsInDifference_1 : decode cX0_meetsInDifference 1 = .ok (.getfield 9, 3) := by decide +kernel
theorem dX0_meetsInDifference_4 : decode cX0_meetsInDifference 4 = .ok (.iload_n 2, 1) := by decide +kernel
theorem dX0_meetsInDifference_5 : decode cX0_meetsInDifference 5 = .ok (.iaload, 1) := by decide +kernel
theorem dX0_meetsInDifference_6 : decode cX0_meetsInDifference 6 = .ok (.aload_n 0, 1) := by decide +kernel
theorem dX0_meetsInDifference_7 : decode cX0_meetsInDifference 7 = .ok (.getfield 15, 3) := by decide +kernel
theorem dX0_meetsInDifference_10 : decode cX0_meetsInDifference 10 = .ok (.iload_n 3, 1) := by decide +kernel
theorem dX0_meetsInDifference_11 : decode cX0_meetsInDifference 11 = .ok (.iaload, 1) := by decide +kernel
theorem dX0_meetsInDifference_12 : decode cX0_meetsInDifference 12 = .ok (.isub, 1) := by decide +kernel
theorem dX0_meetsInDifference_13 : decode cX0_meetsInDifference 13 = .ok (.aload_n 1, 1) := by decide +kernel
theorem dX0_meetsInDifference_14 : decode cX0_meetsInDifference 14 = .ok (.getfield 15, 3) := by decide +kernel
theorem dX0_meetsInDifference_17 : decode cX0_meetsInDifference 17 = .ok (.iload_n 2, 1) := by decide +kernel
theorem dX0_meetsInDifference_18 : decode cX0_meetsInDifference 18 = .ok (.iaload, 1) := by decide +kernel
theorem dX0_meetsInDifference_19 : decode cX0_meetsInDifference 19 = .ok (.aload_n 1, 1) := by decide +kernel
theorem dX0_meetsInDifference_20 : decode cX0_meetsInDifference 20 = .ok (.getfield 9, 3) := by decide +kernel
theorem dX0_meetsInDifference_23 : decode cX0_meetsInDifference 23 = .ok (.iload_n 3, 1) := by decide +kernel
theorem dX0_meetsInDifference_24 : decode cX0_meetsInDifference 24 = .ok (.iaload, 1) := by decide +kernel
theorem dX0_meetsInDifference_25 : decode cX0_meetsInDifference 25 = .ok (.isub, 1) := by decide +kernel
theorem dX0_meetsInDifference_26 : decode cX0_meetsInDifference 26 = .ok (.if_icmp .ge 36, 3) := by decide +kernel
theorem dX0_meetsInDifference_29 : decode cX0_meetsInDifference 29 = .ok (.aload_n 1, 1) := by decide +kernel
theorem dX0_meetsInDifference_30 : decode cX0_meetsInDifference 30 = .ok (.getfield 9, 3) := by decide +kernel
theorem dX0_meetsInDifference_33 : decode cX0_meetsInDifference 33 = .ok (.iload_n 2, 1) := by decide +kernel
theorem dX0_meetsInDifference_34 : decode cX0_meetsInDifference 34 = .ok (.iaload, 1) := by decide +kernel
theorem dX0_meetsInDifference_35 : decode cX0_meetsInDifference 35 = .ok (.aload_n 1, 1) := by decide +kernel
theorem dX0_meetsInDifference_36 : decode cX0_meetsInDifference 36 = .ok (.getfield 15, 3) := by decide +kernel
theorem dX0_meetsInDifference_39 : decode cX0_meetsInDifference 39 = .ok (.iload_n 3, 1) := by decide +kernel
theorem dX0_meetsInDifference_40 : decode cX0_meetsInDifference 40 = .ok (.iaload, 1) := by decide +kernel
theorem dX0_meetsInDifference_41 : decode cX0_meetsInDifference 41 = .ok (.isub, 1) := by decide +kernel
theorem dX0_meetsInDifference_42 : decode cX0_meetsInDifference 42 = .ok (.aload_n 0, 1) := by decide +kernel
theorem dX0_meetsInDifference_43 : decode cX0_meetsInDifference 43 = .ok (.getfield 15, 3) := by decide +kernel
theorem dX0_meetsInDifference_46 : decode cX0_meetsInDifference 46 = .ok (.iload_n 2, 1) := by decide +kernel
theorem dX0_meetsInDifference_47 : decode cX0_meetsInDifference 47 = .ok (.iaload, 1) := by decide +kernel
theorem dX0_meetsInDifference_48 : decode cX0_meetsInDifference 48 = .ok (.aload_n 0, 1) := by decide +kernel
theorem dX0_meetsInDifference_49 : decode cX0_meetsInDifference 49 = .ok (.getfield 9, 3) := by decide +kernel
theorem dX0_meetsInDifference_52 : decode cX0_meetsInDifference 52 = .ok (.iload_n 3, 1) := by decide +kernel
theorem dX0_meetsInDifference_53 : decode cX0_meetsInDifference 53 = .ok (.iaload, 1) := by decide +kernel
theorem dX0_meetsInDifference_54 : decode cX0_meetsInDifference 54 = .ok (.isub, 1) := by decide +kernel
theorem dX0_meetsInDifference_55 : decode cX0_meetsInDifference 55 = .ok (.if_icmp .ge 7, 3) := by decide +kernel
theorem dX0_meetsInDifference_58 : decode cX0_meetsInDifference 58 = .ok (.iconst 1, 1) := by decide +kernel
theorem dX0_meetsInDifference_59 : decode cX0_meetsInDifference 59 = .ok (.goto 4, 3) := by decide +kernel
theorem dX0_meetsInDifference_62 : decode cX0_meetsInDifference 62 = .ok (.iconst 0, 1) := by decide +kernel
theorem dX0_meetsInDifference_63 : decode cX0_meetsInDifference 63 = .ok (.ireturn, 1) := by decide +kernel
set_option maxRecDepth 20000 in
theorem ggX0_overlapsOutlineOf_X0_meetsInDifference : GoodIn wsX0_overlapsOutlineOf wsX0_meetsInDifference := goodIn_r _ [5, 6, 7, 8, 9, 10] (by decide +kernel) (by decide +kernel)
set_option maxRecDepth 20000 in
theorem gX0_overlapsOutlineOf_X0_meetsInDifference : GoodIn wsX0_overlapsOutlineOf (wsV RX0 36 RX0 yX0_meetsInDifference wsX0_meetsInDifference) := goodIn_app (goodIn_of _ (by decide +kernel)) ggX0_overlapsOutlineOf_X0_meetsInDifference
theorem dX0_overlapsOutlineOf_0 : decode cX0_overlapsOutlineOf 0 = .ok (.aload_n 0, 1) := by decide +kernel
theorem dX0_overlapsOutlineOf_1 : decode cX0_overlapsOutlineOf 1 = .ok (.aload_n 1, 1) := by decide +kernel
theorem dX0_overlapsOutlineOf_2 : decode cX0_overlapsOutlineOf 2 = .ok (.iconst 0, 1) := by decide +kernel
theorem dX0_overlapsOutlineOf_3 : decode cX0_overlapsOutlineOf 3 = .ok (.iconst 1, 1) := by decide +kernel
theorem dX0_overlapsOutlineOf_4 : decode cX0_overlapsOutlineOf 4 = .ok (.invokevirtual 36, 3) := by decide +kernel
theorem dX0_overlapsOutlineOf_7 : decode cX0_overlapsOutlineOf 7 = .ok (.ifCond .eq 27, 3) := by decide +kernel
theorem dX0_overlapsOutlineOf_10 : decode cX0_overlapsOutlineOf 10 = .ok (.aload_n 0, 1) := by decide +kernel
theorem dX0_overlapsOutlineOf_11 : decode cX0_overlapsOutlineOf 11 = .ok (.aload_n 1, 1) := by decide +kernel
theorem dX0_overlapsOutlineOf_12 : decode cX0_overlapsOutlineOf 12 = .ok (.iconst 0, 1) := by decide +kernel
theorem dX0_overlapsOutlineOf_13 : decode cX0_overlapsOutlineOf 13 = .ok (.iconst 2, 1) := by decide +kernel
theorem dX0_overlapsOutlineOf_14 : decode cX0_overlapsOutlineOf 14 = .ok (.invokevirtual 36, 3) := by decide +kernel
theorem dX0_overlapsOutlineOf_17 : decode cX0_overlapsOutlineOf 17 = .ok (.ifCond .eq 17, 3) := by decide +kernel
theorem dX0_overlapsOutlineOf_20 : decode cX0_overlapsOutlineOf 20 = .ok (.aload_n 0, 1) := by decide +kernel
theorem dX0_overlapsOutlineOf_21 : decode cX0_overlapsOutlineOf 21 = .ok (.aload_n 1, 1) := by decide +kernel
theorem dX0_overlapsOutlineOf_22 : decode cX0_overlapsOutlineOf 22 = .ok (.iconst 1, 1) := by decide +kernel
theorem dX0_overlapsOutlineOf_23 : decode cX0_overlapsOutlineOf 23 = .ok (.iconst 2, 1) := by decide +kernel
theorem dX0_overlapsOutlineOf_24 : decode cX0_overlapsOutlineOf 24 = .ok (.invokevirtual 36, 3) := by decide +kernel
theorem dX0_overlapsOutlineOf_27 : decode cX0_overlapsOutlineOf 27 = .ok (.ifCond .eq 7, 3) := by decide +kernel
theorem dX0_overlapsOutlineOf_30 : decode cX0_overlapsOutlineOf 30 = .ok (.iconst 1, 1) := by decide +kernel
theorem dX0_overlapsOutlineOf_31 : decode cX0_overlapsOutlineOf 31 = .ok (.goto 4, 3) := by decide +kernel
theorem dX0_overlapsOutlineOf_34 : decode cX0_overlapsOutlineOf 34 = .ok (.iconst 0, 1) := by decide +kernel
theorem dX0_overlapsOutlineOf_35 : decode cX0_overlapsOutlineOf 35 = .ok (.ireturn, 1) := by decide +kernel
set_option maxRecDepth 20000 in
theorem ggX0_directionOfHiding_X0_overlapsOutlineOf : GoodIn wsX0_directionOfHiding wsX0_overlapsOutlineOf := goodIn_r _ [7, 8, 9, 10, 6, 11, 1, 2, 12, 13, 14] (by decide +kernel) (by decide +kernel)
set_option maxRecDepth 20000 in
theorem gX0_directionOfHiding_X0_overlapsOutlineOf : GoodIn wsX0_directionOfHiding (wsV RX0 40 RX0 yX0_overlapsOutlineOf wsX0_overlapsOutlineOf) := goodIn_app (goodIn_of _ (by decide +kernel)) ggX0_directionOfHiding_X0_overlapsOutlineOf
theorem dX0_directionOfHiding_0 : decode cX0_directionOfHiding 0 = .ok (.aload_n 0, 1) := by decide +kernel
theorem dX0_directionOfHiding_1 : decode cX0_directionOfHiding 1 = .ok (.aload_n 1, 1) := by decide +kernel
theorem dX0_directionOfHiding_2 : decode cX0_directionOfHiding 2 = .ok (.invokevirtual 40, 3) := by decide +kernel
theorem dX0_directionOfHiding_5 : decode cX0_directionOfHiding 5 = .ok (.ifCond .ne 5, 3) := by decide +kernel
theorem dX0_directionOfHiding_8 : decode cX0_directionOfHiding 8 = .ok (.iconst (-1), 1) := by decide +kernel
theorem dX0_directionOfHiding_9 : decode cX0_directionOfHiding 9 = .ok (.ireturn, 1) := by decide +kernel
theorem dX0_directionOfHiding_10 : decode cX0_directionOfHiding 10 = .ok (.iconst 0, 1) := by decide +kernel
theorem dX0_directionOfHiding_11 : decode cX0_directionOfHiding 11 = .ok (.istore_n 2, 1) := by decide +kernel
theorem dX0_directionOfHiding_12 : decode cX0_directionOfHiding 12 = .ok (.iload_n 2, 1) := by decide +kernel
theorem dX0_directionOfHiding_13 : decode cX0_directionOfHiding 13 = .ok (.iconst 3, 1) := by decide +kernel
theorem dX0_directionOfHiding_14 : decode cX0_directionOfHiding 14 = .ok (.if_icmp .ge 26, 3) := by decide +kernel
theorem dX0_directionOfHiding_17 : decode cX0_directionOfHiding 17 = .ok (.aload_n 0, 1) := by decide +kernel
theorem dX0_directionOfHiding_18 : decode cX0_directionOfHiding 18 = .ok (.getfield 9, 3) := by decide +kernel
theorem dX0_directionOfHiding_21 : decode cX0_directionOfHiding 21 = .ok (.iload_n 2, 1) := by decide +kernel
theorem dX0_directionOfHiding_22 : decode cX0_directionOfHiding 22 = .ok (.iaload, 1) := by decide +kernel
theorem dX0_directionOfHiding_23 : decode cX0_directionOfHiding 23 = .ok (.aload_n 1, 1) := by decide +kernel
theorem dX0_directionOfHiding_24 : decode cX0_directionOfHiding 24 = .ok (.getfield 15, 3) := by decide +kernel
theorem dX0_directionOfHiding_27 : decode cX0_directionOfHiding 27 = .ok (.iload_n 2, 1) := by decide +kernel
theorem dX0_directionOfHiding_28 : decode cX0_directionOfHiding 28 = .ok (.iaload, 1) := by decide +kernel
theorem dX0_directionOfHiding_29 : decode cX0_directionOfHiding 29 = .ok (.if_icmp .lt 5, 3) := by decide +kernel
theorem dX0_directionOfHiding_32 : decode cX0_directionOfHiding 32 = .ok (.iload_n 2, 1) := by decide +kernel
theorem dX0_directionOfHiding_33 : decode cX0_directionOfHiding 33 = .ok (.ireturn, 1) := by decide +kernel
theorem dX0_directionOfHiding_34 : decode cX0_directionOfHiding 34 = .ok (.iinc 2 1, 3) := by decide +kernel
theorem dX0_directionOfHiding_37 : decode cX0_directionOfHiding 37 = .ok (.goto (-25), 3) := by decide +kernel
theorem dX0_directionOfHiding_40 : decode cX0_directionOfHiding 40 = .ok (.iconst (-1), 1) := by decide +kernel
theorem dX0_directionOfHiding_41 : decode cX0_directionOfHiding 41 = .ok (.ireturn, 1) := by decide +kernel
set_option maxRecDepth 20000 in
theorem ggX0_isBelow_X0_meets : GoodIn wsX0_isBelow wsX0_meets := goodIn_r _ [7, 2, 1, 8, 9, 10] (by decide +kernel) (by decide +kernel)
set_option maxRecDepth 20000 in
theorem gX0_isBelow_X0_meets : GoodIn wsX0_isBelow (wsV RX0 32 RX0 yX0_meets wsX0_meets) := goodIn_app (goodIn_of _ (by decide +kernel)) ggX0_isBelow_X0_meets
theorem dX0_isBelow_0 : decode cX0_isBelow 0 = .ok (.aload_n 0, 1) := by decide +kernel
theorem dX0_isBelow_1 : decode cX0_isBelow 1 = .ok (.aload_n 1, 1) := by decide +kernel
theorem dX0_isBelow_2 : decode cX0_isBelow 2 = .ok (.iconst 0, 1) := by decide +kernel
theorem dX0_isBelow_3 : decode cX0_isBelow 3 = .ok (.invokevirtual 32, 3) := by decide +kernel
theorem dX0_isBelow_6 : decode cX0_isBelow 6 = .ok (.ifCond .eq 31, 3) := by decide +kernel
theorem dX0_isBelow_9 : decode cX0_isBelow 9 = .ok (.aload_n 0, 1) := by decide +kernel
theorem dX0_isBelow_10 : decode cX0_isBelow 10 = .ok (.aload_n 1, 1) := by decide +kernel
theorem dX0_isBelow_11 : decode cX0_isBelow 11 = .ok (.iconst 1, 1) := by decide +kernel
theorem dX0_isBelow_12 : decode cX0_isBelow 12 = .ok (.invokevirtual 32, 3) := by decide +kernel
theorem dX0_isBelow_15 : decode cX0_isBelow 15 = .ok (.ifCond .eq 22, 3) := by decide +kernel
theorem dX0_isBelow_18 : decode cX0_isBelow 18 = .ok (.aload_n 0, 1) := by decide +kernel
theorem dX0_isBelow_19 : decode cX0_isBelow 19 = .ok (.getfield 15, 3) := by decide +kernel
theorem dX0_isBelow_22 : decode cX0_isBelow 22 = .ok (.iconst 2, 1) := by decide +kernel
theorem dX0_isBelow_23 : decode cX0_isBelow 23 = .ok (.iaload, 1) := by decide +kernel
theorem dX0_isBelow_24 : decode cX0_isBelow 24 = .ok (.aload_n 1, 1) := by decide +kernel
theorem dX0_isBelow_25 : decode cX0_isBelow 25 = .ok (.getfield 9, 3) := by decide +kernel
theorem dX0_isBelow_28 : decode cX0_isBelow 28 = .ok (.iconst 2, 1) := by decide +kernel
theorem dX0_isBelow_29 : decode cX0_isBelow 29 = .ok (.iaload, 1) := by decide +kernel
theorem dX0_isBelow_30 : decode cX0_isBelow 30 = .ok (.if_icmp .gt 7, 3) := by decide +kernel
theorem dX0_isBelow_33 : decode cX0_isBelow 33 = .ok (.iconst 1, 1) := by decide +kernel
theorem dX0_isBelow_34 : decode cX0_isBelow 34 = .ok (.goto 4, 3) := by decide +kernel
theorem dX0_isBelow_37 : decode cX0_isBelow 37 = .ok (.iconst 0, 1) := by decide +kernel
theorem dX0_isBelow_38 : decode cX0_isBelow 38 = .ok (.ireturn, 1) := by decide +kernel
theorem dX0_coversRow_0 : decode cX0_coversRow 0 = .ok (.aload_n 0, 1) := by decide +kernel
theorem dX0_coversRow_1 : decode cX0_coversRow 1 = .ok (.getfield 9, 3) := by decide +kernel
theorem dX0_coversRow_4 : decode cX0_coversRow 4 = .ok (.iconst 1, 1) := by decide +kernel
theorem dX0_coversRow_5 : decode cX0_coversRow 5 = .ok (.iaload, 1) := by decide +kernel
theorem dX0_coversRow_6 : decode cX0_coversRow 6 = .ok (.iload_n 1, 1) := by decide +kernel
theorem dX0_coversRow_7 : decode cX0_coversRow 7 = .ok (.if_icmp .gt 17, 3) := by decide +kernel
theorem dX0_coversRow_10 : decode cX0_coversRow 10 = .ok (.iload_n 1, 1) := by decide +kernel
theorem dX0_coversRow_11 : decode cX0_coversRow 11 = .ok (.aload_n 0, 1) := by decide +kernel
theorem dX0_coversRow_12 : decode cX0_coversRow 12 = .ok (.getfield 15, 3) := by decide +kernel
theorem dX0_coversRow_15 : decode cX0_coversRow 15 = .ok (.iconst 1, 1) := by decide +kernel
theorem dX0_coversRow_16 : decode cX0_coversRow 16 = .ok (.iaload, 1) := by decide +kernel
theorem dX0_coversRow_17 : decode cX0_coversRow 17 = .ok (.if_icmp .ge 7, 3) := by decide +kernel
theorem dX0_coversRow_20 : decode cX0_coversRow 20 = .ok (.iconst 1, 1) := by decide +kernel
theorem dX0_coversRow_21 : decode cX0_coversRow 21 = .ok (.goto 4, 3) := by decide +kernel
theorem dX0_coversRow_24 : decode cX0_coversRow 24 = .ok (.iconst 0, 1) := by decide +kernel
theorem dX0_coversRow_25 : decode cX0_coversRow 25 = .ok (.ireturn, 1) := by decide +kernel
set_option maxRecDepth 20000 in
theorem ggX0_rowOfCells_X0_size : GoodIn wsX0_rowOfCells wsX0_size := goodIn_r _ [6, 7, 1, 8, 9, 10] (by decide +kernel) (by decide +kernel)
set_option maxRecDepth 20000 in
theorem gX0_rowOfCells_X0_size : GoodIn wsX0_rowOfCells (wsV RX0 28 RX0 yX0_size wsX0_size) := goodIn_app (goodIn_of _ (by decide +kernel)) ggX0_rowOfCells_X0_size
theorem dX0_rowOfCells_0 : decode cX0_rowOfCells 0 = .ok (.iconst 1, 1) := by decide +kernel
theorem dX0_rowOfCells_1 : decode cX0_rowOfCells 1 = .ok (.aload_n 0, 1) := by decide +kernel
theorem dX0_rowOfCells_2 : decode cX0_rowOfCells 2 = .ok (.iconst 0, 1) := by decide +kernel
theorem dX0_rowOfCells_3 : decode cX0_rowOfCells 3 = .ok (.invokevirtual 28, 3) := by decide +kernel
theorem dX0_rowOfCells_6 : decode cX0_rowOfCells 6 = .ok (.ishl, 1) := by decide +kernel
theorem dX0_rowOfCells_7 : decode cX0_rowOfCells 7 = .ok (.iconst 1, 1) := by decide +kernel
theorem dX0_rowOfCells_8 : decode cX0_rowOfCells 8 = .ok (.isub, 1) := by decide +kernel
theorem dX0_rowOfCells_9 : decode cX0_rowOfCells 9 = .ok (.aload_n 0, 1) := by decide +kernel
theorem dX0_rowOfCells_10 : decode cX0_rowOfCells 10 = .ok (.getfield 9, 3) := by decide +kernel
theorem dX0_rowOfCells_13 : decode cX0_rowOfCells 13 = .ok (.iconst 0, 1) := by decide +kernel
theorem dX0_rowOfCells_14 : decode cX0_rowOfCells 14 = .ok (.iaload, 1) := by decide +kernel
theorem dX0_rowOfCells_15 : decode cX0_rowOfCells 15 = .ok (.ishl, 1) := by decide +kernel
theorem dX0_rowOfCells_16 : decode cX0_rowOfCells 16 = .ok (.ireturn, 1) := by decide +kernel
set_option maxRecDepth 20000 in
theorem ggX1_init_X3_init : GoodIn wsX1_init wsX3_init := goodIn_r _ [10, 11, 2, 3, 12, 13, 14, 15, 16, 17, 18, 19, 20, 21, 24, 25, 26, 27, 28, 29, 30, 31] (by decide +kernel) (by decide +kernel)
set_option maxRecDepth 20000 in
theorem gX1_init_X3_init : GoodIn wsX1_init (wsX3_init) := ggX1_init_X3_init
theorem dX1_init_0 : decode cX1_init 0 = .ok (.aload_n 0, 1) := by decide +kernel
theorem dX1_init_1 : decode cX1_init 1 = .ok (.invokespecial 3, 3) := by decide +kernel
theorem dX1_init_4 : decode cX1_init 4 = .ok (.aload_n 0, 1) := by decide +kernel
theorem dX1_init_5 : decode cX1_init 5 = .ok (.iconst 4, 1) := by decide +kernel
theorem dX1_init_6 : decode cX1_init 6 = .ok (.anewarray 9, 3) := by decide +kernel
theorem dX1_init_9 : decode cX1_init 9 = .ok (.putfield 11, 3) := by decide +kernel
theorem dX1_init_12 : decode cX1_init 12 = .ok (.iconst 0, 1) := by decide +kernel
theorem dX1_init_13 : decode cX1_init 13 = .ok (.istore_n 1, 1) := by decide +kernel
theorem dX1_init_14 : decode cX1_init 14 = .ok (.iload_n 1, 1) := by decide +kernel
theorem dX1_init_15 : decode cX1_init 15 = .ok (.iconst 4, 1) := by decide +kernel
theorem dX1_init_16 : decode cX1_init 16 = .ok (.if_icmp .ge 22, 3) := by decide +kernel
theorem dX1_init_19 : decode cX1_init 19 = .ok (.aload_n 0, 1) := by decide +kernel
theorem dX1_init_20 : decode cX1_init 20 = .ok (.getfield 11, 3) := by decide +kernel
theorem dX1_init_23 : decode cX1_init 23 = .ok (.iload_n 1, 1) := by decide +kernel
theorem dX1_init_24 : decode cX1_init 24 = .ok (.new 9, 3) := by decide +kernel
theorem dX1_init_27 : decode cX1_init 27 = .ok (.dup, 1) := by decide +kernel
theorem dX1_init_28 : decode cX1_init 28 = .ok (.invokespecial 17, 3) := by decide +kernel
theorem dX1_init_31 : decode cX1_init 31 = .ok (.aastore, 1) := by decide +kernel
theorem dX1_init_32 : decode cX1_init 32 = .ok (.iinc 1 1, 3) := by decide +kernel
theorem dX1_init_35 : decode cX1_init 35 = .ok (.goto (-21), 3) := by decide +kernel
theorem dX1_init_38 : decode cX1_init 38 = .ok (.return_, 1) := by decide +kernel
set_option maxRecDepth 20000 in
theorem ggX1_remember_X1_dropOldest : GoodIn wsX1_remember wsX1_dropOldest := goodIn_r _ [7, 2, 1, 30, 31] (by decide +kernel) (by decide +kernel)
set_option maxRecDepth 20000 in
theorem gX1_remember_X1_dropOldest : GoodIn wsX1_remember (wsV RX1 22 RX1 yX1_dropOldest wsX1_dropOldest) := goodIn_app (goodIn_of _ (by decide +kernel)) ggX1_remember_X1_dropOldest
set_option maxRecDepth 20000 in
theorem ggX1_remember_X3_copyFrom : GoodIn wsX1_remember wsX3_copyFrom := goodIn_r _ [12, 13, 14, 15, 16, 17, 18, 19, 20, 21, 22, 23, 24, 25, 26, 27, 28, 29, 32, 33, 34, 35, 36, 37, 38, 39] (by decide +kernel) (by decide +kernel)
set_option maxRecDepth 20000 in
theorem gX1_remember_X3_copyFrom : GoodIn wsX1_remember (wsV RX1 25 RX3 yX3_copyFrom wsX3_copyFrom) := goodIn_app (goodIn_of _ (by decide +kernel)) ggX1_remember_X3_copyFrom
theorem dX1_remember_0 : decode cX1_remember 0 = .ok (.aload_n 0, 1) := by decide +kernel
theorem dX1_remember_1 : decode cX1_remember 1 = .ok (.getfield 18, 3) := by decide +kernel
theorem dX1_remember_4 : decode cX1_remember 4 = .ok (.iconst 4, 1) := by decide +kernel
theorem dX1_remember_5 : decode cX1_remember 5 = .ok (.if_icmp .lt 7, 3) := by decide +kernel
theorem dX1_remember_8 : decode cX1_remember 8 = .ok (.aload_n 0, 1) := by decide +kernel
theorem dX1_remember_9 : decode cX1_remember 9 = .ok (.invokevirtual 22, 3) := by decide +kernel
theorem dX1_remember_12 : decode cX1_remember 12 = .ok (.aload_n 0, 1) := by decide +kernel
theorem dX1_remember_13 : decode cX1_remember 13 = .ok (.getfield 11, 3) := by decide +kernel
theorem dX1_remember_16 : decode cX1_remember 16 = .ok (.aload_n 0, 1) := by decide +kernel
theorem dX1_remember_17 : decode cX1_remember 17 = .ok (.getfield 18, 3) := by decide +kernel
theorem dX1_remember_20 : decode cX1_remember 20 = .ok (.aaload, 1) := by decide +kernel
theorem dX1_remember_21 : decode cX1_remember 21 = .ok (.aload_n 1, 1) := by decide +kernel
theorem dX1_remember_22 : decode cX1_remember 22 = .ok (.invokevirtual 25, 3) := by decide +kernel
theorem dX1_remember_25 : decode cX1_remember 25 = .ok (.aload_n 0, 1) := by decide +kernel
theorem dX1_remember_26 : decode cX1_remember 26 = .ok (.dup, 1) := by decide +kernel
theorem dX1_remember_27 : decode cX1_remember 27 = .ok (.getfield 18, 3) := by decide +kernel
theorem dX1_remember_30 : decode cX1_remember 30 = .ok (.iconst 1, 1) := by decide +kernel
theorem dX1_remember_31 : decode cX1_remember 31 = .ok (.iadd, 1) := by decide +kernel
theorem dX1_remember_32 : decode cX1_remember 32 = .ok (.putfield 18, 3) := by decide +kernel
theorem dX1_remember_35 : decode cX1_remember 35 = .ok (.return_, 1) := by decide +kernel
theorem dX1_dropOldest_0 : decode cX1_dropOldest 0 = .ok (.aload_n 0, 1) := by decide +kernel
theorem dX1_dropOldest_1 : decode cX1_dropOldest 1 = .ok (.getfield 11, 3) := by decide +kernel
theorem dX1_dropOldest_4 : decode cX1_dropOldest 4 = .ok (.iconst 0, 1) := by decide +kernel
theorem dX1_dropOldest_5 : decode cX1_dropOldest 5 = .ok (.aaload, 1) := by decide +kernel
theorem dX1_dropOldest_6 : decode cX1_dropOldest 6 = .ok (.astore_n 1, 1) := by decide +kernel
theorem dX1_dropOldest_7 : decode cX1_dropOldest 7 = .ok (.iconst 0, 1) := by decide +kernel
theorem dX1_dropOldest_8 : decode cX1_dropOldest 8 = .ok (.istore_n 2, 1) := by decide +kernel
theorem dX1_dropOldest_9 : decode cX1_dropOldest 9 = .ok (.iload_n 2, 1) := by decide +kernel
theorem dX1_dropOldest_10 : decode cX1_dropOldest 10 = .ok (.iconst 1, 1) := by decide +kernel
theorem dX1_dropOldest_11 : decode cX1_dropOldest 11 = .ok (.iadd, 1) := by decide +kernel
theorem dX1_dropOldest_12 : decode cX1_dropOldest 12 = .ok (.iconst 4, 1) := by decide +kernel
theorem dX1_dropOldest_13 : decode cX1_dropOldest 13 = .ok (.if_icmp .ge 23, 3) := by decide +kernel
theorem dX1_dropOldest_16 : decode cX1_dropOldest 16 = .ok (.aload_n 0, 1) := by decide +kernel
theorem dX1_dropOldest_17 : decode cX1_dropOldest 17 = .ok (.getfield 11, 3) := by decide +kernel
theorem dX1_dropOldest_20 : decode cX1_dropOldest 20 = .ok (.iload_n 2, 1) := by decide +kernel
theorem dX1_dropOldest_21 : decode cX1_dropOldest 21 = .ok (.aload_n 0, 1) := by decide +kernel
theorem dX1_dropOldest_22 : decode cX1_dropOldest 22 = .ok (.getfield 11, 3) := by decide +kernel
theorem dX1_dropOldest_25 : decode cX1_dropOldest 25 = .ok (.iload_n 2, 1) := by decide +kernel
theorem dX1_dropOldest_26 : decode cX1_dropOldest 26 = .ok (.iconst 1, 1) := by decide +kernel
theorem dX1_dropOldest_27 : decode cX1_dropOldest 27 = .ok (.iadd, 1) := by decide +kernel
theorem dX1_dropOldest_28 : decode cX1_dropOldest 28 = .ok (.aaload, 1) := by decide +kernel
theorem dX1_dropOldest_29 : decode cX1_dropOldest 29 = .ok (.aastore, 1) := by decide +kernel
theorem dX1_dropOldest_30 : decode cX1_dropOldest 30 = .ok (.iinc 2 1, 3) := by decide +kernel
theorem dX1_dropOldest_33 : decode cX1_dropOldest 33 = .ok (.goto (-24), 3) := by decide +kernel
theorem dX1_dropOldest_36 : decode cX1_dropOldest 36 = .ok (.aload_n 0, 1) := by decide +kernel
theorem dX1_dropOldest_37 : decode cX1_dropOldest 37 = .ok (.getfield 11, 3) := by decide +kernel
theorem dX1_dropOldest_40 : decode cX1_dropOldest 40 = .ok (.iconst 3, 1) := by decide +kernel
theorem dX1_dropOldest_41 : decode cX1_dropOldest 41 = .ok (.aload_n 1, 1) := by decide +kernel
theorem dX1_dropOldest_42 : decode cX1_dropOldest 42 = .ok (.aastore, 1) := by decide +kernel
theorem dX1_dropOldest_43 : decode cX1_dropOldest 43 = .ok (.aload_n 0, 1) := by decide +kernel
theorem dX1_dropOldest_44 : decode cX1_dropOldest 44 = .ok (.iconst 3, 1) := by decide +kernel
theorem dX1_dropOldest_45 : decode cX1_dropOldest 45 = .ok (.putfield 18, 3) := by decide +kernel
theorem dX1_dropOldest_48 : decode cX1_dropOldest 48 = .ok (.return_, 1) := by decide +kernel
set_option maxRecDepth 20000 in
theorem ggX1_recall_X3_copyFrom : GoodIn wsX1_recall wsX3_copyFrom := goodIn_r _ [7, 8, 9, 10, 11, 12, 13, 14, 15, 16, 17, 18, 19, 20, 21, 22, 23, 24, 27, 28, 29, 30, 31, 32, 33, 34] (by decide +kernel) (by decide +kernel)
set_option maxRecDepth 20000 in
theorem gX1_recall_X3_copyFrom : GoodIn wsX1_recall (wsV RX1 25 RX3 yX3_copyFrom wsX3_copyFrom) := goodIn_app (goodIn_of _ (by decide +kernel)) ggX1_recall_X3_copyFrom
theorem dX1_recall_0 : decode cX1_recall 0 = .ok (.aload_n 0, 1) := by decide +kernel
theorem dX1_recall_1 : decode cX1_recall 1 = .ok (.getfield 18, 3) := by decide +kernel
theorem dX1_recall_4 : decode cX1_recall 4 = .ok (.ifCond .le 26, 3) := by decide +kernel
theorem dX1_recall_7 : decode cX1_recall 7 = .ok (.aload_n 0, 1) := by decide +kernel
theorem dX1_recall_8 : decode cX1_recall 8 = .ok (.dup, 1) := by decide +kernel
theorem dX1_recall_9 : decode cX1_recall 9 = .ok (.getfield 18, 3) := by decide +kernel
theorem dX1_recall_12 : decode cX1_recall 12 = .ok (.iconst 1, 1) := by decide +kernel
theorem dX1_recall_13 : decode cX1_recall 13 = .ok (.isub, 1) := by decide +kernel
theorem dX1_recall_14 : decode cX1_recall 14 = .ok (.putfield 18, 3) := by decide +kernel
theorem dX1_recall_17 : decode cX1_recall 17 = .ok (.aload_n 1, 1) := by decide +kernel
theorem dX1_recall_18 : decode cX1_recall 18 = .ok (.aload_n 0, 1) := by decide +kernel
theorem dX1_recall_19 : decode cX1_recall 19 = .ok (.getfield 11, 3) := by decide +kernel
theorem dX1_recall_22 : decode cX1_recall 22 = .ok (.aload_n 0, 1) := by decide +kernel
theorem dX1_recall_23 : decode cX1_recall 23 = .ok (.getfield 18, 3) := by decide +kernel
theorem dX1_recall_26 : decode cX1_recall 26 = .ok (.aaload, 1) := by decide +kernel
theorem dX1_recall_27 : decode cX1_recall 27 = .ok (.invokevirtual 25, 3) := by decide +kernel
theorem dX1_recall_30 : decode cX1_recall 30 = .ok (.return_, 1) := by decide +kernel
theorem dX2_init_0 : decode cX2_init 0 = .ok (.aload_n 0, 1) := by decide +kernel
theorem dX2_init_1 : decode cX2_init 1 = .ok (.invokespecial 3, 3) := by decide +kernel
theorem dX2_init_4 : decode cX2_init 4 = .ok (.aload_n 0, 1) := by decide +kernel
theorem dX2_init_5 : decode cX2_init 5 = .ok (.bipush 16, 2) := by decide +kernel
theorem dX2_init_7 : decode cX2_init 7 = .ok (.newarray .int, 2) := by decide +kernel
theorem dX2_init_9 : decode cX2_init 9 = .ok (.putfield 9, 3) := by decide +kernel
theorem dX2_init_12 : decode cX2_init 12 = .ok (.aload_n 0, 1) := by decide +kernel
theorem dX2_init_13 : decode cX2_init 13 = .ok (.bipush 16, 2) := by decide +kernel
theorem dX2_init_15 : decode cX2_init 15 = .ok (.newarray .int, 2) := by decide +kernel
theorem dX2_init_17 : decode cX2_init 17 = .ok (.putfield 15, 3) := by decide +kernel
theorem dX2_init_20 : decode cX2_init 20 = .ok (.aload_n 0, 1) := by decide +kernel
theorem dX2_init_21 : decode cX2_init 21 = .ok (.bipush 16, 2) := by decide +kernel
theorem dX2_init_23 : decode cX2_init 23 = .ok (.newarray .int, 2) := by decide +kernel
theorem dX2_init_25 : decode cX2_init 25 = .ok (.putfield 18, 3) := by decide +kernel
theorem dX2_init_28 : decode cX2_init 28 = .ok (.aload_n 0, 1) := by decide +kernel
theorem dX2_init_29 : decode cX2_init 29 = .ok (.bipush 16, 2) := by decide +kernel
theorem dX2_init_31 : decode cX2_init 31 = .ok (.newarray .int, 2) := by decide +kernel
theorem dX2_init_33 : decode cX2_init 33 = .ok (.putfield 21, 3) := by decide +kernel
theorem dX2_init_36 : decode cX2_init 36 = .ok (.return_, 1) := by decide +kernel
set_option maxRecDepth 20000 in
theorem ggX2_look_X2_bitsHiddenBy : GoodIn wsX2_look wsX2_bitsHiddenBy := goodIn_r _ [7, 1, 8, 9, 10, 11, 12, 13, 14, 15, 16, 17, 18, 19, 20, 21, 22, 23, 79, 80, 81, 82, 83, 91, 92, 93] (by decide +kernel) (by decide +kernel)
set_option maxRecDepth 20000 in
theorem gX2_look_X2_bitsHiddenBy : GoodIn wsX2_look (va_wsS RX2 31 yX2_bitsHiddenBy wsX2_bitsHiddenBy) := goodIn_app (goodIn_of _ (by decide +kernel)) ggX2_look_X2_bitsHiddenBy
set_option maxRecDepth 20000 in
theorem ggX2_look_X2_followChains : GoodIn wsX2_look wsX2_followChains := goodIn_r _ [27, 3, 28, 29, 30, 31, 32, 2, 33, 34, 6, 35, 84, 85, 86, 87, 88, 89, 90] (by decide +kernel) (by decide +kernel)
set_option maxRecDepth 20000 in
theorem gX2_look_X2_followChains : GoodIn wsX2_look (wsV RX2 35 RX2 yX2_followChains wsX2_followChains) := goodIn_app (goodIn_of _ (by decide +kernel)) ggX2_look_X2_followChains
set_option maxRecDepth 20000 in
theorem ggX2_look_X2_draw : GoodIn wsX2_look wsX2_draw := goodIn_r _ [39, 40, 41, 42, 2, 43, 3, 44, 45, 46, 47, 48, 49, 50, 6, 51, 33, 34, 35, 52, 53, 54, 55, 56, 57, 58, 59, 60, 61, 12, 62, 14, 63, 64, 65, 66, 67, 68, 69, 70, 15, 71, 72, 73, 74, 75, 76, 77, 78, 84, 85, 86, 87, 88, 89, 90, 79, 80, 81, 82, 83, 91, 92, 93] (by decide +kernel) (by decide +kernel)
set_option maxRecDepth 20000 in
theorem gX2_look_X2_draw : GoodIn wsX2_look (wsV RX2 38 RX2 yX2_draw wsX2_draw) := goodIn_app (goodIn_of _ (by decide +kernel)) ggX2_look_X2_draw
theorem dX2_look_0 : decode cX2_look 0 = .ok (.aload_n 0, 1) := by decide +kernel
theorem dX2_look_1 : decode cX2_look 1 = .ok (.aload_n 1, 1) := by decide +kernel
theorem dX2_look_2 : decode cX2_look 2 = .ok (.getfield 24, 3) := by decide +kernel
theorem dX2_look_5 : decode cX2_look 5 = .ok (.putfield 30, 3) := by decide +kernel
theorem dX2_look_8 : decode cX2_look 8 = .ok (.iconst 0, 1) := by decide +kernel
theorem dX2_look_9 : decode cX2_look 9 = .ok (.istore_n 2, 1) := by decide +kernel
theorem dX2_look_10 : decode cX2_look 10 = .ok (.iload_n 2, 1) := by decide +kernel
theorem dX2_look_11 : decode cX2_look 11 = .ok (.aload_n 0, 1) := by decide +kernel
theorem dX2_look_12 : decode cX2_look 12 = .ok (.getfield 30, 3) := by decide +kernel
theorem dX2_look_15 : decode cX2_look 15 = .ok (.if_icmp .ge 20, 3) := by decide +kernel
theorem dX2_look_18 : decode cX2_look 18 = .ok (.aload_n 0, 1) := by decide +kernel
theorem dX2_look_19 : decode cX2_look 19 = .ok (.getfield 9, 3) := by decide +kernel
theorem dX2_look_22 : decode cX2_look 22 = .ok (.iload_n 2, 1) := by decide +kernel
theorem dX2_look_23 : decode cX2_look 23 = .ok (.aload_n 1, 1) := by decide +kernel
theorem dX2_look_24 : decode cX2_look 24 = .ok (.iload_n 2, 1) := by decide +kernel
theorem dX2_look_25 : decode cX2_look 25 = .ok (.invokestatic 31, 3) := by decide +kernel
theorem dX2_look_28 : decode cX2_look 28 = .ok (.iastore, 1) := by decide +kernel
theorem dX2_look_29 : decode cX2_look 29 = .ok (.iinc 2 1, 3) := by decide +kernel
theorem dX2_look_32 : decode cX2_look 32 = .ok (.goto (-22), 3) := by decide +kernel
theorem dX2_look_35 : decode cX2_look 35 = .ok (.aload_n 0, 1) := by decide +kernel
theorem dX2_look_36 : decode cX2_look 36 = .ok (.invokevirtual 35, 3) := by decide +kernel
theorem dX2_look_39 : decode cX2_look 39 = .ok (.aload_n 0, 1) := by decide +kernel
theorem dX2_look_40 : decode cX2_look 40 = .ok (.aload_n 1, 1) := by decide +kernel
theorem dX2_look_41 : decode cX2_look 41 = .ok (.invokevirtual 38, 3) := by decide +kernel
theorem dX2_look_44 : decode cX2_look 44 = .ok (.return_, 1) := by decide +kernel
set_option maxRecDepth 20000 in
theorem ggX2_bitsHiddenBy_X0_directionOfHiding : GoodIn wsX2_bitsHiddenBy wsX0_directionOfHiding := goodIn_r _ [7, 8, 9, 10, 11, 12, 6, 13, 14, 15, 16, 17, 23, 24, 25] (by decide +kernel) (by decide +kernel)
set_option maxRecDepth 20000 in
theorem gX2_bitsHiddenBy_X0_directionOfHiding : GoodIn wsX2_bitsHiddenBy (wsV RX2 46 RX0 yX0_directionOfHiding wsX0_directionOfHiding) := goodIn_app (goodIn_of _ (by decide +kernel)) ggX2_bitsHiddenBy_X0_directionOfHiding
theorem dX2_bitsHiddenBy_0 : decode cX2_bitsHiddenBy 0 = .ok (.iconst 0, 1) := by decide +kernel
theorem dX2_bitsHiddenBy_1 : decode cX2_bitsHiddenBy 1 = .ok (.istore_n 2, 1) := by decide +kernel
theorem dX2_bitsHiddenBy_2 : decode cX2_bitsHiddenBy 2 = .ok (.iconst 0, 1) := by decide +kernel
theorem dX2_bitsHiddenBy_3 : decode cX2_bitsHiddenBy 3 = .ok (.istore_n 3, 1) := by decide +kernel
theorem dX2_bitsHiddenBy_4 : decode cX2_bitsHiddenBy 4 = .ok (.iload_n 3, 1) := by decide +kernel
theorem dX2_bitsHiddenBy_5 : decode cX2_bitsHiddenBy 5 = .ok (.aload_n 0, 1) := by decide +kernel
theorem dX2_bitsHiddenBy_6 : decode cX2_bitsHiddenBy 6 = .ok (.getfield 24, 3) := by decide +kernel
theorem dX2_bitsHiddenBy_9 : decode cX2_bitsHiddenBy 9 = .ok (.if_icmp .ge 39, 3) := by decide +kernel
theorem dX2_bitsHiddenBy_12 : decode cX2_bitsHiddenBy 12 = .ok (.iload_n 3, 1) := by decide +kernel
theorem dX2_bitsHiddenBy_13 : decode cX2_bitsHiddenBy 13 = .ok (.iload_n 1, 1) := by decide +kernel
theorem dX2_bitsHiddenBy_14 : decode cX2_bitsHiddenBy 14 = .ok (.if_icmp .eq 28, 3) := by decide +kernel
theorem dX2_bitsHiddenBy_17 : decode cX2_bitsHiddenBy 17 = .ok (.aload_n 0, 1) := by decide +kernel
theorem dX2_bitsHiddenBy_18 : decode cX2_bitsHiddenBy 18 = .ok (.getfield 42, 3) := by decide +kernel
theorem dX2_bitsHiddenBy_21 : decode cX2_bitsHiddenBy 21 = .ok (.iload_n 1, 1) := by decide +kernel
theorem dX2_bitsHiddenBy_22 : decode cX2_bitsHiddenBy 22 = .ok (.aaload, 1) := by decide +kernel
theorem dX2_bitsHiddenBy_23 : decode cX2_bitsHiddenBy 23 = .ok (.aload_n 0, 1) := by decide +kernel
theorem dX2_bitsHiddenBy_24 : decode cX2_bitsHiddenBy 24 = .ok (.getfield 42, 3) := by decide +kernel
theorem dX2_bitsHiddenBy_27 : decode cX2_bitsHiddenBy 27 = .ok (.iload_n 3, 1) := by decide +kernel
theorem dX2_bitsHiddenBy_28 : decode cX2_bitsHiddenBy 28 = .ok (.aaload, 1) := by decide +kernel
theorem dX2_bitsHiddenBy_29 : decode cX2_bitsHiddenBy 29 = .ok (.invokevirtual 46, 3) := by decide +kernel
theorem dX2_bitsHiddenBy_32 : decode cX2_bitsHiddenBy 32 = .ok (.iconst (-1), 1) := by decide +kernel
theorem dX2_bitsHiddenBy_33 : decode cX2_bitsHiddenBy 33 = .ok (.if_icmp .eq 9, 3) := by decide +kernel
theorem dX2_bitsHiddenBy_36 : decode cX2_bitsHiddenBy 36 = .ok (.iload_n 2, 1) := by decide +kernel
theorem dX2_bitsHiddenBy_37 : decode cX2_bitsHiddenBy 37 = .ok (.iconst 1, 1) := by decide +kernel
theorem dX2_bitsHiddenBy_38 : decode cX2_bitsHiddenBy 38 = .ok (.iload_n 3, 1) := by decide +kernel
theorem dX2_bitsHiddenBy_39 : decode cX2_bitsHiddenBy 39 = .ok (.ishl, 1) := by decide +kernel
theorem dX2_bitsHiddenBy_40 : decode cX2_bitsHiddenBy 40 = .ok (.ior, 1) := by decide +kernel
theorem dX2_bitsHiddenBy_41 : decode cX2_bitsHiddenBy 41 = .ok (.istore_n 2, 1) := by decide +kernel
theorem dX2_bitsHiddenBy_42 : decode cX2_bitsHiddenBy 42 = .ok (.iinc 3 1, 3) := by decide +kernel
theorem dX2_bitsHiddenBy_45 : decode cX2_bitsHiddenBy 45 = .ok (.goto (-41), 3) := by decide +kernel
theorem dX2_bitsHiddenBy_48 : decode cX2_bitsHiddenBy 48 = .ok (.iload_n 2, 1) := by decide +kernel
theorem dX2_bitsHiddenBy_49 : decode cX2_bitsHiddenBy 49 = .ok (.ireturn, 1) := by decide +kernel
theorem dX2_hasBit_0 : decode cX2_hasBit 0 = .ok (.iload_n 0, 1) := by decide +kernel
theorem dX2_hasBit_1 : decode cX2_hasBit 1 = .ok (.iload_n 1, 1) := by decide +kernel
theorem dX2_hasBit_2 : decode cX2_hasBit 2 = .ok (.ishr, 1) := by decide +kernel
theorem dX2_hasBit_3 : decode cX2_hasBit 3 = .ok (.iconst 1, 1) := by decide +kernel
theorem dX2_hasBit_4 : decode cX2_hasBit 4 = .ok (.iand, 1) := by decide +kernel
theorem dX2_hasBit_5 : decode cX2_hasBit 5 = .ok (.ifCond .eq 7, 3) := by decide +kernel
theorem dX2_hasBit_8 : decode cX2_hasBit 8 = .ok (.iconst 1, 1) := by decide +kernel
theorem dX2_hasBit_9 : decode cX2_hasBit 9 = .ok (.goto 4, 3) := by decide +kernel
theorem dX2_hasBit_12 : decode cX2_hasBit 12 = .ok (.iconst 0, 1) := by decide +kernel
theorem dX2_hasBit_13 : decode cX2_hasBit 13 = .ok (.ireturn, 1) := by decide +kernel
set_option maxRecDepth 20000 in
theorem ggX2_followChains_X2_hasBit : GoodIn wsX2_followChains wsX2_hasBit := goodIn_r _ [11] (by decide +kernel) (by decide +kernel)
set_option maxRecDepth 20000 in
theorem gX2_followChains_X2_hasBit : GoodIn wsX2_followChains (va_wsS RX2 58 yX2_hasBit wsX2_hasBit) := goodIn_app (goodIn_of _ (by decide +kernel)) ggX2_followChains_X2_hasBit
theorem dX2_followChains_0 : decode cX2_followChains 0 = .ok (.aload_n 0, 1) := by decide +kernel
theorem dX2_followChains_1 : decode cX2_followChains 1 = .ok (.getfield 9, 3) := by decide +kernel
theorem dX2_followChains_4 : decode cX2_followChains 4 = .ok (.iconst 0, 1) := by decide +kernel
theorem dX2_followChains_5 : decode cX2_followChains 5 = .ok (.aload_n 0, 1) := by decide +kernel
theorem dX2_followChains_6 : decode cX2_followChains 6 = .ok (.getfield 15, 3) := by decide +kernel
theorem dX2_followChains_9 : decode cX2_followChains 9 = .ok (.iconst 0, 1) := by decide +kernel
theorem dX2_followChains_10 : decode cX2_followChains 10 = .ok (.bipush 16, 2) := by decide +kernel
theorem dX2_followChains_12 : decode cX2_followChains 12 = .ok (.invokestatic 52, 3) := by decide +kernel
theorem dX2_followChains_15 : decode cX2_followChains 15 = .ok (.iconst 0, 1) := by decide +kernel
theorem dX2_followChains_16 : decode cX2_followChains 16 = .ok (.istore_n 1, 1) := by decide +kernel
theorem dX2_followChains_17 : decode cX2_followChains 17 = .ok (.iload_n 1, 1) := by decide +kernel
theorem dX2_followChains_18 : decode cX2_followChains 18 = .ok (.aload_n 0, 1) := by decide +kernel
theorem dX2_followChains_19 : decode cX2_followChains 19 = .ok (.getfield 30, 3) := by decide +kernel
theorem dX2_followChains_22 : decode cX2_followChains 22 = .ok (.if_icmp .ge 53, 3) := by decide +kernel
theorem dX2_followChains_25 : decode cX2_followChains 25 = .ok (.iconst 0, 1) := by decide +kernel
theorem dX2_followChains_26 : decode cX2_followChains 26 = .ok (.istore_n 2, 1) := by decide +kernel
theorem dX2_followChains_27 : decode cX2_followChains 27 = .ok (.iload_n 2, 1) := by decide +kernel
theorem dX2_followChains_28 : decode cX2_followChains 28 = .ok (.aload_n 0, 1) := by decide +kernel
theorem dX2_followChains_29 : decode cX2_followChains 29 = .ok (.getfield 30, 3) := by decide +kernel
theorem dX2_followChains_32 : decode cX2_followChains 32 = .ok (.if_icmp .ge 37, 3) := by decide +kernel
theorem dX2_followChains_35 : decode cX2_followChains 35 = .ok (.aload_n 0, 1) := by decide +kernel
theorem dX2_followChains_36 : decode cX2_followChains 36 = .ok (.getfield 15, 3) := by decide +kernel
theorem dX2_followChains_39 : decode cX2_followChains 39 = .ok (.iload_n 2, 1) := by decide +kernel
theorem dX2_followChains_40 : decode cX2_followChains 40 = .ok (.iaload, 1) := by decide +kernel
theorem dX2_followChains_41 : decode cX2_followChains 41 = .ok (.iload_n 1, 1) := by decide +kernel
theorem dX2_followChains_42 : decode cX2_followChains 42 = .ok (.invokestatic 58, 3) := by decide +kernel
theorem dX2_followChains_45 : decode cX2_followChains 45 = .ok (.ifCond .eq 18, 3) := by decide +kernel
theorem dX2_followChains_48 : decode cX2_followChains 48 = .ok (.aload_n 0, 1) := by decide +kernel
theorem dX2_followChains_49 : decode cX2_followChains 49 = .ok (.getfield 15, 3) := by decide +kernel
theorem dX2_followChains_52 : decode cX2_followChains 52 = .ok (.iload_n 2, 1) := by decide +kernel
theorem dX2_followChains_53 : decode cX2_followChains 53 = .ok (.dup2, 1) := by decide +kernel
theorem dX2_followChains_54 : decode cX2_followChains 54 = .ok (.iaload, 1) := by decide +kernel
theorem dX2_followChains_55 : decode cX2_followChains 55 = .ok (.aload_n 0, 1) := by decide +kernel
theorem dX2_followChains_56 : decode cX2_followChains 56 = .ok (.getfield 15, 3) := by decide +kernel
theorem dX2_followChains_59 : decode cX2_followChains 59 = .ok (.iload_n 1, 1) := by decide +kernel
theorem dX2_followChains_60 : decode cX2_followChains 60 = .ok (.iaload, 1) := by decide +kernel
theorem dX2_followChains_61 : decode cX2_followChains 61 = .ok (.ior, 1) := by decide +kernel
theorem dX2_followChains_62 : decode cX2_followChains 62 = .ok (.iastore, 1) := by decide +kernel
theorem dX2_followChains_63 : decode cX2_followChains 63 = .ok (.iinc 2 1, 3) := by decide +kernel
theorem dX2_followChains_66 : decode cX2_followChains 66 = .ok (.goto (-39), 3) := by decide +kernel
theorem dX2_followChains_69 : decode cX2_followChains 69 = .ok (.iinc 1 1, 3) := by decide +kernel
theorem dX2_followChains_72 : decode cX2_followChains 72 = .ok (.goto (-55), 3) := by decide +kernel
theorem dX2_followChains_75 : decode cX2_followChains 75 = .ok (.return_, 1) := by decide +kernel
set_option maxRecDepth 20000 in
theorem ggX2_draw_J7_fill_53178 : GoodIn wsX2_draw wsJ7_fill_53178 := goodIn_r _ [10] (by decide +kernel) (by decide +kernel)
set_option maxRecDepth 20000 in
theorem gX2_draw_J7_fill_53178 : GoodIn wsX2_draw (va_wsS RX2 62 yJ7_fill_53178 wsJ7_fill_53178) := goodIn_app (goodIn_of _ (by decide +kernel)) ggX2_draw_J7_fill_53178
set_option maxRecDepth 20000 in
theorem ggX2_draw_X2_nextToDraw : GoodIn wsX2_draw wsX2_nextToDraw := goodIn_r _ [15, 4, 2, 6, 16, 17, 14, 18, 19, 20, 21, 22, 23, 24, 25, 26, 27, 28, 29, 30, 31, 32, 33, 34, 35, 36, 37, 38, 39, 40, 49, 50, 51, 52, 53, 54, 55, 56, 57, 58, 59, 60, 61, 62, 63] (by decide +kernel) (by decide +kernel)
set_option maxRecDepth 20000 in
theorem gX2_draw_X2_nextToDraw : GoodIn wsX2_draw (wsV RX2 74 RX2 yX2_nextToDraw wsX2_nextToDraw) := goodIn_app (goodIn_of _ (by decide +kernel)) ggX2_draw_X2_nextToDraw
set_option maxRecDepth 20000 in
theorem ggX2_draw_X2_layerAbove : GoodIn wsX2_draw wsX2_layerAbove := goodIn_r _ [44, 4, 1, 45, 46, 47, 48, 16, 17, 14, 18, 49, 50, 51, 52, 53, 54, 55] (by decide +kernel) (by decide +kernel)
set_option maxRecDepth 20000 in
theorem gX2_draw_X2_layerAbove : GoodIn wsX2_draw (wsV RX2 78 RX2 yX2_layerAbove wsX2_layerAbove) := goodIn_app (goodIn_of _ (by decide +kernel)) ggX2_draw_X2_layerAbove
theorem dX2_draw_0 : decode cX2_draw 0 = .ok (.aload_n 0, 1) := by decide +kernel
theorem dX2_draw_1 : decode cX2_draw 1 = .ok (.getfield 21, 3) := by decide +kernel
theorem dX2_draw_4 : decode cX2_draw 4 = .ok (.bipush (-5), 2) := by decide +kernel
theorem dX2_draw_6 : decode cX2_draw 6 = .ok (.invokestatic 62, 3) := by decide +kernel
theorem dX2_draw_9 : decode cX2_draw 9 = .ok (.aload_n 0, 1) := by decide +kernel
theorem dX2_draw_10 : decode cX2_draw 10 = .ok (.iconst 0, 1) := by decide +kernel
theorem dX2_draw_11 : decode cX2_draw 11 = .ok (.putfield 68, 3) := by decide +kernel
theorem dX2_draw_14 : decode cX2_draw 14 = .ok (.aload_n 0, 1) := by decide +kernel
theorem dX2_draw_15 : decode cX2_draw 15 = .ok (.iconst 0, 1) := by decide +kernel
theorem dX2_draw_16 : decode cX2_draw 16 = .ok (.putfield 71, 3) := by decide +kernel
theorem dX2_draw_19 : decode cX2_draw 19 = .ok (.iconst 0, 1) := by decide +kernel
theorem dX2_draw_20 : decode cX2_draw 20 = .ok (.istore_n 2, 1) := by decide +kernel
theorem dX2_draw_21 : decode cX2_draw 21 = .ok (.iload_n 2, 1) := by decide +kernel
theorem dX2_draw_22 : decode cX2_draw 22 = .ok (.aload_n 0, 1) := by decide +kernel
theorem dX2_draw_23 : decode cX2_draw 23 = .ok (.getfield 30, 3) := by decide +kernel
theorem dX2_draw_26 : decode cX2_draw 26 = .ok (.if_icmp .ge 66, 3) := by decide +kernel
theorem dX2_draw_29 : decode cX2_draw 29 = .ok (.aload_n 0, 1) := by decide +kernel
theorem dX2_draw_30 : decode cX2_draw 30 = .ok (.aload_n 1, 1) := by decide +kernel
theorem dX2_draw_31 : decode cX2_draw 31 = .ok (.invokevirtual 74, 3) := by decide +kernel
theorem dX2_draw_34 : decode cX2_draw 34 = .ok (.istore_n 3, 1) := by decide +kernel
theorem dX2_draw_35 : decode cX2_draw 35 = .ok (.iload_n 3, 1) := by decide +kernel
theorem dX2_draw_36 : decode cX2_draw 36 = .ok (.iconst (-1), 1) := by decide +kernel
theorem dX2_draw_37 : decode cX2_draw 37 = .ok (.if_icmp .ne 4, 3) := by decide +kernel
theorem dX2_draw_40 : decode cX2_draw 40 = .ok (.return_, 1) := by decide +kernel
theorem dX2_draw_41 : decode cX2_draw 41 = .ok (.aload_n 0, 1) := by decide +kernel
theorem dX2_draw_42 : decode cX2_draw 42 = .ok (.getfield 18, 3) := by decide +kernel
theorem dX2_draw_45 : decode cX2_draw 45 = .ok (.iload_n 2, 1) := by decide +kernel
theorem dX2_draw_46 : decode cX2_draw 46 = .ok (.iload_n 3, 1) := by decide +kernel
theorem dX2_draw_47 : decode cX2_draw 47 = .ok (.iastore, 1) := by decide +kernel
theorem dX2_draw_48 : decode cX2_draw 48 = .ok (.aload_n 0, 1) := by decide +kernel
theorem dX2_draw_49 : decode cX2_draw 49 = .ok (.getfield 21, 3) := by decide +kernel
theorem dX2_draw_52 : decode cX2_draw 52 = .ok (.iload_n 3, 1) := by decide +kernel
theorem dX2_draw_53 : decode cX2_draw 53 = .ok (.aload_n 0, 1) := by decide +kernel
theorem dX2_draw_54 : decode cX2_draw 54 = .ok (.aload_n 0, 1) := by decide +kernel
theorem dX2_draw_55 : decode cX2_draw 55 = .ok (.getfield 9, 3) := by decide +kernel
theorem dX2_draw_58 : decode cX2_draw 58 = .ok (.iload_n 3, 1) := by decide +kernel
theorem dX2_draw_59 : decode cX2_draw 59 = .ok (.iaload, 1) := by decide +kernel
theorem dX2_draw_60 : decode cX2_draw 60 = .ok (.invokevirtual 78, 3) := by decide +kernel
theorem dX2_draw_63 : decode cX2_draw 63 = .ok (.iastore, 1) := by decide +kernel
theorem dX2_draw_64 : decode cX2_draw 64 = .ok (.aload_n 0, 1) := by decide +kernel
theorem dX2_draw_65 : decode cX2_draw 65 = .ok (.dup, 1) := by decide +kernel
theorem dX2_draw_66 : decode cX2_draw 66 = .ok (.getfield 68, 3) := by decide +kernel
theorem dX2_draw_69 : decode cX2_draw 69 = .ok (.iconst 1, 1) := by decide +kernel
theorem dX2_draw_70 : decode cX2_draw 70 = .ok (.iload_n 3, 1) := by decide +kernel
theorem dX2_draw_71 : decode cX2_draw 71 = .ok (.ishl, 1) := by decide +kernel
theorem dX2_draw_72 : decode cX2_draw 72 = .ok (.ior, 1) := by decide +kernel
theorem dX2_draw_73 : decode cX2_draw 73 = .ok (.putfield 68, 3) := by decide +kernel
theorem dX2_draw_76 : decode cX2_draw 76 = .ok (.aload_n 0, 1) := by decide +kernel
theorem dX2_draw_77 : decode cX2_draw 77 = .ok (.dup, 1) := by decide +kernel
theorem dX2_draw_78 : decode cX2_draw 78 = .ok (.getfield 71, 3) := by decide +kernel
theorem dX2_draw_81 : decode cX2_draw 81 = .ok (.iconst 1, 1) := by decide +kernel
theorem dX2_draw_82 : decode cX2_draw 82 = .ok (.iadd, 1) := by decide +kernel
theorem dX2_draw_83 : decode cX2_draw 83 = .ok (.putfield 71, 3) := by decide +kernel
theorem dX2_draw_86 : decode cX2_draw 86 = .ok (.iinc 2 1, 3) := by decide +kernel
theorem dX2_draw_89 : decode cX2_draw 89 = .ok (.goto (-68), 3) := by decide +kernel
theorem dX2_draw_92 : decode cX2_draw 92 = .ok (.return_, 1) := by decide +kernel
set_option maxRecDepth 20000 in
theorem ggX2_nextToDraw_X2_hasBit : GoodIn wsX2_nextToDraw wsX2_hasBit := goodIn_r _ [7] (by decide +kernel) (by decide +kernel)
set_option maxRecDepth 20000 in
theorem gX2_nextToDraw_X2_hasBit : GoodIn wsX2_nextToDraw (va_wsS RX2 58 yX2_hasBit wsX2_hasBit) := goodIn_app (goodIn_of _ (by decide +kernel)) ggX2_nextToDraw_X2_hasBit
set_option maxRecDepth 20000 in
theorem ggX2_nextToDraw_X3_weightInDrawing : GoodIn wsX2_nextToDraw wsX3_weightInDrawing := goodIn_r _ [12, 13, 14, 15, 16, 17, 18, 19, 20, 21, 22, 23, 24, 25, 26, 27, 28, 29, 37, 38, 39, 40, 41, 42, 43, 44] (by decide +kernel) (by decide +kernel)
set_option maxRecDepth 20000 in
theorem gX2_nextToDraw_X3_weightInDrawing : GoodIn wsX2_nextToDraw (wsV RX2 82 RX3 yX3_weightInDrawing wsX3_weightInDrawing) := goodIn_app (goodIn_of _ (by decide +kernel)) ggX2_nextToDraw_X3_weightInDrawing
theorem dX2_nextToDraw_0 : decode cX2_nextToDraw 0 = .ok (.iconst (-1), 1) := by decide +kernel
theorem dX2_nextToDraw_1 : decode cX2_nextToDraw 1 = .ok (.istore_n 2, 1) := by decide +kernel
theorem dX2_nextToDraw_2 : decode cX2_nextToDraw 2 = .ok (.iconst 0, 1) := by decide +kernel
theorem dX2_nextToDraw_3 : decode cX2_nextToDraw 3 = .ok (.istore_n 3, 1) := by decide +kernel
theorem dX2_nextToDraw_4 : decode cX2_nextToDraw 4 = .ok (.iload_n 3, 1) := by decide +kernel
theorem dX2_nextToDraw_5 : decode cX2_nextToDraw 5 = .ok (.aload_n 0, 1) := by decide +kernel
theorem dX2_nextToDraw_6 : decode cX2_nextToDraw 6 = .ok (.getfield 30, 3) := by decide +kernel
theorem dX2_nextToDraw_9 : decode cX2_nextToDraw 9 = .ok (.if_icmp .ge 68, 3) := by decide +kernel
theorem dX2_nextToDraw_12 : decode cX2_nextToDraw 12 = .ok (.aload_n 0, 1) := by decide +kernel
theorem dX2_nextToDraw_13 : decode cX2_nextToDraw 13 = .ok (.getfield 68, 3) := by decide +kernel
theorem dX2_nextToDraw_16 : decode cX2_nextToDraw 16 = .ok (.iload_n 3, 1) := by decide +kernel
theorem dX2_nextToDraw_17 : decode cX2_nextToDraw 17 = .ok (.invokestatic 58, 3) := by decide +kernel
theorem dX2_nextToDraw_20 : decode cX2_nextToDraw 20 = .ok (.ifCond .ne 23, 3) := by decide +kernel
theorem dX2_nextToDraw_23 : decode cX2_nextToDraw 23 = .ok (.aload_n 0, 1) := by decide +kernel
theorem dX2_nextToDraw_24 : decode cX2_nextToDraw 24 = .ok (.getfield 9, 3) := by decide +kernel
theorem dX2_nextToDraw_27 : decode cX2_nextToDraw 27 = .ok (.iload_n 3, 1) := by decide +kernel
theorem dX2_nextToDraw_28 : decode cX2_nextToDraw 28 = .ok (.iaload, 1) := by decide +kernel
theorem dX2_nextToDraw_29 : decode cX2_nextToDraw 29 = .ok (.aload_n 0, 1) := by decide +kernel
theorem dX2_nextToDraw_30 : decode cX2_nextToDraw 30 = .ok (.getfield 68, 3) := by decide +kernel
theorem dX2_nextToDraw_33 : decode cX2_nextToDraw 33 = .ok (.iconst (-1), 1) := by decide +kernel
theorem dX2_nextToDraw_34 : decode cX2_nextToDraw 34 = .ok (.ixor, 1) := by decide +kernel
theorem dX2_nextToDraw_35 : decode cX2_nextToDraw 35 = .ok (.iand, 1) := by decide +kernel
theorem dX2_nextToDraw_36 : decode cX2_nextToDraw 36 = .ok (.ifCond .ne 7, 3) := by decide +kernel
theorem dX2_nextToDraw_39 : decode cX2_nextToDraw 39 = .ok (.iconst 1, 1) := by decide +kernel
theorem dX2_nextToDraw_40 : decode cX2_nextToDraw 40 = .ok (.goto 4, 3) := by decide +kernel
theorem dX2_nextToDraw_43 : decode cX2_nextToDraw 43 = .ok (.iconst 0, 1) := by decide +kernel
theorem dX2_nextToDraw_44 : decode cX2_nextToDraw 44 = .ok (.istore 4, 2) := by decide +kernel
theorem dX2_nextToDraw_46 : decode cX2_nextToDraw 46 = .ok (.iload 4, 2) := by decide +kernel
theorem dX2_nextToDraw_48 : decode cX2_nextToDraw 48 = .ok (.ifCond .eq 23, 3) := by decide +kernel
theorem dX2_nextToDraw_51 : decode cX2_nextToDraw 51 = .ok (.iload_n 2, 1) := by decide +kernel
theorem dX2_nextToDraw_52 : decode cX2_nextToDraw 52 = .ok (.iconst (-1), 1) := by decide +kernel
theorem dX2_nextToDraw_53 : decode cX2_nextToDraw 53 = .ok (.if_icmp .eq 16, 3) := by decide +kernel
theorem dX2_nextToDraw_56 : decode cX2_nextToDraw 56 = .ok (.aload_n 1, 1) := by decide +kernel
theorem dX2_nextToDraw_57 : decode cX2_nextToDraw 57 = .ok (.iload_n 3, 1) := by decide +kernel
theorem dX2_nextToDraw_58 : decode cX2_nextToDraw 58 = .ok (.invokevirtual 82, 3) := by decide +kernel
theorem dX2_nextToDraw_61 : decode cX2_nextToDraw 61 = .ok (.aload_n 1, 1) := by decide +kernel
theorem dX2_nextToDraw_62 : decode cX2_nextToDraw 62 = .ok (.iload_n 2, 1) := by decide +kernel
theorem dX2_nextToDraw_63 : decode cX2_nextToDraw 63 = .ok (.invokevirtual 82, 3) := by decide +kernel
theorem dX2_nextToDraw_66 : decode cX2_nextToDraw 66 = .ok (.if_icmp .ge 5, 3) := by decide +kernel
theorem dX2_nextToDraw_69 : decode cX2_nextToDraw 69 = .ok (.iload_n 3, 1) := by decide +kernel
theorem dX2_nextToDraw_70 : decode cX2_nextToDraw 70 = .ok (.istore_n 2, 1) := by decide +kernel
theorem dX2_nextToDraw_71 : decode cX2_nextToDraw 71 = .ok (.iinc 3 1, 3) := by decide +kernel
theorem dX2_nextToDraw_74 : decode cX2_nextToDraw 74 = .ok (.goto (-70), 3) := by decide +kernel
theorem dX2_nextToDraw_77 : decode cX2_nextToDraw 77 = .ok (.iload_n 2, 1) := by decide +kernel
theorem dX2_nextToDraw_78 : decode cX2_nextToDraw 78 = .ok (.ireturn, 1) := by decide +kernel
set_option maxRecDepth 20000 in
theorem ggX2_layerAbove_X2_hasBit : GoodIn wsX2_layerAbove wsX2_hasBit := goodIn_r _ [10] (by decide +kernel) (by decide +kernel)
set_option maxRecDepth 20000 in
theorem gX2_layerAbove_X2_hasBit : GoodIn wsX2_layerAbove (va_wsS RX2 58 yX2_hasBit wsX2_hasBit) := goodIn_app (goodIn_of _ (by decide +kernel)) ggX2_layerAbove_X2_hasBit
theorem dX2_layerAbove_0 : decode cX2_layerAbove 0 = .ok (.iconst 0, 1) := by decide +kernel
theorem dX2_layerAbove_1 : decode cX2_layerAbove 1 = .ok (.istore_n 2, 1) := by decide +kernel
theorem dX2_layerAbove_2 : decode cX2_layerAbove 2 = .ok (.iconst 0, 1) := by decide +kernel
theorem dX2_layerAbove_3 : decode cX2_layerAbove 3 = .ok (.istore_n 3, 1) := by decide +kernel
theorem dX2_layerAbove_4 : decode cX2_layerAbove 4 = .ok (.iload_n 3, 1) := by decide +kernel
theorem dX2_layerAbove_5 : decode cX2_layerAbove 5 = .ok (.aload_n 0, 1) := by decide +kernel
theorem dX2_layerAbove_6 : decode cX2_layerAbove 6 = .ok (.getfield 30, 3) := by decide +kernel
theorem dX2_layerAbove_9 : decode cX2_layerAbove 9 = .ok (.if_icmp .ge 30, 3) := by decide +kernel
theorem dX2_layerAbove_12 : decode cX2_layerAbove 12 = .ok (.iload_n 1, 1) := by decide +kernel
theorem dX2_layerAbove_13 : decode cX2_layerAbove 13 = .ok (.iload_n 3, 1) := by decide +kernel
theorem dX2_layerAbove_14 : decode cX2_layerAbove 14 = .ok (.invokestatic 58, 3) := by decide +kernel
theorem dX2_layerAbove_17 : decode cX2_layerAbove 17 = .ok (.ifCond .eq 16, 3) := by decide +kernel
theorem dX2_layerAbove_20 : decode cX2_layerAbove 20 = .ok (.iload_n 2, 1) := by decide +kernel
theorem dX2_layerAbove_21 : decode cX2_layerAbove 21 = .ok (.aload_n 0, 1) := by decide +kernel
theorem dX2_layerAbove_22 : decode cX2_layerAbove 22 = .ok (.getfield 21, 3) := by decide +kernel
theorem dX2_layerAbove_25 : decode cX2_layerAbove 25 = .ok (.iload_n 3, 1) := by decide +kernel
theorem dX2_layerAbove_26 : decode cX2_layerAbove 26 = .ok (.iaload, 1) := by decide +kernel
theorem dX2_layerAbove_27 : decode cX2_layerAbove 27 = .ok (.iconst 1, 1) := by decide +kernel
theorem dX2_layerAbove_28 : decode cX2_layerAbove 28 = .ok (.iadd, 1) := by decide +kernel
theorem dX2_layerAbove_29 : decode cX2_layerAbove 29 = .ok (.invokestatic 85, 3) := by decide +kernel
theorem dX2_layerAbove_32 : decode cX2_layerAbove 32 = .ok (.istore_n 2, 1) := by decide +kernel
theorem dX2_layerAbove_33 : decode cX2_layerAbove 33 = .ok (.iinc 3 1, 3) := by decide +kernel
theorem dX2_layerAbove_36 : decode cX2_layerAbove 36 = .ok (.goto (-32), 3) := by decide +kernel
theorem dX2_layerAbove_39 : decode cX2_layerAbove 39 = .ok (.iload_n 2, 1) := by decide +kernel
theorem dX2_layerAbove_40 : decode cX2_layerAbove 40 = .ok (.ireturn, 1) := by decide +kernel
set_option maxRecDepth 20000 in
theorem ggX2_hiddenBy_J6_bitCount_0f7a4 : GoodIn wsX2_hiddenBy wsJ6_bitCount_0f7a4 := goodIn_r _ [5, 6, 7, 8] (by decide +kernel) (by decide +kernel)
set_option maxRecDepth 20000 in
theorem gX2_hiddenBy_J6_bitCount_0f7a4 : GoodIn wsX2_hiddenBy (va_wsS RX2 91 yJ6_bitCount_0f7a4 wsJ6_bitCount_0f7a4) := goodIn_app (goodIn_of _ (by decide +kernel)) ggX2_hiddenBy_J6_bitCount_0f7a4
theorem dX2_hiddenBy_0 : decode cX2_hiddenBy 0 = .ok (.aload_n 0, 1) := by decide +kernel
theorem dX2_hiddenBy_1 : decode cX2_hiddenBy 1 = .ok (.getfield 9, 3) := by decide +kernel
theorem dX2_hiddenBy_4 : decode cX2_hiddenBy 4 = .ok (.iload_n 1, 1) := by decide +kernel
theorem dX2_hiddenBy_5 : decode cX2_hiddenBy 5 = .ok (.iaload, 1) := by decide +kernel
theorem dX2_hiddenBy_6 : decode cX2_hiddenBy 6 = .ok (.invokestatic 91, 3) := by decide +kernel
theorem dX2_hiddenBy_9 : decode cX2_hiddenBy 9 = .ok (.ireturn, 1) := by decide +kernel
set_option maxRecDepth 20000 in
theorem ggX2_hidersOf_X2_hasBit : GoodIn wsX2_hidersOf wsX2_hasBit := goodIn_r _ [6] (by decide +kernel) (by decide +kernel)
set_option maxRecDepth 20000 in
theorem gX2_hidersOf_X2_hasBit : GoodIn wsX2_hidersOf (va_wsS RX2 58 yX2_hasBit wsX2_hasBit) := goodIn_app (goodIn_of _ (by decide +kernel)) ggX2_hidersOf_X2_hasBit
theorem dX2_hidersOf_0 : decode cX2_hidersOf 0 = .ok (.iconst 0, 1) := by decide +kernel
theorem dX2_hidersOf_1 : decode cX2_hidersOf 1 = .ok (.istore_n 2, 1) := by decide +kernel
theorem dX2_hidersOf_2 : decode cX2_hidersOf 2 = .ok (.iconst 0, 1) := by decide +kernel
theorem dX2_hidersOf_3 : decode cX2_hidersOf 3 = .ok (.istore_n 3, 1) := by decide +kernel
theorem dX2_hidersOf_4 : decode cX2_hidersOf 4 = .ok (.iload_n 3, 1) := by decide +kernel
theorem dX2_hidersOf_5 : decode cX2_hidersOf 5 = .ok (.aload_n 0, 1) := by decide +kernel
theorem dX2_hidersOf_6 : decode cX2_hidersOf 6 = .ok (.getfield 30, 3) := by decide +kernel
theorem dX2_hidersOf_9 : decode cX2_hidersOf 9 = .ok (.if_icmp .ge 25, 3) := by decide +kernel
theorem dX2_hidersOf_12 : decode cX2_hidersOf 12 = .ok (.aload_n 0, 1) := by decide +kernel
theorem dX2_hidersOf_13 : decode cX2_hidersOf 13 = .ok (.getfield 9, 3) := by decide +kernel
theorem dX2_hidersOf_16 : decode cX2_hidersOf 16 = .ok (.iload_n 3, 1) := by decide +kernel
theorem dX2_hidersOf_17 : decode cX2_hidersOf 17 = .ok (.iaload, 1) := by decide +kernel
theorem dX2_hidersOf_18 : decode cX2_hidersOf 18 = .ok (.iload_n 1, 1) := by decide +kernel
theorem dX2_hidersOf_19 : decode cX2_hidersOf 19 = .ok (.invokestatic 58, 3) := by decide +kernel
theorem dX2_hidersOf_22 : decode cX2_hidersOf 22 = .ok (.ifCond .eq 6, 3) := by decide +kernel
theorem dX2_hidersOf_25 : decode cX2_hidersOf 25 = .ok (.iinc 2 1, 3) := by decide +kernel
theorem dX2_hidersOf_28 : decode cX2_hidersOf 28 = .ok (.iinc 3 1, 3) := by decide +kernel
theorem dX2_hidersOf_31 : decode cX2_hidersOf 31 = .ok (.goto (-27), 3) := by decide +kernel
theorem dX2_hidersOf_34 : decode cX2_hidersOf 34 = .ok (.iload_n 2, 1) := by decide +kernel
theorem dX2_hidersOf_35 : decode cX2_hidersOf 35 = .ok (.ireturn, 1) := by decide +kernel
set_option maxRecDepth 20000 in
theorem ggX2_hidings_X2_hiddenBy : GoodIn wsX2_hidings wsX2_hiddenBy := goodIn_r _ [6, 7, 8, 9, 10, 11, 12, 13, 14, 15, 16, 17, 18, 19, 20, 21] (by decide +kernel) (by decide +kernel)
set_option maxRecDepth 20000 in
theorem gX2_hidings_X2_hiddenBy : GoodIn wsX2_hidings (wsV RX2 96 RX2 yX2_hiddenBy wsX2_hiddenBy) := goodIn_app (goodIn_of _ (by decide +kernel)) ggX2_hidings_X2_hiddenBy
theorem dX2_hidings_0 : decode cX2_hidings 0 = .ok (.iconst 0, 1) := by decide +kernel
theorem dX2_hidings_1 : decode cX2_hidings 1 = .ok (.istore_n 1, 1) := by decide +kernel
theorem dX2_hidings_2 : decode cX2_hidings 2 = .ok (.iconst 0, 1) := by decide +kernel
theorem dX2_hidings_3 : decode cX2_hidings 3 = .ok (.istore_n 2, 1) := by decide +kernel
theorem dX2_hidings_4 : decode cX2_hidings 4 = .ok (.iload_n 2, 1) := by decide +kernel
theorem dX2_hidings_5 : decode cX2_hidings 5 = .ok (.aload_n 0, 1) := by decide +kernel
theorem dX2_hidings_6 : decode cX2_hidings 6 = .ok (.getfield 30, 3) := by decide +kernel
theorem dX2_hidings_9 : decode cX2_hidings 9 = .ok (.if_icmp .ge 17, 3) := by decide +kernel
theorem dX2_hidings_12 : decode cX2_hidings 12 = .ok (.iload_n 1, 1) := by decide +kernel
theorem dX2_hidings_13 : decode cX2_hidings 13 = .ok (.aload_n 0, 1) := by decide +kernel
theorem dX2_hidings_14 : decode cX2_hidings 14 = .ok (.iload_n 2, 1) := by decide +kernel
theorem dX2_hidings_15 : decode cX2_hidings 15 = .ok (.invokevirtual 96, 3) := by decide +kernel
theorem dX2_hidings_18 : decode cX2_hidings 18 = .ok (.iadd, 1) := by decide +kernel
theorem dX2_hidings_19 : decode cX2_hidings 19 = .ok (.istore_n 1, 1) := by decide +kernel
theorem dX2_hidings_20 : decode cX2_hidings 20 = .ok (.iinc 2 1, 3) := by decide +kernel
theorem dX2_hidings_23 : decode cX2_hidings 23 = .ok (.goto (-19), 3) := by decide +kernel
theorem dX2_hidings_26 : decode cX2_hidings 26 = .ok (.iload_n 1, 1) := by decide +kernel
theorem dX2_hidings_27 : decode cX2_hidings 27 = .ok (.ireturn, 1) := by decide +kernel
set_option maxRecDepth 20000 in
theorem ggX2_hidingsNotIn_J6_bitCount_0f7a4 : GoodIn wsX2_hidingsNotIn wsJ6_bitCount_0f7a4 := goodIn_r _ [6, 7, 8, 9] (by decide +kernel) (by decide +kernel)
set_option maxRecDepth 20000 in
theorem gX2_hidingsNotIn_J6_bitCount_0f7a4 : GoodIn wsX2_hidingsNotIn (va_wsS RX2 91 yJ6_bitCount_0f7a4 wsJ6_bitCount_0f7a4) := goodIn_app (goodIn_of _ (by decide +kernel)) ggX2_hidingsNotIn_J6_bitCount_0f7a4
theorem dX2_hidingsNotIn_0 : decode cX2_hidingsNotIn 0 = .ok (.iconst 0, 1) := by decide +kernel
theorem dX2_hidingsNotIn_1 : decode cX2_hidingsNotIn 1 = .ok (.istore_n 2, 1) := by decide +kernel
theorem dX2_hidingsNotIn_2 : decode cX2_hidingsNotIn 2 = .ok (.iconst 0, 1) := by decide +kernel
theorem dX2_hidingsNotIn_3 : decode cX2_hidingsNotIn 3 = .ok (.istore_n 3, 1) := by decide +kernel
theorem dX2_hidingsNotIn_4 : decode cX2_hidingsNotIn 4 = .ok (.iload_n 3, 1) := by decide +kernel
theorem dX2_hidingsNotIn_5 : decode cX2_hidingsNotIn 5 = .ok (.aload_n 0, 1) := by decide +kernel
theorem dX2_hidingsNotIn_6 : decode cX2_hidingsNotIn 6 = .ok (.getfield 30, 3) := by decide +kernel
theorem dX2_hidingsNotIn_9 : decode cX2_hidingsNotIn 9 = .ok (.if_icmp .ge 30, 3) := by decide +kernel
theorem dX2_hidingsNotIn_12 : decode cX2_hidingsNotIn 12 = .ok (.iload_n 2, 1) := by decide +kernel
theorem dX2_hidingsNotIn_13 : decode cX2_hidingsNotIn 13 = .ok (.aload_n 0, 1) := by decide +kernel
theorem dX2_hidingsNotIn_14 : decode cX2_hidingsNotIn 14 = .ok (.getfield 9, 3) := by decide +kernel
theorem dX2_hidingsNotIn_17 : decode cX2_hidingsNotIn 17 = .ok (.iload_n 3, 1) := by decide +kernel
theorem dX2_hidingsNotIn_18 : decode cX2_hidingsNotIn 18 = .ok (.iaload, 1) := by decide +kernel
theorem dX2_hidingsNotIn_19 : decode cX2_hidingsNotIn 19 = .ok (.aload_n 1, 1) := by decide +kernel
theorem dX2_hidingsNotIn_20 : decode cX2_hidingsNotIn 20 = .ok (.getfield 9, 3) := by decide +kernel
theorem dX2_hidingsNotIn_23 : decode cX2_hidingsNotIn 23 = .ok (.iload_n 3, 1) := by decide +kernel
theorem dX2_hidingsNotIn_24 : decode cX2_hidingsNotIn 24 = .ok (.iaload, 1) := by decide +kernel
theorem dX2_hidingsNotIn_25 : decode cX2_hidingsNotIn 25 = .ok (.iconst (-1), 1) := by decide +kernel
theorem dX2_hidingsNotIn_26 : decode cX2_hidingsNotIn 26 = .ok (.ixor, 1) := by decide +kernel
theorem dX2_hidingsNotIn_27 : decode cX2_hidingsNotIn 27 = .ok (.iand, 1) := by decide +kernel
theorem dX2_hidingsNotIn_28 : decode cX2_hidingsNotIn 28 = .ok (.invokestatic 91, 3) := by decide +kernel
theorem dX2_hidingsNotIn_31 : decode cX2_hidingsNotIn 31 = .ok (.iadd, 1) := by decide +kernel
theorem dX2_hidingsNotIn_32 : decode cX2_hidingsNotIn 32 = .ok (.istore_n 2, 1) := by decide +kernel
theorem dX2_hidingsNotIn_33 : decode cX2_hidingsNotIn 33 = .ok (.iinc 3 1, 3) := by decide +kernel
theorem dX2_hidingsNotIn_36 : decode cX2_hidingsNotIn 36 = .ok (.goto (-32), 3) := by decide +kernel
theorem dX2_hidingsNotIn_39 : decode cX2_hidingsNotIn 39 = .ok (.iload_n 2, 1) := by decide +kernel
theorem dX2_hidingsNotIn_40 : decode cX2_hidingsNotIn 40 = .ok (.ireturn, 1) := by decide +kernel
theorem dX2_slotDrawn_0 : decode cX2_slotDrawn 0 = .ok (.iload_n 1, 1) := by decide +kernel
theorem dX2_slotDrawn_1 : decode cX2_slotDrawn 1 = .ok (.ifCond .lt 20, 3) := by decide +kernel
theorem dX2_slotDrawn_4 : decode cX2_slotDrawn 4 = .ok (.iload_n 1, 1) := by decide +kernel
theorem dX2_slotDrawn_5 : decode cX2_slotDrawn 5 = .ok (.aload_n 0, 1) := by decide +kernel
theorem dX2_slotDrawn_6 : decode cX2_slotDrawn 6 = .ok (.getfield 71, 3) := by decide +kernel
theorem dX2_slotDrawn_9 : decode cX2_slotDrawn 9 = .ok (.if_icmp .ge 12, 3) := by decide +kernel
theorem dX2_slotDrawn_12 : decode cX2_slotDrawn 12 = .ok (.aload_n 0, 1) := by decide +kernel
theorem dX2_slotDrawn_13 : decode cX2_slotDrawn 13 = .ok (.getfield 18, 3) := by decide +kernel
theorem dX2_slotDrawn_16 : decode cX2_slotDrawn 16 = .ok (.iload_n 1, 1) := by decide +kernel
theorem dX2_slotDrawn_17 : decode cX2_slotDrawn 17 = .ok (.iaload, 1) := by decide +kernel
theorem dX2_slotDrawn_18 : decode cX2_slotDrawn 18 = .ok (.goto 4, 3) := by decide +kernel
theorem dX2_slotDrawn_21 : decode cX2_slotDrawn 21 = .ok (.iconst (-1), 1) := by decide +kernel
theorem dX2_slotDrawn_22 : decode cX2_slotDrawn 22 = .ok (.ireturn, 1) := by decide +kernel
theorem dX2_greatestLayer_0 : decode cX2_greatestLayer 0 = .ok (.bipush (-5), 2) := by decide +kernel
theorem dX2_greatestLayer_2 : decode cX2_greatestLayer 2 = .ok (.istore_n 1, 1) := by decide +kernel
theorem dX2_greatestLayer_3 : decode cX2_greatestLayer 3 = .ok (.iconst 0, 1) := by decide +kernel
theorem dX2_greatestLayer_4 : decode cX2_greatestLayer 4 = .ok (.istore_n 2, 1) := by decide +kernel
theorem dX2_greatestLayer_5 : decode cX2_greatestLayer 5 = .ok (.iload_n 2, 1) := by decide +kernel
theorem dX2_greatestLayer_6 : decode cX2_greatestLayer 6 = .ok (.aload_n 0, 1) := by decide +kernel
theorem dX2_greatestLayer_7 : decode cX2_greatestLayer 7 = .ok (.getfield 30, 3) := by decide +kernel
theorem dX2_greatestLayer_10 : decode cX2_greatestLayer 10 = .ok (.if_icmp .ge 20, 3) := by decide +kernel
theorem dX2_greatestLayer_13 : decode cX2_greatestLayer 13 = .ok (.iload_n 1, 1) := by decide +kernel
theorem dX2_greatestLayer_14 : decode cX2_greatestLayer 14 = .ok (.aload_n 0, 1) := by decide +kernel
theorem dX2_greatestLayer_15 : decode cX2_greatestLayer 15 = .ok (.getfield 21, 3) := by decide +kernel
theorem dX2_greatestLayer_18 : decode cX2_greatestLayer 18 = .ok (.iload_n 2, 1) := by decide +kernel
theorem dX2_greatestLayer_19 : decode cX2_greatestLayer 19 = .ok (.iaload, 1) := by decide +kernel
theorem dX2_greatestLayer_20 : decode cX2_greatestLayer 20 = .ok (.invokestatic 85, 3) := by decide +kernel
theorem dX2_greatestLayer_23 : decode cX2_greatestLayer 23 = .ok (.istore_n 1, 1) := by decide +kernel
theorem dX2_greatestLayer_24 : decode cX2_greatestLayer 24 = .ok (.iinc 2 1, 3) := by decide +kernel
theorem dX2_greatestLayer_27 : decode cX2_greatestLayer 27 = .ok (.goto (-22), 3) := by decide +kernel
theorem dX2_greatestLayer_30 : decode cX2_greatestLayer 30 = .ok (.iload_n 1, 1) := by decide +kernel
theorem dX2_greatestLayer_31 : decode cX2_greatestLayer 31 = .ok (.ireturn, 1) := by decide +kernel
set_option maxRecDepth 20000 in
theorem ggX2_firstNotDrawnUnder_X2_hasBit : GoodIn wsX2_firstNotDrawnUnder wsX2_hasBit := goodIn_r _ [7] (by decide +kernel) (by decide +kernel)
set_option maxRecDepth 20000 in
theorem gX2_firstNotDrawnUnder_X2_hasBit : GoodIn wsX2_firstNotDrawnUnder (va_wsS RX2 58 yX2_hasBit wsX2_hasBit) := goodIn_app (goodIn_of _ (by decide +kernel)) ggX2_firstNotDrawnUnder_X2_hasBit
theorem dX2_firstNotDrawnUnder_0 : decode cX2_firstNotDrawnUnder 0 = .ok (.iconst 0, 1) := by decide +kernel
theorem dX2_firstNotDrawnUnder_1 : decode cX2_firstNotDrawnUnder 1 = .ok (.istore_n 2, 1) := by decide +kernel
theorem dX2_firstNotDrawnUnder_2 : decode cX2_firstNotDrawnUnder 2 = .ok (.iload_n 2, 1) := by decide +kernel
theorem dX2_firstNotDrawnUnder_3 : decode cX2_firstNotDrawnUnder 3 = .ok (.aload_n 0, 1) := by decide +kernel
theorem dX2_firstNotDrawnUnder_4 : decode cX2_firstNotDrawnUnder 4 = .ok (.getfield 30, 3) := by decide +kernel
theorem dX2_firstNotDrawnUnder_7 : decode cX2_firstNotDrawnUnder 7 = .ok (.if_icmp .ge 35, 3) := by decide +kernel
theorem dX2_firstNotDrawnUnder_10 : decode cX2_firstNotDrawnUnder 10 = .ok (.aload_n 0, 1) := by decide +kernel
theorem dX2_firstNotDrawnUnder_11 : decode cX2_firstNotDrawnUnder 11 = .ok (.getfield 9, 3) := by decide +kernel
theorem dX2_firstNotDrawnUnder_14 : decode cX2_firstNotDrawnUnder 14 = .ok (.iload_n 1, 1) := by decide +kernel
theorem dX2_firstNotDrawnUnder_15 : decode cX2_firstNotDrawnUnder 15 = .ok (.iaload, 1) := by decide +kernel
theorem dX2_firstNotDrawnUnder_16 : decode cX2_firstNotDrawnUnder 16 = .ok (.iload_n 2, 1) := by decide +kernel
theorem dX2_firstNotDrawnUnder_17 : decode cX2_firstNotDrawnUnder 17 = .ok (.invokestatic 58, 3) := by decide +kernel
theorem dX2_firstNotDrawnUnder_20 : decode cX2_firstNotDrawnUnder 20 = .ok (.ifCond .eq 16, 3) := by decide +kernel
theorem dX2_firstNotDrawnUnder_23 : decode cX2_firstNotDrawnUnder 23 = .ok (.aload_n 0, 1) := by decide +kernel
theorem dX2_firstNotDrawnUnder_24 : decode cX2_firstNotDrawnUnder 24 = .ok (.getfield 68, 3) := by decide +kernel
theorem dX2_firstNotDrawnUnder_27 : decode cX2_firstNotDrawnUnder 27 = .ok (.iload_n 2, 1) := by decide +kernel
theorem dX2_firstNotDrawnUnder_28 : decode cX2_firstNotDrawnUnder 28 = .ok (.invokestatic 58, 3) := by decide +kernel
theorem dX2_firstNotDrawnUnder_31 : decode cX2_firstNotDrawnUnder 31 = .ok (.ifCond .ne 5, 3) := by decide +kernel
theorem dX2_firstNotDrawnUnder_34 : decode cX2_firstNotDrawnUnder 34 = .ok (.iload_n 2, 1) := by decide +kernel
theorem dX2_firstNotDrawnUnder_35 : decode cX2_firstNotDrawnUnder 35 = .ok (.ireturn, 1) := by decide +kernel
theorem dX2_firstNotDrawnUnder_36 : decode cX2_firstNotDrawnUnder 36 = .ok (.iinc 2 1, 3) := by decide +kernel
theorem dX2_firstNotDrawnUnder_39 : decode cX2_firstNotDrawnUnder 39 = .ok (.goto (-37), 3) := by decide +kernel
theorem dX2_firstNotDrawnUnder_42 : decode cX2_firstNotDrawnUnder 42 = .ok (.iconst (-1), 1) := by decide +kernel
theorem dX2_firstNotDrawnUnder_43 : decode cX2_firstNotDrawnUnder 43 = .ok (.ireturn, 1) := by decide +kernel
set_option maxRecDepth 20000 in
theorem ggX2_isInRing_X2_hasBit : GoodIn wsX2_isInRing wsX2_hasBit := goodIn_r _ [5] (by decide +kernel) (by decide +kernel)
set_option maxRecDepth 20000 in
theorem gX2_isInRing_X2_hasBit : GoodIn wsX2_isInRing (va_wsS RX2 58 yX2_hasBit wsX2_hasBit) := goodIn_app (goodIn_of _ (by decide +kernel)) ggX2_isInRing_X2_hasBit
theorem dX2_isInRing_0 : decode cX2_isInRing 0 = .ok (.aload_n 0, 1) := by decide +kernel
theorem dX2_isInRing_1 : decode cX2_isInRing 1 = .ok (.getfield 15, 3) := by decide +kernel
theorem dX2_isInRing_4 : decode cX2_isInRing 4 = .ok (.iload_n 1, 1) := by decide +kernel
theorem dX2_isInRing_5 : decode cX2_isInRing 5 = .ok (.iaload, 1) := by decide +kernel
theorem dX2_isInRing_6 : decode cX2_isInRing 6 = .ok (.iload_n 1, 1) := by decide +kernel
theorem dX2_isInRing_7 : decode cX2_isInRing 7 = .ok (.invokestatic 58, 3) := by decide +kernel
theorem dX2_isInRing_10 : decode cX2_isInRing 10 = .ok (.ireturn, 1) := by decide +kernel
set_option maxRecDepth 20000 in
theorem ggX2_boxesInRings_X2_isInRing : GoodIn wsX2_boxesInRings wsX2_isInRing := goodIn_r _ [6, 7, 8, 9, 5, 10, 11, 12, 13, 14, 15, 16, 17] (by decide +kernel) (by decide +kernel)
set_option maxRecDepth 20000 in
theorem gX2_boxesInRings_X2_isInRing : GoodIn wsX2_boxesInRings (wsV RX2 99 RX2 yX2_isInRing wsX2_isInRing) := goodIn_app (goodIn_of _ (by decide +kernel)) ggX2_boxesInRings_X2_isInRing
theorem dX2_boxesInRings_0 : decode cX2_boxesInRings 0 = .ok (.iconst 0, 1) := by decide +kernel
theorem dX2_boxesInRings_1 : decode cX2_boxesInRings 1 = .ok (.istore_n 1, 1) := by decide +kernel
theorem dX2_boxesInRings_2 : decode cX2_boxesInRings 2 = .ok (.iconst 0, 1) := by decide +kernel
theorem dX2_boxesInRings_3 : decode cX2_boxesInRings 3 = .ok (.istore_n 2, 1) := by decide +kernel
theorem dX2_boxesInRings_4 : decode cX2_boxesInRings 4 = .ok (.iload_n 2, 1) := by decide +kernel
theorem dX2_boxesInRings_5 : decode cX2_boxesInRings 5 = .ok (.aload_n 0, 1) := by decide +kernel
theorem dX2_boxesInRings_6 : decode cX2_boxesInRings 6 = .ok (.getfield 30, 3) := by decide +kernel
theorem dX2_boxesInRings_9 : decode cX2_boxesInRings 9 = .ok (.if_icmp .ge 20, 3) := by decide +kernel
theorem dX2_boxesInRings_12 : decode cX2_boxesInRings 12 = .ok (.aload_n 0, 1) := by decide +kernel
theorem dX2_boxesInRings_13 : decode cX2_boxesInRings 13 = .ok (.iload_n 2, 1) := by decide +kernel
theorem dX2_boxesInRings_14 : decode cX2_boxesInRings 14 = .ok (.invokevirtual 99, 3) := by decide +kernel
theorem dX2_boxesInRings_17 : decode cX2_boxesInRings 17 = .ok (.ifCond .eq 6, 3) := by decide +kernel
theorem dX2_boxesInRings_20 : decode cX2_boxesInRings 20 = .ok (.iinc 1 1, 3) := by decide +kernel
theorem dX2_boxesInRings_23 : decode cX2_boxesInRings 23 = .ok (.iinc 2 1, 3) := by decide +kernel
theorem dX2_boxesInRings_26 : decode cX2_boxesInRings 26 = .ok (.goto (-22), 3) := by decide +kernel
theorem dX2_boxesInRings_29 : decode cX2_boxesInRings 29 = .ok (.iload_n 1, 1) := by decide +kernel
theorem dX2_boxesInRings_30 : decode cX2_boxesInRings 30 = .ok (.ireturn, 1) := by decide +kernel
set_option maxRecDepth 20000 in
theorem ggX2_shortestRing_X2_shortestRingOf : GoodIn wsX2_shortestRing wsX2_shortestRingOf := goodIn_r _ [6, 7, 1, 8, 9, 5, 10, 11, 12, 13, 14, 15, 16, 17, 18, 19, 20, 21] (by decide +kernel) (by decide +kernel)
set_option maxRecDepth 20000 in
theorem gX2_shortestRing_X2_shortestRingOf : GoodIn wsX2_shortestRing (wsV RX2 103 RX2 yX2_shortestRingOf wsX2_shortestRingOf) := goodIn_app (goodIn_of _ (by decide +kernel)) ggX2_shortestRing_X2_shortestRingOf
theorem dX2_shortestRing_0 : decode cX2_shortestRing 0 = .ok (.bipush (-5), 2) := by decide +kernel
theorem dX2_shortestRing_2 : decode cX2_shortestRing 2 = .ok (.istore_n 1, 1) := by decide +kernel
theorem dX2_shortestRing_3 : decode cX2_shortestRing 3 = .ok (.iconst 0, 1) := by decide +kernel
theorem dX2_shortestRing_4 : decode cX2_shortestRing 4 = .ok (.istore_n 2, 1) := by decide +kernel
theorem dX2_shortestRing_5 : decode cX2_shortestRing 5 = .ok (.iload_n 2, 1) := by decide +kernel
theorem dX2_shortestRing_6 : decode cX2_shortestRing 6 = .ok (.aload_n 0, 1) := by decide +kernel
theorem dX2_shortestRing_7 : decode cX2_shortestRing 7 = .ok (.getfield 30, 3) := by decide +kernel
theorem dX2_shortestRing_10 : decode cX2_shortestRing 10 = .ok (.if_icmp .ge 34, 3) := by decide +kernel
theorem dX2_shortestRing_13 : decode cX2_shortestRing 13 = .ok (.aload_n 0, 1) := by decide +kernel
theorem dX2_shortestRing_14 : decode cX2_shortestRing 14 = .ok (.iload_n 2, 1) := by decide +kernel
theorem dX2_shortestRing_15 : decode cX2_shortestRing 15 = .ok (.invokevirtual 103, 3) := by decide +kernel
theorem dX2_shortestRing_18 : decode cX2_shortestRing 18 = .ok (.istore_n 3, 1) := by decide +kernel
theorem dX2_shortestRing_19 : decode cX2_shortestRing 19 = .ok (.iload_n 3, 1) := by decide +kernel
theorem dX2_shortestRing_20 : decode cX2_shortestRing 20 = .ok (.bipush (-5), 2) := by decide +kernel
theorem dX2_shortestRing_22 : decode cX2_shortestRing 22 = .ok (.if_icmp .eq 16, 3) := by decide +kernel
theorem dX2_shortestRing_25 : decode cX2_shortestRing 25 = .ok (.iload_n 1, 1) := by decide +kernel
theorem dX2_shortestRing_26 : decode cX2_shortestRing 26 = .ok (.bipush (-5), 2) := by decide +kernel
theorem dX2_shortestRing_28 : decode cX2_shortestRing 28 = .ok (.if_icmp .eq 8, 3) := by decide +kernel
theorem dX2_shortestRing_31 : decode cX2_shortestRing 31 = .ok (.iload_n 3, 1) := by decide +kernel
theorem dX2_shortestRing_32 : decode cX2_shortestRing 32 = .ok (.iload_n 1, 1) := by decide +kernel
theorem dX2_shortestRing_33 : decode cX2_shortestRing 33 = .ok (.if_icmp .ge 5, 3) := by decide +kernel
theorem dX2_shortestRing_36 : decode cX2_shortestRing 36 = .ok (.iload_n 3, 1) := by decide +kernel
theorem dX2_shortestRing_37 : decode cX2_shortestRing 37 = .ok (.istore_n 1, 1) := by decide +kernel
theorem dX2_shortestRing_38 : decode cX2_shortestRing 38 = .ok (.iinc 2 1, 3) := by decide +kernel
theorem dX2_shortestRing_41 : decode cX2_shortestRing 41 = .ok (.goto (-36), 3) := by decide +kernel
theorem dX2_shortestRing_44 : decode cX2_shortestRing 44 = .ok (.iload_n 1, 1) := by decide +kernel
theorem dX2_shortestRing_45 : decode cX2_shortestRing 45 = .ok (.ireturn, 1) := by decide +kernel
set_option maxRecDepth 20000 in
theorem ggX2_shortestRingOf_X2_hasBit : GoodIn wsX2_shortestRingOf wsX2_hasBit := goodIn_r _ [6] (by decide +kernel) (by decide +kernel)
set_option maxRecDepth 20000 in
theorem gX2_shortestRingOf_X2_hasBit : GoodIn wsX2_shortestRingOf (va_wsS RX2 58 yX2_hasBit wsX2_hasBit) := goodIn_app (goodIn_of _ (by decide +kernel)) ggX2_shortestRingOf_X2_hasBit
set_option maxRecDepth 20000 in
theorem ggX2_shortestRingOf_X2_bitsHiddenByAll : GoodIn wsX2_shortestRingOf wsX2_bitsHiddenByAll := goodIn_r _ [10, 2, 1, 3, 4, 5, 6, 11, 12, 13, 14, 15, 16, 17] (by decide +kernel) (by decide +kernel)
set_option maxRecDepth 20000 in
theorem gX2_shortestRingOf_X2_bitsHiddenByAll : GoodIn wsX2_shortestRingOf (wsV RX2 106 RX2 yX2_bitsHiddenByAll wsX2_bitsHiddenByAll) := goodIn_app (goodIn_of _ (by decide +kernel)) ggX2_shortestRingOf_X2_bitsHiddenByAll
theorem dX2_shortestRingOf_0 : decode cX2_shortestRingOf 0 = .ok (.aload_n 0, 1) := by decide +kernel
theorem dX2_shortestRingOf_1 : decode cX2_shortestRingOf 1 = .ok (.getfield 9, 3) := by decide +kernel
theorem dX2_shortestRingOf_4 : decode cX2_shortestRingOf 4 = .ok (.iload_n 1, 1) := by decide +kernel
theorem dX2_shortestRingOf_5 : decode cX2_shortestRingOf 5 = .ok (.iaload, 1) := by decide +kernel
theorem dX2_shortestRingOf_6 : decode cX2_shortestRingOf 6 = .ok (.istore_n 2, 1) := by decide +kernel
