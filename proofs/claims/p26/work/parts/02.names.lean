theorem goodIn_r {big : List Cond} (ws : List Cond) (ps : List Nat) (hp : ws = ps.filterMap (fun i => big[i]?)) (h : ws.all goodWord = true) : GoodIn big ws := by
  intro w hw
  have h1 := List.all_eq_true.mp h w hw
  rw [hp] at hw
  obtain ⟨i, -, hi⟩ := List.mem_filterMap.mp hw
  have hm : w ∈ big := by first | exact List.mem_of_getElem? hi | exact List.getElem?_mem hi
  exact ⟨hm, good_of_word h1⟩
theorem goodIn_app {big a b : List Cond} (ha : GoodIn big a) (hb : GoodIn big b) : GoodIn big (a ++ b) := fun w h => (List.mem_append.mp h).elim (ha w) (hb w)
theorem goodIn_ca {big a b : List Cond} {c : Cond} (ha : GoodIn big (c :: a)) (hb : GoodIn big b) : GoodIn big (c :: (a ++ b)) := fun w h => (List.mem_cons.mp h).elim (fun e => ha w (List.mem_cons.mpr (Or.inl e))) (fun h => (List.mem_append.mp h).elim (fun h => ha w (List.mem_cons.mpr (Or.inr h))) (hb w))
theorem goodIn_sub {big ws : List Cond} (hm : ∀ w ∈ ws, w ∈ big) (h : ws.all goodWord = true) : GoodIn big ws := fun w hw => ⟨hm w hw, good_of_word (List.all_eq_true.mp h w hw)⟩
def RX0 : String := "HidingBoxes$Box"
def TX0 : u_T := fun k => match k with
  | 0 => ("HidingBoxes$Box", "number", "I", false)
  | 1 => ("HidingBoxes$Box", "low", "[I", true)
  | _ => ("HidingBoxes$Box", "high", "[I", true)
def tyX0 : Nat → FieldType := fun k => match k with
  | 0 => .int
  | 1 => .array .int
  | _ => .array .int
abbrev wsX00 : List Cond := u_ws RX0 TX0 3
theorem nmX0 : ∀ a, a < 3 → ∀ b, b < 3 → a ≠ b → (TX0 a).2.1 ≠ (TX0 b).2.1 := by decide +kernel
theorem tyX0_ok : ∀ k, k < 3 → parseFieldDescriptor (TX0 k).2.2.1 = some (tyX0 k) := by decide +kernel
abbrev cX0_init : ByteArray := prog_2_method_1_code
def yX0_init : MethodName := ⟨RX0, "<init>", "()V"⟩
abbrev cX0_copyFrom : ByteArray := prog_2_method_2_code
def yX0_copyFrom : MethodName := ⟨RX0, "copyFrom", "(LHidingBoxes$Box;)V"⟩
abbrev cX0_lay : ByteArray := prog_2_method_3_code
def yX0_lay : MethodName := ⟨RX0, "lay", "(III)Z"⟩
abbrev cX0_shift : ByteArray := prog_2_method_4_code
def yX0_shift : MethodName := ⟨RX0, "shift", "(II)V"⟩
abbrev cX0_size : ByteArray := prog_2_method_5_code
def yX0_size : MethodName := ⟨RX0, "size", "(I)I"⟩
abbrev cX0_volume : ByteArray := prog_2_method_6_code
def yX0_volume : MethodName := ⟨RX0, "volume", "()I"⟩
abbrev cX0_sumOfCorner : ByteArray := prog_2_method_7_code
def yX0_sumOfCorner : MethodName := ⟨RX0, "sumOfCorner", "()I"⟩
abbrev cX0_longestDirection : ByteArray := prog_2_method_8_code
def yX0_longestDirection : MethodName := ⟨RX0, "longestDirection", "()I"⟩
abbrev cX0_meets : ByteArray := prog_2_method_9_code
def yX0_meets : MethodName := ⟨RX0, "meets", "(LHidingBoxes$Box;I)Z"⟩
abbrev cX0_cuts : ByteArray := prog_2_method_10_code
def yX0_cuts : MethodName := ⟨RX0, "cuts", "(LHidingBoxes$Box;)Z"⟩
abbrev cX0_meetsInDifference : ByteArray := prog_2_method_11_code
def yX0_meetsInDifference : MethodName := ⟨RX0, "meetsInDifference", "(LHidingBoxes$Box;II)Z"⟩
abbrev cX0_overlapsOutlineOf : ByteArray := prog_2_method_12_code
def yX0_overlapsOutlineOf : MethodName := ⟨RX0, "overlapsOutlineOf", "(LHidingBoxes$Box;)Z"⟩
abbrev cX0_directionOfHiding : ByteArray := prog_2_method_13_code
def yX0_directionOfHiding : MethodName := ⟨RX0, "directionOfHiding", "(LHidingBoxes$Box;)I"⟩
abbrev cX0_isBelow : ByteArray := prog_2_method_14_code
def yX0_isBelow : MethodName := ⟨RX0, "isBelow", "(LHidingBoxes$Box;)Z"⟩
abbrev cX0_coversRow : ByteArray := prog_2_method_15_code
def yX0_coversRow : MethodName := ⟨RX0, "coversRow", "(I)Z"⟩
abbrev cX0_rowOfCells : ByteArray := prog_2_method_16_code
def yX0_rowOfCells : MethodName := ⟨RX0, "rowOfCells", "()I"⟩
def RX1 : String := "HidingBoxes$History"
def TX1 : u_T := fun k => match k with
  | 0 => ("HidingBoxes$History", "states", "[LHidingBoxes$Space;", true)
  | _ => ("HidingBoxes$History", "count", "I", false)
def tyX1 : Nat → FieldType := fun k => match k with
  | 0 => .array (.object "HidingBoxes$Space")
  | _ => .int
abbrev wsX10 : List Cond := u_ws RX1 TX1 2
theorem nmX1 : ∀ a, a < 2 → ∀ b, b < 2 → a ≠ b → (TX1 a).2.1 ≠ (TX1 b).2.1 := by decide +kernel
theorem tyX1_ok : ∀ k, k < 2 → parseFieldDescriptor (TX1 k).2.2.1 = some (tyX1 k) := by decide +kernel
abbrev cX1_init : ByteArray := prog_3_method_1_code
def yX1_init : MethodName := ⟨RX1, "<init>", "()V"⟩
abbrev cX1_remember : ByteArray := prog_3_method_2_code
def yX1_remember : MethodName := ⟨RX1, "remember", "(LHidingBoxes$Space;)V"⟩
abbrev cX1_dropOldest : ByteArray := prog_3_method_3_code
def yX1_dropOldest : MethodName := ⟨RX1, "dropOldest", "()V"⟩
def RX2 : String := "HidingBoxes$Picture"
def TX2 : u_T := fun k => match k with
  | 0 => ("HidingBoxes$Picture", "count", "I", false)
  | 1 => ("HidingBoxes$Picture", "hides", "[I", true)
  | 2 => ("HidingBoxes$Picture", "chains", "[I", true)
  | 3 => ("HidingBoxes$Picture", "order", "[I", true)
  | 4 => ("HidingBoxes$Picture", "drawnBits", "I", false)
  | 5 => ("HidingBoxes$Picture", "drawnCount", "I", false)
  | _ => ("HidingBoxes$Picture", "layers", "[I", true)
def tyX2 : Nat → FieldType := fun k => match k with
  | 0 => .int
  | 1 => .array .int
  | 2 => .array .int
  | 3 => .array .int
  | 4 => .int
  | 5 => .int
  | _ => .array .int
abbrev wsX20 : List Cond := u_ws RX2 TX2 7
theorem nmX2 : ∀ a, a < 7 → ∀ b, b < 7 → a ≠ b → (TX2 a).2.1 ≠ (TX2 b).2.1 := by decide +kernel
theorem tyX2_ok : ∀ k, k < 7 → parseFieldDescriptor (TX2 k).2.2.1 = some (tyX2 k) := by decide +kernel
abbrev cX2_init : ByteArray := prog_4_method_1_code
def yX2_init : MethodName := ⟨RX2, "<init>", "()V"⟩
abbrev cX2_look : ByteArray := prog_4_method_2_code
def yX2_look : MethodName := ⟨RX2, "look", "(LHidingBoxes$Space;)V"⟩
abbrev cX2_bitsHiddenBy : ByteArray := prog_4_method_3_code
def yX2_bitsHiddenBy : MethodName := ⟨RX2, "bitsHiddenBy", "(LHidingBoxes$Space;I)I"⟩
abbrev cX2_hasBit : ByteArray := prog_4_method_4_code
def yX2_hasBit : MethodName := ⟨RX2, "hasBit", "(II)Z"⟩
abbrev cX2_followChains : ByteArray := prog_4_method_5_code
def yX2_followChains : MethodName := ⟨RX2, "followChains", "()V"⟩
abbrev cX2_draw : ByteArray := prog_4_method_6_code
def yX2_draw : MethodName := ⟨RX2, "draw", "(LHidingBoxes$Space;)V"⟩
abbrev cX2_nextToDraw : ByteArray := prog_4_method_7_code
def yX2_nextToDraw : MethodName := ⟨RX2, "nextToDraw", "(LHidingBoxes$Space;)I"⟩
abbrev cX2_layerAbove : ByteArray := prog_4_method_8_code
def yX2_layerAbove : MethodName := ⟨RX2, "layerAbove", "(I)I"⟩
abbrev cX2_hiddenBy : ByteArray := prog_4_method_9_code
def yX2_hiddenBy : MethodName := ⟨RX2, "hiddenBy", "(I)I"⟩
abbrev cX2_hidersOf : ByteArray := prog_4_method_10_code
def yX2_hidersOf : MethodName := ⟨RX2, "hidersOf", "(I)I"⟩
abbrev cX2_hidings : ByteArray := prog_4_method_11_code
def yX2_hidings : MethodName := ⟨RX2, "hidings", "()I"⟩
abbrev cX2_hidingsNotIn : ByteArray := prog_4_method_12_code
def yX2_hidingsNotIn : MethodName := ⟨RX2, "hidingsNotIn", "(LHidingBoxes$Picture;)I"⟩
abbrev cX2_slotDrawn : ByteArray := prog_4_method_13_code
def yX2_slotDrawn : MethodName := ⟨RX2, "slotDrawn", "(I)I"⟩
abbrev cX2_greatestLayer : ByteArray := prog_4_method_14_code
def yX2_greatestLayer : MethodName := ⟨RX2, "greatestLayer", "()I"⟩
abbrev cX2_firstNotDrawnUnder : ByteArray := prog_4_method_15_code
def yX2_firstNotDrawnUnder : MethodName := ⟨RX2, "firstNotDrawnUnder", "(I)I"⟩
abbrev cX2_isInRing : ByteArray := prog_4_method_16_code
def yX2_isInRing : MethodName := ⟨RX2, "isInRing", "(I)Z"⟩
abbrev cX2_boxesInRings : ByteArray := prog_4_method_17_code
def yX2_boxesInRings : MethodName := ⟨RX2, "boxesInRings", "()I"⟩
abbrev cX2_shortestRing : ByteArray := prog_4_method_18_code
def yX2_shortestRing : MethodName := ⟨RX2, "shortestRing", "()I"⟩
abbrev cX2_shortestRingOf : ByteArray := prog_4_method_19_code
def yX2_shortestRingOf : MethodName := ⟨RX2, "shortestRingOf", "(I)I"⟩
abbrev cX2_bitsHiddenByAll : ByteArray := prog_4_method_20_code
def yX2_bitsHiddenByAll : MethodName := ⟨RX2, "bitsHiddenByAll", "(I)I"⟩
abbrev cX2_greatestInRings : ByteArray := prog_4_method_21_code
def yX2_greatestInRings : MethodName := ⟨RX2, "greatestInRings", "(LHidingBoxes$Space;)I"⟩
def RX3 : String := "HidingBoxes$Space"
def TX3 : u_T := fun k => match k with
  | 0 => ("HidingBoxes$Space", "boxes", "[LHidingBoxes$Box;", true)
  | 1 => ("HidingBoxes$Space", "count", "I", false)
  | 2 => ("HidingBoxes$Space", "nextNumber", "I", false)
  | 3 => ("HidingBoxes$Space", "splits", "I", false)
  | _ => ("HidingBoxes$Space", "rule", "I", false)
def tyX3 : Nat → FieldType := fun k => match k with
  | 0 => .array (.object "HidingBoxes$Box")
  | 1 => .int
  | 2 => .int
  | 3 => .int
  | _ => .int
abbrev wsX30 : List Cond := u_ws RX3 TX3 5
theorem nmX3 : ∀ a, a < 5 → ∀ b, b < 5 → a ≠ b → (TX3 a).2.1 ≠ (TX3 b).2.1 := by decide +kernel
theorem tyX3_ok : ∀ k, k < 5 → parseFieldDescriptor (TX3 k).2.2.1 = some (tyX3 k) := by decide +kernel
abbrev cX3_init : ByteArray := prog_5_method_1_code
def yX3_init : MethodName := ⟨RX3, "<init>", "()V"⟩
abbrev cX3_copyFrom : ByteArray := prog_5_method_2_code
def yX3_copyFrom : MethodName := ⟨RX3, "copyFrom", "(LHidingBoxes$Space;)V"⟩
abbrev cX3_isFull : ByteArray := prog_5_method_3_code
def yX3_isFull : MethodName := ⟨RX3, "isFull", "()Z"⟩
abbrev cX3_slotOf : ByteArray := prog_5_method_4_code
def yX3_slotOf : MethodName := ⟨RX3, "slotOf", "(I)I"⟩
abbrev cX3_isCutBy : ByteArray := prog_5_method_5_code
def yX3_isCutBy : MethodName := ⟨RX3, "isCutBy", "(LHidingBoxes$Box;I)Z"⟩
abbrev cX3_append : ByteArray := prog_5_method_6_code
def yX3_append : MethodName := ⟨RX3, "append", "(LHidingBoxes$Box;)I"⟩
abbrev cX3_takeOut : ByteArray := prog_5_method_7_code
def yX3_takeOut : MethodName := ⟨RX3, "takeOut", "(I)V"⟩
abbrev cX3_cutInTwo : ByteArray := prog_5_method_8_code
def yX3_cutInTwo : MethodName := ⟨RX3, "cutInTwo", "(III)I"⟩
abbrev cX3_quarterTurn : ByteArray := prog_5_method_9_code
def yX3_quarterTurn : MethodName := ⟨RX3, "quarterTurn", "()V"⟩
abbrev cX3_weightInDrawing : ByteArray := prog_5_method_10_code
def yX3_weightInDrawing : MethodName := ⟨RX3, "weightInDrawing", "(I)I"⟩
abbrev cX3_volume : ByteArray := prog_5_method_11_code
def yX3_volume : MethodName := ⟨RX3, "volume", "()I"⟩
abbrev cX3_groundUnder : ByteArray := prog_5_method_12_code
def yX3_groundUnder : MethodName := ⟨RX3, "groundUnder", "(I)I"⟩
abbrev cX3_boxesBelow : ByteArray := prog_5_method_13_code
def yX3_boxesBelow : MethodName := ⟨RX3, "boxesBelow", "(I)I"⟩
abbrev cX3_supportsOf : ByteArray := prog_5_method_14_code
def yX3_supportsOf : MethodName := ⟨RX3, "supportsOf", "(I)I"⟩
abbrev cX3_shadowOn : ByteArray := prog_5_method_15_code
def yX3_shadowOn : MethodName := ⟨RX3, "shadowOn", "(I)I"⟩
abbrev cX3_shadow : ByteArray := prog_5_method_16_code
def yX3_shadow : MethodName := ⟨RX3, "shadow", "()I"⟩
def RX4 : String := "HidingBoxes$Text"
def TX4 : u_T := fun k => match k with
  | 0 => ("HidingBoxes$Text", "signs", "[C", true)
  | 1 => ("HidingBoxes$Text", "length", "I", false)
  | 2 => ("HidingBoxes$Text", "values", "[I", true)
  | _ => ("HidingBoxes$Text", "valueCount", "I", false)
def tyX4 : Nat → FieldType := fun k => match k with
  | 0 => .array .char
  | 1 => .int
  | 2 => .array .int
  | _ => .int
abbrev wsX40 : List Cond := u_ws RX4 TX4 4
theorem nmX4 : ∀ a, a < 4 → ∀ b, b < 4 → a ≠ b → (TX4 a).2.1 ≠ (TX4 b).2.1 := by decide +kernel
theorem tyX4_ok : ∀ k, k < 4 → parseFieldDescriptor (TX4 k).2.2.1 = some (tyX4 k) := by decide +kernel
abbrev cX4_init : ByteArray := prog_6_method_1_code
def yX4_init : MethodName := ⟨RX4, "<init>", "()V"⟩
def RX5 : String := "HidingBoxes"
def TX5 : u_T := fun k => match k with
  | 0 => ("HidingBoxes", "now", "LHidingBoxes$Space;", true)
  | 1 => ("HidingBoxes", "trial", "LHidingBoxes$Space;", true)
  | 2 => ("HidingBoxes", "snapshot", "LHidingBoxes$Space;", true)
  | 3 => ("HidingBoxes", "hasSnapshot", "Z", false)
  | 4 => ("HidingBoxes", "history", "LHidingBoxes$History;", true)
  | 5 => ("HidingBoxes", "text", "LHidingBoxes$Text;", true)
  | 6 => ("HidingBoxes", "picture", "LHidingBoxes$Picture;", true)
  | 7 => ("HidingBoxes", "turnedPicture", "LHidingBoxes$Picture;", true)
  | _ => ("HidingBoxes", "newcomer", "LHidingBoxes$Box;", true)
def tyX5 : Nat → FieldType := fun k => match k with
  | 0 => .object "HidingBoxes$Space"
  | 1 => .object "HidingBoxes$Space"
  | 2 => .object "HidingBoxes$Space"
  | 3 => .boolean
  | 4 => .object "HidingBoxes$History"
  | 5 => .object "HidingBoxes$Text"
  | 6 => .object "HidingBoxes$Picture"
  | 7 => .object "HidingBoxes$Picture"
  | _ => .object "HidingBoxes$Box"
abbrev wsX50 : List Cond := u_ws RX5 TX5 9
theorem nmX5 : ∀ a, a < 9 → ∀ b, b < 9 → a ≠ b → (TX5 a).2.1 ≠ (TX5 b).2.1 := by decide +kernel
theorem tyX5_ok : ∀ k, k < 9 → parseFieldDescriptor (TX5 k).2.2.1 = some (tyX5 k) := by decide +kernel
abbrev cX5_init : ByteArray := prog_1_method_1_code
def yX5_init : MethodName := ⟨RX5, "<init>", "()V"⟩
abbrev cX5_add : ByteArray := prog_1_method_2_code
def yX5_add : MethodName := ⟨RX5, "add", "(IIIIII)I"⟩
abbrev cX5_remove : ByteArray := prog_1_method_3_code
def yX5_remove : MethodName := ⟨RX5, "remove", "(I)I"⟩
abbrev cX5_move : ByteArray := prog_1_method_4_code
def yX5_move : MethodName := ⟨RX5, "move", "(III)I"⟩
abbrev cX5_fall : ByteArray := prog_1_method_5_code
def yX5_fall : MethodName := ⟨RX5, "fall", "(I)I"⟩
abbrev cX5_split : ByteArray := prog_1_method_6_code
def yX5_split : MethodName := ⟨RX5, "split", "(III)I"⟩
abbrev cX5_breakRing : ByteArray := prog_1_method_7_code
def yX5_breakRing : MethodName := ⟨RX5, "breakRing", "()I"⟩
abbrev cX5_turn : ByteArray := prog_1_method_8_code
def yX5_turn : MethodName := ⟨RX5, "turn", "()I"⟩
abbrev cX5_set : ByteArray := prog_1_method_9_code
def yX5_set : MethodName := ⟨RX5, "set", "(II)I"⟩
abbrev cX5_box : ByteArray := prog_1_method_16_code
def yX5_box : MethodName := ⟨RX5, "box", "(I)I"⟩
abbrev cX5_end : ByteArray := prog_1_method_17_code
def yX5_end : MethodName := ⟨RX5, "end", "(IIZ)I"⟩
abbrev cX5_ofBox : ByteArray := prog_1_method_18_code
def yX5_ofBox : MethodName := ⟨RX5, "ofBox", "(II)I"⟩
abbrev cX5_pair : ByteArray := prog_1_method_19_code
def yX5_pair : MethodName := ⟨RX5, "pair", "(II)I"⟩
abbrev cX5_drawn : ByteArray := prog_1_method_20_code
def yX5_drawn : MethodName := ⟨RX5, "drawn", "(I)I"⟩
abbrev cX5_total : ByteArray := prog_1_method_21_code
def yX5_total : MethodName := ⟨RX5, "total", "(I)I"⟩
abbrev cX5_waitsFor : ByteArray := prog_1_method_22_code
def yX5_waitsFor : MethodName := ⟨RX5, "waitsFor", "(I)I"⟩
abbrev cX5_breaks : ByteArray := prog_1_method_23_code
def yX5_breaks : MethodName := ⟨RX5, "breaks", "()I"⟩
abbrev cX5_drawnWithout : ByteArray := prog_1_method_24_code
def yX5_drawnWithout : MethodName := ⟨RX5, "drawnWithout", "(I)I"⟩
abbrev cX5_isDirection : ByteArray := prog_1_method_25_code
def yX5_isDirection : MethodName := ⟨RX5, "isDirection", "(I)Z"⟩
abbrev cX5_look : ByteArray := prog_1_method_26_code
def yX5_look : MethodName := ⟨RX5, "look", "()LHidingBoxes$Picture;"⟩
abbrev cX5_adoptTrial : ByteArray := prog_1_method_27_code
def yX5_adoptTrial : MethodName := ⟨RX5, "adoptTrial", "()V"⟩
abbrev cX5_enter : ByteArray := prog_1_method_28_code
def yX5_enter : MethodName := ⟨RX5, "enter", "(LHidingBoxes$Space;IIIIII)I"⟩
abbrev cX5_breakOne : ByteArray := prog_1_method_29_code
def yX5_breakOne : MethodName := ⟨RX5, "breakOne", "(LHidingBoxes$Space;)I"⟩
def RX6 : String := "HidingBoxesModel"
def TX6 : u_T := fun k => match k with
  | _ => ("", "", "", false)
def tyX6 : Nat → FieldType := fun k => match k with
  | _ => .int
abbrev wsX60 : List Cond := u_ws RX6 TX6 0
theorem nmX6 : ∀ a, a < 0 → ∀ b, b < 0 → a ≠ b → (TX6 a).2.1 ≠ (TX6 b).2.1 := by decide +kernel
theorem tyX6_ok : ∀ k, k < 0 → parseFieldDescriptor (TX6 k).2.2.1 = some (tyX6 k) := by decide +kernel
def RJ6 : String := "java/lang/Integer"
def TJ6 : u_T := fun k => match k with
  | _ => ("", "", "", false)
def tyJ6 : Nat → FieldType := fun k => match k with
  | _ => .int
abbrev wsJ60 : List Cond := u_ws RJ6 TJ6 0
theorem nmJ6 : ∀ a, a < 0 → ∀ b, b < 0 → a ≠ b → (TJ6 a).2.1 ≠ (TJ6 b).2.1 := by decide +kernel
theorem tyJ6_ok : ∀ k, k < 0 → parseFieldDescriptor (TJ6 k).2.2.1 = some (tyJ6 k) := by decide +kernel
abbrev cJ6_bitCount_0f7a4 : ByteArray := prog_9_method_49_code
def yJ6_bitCount_0f7a4 : MethodName := ⟨RJ6, "bitCount", "(I)I"⟩
def RJ9 : String := "java/lang/Math"
def TJ9 : u_T := fun k => match k with
  | _ => ("", "", "", false)
def tyJ9 : Nat → FieldType := fun k => match k with
  | _ => .int
abbrev wsJ90 : List Cond := u_ws RJ9 TJ9 0
theorem nmJ9 : ∀ a, a < 0 → ∀ b, b < 0 → a ≠ b → (TJ9 a).2.1 ≠ (TJ9 b).2.1 := by decide +kernel
theorem tyJ9_ok : ∀ k, k < 0 → parseFieldDescriptor (TJ9 k).2.2.1 = some (tyJ9 k) := by decide +kernel
abbrev cJ9_max_7cf53 : ByteArray := prog_10_method_65_code
def yJ9_max_7cf53 : MethodName := ⟨RJ9, "max", "(II)I"⟩
def RJ10 : String := "java/lang/System"
def TJ10 : u_T := fun k => match k with
  | _ => ("", "", "", false)
def tyJ10 : Nat → FieldType := fun k => match k with
  | _ => .int
abbrev wsJ100 : List Cond := u_ws RJ10 TJ10 0
theorem nmJ10 : ∀ a, a < 0 → ∀ b, b < 0 → a ≠ b → (TJ10 a).2.1 ≠ (TJ10 b).2.1 := by decide +kernel
theorem tyJ10_ok : ∀ k, k < 0 → parseFieldDescriptor (TJ10 k).2.2.1 = some (tyJ10 k) := by decide +kernel
def RJ7 : String := "java/util/Arrays"
def TJ7 : u_T := fun k => match k with
  | _ => ("", "", "", false)
def tyJ7 : Nat → FieldType := fun k => match k with
  | _ => .int
abbrev wsJ70 : List Cond := u_ws RJ7 TJ7 0
theorem nmJ7 : ∀ a, a < 0 → ∀ b, b < 0 → a ≠ b → (TJ7 a).2.1 ≠ (TJ7 b).2.1 := by decide +kernel
theorem tyJ7_ok : ∀ k, k < 0 → parseFieldDescriptor (TJ7 k).2.2.1 = some (tyJ7 k) := by decide +kernel
abbrev cJ7_fill_53178 : ByteArray := prog_12_method_103_code
def yJ7_fill_53178 : MethodName := ⟨RJ7, "fill", "([II)V"⟩
def RL : String := "HidingBoxesLaw"
abbrev vwCl : List vw_C := [(RX0, TX0, 3), (RX1, TX1, 2), (RX2, TX2, 7), (RX3, TX3, 5), (RX4, TX4, 4), (RX5, TX5, 9)]
