section
/-- a private method of a class that the tables say can be made, by its rows of tables_1 -/
def lw_okq (q : MethodName × Nat) : Prop := (q.1.cls ≠ "java/lang/invoke/MethodHandle" ∧ q.1.cls ≠ "java/lang/invoke/VarHandle") ∧ Cond.instantiable q.1.cls q.2 ∈ tables_1 ∧ Cond.privateMethod q.1 ∈ tables_1 ∧ Cond.instanceMethod q.1 ∈ tables_1
theorem lw_p0 : lw_okq (⟨"HidingBoxes", "enter", "(LHidingBoxes$Space;IIIIII)I"⟩, 9) := ⟨⟨by decide +kernel, by decide +kernel⟩, List.mem_of_getElem? (i := 12) (by decide +kernel), List.mem_of_getElem? (i := 184) (by decide +kernel), List.mem_of_getElem? (i := 185) (by decide +kernel)⟩
theorem lw_p1 : lw_okq (⟨"HidingBoxes$Box", "meets", "(LHidingBoxes$Box;I)Z"⟩, 3) := ⟨⟨by decide +kernel, by decide +kernel⟩, List.mem_of_getElem? (i := 27) (by decide +kernel), List.mem_of_getElem? (i := 200) (by decide +kernel), List.mem_of_getElem? (i := 201) (by decide +kernel)⟩
theorem lw_p2 : lw_okq (⟨"HidingBoxes", "adoptTrial", "()V"⟩, 9) := ⟨⟨by decide +kernel, by decide +kernel⟩, List.mem_of_getElem? (i := 12) (by decide +kernel), List.mem_of_getElem? (i := 213) (by decide +kernel), List.mem_of_getElem? (i := 214) (by decide +kernel)⟩
theorem lw_p3 : lw_okq (⟨"HidingBoxes$History", "dropOldest", "()V"⟩, 2) := ⟨⟨by decide +kernel, by decide +kernel⟩, List.mem_of_getElem? (i := 73) (by decide +kernel), List.mem_of_getElem? (i := 221) (by decide +kernel), List.mem_of_getElem? (i := 222) (by decide +kernel)⟩
theorem lw_p4 : lw_okq (⟨"HidingBoxes", "breakOne", "(LHidingBoxes$Space;)I"⟩, 9) := ⟨⟨by decide +kernel, by decide +kernel⟩, List.mem_of_getElem? (i := 12) (by decide +kernel), List.mem_of_getElem? (i := 230) (by decide +kernel), List.mem_of_getElem? (i := 231) (by decide +kernel)⟩
theorem lw_p5 : lw_okq (⟨"HidingBoxes$Box", "overlapsOutlineOf", "(LHidingBoxes$Box;)Z"⟩, 3) := ⟨⟨by decide +kernel, by decide +kernel⟩, List.mem_of_getElem? (i := 27) (by decide +kernel), List.mem_of_getElem? (i := 245) (by decide +kernel), List.mem_of_getElem? (i := 246) (by decide +kernel)⟩
theorem lw_p6 : lw_okq (⟨"HidingBoxes$Box", "meetsInDifference", "(LHidingBoxes$Box;II)Z"⟩, 3) := ⟨⟨by decide +kernel, by decide +kernel⟩, List.mem_of_getElem? (i := 27) (by decide +kernel), List.mem_of_getElem? (i := 249) (by decide +kernel), List.mem_of_getElem? (i := 250) (by decide +kernel)⟩
theorem lw_p7 : lw_okq (⟨"HidingBoxes$Picture", "followChains", "()V"⟩, 7) := ⟨⟨by decide +kernel, by decide +kernel⟩, List.mem_of_getElem? (i := 109) (by decide +kernel), List.mem_of_getElem? (i := 253) (by decide +kernel), List.mem_of_getElem? (i := 254) (by decide +kernel)⟩
theorem lw_p8 : lw_okq (⟨"HidingBoxes$Picture", "draw", "(LHidingBoxes$Space;)V"⟩, 7) := ⟨⟨by decide +kernel, by decide +kernel⟩, List.mem_of_getElem? (i := 109) (by decide +kernel), List.mem_of_getElem? (i := 261) (by decide +kernel), List.mem_of_getElem? (i := 262) (by decide +kernel)⟩
theorem lw_p9 : lw_okq (⟨"HidingBoxes$Picture", "nextToDraw", "(LHidingBoxes$Space;)I"⟩, 7) := ⟨⟨by decide +kernel, by decide +kernel⟩, List.mem_of_getElem? (i := 109) (by decide +kernel), List.mem_of_getElem? (i := 268) (by decide +kernel), List.mem_of_getElem? (i := 269) (by decide +kernel)⟩
theorem lw_p10 : lw_okq (⟨"HidingBoxes$Picture", "layerAbove", "(I)I"⟩, 7) := ⟨⟨by decide +kernel, by decide +kernel⟩, List.mem_of_getElem? (i := 109) (by decide +kernel), List.mem_of_getElem? (i := 288) (by decide +kernel), List.mem_of_getElem? (i := 289) (by decide +kernel)⟩
theorem lw_p11 : lw_okq (⟨"HidingBoxes$Picture", "isInRing", "(I)Z"⟩, 7) := ⟨⟨by decide +kernel, by decide +kernel⟩, List.mem_of_getElem? (i := 109) (by decide +kernel), List.mem_of_getElem? (i := 299) (by decide +kernel), List.mem_of_getElem? (i := 300) (by decide +kernel)⟩
theorem lw_p12 : lw_okq (⟨"HidingBoxes", "look", "()LHidingBoxes$Picture;"⟩, 9) := ⟨⟨by decide +kernel, by decide +kernel⟩, List.mem_of_getElem? (i := 12) (by decide +kernel), List.mem_of_getElem? (i := 345) (by decide +kernel), List.mem_of_getElem? (i := 346) (by decide +kernel)⟩
theorem lw_p13 : lw_okq (⟨"HidingBoxes$Picture", "bitsHiddenByAll", "(I)I"⟩, 7) := ⟨⟨by decide +kernel, by decide +kernel⟩, List.mem_of_getElem? (i := 109) (by decide +kernel), List.mem_of_getElem? (i := 369) (by decide +kernel), List.mem_of_getElem? (i := 370) (by decide +kernel)⟩
def lw_privs_1 : List (MethodName × Nat) := [(⟨"HidingBoxes", "enter", "(LHidingBoxes$Space;IIIIII)I"⟩, 9), (⟨"HidingBoxes$Box", "meets", "(LHidingBoxes$Box;I)Z"⟩, 3), (⟨"HidingBoxes", "adoptTrial", "()V"⟩, 9), (⟨"HidingBoxes$History", "dropOldest", "()V"⟩, 2), (⟨"HidingBoxes", "breakOne", "(LHidingBoxes$Space;)I"⟩, 9), (⟨"HidingBoxes$Box", "overlapsOutlineOf", "(LHidingBoxes$Box;)Z"⟩, 3), (⟨"HidingBoxes$Box", "meetsInDifference", "(LHidingBoxes$Box;II)Z"⟩, 3), (⟨"HidingBoxes$Picture", "followChains", "()V"⟩, 7), (⟨"HidingBoxes$Picture", "draw", "(LHidingBoxes$Space;)V"⟩, 7), (⟨"HidingBoxes$Picture", "nextToDraw", "(LHidingBoxes$Space;)I"⟩, 7), (⟨"HidingBoxes$Picture", "layerAbove", "(I)I"⟩, 7), (⟨"HidingBoxes$Picture", "isInRing", "(I)Z"⟩, 7), (⟨"HidingBoxes", "look", "()LHidingBoxes$Picture;"⟩, 9), (⟨"HidingBoxes$Picture", "bitsHiddenByAll", "(I)I"⟩, 7)]
theorem lw_r1 : ∀ q ∈ lw_privs_1, lw_okq q := List.forall_mem_cons.mpr ⟨lw_p0, List.forall_mem_cons.mpr ⟨lw_p1, List.forall_mem_cons.mpr ⟨lw_p2, List.forall_mem_cons.mpr ⟨lw_p3, List.forall_mem_cons.mpr ⟨lw_p4, List.forall_mem_cons.mpr ⟨lw_p5, List.forall_mem_cons.mpr ⟨lw_p6, List.forall_mem_cons.mpr ⟨lw_p7, List.forall_mem_cons.mpr ⟨lw_p8, List.forall_mem_cons.mpr ⟨lw_p9, List.forall_mem_cons.mpr ⟨lw_p10, List.forall_mem_cons.mpr ⟨lw_p11, List.forall_mem_cons.mpr ⟨lw_p12, List.forall_mem_cons.mpr ⟨lw_p13, fun _ h => absurd h List.not_mem_nil⟩⟩⟩⟩⟩⟩⟩⟩⟩⟩⟩⟩⟩⟩
def lw_privs : List (MethodName × Nat) := lw_privs_1
def lw_tbl : List Cond := k2_sels lw_privs ++ tables_1
theorem lw_privs_ok : ∀ q ∈ lw_privs, lw_okq q := lw_r1
end
section
theorem goodIn_r {big : List Cond} (ws : List Cond) (ps : List Nat) (hp : ws = ps.filterMap (fun i => big[i]?)) (h : ws.all goodWord = true) : GoodIn big ws := by
  intro w hw
  have h1 := List.all_eq_true.mp h w hw
  rw [hp] at hw
  obtain ⟨i, -, hi⟩ := List.mem_filterMap.mp hw
  have hm : w ∈ big := by first | exact List.mem_of_getElem? hi | exact List.getElem?_mem hi
  exact ⟨hm, good_of_word h1⟩
theorem goodIn_app {big a b : List Cond} (ha : GoodIn big a) (hb : GoodIn big b) : GoodIn big (a ++ b) := fun w h => (List.mem_append.mp h).elim (ha w) (hb w)
theorem goodIn_ca {big a b : List Cond} {c : Cond} (ha : GoodIn big (c :: a)) (hb : GoodIn big b) : GoodIn big (c :: (a ++ b)) := fun w h => (List.mem_cons.mp h).elim (fun e => ha w (List.mem_cons.mpr (Or.inl e))) (fun h => (List.mem_append.mp h).elim (fun h => ha w (List.mem_cons.mpr (Or.inr h))) (hb w))
theorem goodIn_sub {big ws : List Cond} (hm : ∀ w ∈ ws, w ∈ big) (h : ws.all goodWord = true) : GoodIn big ws := fun w hw => ⟨hm w hw, good_of_word (List.all_eq_true.mp h w hw)⟩
def RX0 : String := "HidingBoxes$Box"
def TX0 : u_T := fun k => match k with
  | 0 => ("HidingBoxes$Box", "number", "I", false)
  | 1 => ("HidingBoxes$Box", "low", "[I", true)
  | _ => ("HidingBoxes$Box", "high", "[I", true)
def tyX0 : Nat → FieldType := fun k => match k with
  | 0 => .int
  | 1 => .array .int
  | _ => .array .int
abbrev wsX00 : List Cond := u_ws RX0 TX0 3
theorem nmX0 : ∀ a, a < 3 → ∀ b, b < 3 → a ≠ b → (TX0 a).2.1 ≠ (TX0 b).2.1 := by decide +kernel
theorem tyX0_ok : ∀ k, k < 3 → parseFieldDescriptor (TX0 k).2.2.1 = some (tyX0 k) := by decide +kernel
abbrev cX0_init : ByteArray := prog_2_method_1_code
def yX0_init : MethodName := ⟨RX0, "<init>", "()V"⟩
abbrev cX0_copyFrom : ByteArray := prog_2_method_2_code
def yX0_copyFrom : MethodName := ⟨RX0, "copyFrom", "(LHidingBoxes$Box;)V"⟩
abbrev cX0_lay : ByteArray := prog_2_method_3_code
def yX0_lay : MethodName := ⟨RX0, "lay", "(III)Z"⟩
abbrev cX0_shift : ByteArray := prog_2_method_4_code
def yX0_shift : MethodName := ⟨RX0, "shift", "(II)V"⟩
abbrev cX0_size : ByteArray := prog_2_method_5_code
def yX0_size : MethodName := ⟨RX0, "size", "(I)I"⟩
abbrev cX0_volume : ByteArray := prog_2_method_6_code
def yX0_volume : MethodName := ⟨RX0, "volume", "()I"⟩
abbrev cX0_sumOfCorner : ByteArray := prog_2_method_7_code
def yX0_sumOfCorner : MethodName := ⟨RX0, "sumOfCorner", "()I"⟩
abbrev cX0_longestDirection : ByteArray := prog_2_method_8_code
def yX0_longestDirection : MethodName := ⟨RX0, "longestDirection", "()I"⟩
abbrev cX0_meets : ByteArray := prog_2_method_9_code
def yX0_meets : MethodName := ⟨RX0, "meets", "(LHidingBoxes$Box;I)Z"⟩
abbrev cX0_cuts : ByteArray := prog_2_method_10_code
def yX0_cuts : MethodName := ⟨RX0, "cuts", "(LHidingBoxes$Box;)Z"⟩
abbrev cX0_meetsInDifference : ByteArray := prog_2_method_11_code
def yX0_meetsInDifference : MethodName := ⟨RX0, "meetsInDifference", "(LHidingBoxes$Box;II)Z"⟩
abbrev cX0_overlapsOutlineOf : ByteArray := prog_2_method_12_code
def yX0_overlapsOutlineOf : MethodName := ⟨RX0, "overlapsOutlineOf", "(LHidingBoxes$Box;)Z"⟩
abbrev cX0_directionOfHiding : ByteArray := prog_2_method_13_code
def yX0_directionOfHiding : MethodName := ⟨RX0, "directionOfHiding", "(LHidingBoxes$Box;)I"⟩
abbrev cX0_isBelow : ByteArray := prog_2_method_14_code
def yX0_isBelow : MethodName := ⟨RX0, "isBelow", "(LHidingBoxes$Box;)Z"⟩
abbrev cX0_coversRow : ByteArray := prog_2_method_15_code
def yX0_coversRow : MethodName := ⟨RX0, "coversRow", "(I)Z"⟩
abbrev cX0_rowOfCells : ByteArray := prog_2_method_16_code
def yX0_rowOfCells : MethodName := ⟨RX0, "rowOfCells", "()I"⟩
def RX1 : String := "HidingBoxes$History"
def TX1 : u_T := fun k => match k with
  | 0 => ("HidingBoxes$History", "states", "[LHidingBoxes$Space;", true)
  | _ => ("HidingBoxes$History", "count", "I", false)
def tyX1 : Nat → FieldType := fun k => match k with
  | 0 => .array (.object "HidingBoxes$Space")
  | _ => .int
abbrev wsX10 : List Cond := u_ws RX1 TX1 2
theorem nmX1 : ∀ a, a < 2 → ∀ b, b < 2 → a ≠ b → (TX1 a).2.1 ≠ (TX1 b).2.1 := by decide +kernel
theorem tyX1_ok : ∀ k, k < 2 → parseFieldDescriptor (TX1 k).2.2.1 = some (tyX1 k) := by decide +kernel
abbrev cX1_init : ByteArray := prog_3_method_1_code
def yX1_init : MethodName := ⟨RX1, "<init>", "()V"⟩
abbrev cX1_remember : ByteArray := prog_3_method_2_code
def yX1_remember : MethodName := ⟨RX1, "remember", "(LHidingBoxes$Space;)V"⟩
abbrev cX1_dropOldest : ByteArray := prog_3_method_3_code
def yX1_dropOldest : MethodName := ⟨RX1, "dropOldest", "()V"⟩
def RX2 : String := "HidingBoxes$Picture"
def TX2 : u_T := fun k => match k with
  | 0 => ("HidingBoxes$Picture", "count", "I", false)
  | 1 => ("HidingBoxes$Picture", "hides", "[I", true)
  | 2 => ("HidingBoxes$Picture", "chains", "[I", true)
  | 3 => ("HidingBoxes$Picture", "order", "[I", true)
  | 4 => ("HidingBoxes$Picture", "drawnBits", "I", false)
  | 5 => ("HidingBoxes$Picture", "drawnCount", "I", false)
  | _ => ("HidingBoxes$Picture", "layers", "[I", true)
def tyX2 : Nat → FieldType := fun k => match k with
  | 0 => .int
  | 1 => .array .int
  | 2 => .array .int
  | 3 => .array .int
  | 4 => .int
  | 5 => .int
  | _ => .array .int
abbrev wsX20 : List Cond := u_ws RX2 TX2 7
theorem nmX2 : ∀ a, a < 7 → ∀ b, b < 7 → a ≠ b → (TX2 a).2.1 ≠ (TX2 b).2.1 := by decide +kernel
theorem tyX2_ok : ∀ k, k < 7 → parseFieldDescriptor (TX2 k).2.2.1 = some (tyX2 k) := by decide +kernel
abbrev cX2_init : ByteArray := prog_4_method_1_code
def yX2_init : MethodName := ⟨RX2, "<init>", "()V"⟩
abbrev cX2_look : ByteArray := prog_4_method_2_code
def yX2_look : MethodName := ⟨RX2, "look", "(LHidingBoxes$Space;)V"⟩
abbrev cX2_bitsHiddenBy : ByteArray := prog_4_method_3_code
def yX2_bitsHiddenBy : MethodName := ⟨RX2, "bitsHiddenBy", "(LHidingBoxes$Space;I)I"⟩
abbrev cX2_hasBit : ByteArray := prog_4_method_4_code
def yX2_hasBit : MethodName := ⟨RX2, "hasBit", "(II)Z"⟩
abbrev cX2_followChains : ByteArray := prog_4_method_5_code
def yX2_followChains : MethodName := ⟨RX2, "followChains", "()V"⟩
abbrev cX2_draw : ByteArray := prog_4_method_6_code
def yX2_draw : MethodName := ⟨RX2, "draw", "(LHidingBoxes$Space;)V"⟩
abbrev cX2_nextToDraw : ByteArray := prog_4_method_7_code
def yX2_nextToDraw : MethodName := ⟨RX2, "nextToDraw", "(LHidingBoxes$Space;)I"⟩
abbrev cX2_layerAbove : ByteArray := prog_4_method_8_code
def yX2_layerAbove : MethodName := ⟨RX2, "layerAbove", "(I)I"⟩
abbrev cX2_hiddenBy : ByteArray := prog_4_method_9_code
def yX2_hiddenBy : MethodName := ⟨RX2, "hiddenBy", "(I)I"⟩
abbrev cX2_hidersOf : ByteArray := prog_4_method_10_code
def yX2_hidersOf : MethodName := ⟨RX2, "hidersOf", "(I)I"⟩
abbrev cX2_hidings : ByteArray := prog_4_method_11_code
def yX2_hidings : MethodName := ⟨RX2, "hidings", "()I"⟩
abbrev cX2_hidingsNotIn : ByteArray := prog_4_method_12_code
def yX2_hidingsNotIn : MethodName := ⟨RX2, "hidingsNotIn", "(LHidingBoxes$Picture;)I"⟩
abbrev cX2_slotDrawn : ByteArray := prog_4_method_13_code
def yX2_slotDrawn : MethodName := ⟨RX2, "slotDrawn", "(I)I"⟩
abbrev cX2_greatestLayer : ByteArray := prog_4_method_14_code
def yX2_greatestLayer : MethodName := ⟨RX2, "greatestLayer", "()I"⟩
abbrev cX2_firstNotDrawnUnder : ByteArray := prog_4_method_15_code
def yX2_firstNotDrawnUnder : MethodName := ⟨RX2, "firstNotDrawnUnder", "(I)I"⟩
abbrev cX2_isInRing : ByteArray := prog_4_method_16_code
def yX2_isInRing : MethodName := ⟨RX2, "isInRing", "(I)Z"⟩
abbrev cX2_boxesInRings : ByteArray := prog_4_method_17_code
def yX2_boxesInRings : MethodName := ⟨RX2, "boxesInRings", "()I"⟩
abbrev cX2_shortestRing : ByteArray := prog_4_method_18_code
def yX2_shortestRing : MethodName := ⟨RX2, "shortestRing", "()I"⟩
abbrev cX2_shortestRingOf : ByteArray := prog_4_method_19_code
def yX2_shortestRingOf : MethodName := ⟨RX2, "shortestRingOf", "(I)I"⟩
abbrev cX2_bitsHiddenByAll : ByteArray := prog_4_method_20_code
def yX2_bitsHiddenByAll : MethodName := ⟨RX2, "bitsHiddenByAll", "(I)I"⟩
abbrev cX2_greatestInRings : ByteArray := prog_4_method_21_code
def yX2_greatestInRings : MethodName := ⟨RX2, "greatestInRings", "(LHidingBoxes$Space;)I"⟩
def RX3 : String := "HidingBoxes$Space"
def TX3 : u_T := fun k => match k with
  | 0 => ("HidingBoxes$Space", "boxes", "[LHidingBoxes$Box;", true)
  | 1 => ("HidingBoxes$Space", "count", "I", false)
  | 2 => ("HidingBoxes$Space", "nextNumber", "I", false)
  | 3 => ("HidingBoxes$Space", "splits", "I", false)
  | _ => ("HidingBoxes$Space", "rule", "I", false)
def tyX3 : Nat → FieldType := fun k => match k with
  | 0 => .array (.object "HidingBoxes$Box")
  | 1 => .int
  | 2 => .int
  | 3 => .int
  | _ => .int
abbrev wsX30 : List Cond := u_ws RX3 TX3 5
theorem nmX3 : ∀ a, a < 5 → ∀ b, b < 5 → a ≠ b → (TX3 a).2.1 ≠ (TX3 b).2.1 := by decide +kernel
theorem tyX3_ok : ∀ k, k < 5 → parseFieldDescriptor (TX3 k).2.2.1 = some (tyX3 k) := by decide +kernel
abbrev cX3_init : ByteArray := prog_5_method_1_code
def yX3_init : MethodName := ⟨RX3, "<init>", "()V"⟩
abbrev cX3_copyFrom : ByteArray := prog_5_method_2_code
def yX3_copyFrom : MethodName := ⟨RX3, "copyFrom", "(LHidingBoxes$Space;)V"⟩
abbrev cX3_isFull : ByteArray := prog_5_method_3_code
def yX3_isFull : MethodName := ⟨RX3, "isFull", "()Z"⟩
abbrev cX3_slotOf : ByteArray := prog_5_method_4_code
def yX3_slotOf : MethodName := ⟨RX3, "slotOf", "(I)I"⟩
abbrev cX3_isCutBy : ByteArray := prog_5_method_5_code
def yX3_isCutBy : MethodName := ⟨RX3, "isCutBy", "(LHidingBoxes$Box;I)Z"⟩
abbrev cX3_append : ByteArray := prog_5_method_6_code
def yX3_append : MethodName := ⟨RX3, "append", "(LHidingBoxes$Box;)I"⟩
abbrev cX3_takeOut : ByteArray := prog_5_method_7_code
def yX3_takeOut : MethodName := ⟨RX3, "takeOut", "(I)V"⟩
abbrev cX3_cutInTwo : ByteArray := prog_5_method_8_code
def yX3_cutInTwo : MethodName := ⟨RX3, "cutInTwo", "(III)I"⟩
abbrev cX3_quarterTurn : ByteArray := prog_5_method_9_code
def yX3_quarterTurn : MethodName := ⟨RX3, "quarterTurn", "()V"⟩
abbrev cX3_weightInDrawing : ByteArray := prog_5_method_10_code
def yX3_weightInDrawing : MethodName := ⟨RX3, "weightInDrawing", "(I)I"⟩
abbrev cX3_volume : ByteArray := prog_5_method_11_code
def yX3_volume : MethodName := ⟨RX3, "volume", "()I"⟩
abbrev cX3_groundUnder : ByteArray := prog_5_method_12_code
def yX3_groundUnder : MethodName := ⟨RX3, "groundUnder", "(I)I"⟩
abbrev cX3_boxesBelow : ByteArray := prog_5_method_13_code
def yX3_boxesBelow : MethodName := ⟨RX3, "boxesBelow", "(I)I"⟩
abbrev cX3_supportsOf : ByteArray := prog_5_method_14_code
def yX3_supportsOf : MethodName := ⟨RX3, "supportsOf", "(I)I"⟩
abbrev cX3_shadowOn : ByteArray := prog_5_method_15_code
def yX3_shadowOn : MethodName := ⟨RX3, "shadowOn", "(I)I"⟩
abbrev cX3_shadow : ByteArray := prog_5_method_16_code
def yX3_shadow : MethodName := ⟨RX3, "shadow", "()I"⟩
def RX4 : String := "HidingBoxes$Text"
def TX4 : u_T := fun k => match k with
  | 0 => ("HidingBoxes$Text", "signs", "[C", true)
  | 1 => ("HidingBoxes$Text", "length", "I", false)
  | 2 => ("HidingBoxes$Text", "values", "[I", true)
  | _ => ("HidingBoxes$Text", "valueCount", "I", false)
def tyX4 : Nat → FieldType := fun k => match k with
  | 0 => .array .char
  | 1 => .int
  | 2 => .array .int
  | _ => .int
abbrev wsX40 : List Cond := u_ws RX4 TX4 4
theorem nmX4 : ∀ a, a < 4 → ∀ b, b < 4 → a ≠ b → (TX4 a).2.1 ≠ (TX4 b).2.1 := by decide +kernel
theorem tyX4_ok : ∀ k, k < 4 → parseFieldDescriptor (TX4 k).2.2.1 = some (tyX4 k) := by decide +kernel
abbrev cX4_init : ByteArray := prog_6_method_1_code
def yX4_init : MethodName := ⟨RX4, "<init>", "()V"⟩
def RX5 : String := "HidingBoxes"
def TX5 : u_T := fun k => match k with
  | 0 => ("HidingBoxes", "now", "LHidingBoxes$Space;", true)
  | 1 => ("HidingBoxes", "trial", "LHidingBoxes$Space;", true)
  | 2 => ("HidingBoxes", "snapshot", "LHidingBoxes$Space;", true)
  | 3 => ("HidingBoxes", "hasSnapshot", "Z", false)
  | 4 => ("HidingBoxes", "history", "LHidingBoxes$History;", true)
  | 5 => ("HidingBoxes", "text", "LHidingBoxes$Text;", true)
  | 6 => ("HidingBoxes", "picture", "LHidingBoxes$Picture;", true)
  | 7 => ("HidingBoxes", "turnedPicture", "LHidingBoxes$Picture;", true)
  | _ => ("HidingBoxes", "newcomer", "LHidingBoxes$Box;", true)
def tyX5 : Nat → FieldType := fun k => match k with
  | 0 => .object "HidingBoxes$Space"
  | 1 => .object "HidingBoxes$Space"
  | 2 => .object "HidingBoxes$Space"
  | 3 => .boolean
  | 4 => .object "HidingBoxes$History"
  | 5 => .object "HidingBoxes$Text"
  | 6 => .object "HidingBoxes$Picture"
  | 7 => .object "HidingBoxes$Picture"
  | _ => .object "HidingBoxes$Box"
abbrev wsX50 : List Cond := u_ws RX5 TX5 9
theorem nmX5 : ∀ a, a < 9 → ∀ b, b < 9 → a ≠ b → (TX5 a).2.1 ≠ (TX5 b).2.1 := by decide +kernel
theorem tyX5_ok : ∀ k, k < 9 → parseFieldDescriptor (TX5 k).2.2.1 = some (tyX5 k) := by decide +kernel
abbrev cX5_init : ByteArray := prog_1_method_1_code
def yX5_init : MethodName := ⟨RX5, "<init>", "()V"⟩
abbrev cX5_add : ByteArray := prog_1_method_2_code
def yX5_add : MethodName := ⟨RX5, "add", "(IIIIII)I"⟩
abbrev cX5_remove : ByteArray := prog_1_method_3_code
def yX5_remove : MethodName := ⟨RX5, "remove", "(I)I"⟩
abbrev cX5_move : ByteArray := prog_1_method_4_code
def yX5_move : MethodName := ⟨RX5, "move", "(III)I"⟩
abbrev cX5_fall : ByteArray := prog_1_method_5_code
def yX5_fall : MethodName := ⟨RX5, "fall", "(I)I"⟩
abbrev cX5_split : ByteArray := prog_1_method_6_code
def yX5_split : MethodName := ⟨RX5, "split", "(III)I"⟩
abbrev cX5_breakRing : ByteArray := prog_1_method_7_code
def yX5_breakRing : MethodName := ⟨RX5, "breakRing", "()I"⟩
abbrev cX5_turn : ByteArray := prog_1_method_8_code
def yX5_turn : MethodName := ⟨RX5, "turn", "()I"⟩
abbrev cX5_set : ByteArray := prog_1_method_9_code
def yX5_set : MethodName := ⟨RX5, "set", "(II)I"⟩
abbrev cX5_box : ByteArray := prog_1_method_16_code
def yX5_box : MethodName := ⟨RX5, "box", "(I)I"⟩
abbrev cX5_end : ByteArray := prog_1_method_17_code
def yX5_end : MethodName := ⟨RX5, "end", "(IIZ)I"⟩
abbrev cX5_ofBox : ByteArray := prog_1_method_18_code
def yX5_ofBox : MethodName := ⟨RX5, "ofBox", "(II)I"⟩
abbrev cX5_pair : ByteArray := prog_1_method_19_code
def yX5_pair : MethodName := ⟨RX5, "pair", "(II)I"⟩
abbrev cX5_drawn : ByteArray := prog_1_method_20_code
def yX5_drawn : MethodName := ⟨RX5, "drawn", "(I)I"⟩
abbrev cX5_total : ByteArray := prog_1_method_21_code
def yX5_total : MethodName := ⟨RX5, "total", "(I)I"⟩
abbrev cX5_waitsFor : ByteArray := prog_1_method_22_code
def yX5_waitsFor : MethodName := ⟨RX5, "waitsFor", "(I)I"⟩
abbrev cX5_breaks : ByteArray := prog_1_method_23_code
def yX5_breaks : MethodName := ⟨RX5, "breaks", "()I"⟩
abbrev cX5_drawnWithout : ByteArray := prog_1_method_24_code
def yX5_drawnWithout : MethodName := ⟨RX5, "drawnWithout", "(I)I"⟩
abbrev cX5_isDirection : ByteArray := prog_1_method_25_code
def yX5_isDirection : MethodName := ⟨RX5, "isDirection", "(I)Z"⟩
abbrev cX5_look : ByteArray := prog_1_method_26_code
def yX5_look : MethodName := ⟨RX5, "look", "()LHidingBoxes$Picture;"⟩
abbrev cX5_adoptTrial : ByteArray := prog_1_method_27_code
def yX5_adoptTrial : MethodName := ⟨RX5, "adoptTrial", "()V"⟩
abbrev cX5_enter : ByteArray := prog_1_method_28_code
def yX5_enter : MethodName := ⟨RX5, "enter", "(LHidingBoxes$Space;IIIIII)I"⟩
abbrev cX5_breakOne : ByteArray := prog_1_method_29_code
def yX5_breakOne : MethodName := ⟨RX5, "breakOne", "(LHidingBoxes$Space;)I"⟩
def RX6 : String := "HidingBoxesModel"
def TX6 : u_T := fun k => match k with
  | _ => ("", "", "", false)
def tyX6 : Nat → FieldType := fun k => match k with
  | _ => .int
abbrev wsX60 : List Cond := u_ws RX6 TX6 0
theorem nmX6 : ∀ a, a < 0 → ∀ b, b < 0 → a ≠ b → (TX6 a).2.1 ≠ (TX6 b).2.1 := by decide +kernel
theorem tyX6_ok : ∀ k, k < 0 → parseFieldDescriptor (TX6 k).2.2.1 = some (tyX6 k) := by decide +kernel
def RJ6 : String := "java/lang/Integer"
def TJ6 : u_T := fun k => match k with
  | _ => ("", "", "", false)
def tyJ6 : Nat → FieldType := fun k => match k with
  | _ => .int
abbrev wsJ60 : List Cond := u_ws RJ6 TJ6 0
theorem nmJ6 : ∀ a, a < 0 → ∀ b, b < 0 → a ≠ b → (TJ6 a).2.1 ≠ (TJ6 b).2.1 := by decide +kernel
theorem tyJ6_ok : ∀ k, k < 0 → parseFieldDescriptor (TJ6 k).2.2.1 = some (tyJ6 k) := by decide +kernel
abbrev cJ6_bitCount_0f7a4 : ByteArray := prog_9_method_49_code
def yJ6_bitCount_0f7a4 : MethodName := ⟨RJ6, "bitCount", "(I)I"⟩
def RJ9 : String := "java/lang/Math"
def TJ9 : u_T := fun k => match k with
  | _ => ("", "", "", false)
def tyJ9 : Nat → FieldType := fun k => match k with
  | _ => .int
abbrev wsJ90 : List Cond := u_ws RJ9 TJ9 0
theorem nmJ9 : ∀ a, a < 0 → ∀ b, b < 0 → a ≠ b → (TJ9 a).2.1 ≠ (TJ9 b).2.1 := by decide +kernel
theorem tyJ9_ok : ∀ k, k < 0 → parseFieldDescriptor (TJ9 k).2.2.1 = some (tyJ9 k) := by decide +kernel
abbrev cJ9_max_7cf53 : ByteArray := prog_10_method_65_code
def yJ9_max_7cf53 : MethodName := ⟨RJ9, "max", "(II)I"⟩
def RJ10 : String := "java/lang/System"
def TJ10 : u_T := fun k => match k with
  | _ => ("", "", "", false)
def tyJ10 : Nat → FieldType := fun k => match k with
  | _ => .int
abbrev wsJ100 : List Cond := u_ws RJ10 TJ10 0
theorem nmJ10 : ∀ a, a < 0 → ∀ b, b < 0 → a ≠ b → (TJ10 a).2.1 ≠ (TJ10 b).2.1 := by decide +kernel
theorem tyJ10_ok : ∀ k, k < 0 → parseFieldDescriptor (TJ10 k).2.2.1 = some (tyJ10 k) := by decide +kernel
def RJ7 : String := "java/util/Arrays"
def TJ7 : u_T := fun k => match k with
  | _ => ("", "", "", false)
def tyJ7 : Nat → FieldType := fun k => match k with
  | _ => .int
abbrev wsJ70 : List Cond := u_ws RJ7 TJ7 0
theorem nmJ7 : ∀ a, a < 0 → ∀ b, b < 0 → a ≠ b → (TJ7 a).2.1 ≠ (TJ7 b).2.1 := by decide +kernel
theorem tyJ7_ok : ∀ k, k < 0 → parseFieldDescriptor (TJ7 k).2.2.1 = some (tyJ7 k) := by decide +kernel
abbrev cJ7_fill_53178 : ByteArray := prog_12_method_103_code
def yJ7_fill_53178 : MethodName := ⟨RJ7, "fill", "([II)V"⟩
def RL : String := "HidingBoxesLaw"
abbrev vwCl : List vw_C := [(RX0, TX0, 3), (RX1, TX1, 2), (RX2, TX2, 7), (RX3, TX3, 5), (RX4, TX4, 4), (RX5, TX5, 9)]
end
section
/-! CORE: one world of 371 cells (the class's 369, the law's two rows of ints: 369 the ends, 370 who hides whom); the judgement AtW; contracts CtW; its rows -/
/-- what the cells hold: by a cell's number and a place in it -/
abbrev Sg : Type := Nat → Nat → Int32
/-- the classes' numbers and slots; the array classes (0 int, 1 Box, 2 Space, 3 char); the addresses by number -/
abbrev Om : Type := va_G × (Nat → ClassId) × (Nat → Nat)
def ad (Ω : Om) (k : Nat) : Nat := Ω.2.2 k
/-- box b: its cell, its low, its high; space s: its cell, its row; picture p -/
def iBo (b : Nat) : Nat := 3 * b
def iL (b : Nat) : Nat := 3 * b + 1
def iH (b : Nat) : Nat := 3 * b + 2
def iS (s : Nat) : Nat := 339 + 2 * s
def iA (s : Nat) : Nat := 340 + 2 * s
def iP (p : Nat) : Nat := 353 + 5 * p
/-- the box at a slot of a space -/
def bx (s i : Nat) : Nat := 16 * s + i
def upS (σ : Sg) (k i : Nat) (v : Int32) : Sg := fun k' => if k' = k then upd (σ k) i v else σ k'
theorem up_get (σ : Sg) (k i : Nat) (v : Int32) (k' i' : Nat) : upS σ k i v k' i' = if k' = k ∧ i' = i then v else σ k' i' := by
  unfold upS upd
  by_cases h : k' = k
  · subst h
    by_cases h2 : i' = i <;> simp [h2]
  · simp [h]
theorem up_at (σ : Sg) (k i : Nat) (v : Int32) : upS σ k i v k = upd (σ k) i v := by simp [upS]
theorem up_ne {σ : Sg} {k i : Nat} {v : Int32} {k' : Nat} (h : k' ≠ k) : upS σ k i v k' = σ k' := by simp [upS, h]
def zArr (Ω : Om) (σ : Sg) (k n : Nat) : va_E := .inl (Ω.2.1 0, n, .inl (σ k))
def zBox (Ω : Om) (σ : Sg) (k : Nat) : va_E := .inr (0, [.int (σ k 0), .ref (ad Ω (k + 1)), .ref (ad Ω (k + 2))])
def zSp (Ω : Om) (σ : Sg) (k : Nat) : va_E := .inr (3, [.ref (ad Ω (k + 1)), .int (σ k 1), .int (σ k 2), .int (σ k 3), .int (σ k 4)])
def zSpA (Ω : Om) (k : Nat) : va_E := .inl (Ω.2.1 1, 16, .inr (.inr (.inr (.inr (fun i => some (ad Ω (iBo (bx ((k - 340) / 2) i))))))))
def zPic (Ω : Om) (σ : Sg) (k : Nat) : va_E := .inr (2, [.int (σ k 0), .ref (ad Ω (k + 1)), .ref (ad Ω (k + 2)), .ref (ad Ω (k + 3)), .int (σ k 4), .int (σ k 5), .ref (ad Ω (k + 4))])
def zHis (Ω : Om) (σ : Sg) (k : Nat) : va_E := .inr (1, [.ref (ad Ω 364), .int (σ k 1)])
def zHisA (Ω : Om) (σ : Sg) (k : Nat) : va_E := .inl (Ω.2.1 2, 4, .inr (.inr (.inr (.inr (fun i => some (ad Ω (iS (σ k i).toNatClampNeg)))))))
def zTxt (Ω : Om) (σ : Sg) (k : Nat) : va_E := .inr (4, [.ref (ad Ω 366), .int (σ k 1), .ref (ad Ω 367), .int (σ k 3)])
def zCh (Ω : Om) (σ : Sg) (k : Nat) : va_E := .inl (Ω.2.1 3, 80, .inl (σ k))
def zMain (Ω : Om) (σ : Sg) (k : Nat) : va_E := .inr (5, [.ref (ad Ω (iS 0)), .ref (ad Ω (iS 1)), .ref (ad Ω (iS 2)), .int (σ k 3), .ref (ad Ω 363), .ref (ad Ω 365), .ref (ad Ω (iP 0)), .ref (ad Ω (iP 1)), .ref (ad Ω (iBo 112))])
def mLen (k : Nat) : Nat := if k = 369 then 60 else 10
def cel (Ω : Om) (σ : Sg) (k : Nat) : va_E :=
  if k < 339 then (if k % 3 = 0 then zBox Ω σ k else zArr Ω σ k 3)
  else if k < 353 then (if k % 2 = 1 then zSp Ω σ k else zSpA Ω k)
  else if k < 363 then (if k = 353 ∨ k = 358 then zPic Ω σ k else zArr Ω σ k 16)
  else if k = 363 then zHis Ω σ k else if k = 364 then zHisA Ω σ k else if k = 365 then zTxt Ω σ k else if k = 366 then zCh Ω σ k else if k = 367 then zArr Ω σ k 41
  else if k = 368 then zMain Ω σ k else zArr Ω σ k (mLen k)
theorem cel_box {Ω : Om} {σ : Sg} {b : Nat} (h : b < 113) : cel Ω σ (iBo b) = .inr (0, [.int (σ (iBo b) 0), .ref (ad Ω (iL b)), .ref (ad Ω (iH b))]) := by
  unfold cel iBo
  rw [if_pos (by omega), if_pos (by omega)]
  rfl
theorem cel_low {Ω : Om} {σ : Sg} {b : Nat} (h : b < 113) : cel Ω σ (iL b) = .inl (Ω.2.1 0, 3, .inl (σ (iL b))) := by
  unfold cel iL
  rw [if_pos (by omega), if_neg (by omega)]
  rfl
theorem cel_high {Ω : Om} {σ : Sg} {b : Nat} (h : b < 113) : cel Ω σ (iH b) = .inl (Ω.2.1 0, 3, .inl (σ (iH b))) := by
  unfold cel iH
  rw [if_pos (by omega), if_neg (by omega)]
  rfl
theorem cel_sp {Ω : Om} {σ : Sg} {s : Nat} (h : s < 7) : cel Ω σ (iS s) = .inr (3, [.ref (ad Ω (iA s)), .int (σ (iS s) 1), .int (σ (iS s) 2), .int (σ (iS s) 3), .int (σ (iS s) 4)]) := by
  unfold cel iS iA
  rw [if_neg (by omega), if_pos (by omega), if_pos (by omega)]
  unfold zSp
  rw [show 339 + 2 * s + 1 = 340 + 2 * s by omega]
theorem cel_spA {Ω : Om} {σ : Sg} {s : Nat} (h : s < 7) : cel Ω σ (iA s) = .inl (Ω.2.1 1, 16, .inr (.inr (.inr (.inr (fun i => some (ad Ω (iBo (bx s i)))))))) := by
  unfold cel iA
  rw [if_neg (by omega), if_pos (by omega), if_neg (by omega)]
  unfold zSpA
  rw [show (340 + 2 * s - 340) / 2 = s by omega]
theorem cel_pic {Ω : Om} {σ : Sg} {p : Nat} (h : p < 2) : cel Ω σ (iP p) = .inr (2, [.int (σ (iP p) 0), .ref (ad Ω (iP p + 1)), .ref (ad Ω (iP p + 2)), .ref (ad Ω (iP p + 3)), .int (σ (iP p) 4), .int (σ (iP p) 5), .ref (ad Ω (iP p + 4))]) := by
  unfold cel iP
  rw [if_neg (by omega), if_neg (by omega), if_pos (by omega), if_pos (by omega)]
  rfl
theorem cel_picA {Ω : Om} {σ : Sg} {p j : Nat} (h : p < 2) (h1 : 0 < j) (h2 : j < 5) : cel Ω σ (iP p + j) = .inl (Ω.2.1 0, 16, .inl (σ (iP p + j))) := by
  unfold cel iP
  rw [if_neg (by omega), if_neg (by omega), if_pos (by omega), if_neg (by omega)]
  rfl
theorem cel_marr {Ω : Om} {σ : Sg} {k : Nat} (h : 368 < k) : cel Ω σ k = .inl (Ω.2.1 0, mLen k, .inl (σ k)) := by
  unfold cel
  rw [if_neg (by omega), if_neg (by omega), if_neg (by omega), if_neg (by omega), if_neg (by omega), if_neg (by omega), if_neg (by omega), if_neg (by omega), if_neg (by omega)]
  rfl
theorem cel_congr {Ω : Om} {σ σ' : Sg} {k : Nat} (h : σ' k = σ k) : cel Ω σ' k = cel Ω σ k := by
  unfold cel zBox zArr zSp zPic zHis zHisA zTxt zCh zMain
  simp only [h]
def CW (Ω : Om) (σ : Sg) : va_W := (List.range 371).map fun k => (ad Ω k, cel Ω σ k)
theorem CW_get {Ω : Om} {σ : Sg} {k : Nat} (h : k < 371) : (CW Ω σ)[k]? = some (ad Ω k, cel Ω σ k) := by
  simp [CW, h]
theorem CW_set {Ω : Om} {σ σ' : Sg} {k : Nat} {e : va_E} (ho : ∀ j, j ≠ k → σ' j = σ j) (he : cel Ω σ' k = e) : (CW Ω σ).set k (ad Ω k, e) = CW Ω σ' := by
  subst he
  refine List.ext_getElem? fun j => ?_
  rw [List.getElem?_set]
  by_cases hj : k = j
  · subst hj
    by_cases hk : k < 371
    · rw [if_pos rfl, if_pos (by simp [CW, hk]), CW_get hk]
    · rw [if_pos rfl, if_neg (by simp [CW, hk])]
      simp [CW, hk]
  · rw [if_neg hj]
    by_cases hk : j < 371
    · rw [CW_get hk, CW_get hk, cel_congr (ho j (fun q => hj q.symm))]
    · simp [CW, hk]
theorem CW_D {A : Nat → Prop} {Ω : Om} {σ σ' : Sg} (h : va_D A (CW Ω σ)) : va_D A (CW Ω σ') := by
  have key : ∀ (k : Nat) (q : Nat × va_E), (CW Ω σ')[k]? = some q → ∃ q', (CW Ω σ)[k]? = some q' ∧ q'.1 = q.1 := by
    intro k q hq
    by_cases hk : k < 371
    · rw [CW_get hk] at hq
      exact ⟨_, CW_get hk, by cases hq; rfl⟩
    · simp [CW, hk] at hq
  refine ⟨fun i j p q hp hq e => ?_, fun k q hq => ?_⟩
  · obtain ⟨p', h1, h2⟩ := key i p hp
    obtain ⟨q', h3, h4⟩ := key j q hq
    exact h.1 i j p' q' h1 h3 (by rw [h2, h4, e])
  · obtain ⟨q', h1, h2⟩ := key k q hq
    rw [← h2]
    exact h.2 k q' h1
abbrev Sz0 : Sg := fun _ _ => 0
def tysO (Ω : Om) : List (ClassId × FieldType) := [(Ω.2.1 0, .int), (Ω.2.1 1, .object RX0), (Ω.2.1 2, .object RX3), (Ω.2.1 3, .char)]
/-! locals as a list by place, with holes -/
def lvZ : Nat → List (Option Value) → List (Nat × Value)
  | _, [] => []
  | i, none :: t => lvZ (i + 1) t
  | i, some v :: t => (i, v) :: lvZ (i + 1) t
def lvG : List (Option Value) → Nat → Option Value
  | [], _ => none
  | a :: _, 0 => a
  | _ :: t, i + 1 => lvG t i
def lvS : List (Option Value) → Nat → Option Value → List (Option Value)
  | [], _, _ => []
  | _ :: t, 0, v => v :: t
  | a :: t, i + 1, v => a :: lvS t i v
theorem lvZ_mem : ∀ (lv : List (Option Value)) (k : Nat) (q : Nat × Value), q ∈ lvZ k lv ↔ ∃ j, lvG lv j = some q.2 ∧ q.1 = k + j
  | [], k, q => by simp [lvZ, lvG]
  | none :: t, k, q => by
    rw [lvZ, lvZ_mem t]
    constructor
    · rintro ⟨j, h1, h2⟩
      exact ⟨j + 1, h1, by omega⟩
    · rintro ⟨j, h1, h2⟩
      cases j with
      | zero => simp [lvG] at h1
      | succ j => exact ⟨j, h1, by omega⟩
  | some v :: t, k, q => by
    rw [lvZ, List.mem_cons, lvZ_mem t]
    constructor
    · rintro (rfl | ⟨j, h1, h2⟩)
      · exact ⟨0, rfl, rfl⟩
      · exact ⟨j + 1, h1, by omega⟩
    · rintro ⟨j, h1, h2⟩
      cases j with
      | zero => exact Or.inl (by obtain ⟨a, b⟩ := q; simp [lvG] at h1; simp at h2; rw [h1, h2])
      | succ j => exact Or.inr ⟨j, h1, by omega⟩
theorem lvG_S : ∀ (lv : List (Option Value)) (i j : Nat) (v : Option Value), lvG (lvS lv i v) j = if j = i ∧ i < lv.length then v else lvG lv j
  | [], i, j, v => by simp [lvS, lvG]
  | a :: t, 0, 0, v => by simp [lvS, lvG]
  | a :: t, 0, j + 1, v => by simp [lvS, lvG]
  | a :: t, i + 1, 0, v => by simp [lvS, lvG]
  | a :: t, i + 1, j + 1, v => by
    rw [lvS, lvG, lvG_S t i j v]
    simp [lvG]
def lvH (ls : Array Slot) (n : Nat) (lv : List (Option Value)) : Prop := lv_has ls n (lvZ 0 lv)
theorem lvH_at {ls : Array Slot} {n i : Nat} {lv : List (Option Value)} {v : Value} (h : lvH ls n lv) (hl : lvG lv i = some v) : ls[i]? = some (.val v) :=
  h.2.2 (i, v) ((lvZ_mem lv 0 (i, v)).mpr ⟨i, hl, by omega⟩)
/-- no long stands just ahead -/
def lvK (lv : List (Option Value)) : Nat → Bool
  | 0 => true
  | i + 1 => match lvG lv i with
    | some v => v.category != 2
    | none => true
theorem lvH_set {ls : Array Slot} {n i : Nat} {lv : List (Option Value)} {v : Value} (h : lv_has ls n ((i, v) :: (lvZ 0 lv).filter (fun q => !(q.1 == i) && !(q.1 + 1 == i && q.2.category == 2)))) (hk : lvK lv i = true) : lvH ls n (lvS lv i (some v)) := by
  refine ⟨h.1, h.2.1, fun q hq => ?_⟩
  obtain ⟨j, h1, h2⟩ := (lvZ_mem _ _ _).mp hq
  rw [lvG_S] at h1
  obtain ⟨a, w⟩ := q
  simp only [Nat.zero_add] at h2
  subst h2
  split at h1
  next hc =>
    obtain ⟨rfl, -⟩ := hc
    rw [← Option.some.inj h1]
    exact h.2.2 (a, v) List.mem_cons_self
  next hc =>
    by_cases hai : a = i
    · subst hai
      have : ¬ a < lv.length := fun q => hc ⟨rfl, q⟩
      have hn : ∀ (l : List (Option Value)) (a : Nat), ¬ a < l.length → lvG l a = none := by
        intro l
        induction l with
        | nil => intro a _; rfl
        | cons b t ih =>
          intro a ha
          cases a with
          | zero => simp at ha
          | succ a => exact ih a (by simpa using ha)
      rw [hn lv a this] at h1
      cases h1
    · refine h.2.2 (a, w) (List.mem_cons_of_mem _ (List.mem_filter.mpr ⟨(lvZ_mem _ _ _).mpr ⟨a, h1, by omega⟩, ?_⟩))
      have e1 : (a == i) = false := by simpa using hai
      simp only [e1, Bool.not_false, Bool.true_and]
      by_cases hb : a + 1 = i
      · subst hb
        simp only [lvK] at hk
        simp only at h1
        rw [h1] at hk
        simpa using hk
      · have e2 : (a + 1 == i) = false := by simpa using hb
        simp [e2]
theorem lvH_set2 {ls : Array Slot} {n i : Nat} {lv : List (Option Value)} {v : Value} (h : lv_has ls n ((i, v) :: (lvZ 0 lv).filter (fun q => !(q.1 == i) && (!(q.1 == i + 1) && !(q.1 + 1 == i && q.2.category == 2))))) (hk : lvK lv i = true) : lvH ls n (lvS (lvS lv i (some v)) (i + 1) none) := by
  refine ⟨h.1, h.2.1, fun q hq => ?_⟩
  obtain ⟨j, h1, h2⟩ := (lvZ_mem _ _ _).mp hq
  rw [lvG_S, lvG_S] at h1
  obtain ⟨a, w⟩ := q
  simp only [Nat.zero_add] at h2
  subst h2
  split at h1
  next hc => cases h1
  next hc0 =>
    have hn : ∀ (l : List (Option Value)) (a : Nat), ¬ a < l.length → lvG l a = none := by
      intro l
      induction l with
      | nil => intro a _; rfl
      | cons b t ih =>
        intro a ha
        cases a with
        | zero => simp at ha
        | succ a => exact ih a (by simpa using ha)
    have hlen : ∀ (l : List (Option Value)) (i : Nat) (v : Option Value), (lvS l i v).length = l.length := by
      intro l
      induction l with
      | nil => intro i v; rfl
      | cons b t ih =>
        intro i v
        cases i with
        | zero => rfl
        | succ i => simp [lvS, ih]
    rw [hlen] at hc0
    split at h1
    next hc =>
      obtain ⟨rfl, -⟩ := hc
      rw [← Option.some.inj h1]
      exact h.2.2 (a, v) List.mem_cons_self
    next hc =>
      have g0 : ∀ b, lvG lv b = some w → b < lv.length := fun b hb => Nat.not_le.mp (fun q => by rw [hn lv b (by omega)] at hb; cases hb)
      have hal := g0 a h1
      have hai : a ≠ i := fun e => hc ⟨e, by omega⟩
      have hai1 : a ≠ i + 1 := fun e => hc0 ⟨e, by omega⟩
      refine h.2.2 (a, w) (List.mem_cons_of_mem _ (List.mem_filter.mpr ⟨(lvZ_mem _ _ _).mpr ⟨a, h1, by omega⟩, ?_⟩))
      have e1 : (a == i) = false := by simpa using hai
      have e3 : (a == i + 1) = false := by simpa using hai1
      simp only [e1, e3, Bool.not_false, Bool.true_and]
      by_cases hb : a + 1 = i
      · subst hb
        simp only [lvK] at hk
        simp only at h1
        rw [h1] at hk
        simpa using hk
      · have e2 : (a + 1 == i) = false := by simpa using hb
        simp [e2]
end
section
/-! THE JUDGEMENT AtW: a machine that holds the world at a state σ comes, from a place of a method, to what is wanted; its rows -/
/-- what stays the same while a method runs: program, launch, environment, start, method, arguments, frames below, method, code, what is wanted, cells and slots made, what may change -/
abbrev GmW : Type := Program × Launch × Env × State × MethodId × Array Value × List Frame × Method × Code × (State → Prop) × (Nat × Nat) × (Nat → Prop)
abbrev gP (Γ : GmW) : Program := Γ.1
abbrev gL (Γ : GmW) : Launch := Γ.2.1
abbrev gE (Γ : GmW) : Env := Γ.2.2.1
abbrev gSt (Γ : GmW) : State := Γ.2.2.2.1
abbrev gM (Γ : GmW) : MethodId := Γ.2.2.2.2.1
abbrev gAr (Γ : GmW) : Array Value := Γ.2.2.2.2.2.1
abbrev gB (Γ : GmW) : List Frame := Γ.2.2.2.2.2.2.1
abbrev gMe (Γ : GmW) : Method := Γ.2.2.2.2.2.2.2.1
abbrev gC (Γ : GmW) : Code := Γ.2.2.2.2.2.2.2.2.1
abbrev gQ (Γ : GmW) : State → Prop := Γ.2.2.2.2.2.2.2.2.2.1
abbrev gN (Γ : GmW) : Nat × Nat := Γ.2.2.2.2.2.2.2.2.2.2.1
abbrev gA (Γ : GmW) : Nat → Prop := Γ.2.2.2.2.2.2.2.2.2.2.2
/-- what a method is: its bytes, its class, its words, its locals, its room, its type -/
abbrev MI : Type := ByteArray × String × List Cond × Nat × Room × Option FieldType
abbrev mB (M : MI) : ByteArray := M.1
abbrev mO (M : MI) : String := M.2.1
abbrev mW (M : MI) : List Cond := M.2.2.1
abbrev mN (M : MI) : Nat := M.2.2.2.1
abbrev mR (M : MI) : Room := M.2.2.2.2.1
abbrev mT (M : MI) : Option FieldType := M.2.2.2.2.2
def GdW (M : MI) (Γ : GmW) (Ω : Om) : Prop :=
  (gP Γ).tables.exec = Jvm.exec ∧ (gC Γ).code = mB M ∧ (gC Γ).maxLocals = mN M ∧ (gSt Γ).vm.findClass (mO M) = some (gM Γ).cls ∧ (∀ w ∈ mW M, w.before (gAr Γ) (gSt Γ) = true) ∧ va_K Ω.1 vwCl (tysO Ω) (gSt Γ) ∧ va_D (gA Γ) (CW Ω Sz0) ∧ (∀ q, (gSt Γ).heap.size ≤ q → gA Γ q) ∧ (gMe Γ).sig.returnType = mT M ∧ (gMe Γ).locks = false ∧ (gN Γ).1 ≤ (mR M).cells ∧ (gN Γ).2 ≤ (mR M).slots
def AtW (M : MI) (Γ : GmW) (Ω : Om) (σ : Sg) (pc : Nat) (lv : List (Option Value)) (st : List Value) : Prop :=
  GdW M Γ Ω → ∀ (H : Heap) (locs : List Loc) (ls : Array Slot), va_P Ω.1 vwCl (CW Ω σ) H → va_S (gA Γ) (gSt Γ).heap H locs → lvH ls (mN M) lv → W (gP Γ) (gL Γ) (gE Γ) (mR M) (gSt Γ) (gM Γ) (gAr Γ) (gB Γ) (gMe Γ) (gC Γ) H locs (gN Γ).1 (gN Γ).2 (gQ Γ) (F0 (gM Γ) pc ls st)
section ROWS
variable {M : MI} {Γ : GmW} {Ω : Om} {σ : Sg} {pc : Nat} {lv : List (Option Value)} {st : List Value}
theorem AtW.eqs {σ' : Sg} {pc' : Nat} {lv' : List (Option Value)} {st' : List Value} (h : AtW M Γ Ω σ' pc' lv' st') (h1 : σ = σ') (h2 : pc = pc') (h3 : lv = lv') (h4 : st = st') : AtW M Γ Ω σ pc lv st := by
  subst h1 h2 h3 h4
  exact h
theorem r_iconst {n : Int} (v : Int32) (hd : decode (mB M) pc = .ok (.iconst n, 1)) (hv : Int32.ofInt n = v)
    (k : AtW M Γ Ω σ (pc + 1) lv (.int v :: st)) : AtW M Γ Ω σ pc lv (st) :=
  fun G H locs ls hP hS hl => lv_iconst G.1 G.2.1 hd hv (k G H locs ls hP hS hl)
theorem r_bipush {n : Int} (v : Int32) (hd : decode (mB M) pc = .ok (.bipush n, 2)) (hv : (Int8.ofInt n).toInt32 = v)
    (k : AtW M Γ Ω σ (pc + 2) lv (.int v :: st)) : AtW M Γ Ω σ pc lv (st) :=
  fun G H locs ls hP hS hl => lv_bipush G.1 G.2.1 hd hv (k G H locs ls hP hS hl)
theorem r_sipush {n : Int} (v : Int32) (hd : decode (mB M) pc = .ok (.sipush n, 3)) (hv : (Int16.ofInt n).toInt32 = v)
    (k : AtW M Γ Ω σ (pc + 3) lv (.int v :: st)) : AtW M Γ Ω σ pc lv (st) :=
  fun G H locs ls hP hS hl => lv_sipush G.1 G.2.1 hd hv (k G H locs ls hP hS hl)
theorem r_iload_n {i : Fin 4} {x : Int32} (hd : decode (mB M) pc = .ok (.iload_n i, 1)) (hi : lvG lv (i : Nat) = some (.int x))
    (k : AtW M Γ Ω σ (pc + 1) lv (.int x :: st)) : AtW M Γ Ω σ pc lv (st) :=
  fun G H locs ls hP hS hl => lv_iload_n G.1 G.2.1 hd rfl (lvH_at hl hi) (k G H locs ls hP hS hl)
theorem r_iload {i : Nat} {x : Int32} (hd : decode (mB M) pc = .ok (.iload i, 2)) (hi : lvG lv i = some (.int x))
    (k : AtW M Γ Ω σ (pc + 2) lv (.int x :: st)) : AtW M Γ Ω σ pc lv (st) :=
  fun G H locs ls hP hS hl => lv_iload G.1 G.2.1 hd (lvH_at hl hi) (k G H locs ls hP hS hl)
theorem r_lload_n {i : Fin 4} {x : Int64} (hd : decode (mB M) pc = .ok (.lload_n i, 1)) (hi : lvG lv (i : Nat) = some (.long x))
    (k : AtW M Γ Ω σ (pc + 1) lv (.long x :: st)) : AtW M Γ Ω σ pc lv (st) :=
  fun G H locs ls hP hS hl => lv_lload_n G.1 G.2.1 hd rfl (lvH_at hl hi) (k G H locs ls hP hS hl)
theorem r_lload {i : Nat} {x : Int64} (hd : decode (mB M) pc = .ok (.lload i, 2)) (hi : lvG lv i = some (.long x))
    (k : AtW M Γ Ω σ (pc + 2) lv (.long x :: st)) : AtW M Γ Ω σ pc lv (st) :=
  fun G H locs ls hP hS hl => lv_lload G.1 G.2.1 hd (lvH_at hl hi) (k G H locs ls hP hS hl)
theorem r_aload_n {i : Fin 4} {x : Nat} (hd : decode (mB M) pc = .ok (.aload_n i, 1)) (hi : lvG lv (i : Nat) = some (.ref x))
    (k : AtW M Γ Ω σ (pc + 1) lv (.ref x :: st)) : AtW M Γ Ω σ pc lv (st) :=
  fun G H locs ls hP hS hl => lv_aload_n G.1 G.2.1 hd rfl (lvH_at hl hi) (k G H locs ls hP hS hl)
theorem r_aload {i : Nat} {x : Nat} (hd : decode (mB M) pc = .ok (.aload i, 2)) (hi : lvG lv i = some (.ref x))
    (k : AtW M Γ Ω σ (pc + 2) lv (.ref x :: st)) : AtW M Γ Ω σ pc lv (st) :=
  fun G H locs ls hP hS hl => lv_aload G.1 G.2.1 hd (lvH_at hl hi) (k G H locs ls hP hS hl)
theorem r_istore_n {i : Fin 4} {x : Int32} (hd : decode (mB M) pc = .ok (.istore_n i, 1)) (hn : (i : Nat) < mN M) (hk : lvK lv (i : Nat) = true)
    (k : AtW M Γ Ω σ (pc + 1) (lvS lv (i : Nat) (some (.int x))) st) : AtW M Γ Ω σ pc lv (.int x :: st) :=
  fun G H locs ls hP hS hl => lv_istore_n G.1 G.2.1 hd rfl hl hn rfl (fun ls' hl' => k G H locs ls' hP hS (lvH_set hl' hk))
theorem r_istore {i : Nat} {x : Int32} (hd : decode (mB M) pc = .ok (.istore i, 2)) (hn : i < mN M) (hk : lvK lv i = true)
    (k : AtW M Γ Ω σ (pc + 2) (lvS lv i (some (.int x))) st) : AtW M Γ Ω σ pc lv (.int x :: st) :=
  fun G H locs ls hP hS hl => lv_istore G.1 G.2.1 hd hl hn rfl (fun ls' hl' => k G H locs ls' hP hS (lvH_set hl' hk))
theorem r_astore_n {i : Fin 4} {x : Nat} (hd : decode (mB M) pc = .ok (.astore_n i, 1)) (hn : (i : Nat) < mN M) (hk : lvK lv (i : Nat) = true)
    (k : AtW M Γ Ω σ (pc + 1) (lvS lv (i : Nat) (some (.ref x))) st) : AtW M Γ Ω σ pc lv (.ref x :: st) :=
  fun G H locs ls hP hS hl => lv_astore_n G.1 G.2.1 hd rfl hl hn rfl (fun ls' hl' => k G H locs ls' hP hS (lvH_set hl' hk))
theorem r_astore {i : Nat} {x : Nat} (hd : decode (mB M) pc = .ok (.astore i, 2)) (hn : i < mN M) (hk : lvK lv i = true)
    (k : AtW M Γ Ω σ (pc + 2) (lvS lv i (some (.ref x))) st) : AtW M Γ Ω σ pc lv (.ref x :: st) :=
  fun G H locs ls hP hS hl => lv_astore G.1 G.2.1 hd hl hn rfl (fun ls' hl' => k G H locs ls' hP hS (lvH_set hl' hk))
theorem r_lstore {i : Nat} {x : Int64} (hd : decode (mB M) pc = .ok (.lstore i, 2)) (hn : i + 1 < mN M) (hk : lvK lv i = true)
    (k : AtW M Γ Ω σ (pc + 2) (lvS (lvS lv i (some (.long x))) (i + 1) none) st) : AtW M Γ Ω σ pc lv (.long x :: st) :=
  fun G H locs ls hP hS hl => lv_lstore G.1 G.2.1 hd hl hn rfl (fun ls' hl' => k G H locs ls' hP hS (lvH_set2 hl' hk))
theorem r_iinc {i : Nat} {n : Int} {x : Int32} (v : Int32) (hd : decode (mB M) pc = .ok (.iinc i n, 3)) (hi : lvG lv i = some (.int x)) (hv : x + Int32.ofInt n = v) (hn : i < mN M) (hk : lvK lv i = true)
    (k : AtW M Γ Ω σ (pc + 3) (lvS lv i (some (.int v))) st) : AtW M Γ Ω σ pc lv st := by
  intro G H locs ls hP hS hl
  have hm : (i, Value.int x) ∈ lvZ 0 lv := (lvZ_mem lv 0 (i, .int x)).mpr ⟨i, hi, by omega⟩
  obtain ⟨j, hj⟩ := List.getElem?_of_mem hm
  exact lv_iinc G.1 G.2.1 hd hl hj hv hn rfl (fun ls' hl' => k G H locs ls' hP hS (lvH_set hl' hk))
theorem r_iadd {x y : Int32} (hd : decode (mB M) pc = .ok (.iadd, 1))
    (k : AtW M Γ Ω σ (pc + 1) lv (.int (x + y) :: st)) : AtW M Γ Ω σ pc lv (.int y :: .int x :: st) :=
  fun G H locs ls hP hS hl => lv_iadd G.1 G.2.1 hd (k G H locs ls hP hS hl)
theorem r_isub {x y : Int32} (hd : decode (mB M) pc = .ok (.isub, 1))
    (k : AtW M Γ Ω σ (pc + 1) lv (.int (x - y) :: st)) : AtW M Γ Ω σ pc lv (.int y :: .int x :: st) :=
  fun G H locs ls hP hS hl => lv_isub G.1 G.2.1 hd (k G H locs ls hP hS hl)
theorem r_imul {x y : Int32} (hd : decode (mB M) pc = .ok (.imul, 1))
    (k : AtW M Γ Ω σ (pc + 1) lv (.int (x * y) :: st)) : AtW M Γ Ω σ pc lv (.int y :: .int x :: st) :=
  fun G H locs ls hP hS hl => lv_imul G.1 G.2.1 hd (k G H locs ls hP hS hl)
theorem r_iand {x y : Int32} (hd : decode (mB M) pc = .ok (.iand, 1))
    (k : AtW M Γ Ω σ (pc + 1) lv (.int (x &&& y) :: st)) : AtW M Γ Ω σ pc lv (.int y :: .int x :: st) :=
  fun G H locs ls hP hS hl => lv_iand G.1 G.2.1 hd (k G H locs ls hP hS hl)
theorem r_ior {x y : Int32} (hd : decode (mB M) pc = .ok (.ior, 1))
    (k : AtW M Γ Ω σ (pc + 1) lv (.int (x ||| y) :: st)) : AtW M Γ Ω σ pc lv (.int y :: .int x :: st) :=
  fun G H locs ls hP hS hl => lv_ior G.1 G.2.1 hd (k G H locs ls hP hS hl)
theorem r_ixor {x y : Int32} (hd : decode (mB M) pc = .ok (.ixor, 1))
    (k : AtW M Γ Ω σ (pc + 1) lv (.int (x ^^^ y) :: st)) : AtW M Γ Ω σ pc lv (.int y :: .int x :: st) :=
  fun G H locs ls hP hS hl => lv_ixor G.1 G.2.1 hd (k G H locs ls hP hS hl)
theorem r_ishl {x y : Int32} (hd : decode (mB M) pc = .ok (.ishl, 1))
    (k : AtW M Γ Ω σ (pc + 1) lv (.int (x <<< (y &&& 31)) :: st)) : AtW M Γ Ω σ pc lv (.int y :: .int x :: st) :=
  fun G H locs ls hP hS hl => lv_ishl G.1 G.2.1 hd (k G H locs ls hP hS hl)
theorem r_ishr {x y : Int32} (hd : decode (mB M) pc = .ok (.ishr, 1))
    (k : AtW M Γ Ω σ (pc + 1) lv (.int (x >>> (y &&& 31)) :: st)) : AtW M Γ Ω σ pc lv (.int y :: .int x :: st) :=
  fun G H locs ls hP hS hl => lv_ishr G.1 G.2.1 hd (k G H locs ls hP hS hl)
theorem r_iushr {x y : Int32} (hd : decode (mB M) pc = .ok (.iushr, 1))
    (k : AtW M Γ Ω σ (pc + 1) lv (.int ((x.toUInt32 >>> (y.toUInt32 &&& Int32.toUInt32 31)).toInt32) :: st)) : AtW M Γ Ω σ pc lv (.int y :: .int x :: st) :=
  fun G H locs ls hP hS hl => lv_iushr G.1 G.2.1 hd rfl (k G H locs ls hP hS hl)
theorem r_ineg {x : Int32} (hd : decode (mB M) pc = .ok (.ineg, 1))
    (k : AtW M Γ Ω σ (pc + 1) lv (.int (-x) :: st)) : AtW M Γ Ω σ pc lv (.int x :: st) :=
  fun G H locs ls hP hS hl => lv_ineg G.1 G.2.1 hd (k G H locs ls hP hS hl)
theorem r_idiv {x y : Int32} (hd : decode (mB M) pc = .ok (.idiv, 1)) (hy : ¬ y = 0)
    (k : AtW M Γ Ω σ (pc + 1) lv (.int (x / y) :: st)) : AtW M Γ Ω σ pc lv (.int y :: .int x :: st) :=
  fun G H locs ls hP hS hl => lv_idiv G.1 G.2.1 hd hy (k G H locs ls hP hS hl)
theorem r_ladd {x y : Int64} (hd : decode (mB M) pc = .ok (.ladd, 1))
    (k : AtW M Γ Ω σ (pc + 1) lv (.long (x + y) :: st)) : AtW M Γ Ω σ pc lv (.long y :: .long x :: st) :=
  fun G H locs ls hP hS hl => lv_ladd G.1 G.2.1 hd (k G H locs ls hP hS hl)
theorem r_lcmp {x y : Int64} (hd : decode (mB M) pc = .ok (.lcmp, 1))
    (k : AtW M Γ Ω σ (pc + 1) lv (.int (lg_cmp x y) :: st)) : AtW M Γ Ω σ pc lv (.long y :: .long x :: st) :=
  fun G H locs ls hP hS hl => W.lcmp G.1 G.2.1 hd (k G H locs ls hP hS hl)
theorem r_i2l {x : Int32} (hd : decode (mB M) pc = .ok (.i2l, 1))
    (k : AtW M Γ Ω σ (pc + 1) lv (.long x.toInt64 :: st)) : AtW M Γ Ω σ pc lv (.int x :: st) :=
  fun G H locs ls hP hS hl => lv_i2l G.1 G.2.1 hd rfl (k G H locs ls hP hS hl)
theorem r_l2i {x : Int64} (hd : decode (mB M) pc = .ok (.l2i, 1))
    (k : AtW M Γ Ω σ (pc + 1) lv (.int x.toInt32 :: st)) : AtW M Γ Ω σ pc lv (.long x :: st) :=
  fun G H locs ls hP hS hl => lv_l2i G.1 G.2.1 hd rfl (k G H locs ls hP hS hl)
theorem r_i2c {x : Int32} (hd : decode (mB M) pc = .ok (.i2c, 1))
    (k : AtW M Γ Ω σ (pc + 1) lv (.int (x.toUInt32 % 65536).toInt32 :: st)) : AtW M Γ Ω σ pc lv (.int x :: st) :=
  fun G H locs ls hP hS hl => lv_i2c G.1 G.2.1 hd rfl (k G H locs ls hP hS hl)
theorem r_dup {x : Value} (hd : decode (mB M) pc = .ok (.dup, 1)) (hx : x.category = 1)
    (k : AtW M Γ Ω σ (pc + 1) lv (x :: x :: st)) : AtW M Γ Ω σ pc lv (x :: st) :=
  fun G H locs ls hP hS hl => lv_dup G.1 G.2.1 hd hx (k G H locs ls hP hS hl)
theorem r_pop {x : Value} (hd : decode (mB M) pc = .ok (.pop, 1)) (hx : x.category = 1)
    (k : AtW M Γ Ω σ (pc + 1) lv (st)) : AtW M Γ Ω σ pc lv (x :: st) :=
  fun G H locs ls hP hS hl => lv_pop G.1 G.2.1 hd hx (k G H locs ls hP hS hl)
theorem r_dup2 {x y : Value} (hd : decode (mB M) pc = .ok (.dup2, 1)) (hx : x.category = 1) (hy : y.category = 1)
    (k : AtW M Γ Ω σ (pc + 1) lv (x :: y :: x :: y :: st)) : AtW M Γ Ω σ pc lv (x :: y :: st) :=
  fun G H locs ls hP hS hl => lv_dup2_11 G.1 G.2.1 hd hx hy (k G H locs ls hP hS hl)
theorem r_ldcw {index : Nat} (v : Int32) (hd : decode (mB M) pc = .ok (.ldc_w index, 3)) (hw : Jvm.Cond.constant (mO M) index v ∈ mW M)
    (k : AtW M Γ Ω σ (pc + 3) lv (.int v :: st)) : AtW M Γ Ω σ pc lv (st) :=
  fun G H locs ls hP hS hl => lv_ldcw G.1 G.2.1 G.2.2.2.1 (G.2.2.2.2.1 _ hw) hd (k G H locs ls hP hS hl)
theorem r_goto {off : Int} (tgt : Nat) (hd : decode (mB M) pc = .ok (.goto off, 3)) (ht : (pc : Int) + off = (tgt : Int)) (k : AtW M Γ Ω σ tgt lv st) : AtW M Γ Ω σ pc lv st :=
  fun G H locs ls hP hS hl => lv_goto G.1 G.2.1 hd ht (k G H locs ls hP hS hl)
theorem r_if_eq {x : Int32} {off : Int} (tgt : Nat) (hd : decode (mB M) pc = .ok (.ifCond .eq off, 3)) (ht : (pc : Int) + off = (tgt : Int))
    (kt : x = 0 → AtW M Γ Ω σ tgt lv st) (kf : ¬ x = 0 → AtW M Γ Ω σ (pc + 3) lv st) : AtW M Γ Ω σ pc lv (.int x :: st) :=
  fun G H locs ls hP hS hl => lv_if_eq G.1 G.2.1 hd ht (fun q => kt q G H locs ls hP hS hl) (fun q => kf q G H locs ls hP hS hl)
theorem r_icmp_eq {x y : Int32} {off : Int} (tgt : Nat) (hd : decode (mB M) pc = .ok (.if_icmp .eq off, 3)) (ht : (pc : Int) + off = (tgt : Int))
    (kt : x = y → AtW M Γ Ω σ tgt lv st) (kf : ¬ x = y → AtW M Γ Ω σ (pc + 3) lv st) : AtW M Γ Ω σ pc lv (.int y :: .int x :: st) :=
  fun G H locs ls hP hS hl => lv_icmp_eq G.1 G.2.1 hd ht (fun q => kt q G H locs ls hP hS hl) (fun q => kf q G H locs ls hP hS hl)
theorem r_if_ne {x : Int32} {off : Int} (tgt : Nat) (hd : decode (mB M) pc = .ok (.ifCond .ne off, 3)) (ht : (pc : Int) + off = (tgt : Int))
    (kt : ¬ x = 0 → AtW M Γ Ω σ tgt lv st) (kf : x = 0 → AtW M Γ Ω σ (pc + 3) lv st) : AtW M Γ Ω σ pc lv (.int x :: st) :=
  fun G H locs ls hP hS hl => lv_if_ne G.1 G.2.1 hd ht (fun q => kt q G H locs ls hP hS hl) (fun q => kf q G H locs ls hP hS hl)
theorem r_icmp_ne {x y : Int32} {off : Int} (tgt : Nat) (hd : decode (mB M) pc = .ok (.if_icmp .ne off, 3)) (ht : (pc : Int) + off = (tgt : Int))
    (kt : ¬ x = y → AtW M Γ Ω σ tgt lv st) (kf : x = y → AtW M Γ Ω σ (pc + 3) lv st) : AtW M Γ Ω σ pc lv (.int y :: .int x :: st) :=
  fun G H locs ls hP hS hl => lv_icmp_ne G.1 G.2.1 hd ht (fun q => kt q G H locs ls hP hS hl) (fun q => kf q G H locs ls hP hS hl)
theorem r_if_lt {x : Int32} {off : Int} (tgt : Nat) (hd : decode (mB M) pc = .ok (.ifCond .lt off, 3)) (ht : (pc : Int) + off = (tgt : Int))
    (kt : x < 0 → AtW M Γ Ω σ tgt lv st) (kf : ¬ x < 0 → AtW M Γ Ω σ (pc + 3) lv st) : AtW M Γ Ω σ pc lv (.int x :: st) :=
  fun G H locs ls hP hS hl => lv_if_lt G.1 G.2.1 hd ht (fun q => kt q G H locs ls hP hS hl) (fun q => kf q G H locs ls hP hS hl)
theorem r_icmp_lt {x y : Int32} {off : Int} (tgt : Nat) (hd : decode (mB M) pc = .ok (.if_icmp .lt off, 3)) (ht : (pc : Int) + off = (tgt : Int))
    (kt : x < y → AtW M Γ Ω σ tgt lv st) (kf : ¬ x < y → AtW M Γ Ω σ (pc + 3) lv st) : AtW M Γ Ω σ pc lv (.int y :: .int x :: st) :=
  fun G H locs ls hP hS hl => lv_icmp_lt G.1 G.2.1 hd ht (fun q => kt q G H locs ls hP hS hl) (fun q => kf q G H locs ls hP hS hl)
theorem r_if_ge {x : Int32} {off : Int} (tgt : Nat) (hd : decode (mB M) pc = .ok (.ifCond .ge off, 3)) (ht : (pc : Int) + off = (tgt : Int))
    (kt : 0 ≤ x → AtW M Γ Ω σ tgt lv st) (kf : ¬ 0 ≤ x → AtW M Γ Ω σ (pc + 3) lv st) : AtW M Γ Ω σ pc lv (.int x :: st) :=
  fun G H locs ls hP hS hl => lv_if_ge G.1 G.2.1 hd ht (fun q => kt q G H locs ls hP hS hl) (fun q => kf q G H locs ls hP hS hl)
theorem r_icmp_ge {x y : Int32} {off : Int} (tgt : Nat) (hd : decode (mB M) pc = .ok (.if_icmp .ge off, 3)) (ht : (pc : Int) + off = (tgt : Int))
    (kt : y ≤ x → AtW M Γ Ω σ tgt lv st) (kf : ¬ y ≤ x → AtW M Γ Ω σ (pc + 3) lv st) : AtW M Γ Ω σ pc lv (.int y :: .int x :: st) :=
  fun G H locs ls hP hS hl => lv_icmp_ge G.1 G.2.1 hd ht (fun q => kt q G H locs ls hP hS hl) (fun q => kf q G H locs ls hP hS hl)
theorem r_if_gt {x : Int32} {off : Int} (tgt : Nat) (hd : decode (mB M) pc = .ok (.ifCond .gt off, 3)) (ht : (pc : Int) + off = (tgt : Int))
    (kt : 0 < x → AtW M Γ Ω σ tgt lv st) (kf : ¬ 0 < x → AtW M Γ Ω σ (pc + 3) lv st) : AtW M Γ Ω σ pc lv (.int x :: st) :=
  fun G H locs ls hP hS hl => lv_if_gt G.1 G.2.1 hd ht (fun q => kt q G H locs ls hP hS hl) (fun q => kf q G H locs ls hP hS hl)
theorem r_icmp_gt {x y : Int32} {off : Int} (tgt : Nat) (hd : decode (mB M) pc = .ok (.if_icmp .gt off, 3)) (ht : (pc : Int) + off = (tgt : Int))
    (kt : y < x → AtW M Γ Ω σ tgt lv st) (kf : ¬ y < x → AtW M Γ Ω σ (pc + 3) lv st) : AtW M Γ Ω σ pc lv (.int y :: .int x :: st) :=
  fun G H locs ls hP hS hl => lv_icmp_gt G.1 G.2.1 hd ht (fun q => kt q G H locs ls hP hS hl) (fun q => kf q G H locs ls hP hS hl)
theorem r_if_le {x : Int32} {off : Int} (tgt : Nat) (hd : decode (mB M) pc = .ok (.ifCond .le off, 3)) (ht : (pc : Int) + off = (tgt : Int))
    (kt : x ≤ 0 → AtW M Γ Ω σ tgt lv st) (kf : ¬ x ≤ 0 → AtW M Γ Ω σ (pc + 3) lv st) : AtW M Γ Ω σ pc lv (.int x :: st) :=
  fun G H locs ls hP hS hl => lv_if_le G.1 G.2.1 hd ht (fun q => kt q G H locs ls hP hS hl) (fun q => kf q G H locs ls hP hS hl)
theorem r_icmp_le {x y : Int32} {off : Int} (tgt : Nat) (hd : decode (mB M) pc = .ok (.if_icmp .le off, 3)) (ht : (pc : Int) + off = (tgt : Int))
    (kt : x ≤ y → AtW M Γ Ω σ tgt lv st) (kf : ¬ x ≤ y → AtW M Γ Ω σ (pc + 3) lv st) : AtW M Γ Ω σ pc lv (.int y :: .int x :: st) :=
  fun G H locs ls hP hS hl => lv_icmp_le G.1 G.2.1 hd ht (fun q => kt q G H locs ls hP hS hl) (fun q => kf q G H locs ls hP hS hl)
theorem r_lookup {dflt : Int} {ps : Array (Int × Int)} {len : Nat} {x : Int32} (off : Int) (tgt : Nat) (hd : decode (mB M) pc = .ok (.lookupswitch dflt ps, len)) (hp : (ps.toList.zip (ps.toList.drop 1)).all (fun (a, next) => a.1 < next.1) = true) (ho : Op.lookupswitch.offset ps.toList dflt x.toInt = off) (ht : (pc : Int) + off = (tgt : Int))
    (k : AtW M Γ Ω σ tgt lv st) : AtW M Γ Ω σ pc lv (.int x :: st) :=
  fun G H locs ls hP hS hl => lv_lookup G.1 G.2.1 hd hp ho ht (k G H locs ls hP hS hl)
theorem r_tableOut {dflt lo hi : Int} {offs : Array Int} {len : Nat} {x : Int32} (tgt : Nat) (hd : decode (mB M) pc = .ok (.tableswitch dflt lo hi offs, len)) (h : x.toInt < lo ∨ hi < x.toInt) (ht : (pc : Int) + dflt = (tgt : Int))
    (k : AtW M Γ Ω σ tgt lv st) : AtW M Γ Ω σ pc lv (.int x :: st) :=
  fun G H locs ls hP hS hl => lv_tableOut G.1 G.2.1 hd h ht (k G H locs ls hP hS hl)
theorem r_tableIn {dflt lo hi : Int} {offs : Array Int} {len : Nat} {x : Int32} (off : Int) (tgt : Nat) (hd : decode (mB M) pc = .ok (.tableswitch dflt lo hi offs, len)) (h1 : ¬ x.toInt < lo) (h2 : ¬ hi < x.toInt) (ho : offs[(x.toInt - lo).toNat]? = some off) (ht : (pc : Int) + off = (tgt : Int))
    (k : AtW M Γ Ω σ tgt lv st) : AtW M Γ Ω σ pc lv (.int x :: st) :=
  fun G H locs ls hP hS hl => lv_tableIn G.1 G.2.1 hd h1 h2 ho ht (k G H locs ls hP hS hl)
/-! fields and arrays, by a cell's number -/
theorem r_get {C : String} {T : u_T} {N ci index : Nat} (q0 : Nat) {fs : List Value} (hq : q0 < 371) (he : cel Ω σ q0 = .inr (ci, fs)) (hc : vwCl[ci]? = some (C, T, N)) (k : Nat) (hk : k < N) (hin : ∀ w ∈ u_ws C T N, w ∈ mW M) (hlink : Cond.fieldLink (mO M) index (T k).1 (T k).2.1 (T k).2.2.1 ∈ mW M) {v : Value} (hv : fs[k]? = some v) (hd : decode (mB M) pc = .ok (.getfield index, 3))
    (kk : AtW M Γ Ω σ (pc + 3) lv (v :: st)) : AtW M Γ Ω σ pc lv (.ref (ad Ω q0) :: st) :=
  fun G H locs ls hP hS hl => va_get G.1 G.2.1 G.2.2.2.2.1 hin G.2.2.2.1 G.2.2.2.2.2.1 hP q0 ((CW_get hq).trans (by rw [he])) hc k hk (G.2.2.2.2.1 _ hlink) (fun _ h9 => h9) hv hd (kk G H locs ls hP hS hl)
theorem r_put {C : String} {T : u_T} {N ci index : Nat} (q0 : Nat) {fs : List Value} (hq : q0 < 371) (he : cel Ω σ q0 = .inr (ci, fs)) (hc : vwCl[ci]? = some (C, T, N)) (k : Nat) (hk : k < N) (hin : ∀ w ∈ u_ws C T N, w ∈ mW M) (hlink : Cond.fieldLink (mO M) index (T k).1 (T k).2.1 (T k).2.2.1 ∈ mW M) (ty0 : Nat → FieldType) (hty : ∀ k, k < N → parseFieldDescriptor (T k).2.2.1 = some (ty0 k)) (hnm : ∀ a, a < N → ∀ b, b < N → a ≠ b → (T a).2.1 ≠ (T b).2.1) (hfin : (T k).2.2.2 = false) {ty : FieldType} {x : Int32} (hpd : parseFieldDescriptor (T k).2.2.1 = some ty) (hn : narrow ty (.int x) = .int x) (hfit : fits ty (.int x) = true) (hl0 : k < fs.length)
    (hset : cel Ω (upS σ q0 k x) q0 = .inr (ci, fs.set k (.int x))) (hd : decode (mB M) pc = .ok (.putfield index, 3))
    (kk : AtW M Γ Ω (upS σ q0 k x) (pc + 3) lv st) : AtW M Γ Ω σ pc lv (.int x :: .ref (ad Ω q0) :: st) :=
  fun G H locs ls hP hS hl => va_put G.1 G.2.1 G.2.2.2.2.1 hin ty0 hty hnm G.2.2.2.1 G.2.2.2.2.2.1 hP (CW_D G.2.2.2.2.2.2.1) hS q0 ((CW_get hq).trans (by rw [he])) hc k hk (G.2.2.2.2.1 _ hlink) (fun _ h9 => h9) hfin hpd hn hfit hl0 hd
    (fun H1 locs1 hP1 _ hS1 => kk G H1 locs1 ls (by rw [CW_set (fun j hj => up_ne hj) hset] at hP1; exact hP1) hS1 hl)
theorem r_iald (q0 : Nat) {n : Nat} {f : Nat → Int32} (hq : q0 < 371) (he : cel Ω σ q0 = .inl (Ω.2.1 0, n, .inl f)) {i : Int32} (j : Nat) (hi : i = nI j) (hj : j < n) (hn : n < 500) (hd : decode (mB M) pc = .ok (.iaload, 1))
    (kk : AtW M Γ Ω σ (pc + 1) lv (.int (f j) :: st)) : AtW M Γ Ω σ pc lv (.int i :: .ref (ad Ω q0) :: st) := by
  intro G H locs ls hP hS hl
  subst hi
  refine va_iald G.1 G.2.1 G.2.2.2.2.2.1 hP q0 0 ((CW_get hq).trans (by rw [he])) rfl (vp_in_nI hj (by omega)) hd ?_
  rw [nI_clamp (by omega)]
  exact kk G H locs ls hP hS hl
theorem r_cald {i : Int32} (j : Nat) (hi : i = nI j) (hj : j < 80) (hd : decode (mB M) pc = .ok (.caload, 1))
    (kk : AtW M Γ Ω σ (pc + 1) lv (.int (σ 366 j) :: st)) : AtW M Γ Ω σ pc lv (.int i :: .ref (ad Ω 366) :: st) := by
  intro G H locs ls hP hS hl
  subst hi
  refine va_cald G.1 G.2.1 G.2.2.2.2.2.1 hP 366 3 (f := σ 366) (n := 80) ((CW_get (by omega)).trans rfl) rfl (vp_in_nI hj (by omega)) hd ?_
  rw [nI_clamp (by omega)]
  exact kk G H locs ls hP hS hl
theorem r_iast (q0 : Nat) {n : Nat} (hq : q0 < 371) (he : ∀ σ : Sg, cel Ω σ q0 = .inl (Ω.2.1 0, n, .inl (σ q0))) {i x : Int32} (j : Nat) (hi : i = nI j) (hj : j < n) (hn : n < 500) (hd : decode (mB M) pc = .ok (.iastore, 1))
    (kk : AtW M Γ Ω (upS σ q0 j x) (pc + 1) lv st) : AtW M Γ Ω σ pc lv (.int x :: .int i :: .ref (ad Ω q0) :: st) := by
  intro G H locs ls hP hS hl
  subst hi
  refine va_iast G.1 G.2.1 G.2.2.2.2.2.1 hP (CW_D G.2.2.2.2.2.2.1) hS q0 0 (f := σ q0) ((CW_get hq).trans (by rw [he])) rfl (vp_in_nI hj (by omega)) hd ?_
  rw [nI_clamp (by omega)]
  intro H1 locs1 hP1 _ hS1
  rw [CW_set (σ' := upS σ q0 j x) (fun j hj => up_ne hj) (by rw [he, up_at])] at hP1
  exact kk G H1 locs1 ls hP1 hS1 hl
theorem r_cast {i x : Int32} (j : Nat) (hi : i = nI j) (hj : j < 80) (hx : vp_nar .char x = x) (hd : decode (mB M) pc = .ok (.castore, 1))
    (kk : AtW M Γ Ω (upS σ 366 j x) (pc + 1) lv st) : AtW M Γ Ω σ pc lv (.int x :: .int i :: .ref (ad Ω 366) :: st) := by
  intro G H locs ls hP hS hl
  subst hi
  refine va_cast G.1 G.2.1 G.2.2.2.2.2.1 hP (CW_D G.2.2.2.2.2.2.1) hS 366 3 (f := σ 366) (n := 80) ((CW_get (by omega)).trans rfl) rfl (vp_in_nI hj (by omega)) hd ?_
  rw [nI_clamp (by omega), hx]
  intro H1 locs1 hP1 _ hS1
  rw [CW_set (σ' := upS σ 366 j x) (fun j hj => up_ne hj) (by show Sum.inl _ = _; rw [up_at])] at hP1
  exact kk G H1 locs1 ls hP1 hS1 hl
/-- a box of a space -/
theorem r_aaldB {i : Int32} (s : Nat) (hs : s < 7) (j : Nat) (hi : i = nI j) (hj : j < 16) (hd : decode (mB M) pc = .ok (.aaload, 1))
    (kk : AtW M Γ Ω σ (pc + 1) lv (.ref (ad Ω (iBo (bx s j))) :: st)) : AtW M Γ Ω σ pc lv (.int i :: .ref (ad Ω (iA s)) :: st) := by
  intro G H locs ls hP hS hl
  subst hi
  refine va_aldq G.1 G.2.1 G.2.2.2.2.2.1 hP (iA s) 1 (C := RX0) (n := 16) (f := fun i => some (ad Ω (iBo (bx s i)))) ((CW_get (by unfold iA; omega)).trans (by rw [cel_spA hs])) rfl (vp_in_nI hj (by omega)) hd ?_
  rw [nI_clamp (by omega)]
  exact kk G H locs ls hP hS hl
/-- a state of the history -/
theorem r_aaldS {i : Int32} (j : Nat) (hi : i = nI j) (hj : j < 4) (hd : decode (mB M) pc = .ok (.aaload, 1))
    (kk : AtW M Γ Ω σ (pc + 1) lv (.ref (ad Ω (iS (σ 364 j).toNatClampNeg)) :: st)) : AtW M Γ Ω σ pc lv (.int i :: .ref (ad Ω 364) :: st) := by
  intro G H locs ls hP hS hl
  subst hi
  refine va_aldq G.1 G.2.1 G.2.2.2.2.2.1 hP 364 2 (C := RX3) (n := 4) (f := fun i => some (ad Ω (iS (σ 364 i).toNatClampNeg))) ((CW_get (by omega)).trans rfl) rfl (vp_in_nI hj (by omega)) hd ?_
  rw [nI_clamp (by omega)]
  exact kk G H locs ls hP hS hl
theorem r_aastS {i : Int32} (j : Nat) (hi : i = nI j) (hj : j < 4) (s : Nat) (hs : s < 7) (hd : decode (mB M) pc = .ok (.aastore, 1))
    (kk : AtW M Γ Ω (upS σ 364 j (nI s)) (pc + 1) lv st) : AtW M Γ Ω σ pc lv (.ref (ad Ω (iS s)) :: .int i :: .ref (ad Ω 364) :: st) := by
  intro G H locs ls hP hS hl
  subst hi
  refine va_astq G.1 G.2.1 G.2.2.2.2.2.1 hP (CW_D G.2.2.2.2.2.2.1) hS 364 2 (iS s) 3 (r := (RX3, TX3, 5)) (n := 4) (f := fun i => some (ad Ω (iS (σ 364 i).toNatClampNeg))) ((CW_get (by omega)).trans rfl) rfl ((CW_get (by unfold iS; omega)).trans (by rw [cel_sp hs])) rfl (vp_in_nI hj (by omega)) hd ?_
  rw [nI_clamp (by omega)]
  intro H1 locs1 hP1 _ hS1
  rw [CW_set (σ' := upS σ 364 j (nI s)) (fun j hj => up_ne hj) (by
    show Sum.inl _ = _
    rw [up_at]
    congr 7
    funext i
    unfold upd va_up
    by_cases h : i = j
    · simp only [h, if_true]
      rw [nI_clamp (by omega)]
    · simp only [h, if_false])] at hP1
  exact kk G H1 locs1 ls hP1 hS1 hl
theorem r_alenI (q0 : Nat) {n : Nat} {f : Nat → Int32} (hq : q0 < 371) (he : cel Ω σ q0 = .inl (Ω.2.1 0, n, .inl f)) (hd : decode (mB M) pc = .ok (.arraylength, 1))
    (kk : AtW M Γ Ω σ (pc + 1) lv (.int (nI n) :: st)) : AtW M Γ Ω σ pc lv (.ref (ad Ω q0) :: st) :=
  fun G H locs ls hP hS hl => va_alen G.1 G.2.1 G.2.2.2.2.2.1 hP q0 0 ((CW_get hq).trans (by rw [he])) (x := (n, .inl f)) (ty := .int) rfl rfl hd (kk G H locs ls hP hS hl)
end ROWS
/-! contracts -/
def Wpre (Ω : Om) (σ : Sg) (sz : Nat) (U : State) : Prop := U.heap.size = sz ∧ va_P Ω.1 vwCl (CW Ω σ) U.heap ∧ va_K Ω.1 vwCl (tysO Ω) U ∧ va_D (fun _ => True) (CW Ω Sz0)
def Qd (Ω : Om) (post : Option Value → Sg → Prop) (A : Nat → Prop) : Array Value → State → Outcome → State → Prop := fun _ st oc t => (∃ (rv : Option Value) (σ' : Sg), oc = .returned rv ∧ post rv σ' ∧ va_P Ω.1 vwCl (CW Ω σ') t.heap) ∧ va_F A st t
def aW (Ω : Om) (sz : Nat) : Nat → Prop := va_A (CW Ω Sz0) sz
/-- a method's contract: from the world at σ it returns, and 'post answer σ'' -/
def CtW (l : Launch) (y : MethodName) (ws : List Cond) (rm : Room) (Ω : Om) (av : List Value) (σ : Sg) (post : Option Value → Sg → Prop) : Prop := ∀ sz, Met l y ws rm (va_Pc av (Wpre Ω σ sz)) (Qd Ω post (aW Ω sz)) 0 0 (aW Ω sz)
def RetOk (Γ : GmW) (Ω : Om) (post : Option Value → Sg → Prop) : Prop := gQ Γ = MQ (gB Γ) (Qd Ω post (gA Γ)) (gAr Γ) (gSt Γ) (gN Γ).1 (gN Γ).2 (gA Γ)
theorem ct_intro {l : Launch} {y : MethodName} {ws ws' : List Cond} {rm : Room} {Ω : Om} {av : List Value} {σ : Sg} {post : Option Value → Sg → Prop} {cc : ByteArray} {maxL : Nat} {rt : Option FieldType} (lv0 : List (Option Value))
    (hy : plainName y.cls = true) (hw : ws = .code y cc maxL rt :: ws') (hlv : lvZ 0 lv0 = lv_args 0 av) (hlen : (lg_sl av).length ≤ maxL)
    (body : ∀ Γ : GmW, gL Γ = l → RetOk Γ Ω post → AtW (cc, y.cls, ws, maxL, rm, rt) Γ Ω σ 0 lv0 []) : CtW l y ws rm Ω av σ post := by
  intro sz
  refine Met.ofW (cc := cc) (maxL := maxL) (ret := rt) hy hw ?_
  intro p e s m args below meth c s₁ B hml hv
  obtain ⟨rfl, hsz, hP, hK, hD⟩ := hv
  subst hsz
  rw [lg_entry_eq]
  have hl := lv_entry av hlen
  have h := body (p, l, e, s, m, av.toArray, below, meth, c, MQ below (Qd Ω post (aW Ω s.heap.size)) av.toArray s 0 0 (aW Ω s.heap.size), (0, 0), aW Ω s.heap.size) rfl rfl
  refine h ⟨B.exec, B.bytes, hml, findClass_of_methodNamed B.named, atoms_spec B.pre, hK, hD.self, fun q hq => Or.inr hq, B.returns, B.notSynchronized, Nat.zero_le _, Nat.zero_le _⟩ s.heap [] _ hP va_S.rf ?_
  show lv_has _ _ (lvZ 0 lv0)
  rw [hlv]
  exact hl
section RETS
variable {M : MI} {Γ : GmW} {Ω : Om} {σ : Sg} {pc : Nat} {lv : List (Option Value)} {post : Option Value → Sg → Prop}
theorem r_iret {x : Int32} (hQ : RetOk Γ Ω post) (hT : mT M = some .int) (hd : decode (mB M) pc = .ok (.ireturn, 1)) (hp : post (some (.int x)) σ) : AtW M Γ Ω σ pc lv [.int x] := by
  intro G H locs ls hP hS hl
  rw [hQ]
  exact W.iret G.1 G.2.1 (by rw [← hT]; exact G.2.2.2.2.2.2.2.2.1) (fun t ht _ => ⟨⟨_, σ, rfl, hp, by rw [ht]; exact hP⟩, hS.F ht⟩) hS.2.2 hd G.2.2.2.2.2.2.2.2.2.1
theorem r_zret {x : Int32} (hQ : RetOk Γ Ω post) (hT : mT M = some .boolean) (hx : x = 0 ∨ x = 1) (hd : decode (mB M) pc = .ok (.ireturn, 1)) (hp : post (some (.int x)) σ) : AtW M Γ Ω σ pc lv [.int x] := by
  intro G H locs ls hP hS hl
  rw [hQ]
  exact W.zret G.1 G.2.1 (by rw [← hT]; exact G.2.2.2.2.2.2.2.2.1) (by rcases hx with rfl | rfl <;> rfl) (fun t ht _ => ⟨⟨_, σ, rfl, hp, by rw [ht]; exact hP⟩, hS.F ht⟩) hS.2.2 hd G.2.2.2.2.2.2.2.2.2.1
theorem r_cret {x : Int32} (hQ : RetOk Γ Ω post) (hT : mT M = some .char) (hx : narrow .char (.int x) = .int x) (hd : decode (mB M) pc = .ok (.ireturn, 1)) (hp : post (some (.int x)) σ) : AtW M Γ Ω σ pc lv [.int x] := by
  intro G H locs ls hP hS hl
  rw [hQ]
  exact W.zret G.1 G.2.1 (by rw [← hT]; exact G.2.2.2.2.2.2.2.2.1) hx (fun t ht _ => ⟨⟨_, σ, rfl, hp, by rw [ht]; exact hP⟩, hS.F ht⟩) hS.2.2 hd G.2.2.2.2.2.2.2.2.2.1
theorem r_aret {a : Nat} {C : String} (hQ : RetOk Γ Ω post) (hT : mT M = some (.object C)) (hd : decode (mB M) pc = .ok (.areturn, 1)) (hp : post (some (.ref a)) σ) : AtW M Γ Ω σ pc lv [.ref a] := by
  intro G H locs ls hP hS hl
  rw [hQ]
  exact W.aret G.1 G.2.1 (by rw [← hT]; exact G.2.2.2.2.2.2.2.2.1) (Or.inl ⟨_, rfl⟩) (Or.inr ⟨_, rfl⟩) (fun t ht _ => ⟨⟨_, σ, rfl, hp, by rw [ht]; exact hP⟩, hS.F ht⟩) hS.2.2 hd G.2.2.2.2.2.2.2.2.2.1
theorem r_vret (hQ : RetOk Γ Ω post) (hT : mT M = none) (hd : decode (mB M) pc = .ok (.return_, 1)) (hp : post none σ) : AtW M Γ Ω σ pc lv [] := by
  intro G H locs ls hP hS hl
  rw [hQ]
  exact W.vret G.1 G.2.1 (by rw [← hT]; exact G.2.2.2.2.2.2.2.2.1) (fun t ht _ => ⟨⟨_, σ, rfl, hp, by rw [ht]; exact hP⟩, hS.F ht⟩) hS.2.2 hd G.2.2.2.2.2.2.2.2.2.1
end RETS
/-! calls -/
theorem va_callC {p : Program} {l : Launch} {e : Env} {R : Room} {s : State} {m : MethodId} {args : Array Value} {below : List Frame} {meth : Method} {c : Code} {H : Heap} {locs : List Loc} {cells slots : Nat} {Q : State → Prop}
    {pc : Nat} {ls : Array Slot} {rest st0 : List Value} {a : Array Value} {A0 A1 : Nat → Prop} {H0 : Heap} {free : Addr → Prop} {Ω : Om} {post : Option Value → Sg → Prop}
    (hr : va_Run p l e R s m args below meth c H locs cells slots 0 0 (F0 m pc ls st0) rest (Qd Ω post A1 a) free) (hS : va_S A0 H0 H locs) (hA : ∀ q, q < H.size → A1 q → A0 q) (hf : ∀ q, free q → A0 q)
    (kk : ∀ (rv : Option Value) (σ' : Sg) (H1 : Heap) (locs1 : List Loc), post rv σ' → va_P Ω.1 vwCl (CW Ω σ') H1 → va_S A0 H0 H1 locs1 → W p l e R s m args below meth c H1 locs1 cells slots Q (F0 m (pc + 3) ls (rv.toList ++ rest))) : W p l e R s m args below meth c H locs cells slots Q (F0 m pc ls st0) := by
  intro T hT X
  obtain ⟨v, st₀, t, T', L, h0, X', hL, e1, e2, ⟨⟨rv, σ', hv, hp, hb⟩, hz, hk⟩, st⟩ := hr T hT X
  cases hv
  rw [h0] at hz hk
  obtain ⟨t2, a1, b1⟩ := kk v σ' T'.heap (locs ++ L) hp (by rw [e1]; exact hb)
    ⟨Nat.le_trans hS.1 (by rw [e1]; exact hz), fun q h1 h2 => by rw [e1, hk q (Nat.lt_of_lt_of_le h1 hS.1) (fun z => h2 (hA q (Nat.lt_of_lt_of_le h1 hS.1) z))]; exact hS.2.1 q h1 h2, fun q hq => by
      rcases List.mem_append.mp hq with h | h
      · exact hS.2.2 q h
      · exact hf _ (hL q h)⟩ T' rfl X'
  exact ⟨t2, st t2 a1, b1⟩
theorem aW_sub {Γ : GmW} {M : MI} {Ω : Om} {H : Heap} {locs : List Loc} (G : GdW M Γ Ω) (hS : va_S (gA Γ) (gSt Γ).heap H locs) : ∀ q, aW Ω H.size q → gA Γ q := by
  intro q h
  rcases h with ⟨k, e, h⟩ | h
  · exact G.2.2.2.2.2.2.1.2 k (q, e) h
  · exact G.2.2.2.2.2.2.2.1 q (Nat.le_trans hS.1 h)
theorem blindW {av : List Value} {Ω : Om} {σ : Sg} {sz : Nat} : FrameBlind (va_Pc av (Wpre Ω σ sz)) := by
  intro a U g mk q
  obtain ⟨h0, h1, h2, h3, h4⟩ := q
  exact ⟨h0, h1, h2, va_K.moved (u := U) (U := U.calling g mk a) (Vm.Alike.refl U.vm) h3, h4⟩
/-- what a call needs of the tables and the room, for a virtual and for a static one -/
def CoV (M : MI) (index : Nat) (C : String) (y : MethodName) (ws : List Cond) (rm : Room) (n : Nat) : Prop :=
  ∃ cc maxL rt ws', GoodIn (mW M) (wsV (mO M) index C y ws) ∧ ws = .code y cc maxL rt :: ws' ∧ (y.cls = C ∧ y.cls ≠ "java/lang/invoke/MethodHandle" ∧ y.cls ≠ "java/lang/invoke/VarHandle" ∧ (parseMethodDescriptor y.desc).map (fun d => d.parameters.length) = some n) ∧ (rm.frames + 1 ≤ (mR M).frames ∧ 8 + (maxL + 11) + rm.locals ≤ (mR M).locals) ∧ rm.cells = 0 ∧ rm.slots = 0
def CoS (M : MI) (index : Nat) (y : MethodName) (ws : List Cond) (rm : Room) (n : Nat) : Prop :=
  ∃ cc maxL rt ws', GoodIn (mW M) (va_wsS (mO M) index y ws) ∧ ws = .code y cc maxL rt :: ws' ∧ (y.cls ≠ "java/lang/invoke/MethodHandle" ∧ y.cls ≠ "java/lang/invoke/VarHandle" ∧ (parseMethodDescriptor y.desc).map (fun d => d.parameters.length) = some n) ∧ (rm.frames + 1 ≤ (mR M).frames ∧ 8 + (maxL + 11) + rm.locals ≤ (mR M).locals) ∧ rm.cells = 0 ∧ rm.slots = 0
section CALLS
variable {M : MI} {Γ : GmW} {Ω : Om} {σ : Sg} {pc : Nat} {lv : List (Option Value)} {st : List Value}
theorem r_callV {l : Launch} {y : MethodName} {ws : List Cond} {rm : Room} {C : String} {index n : Nat} {post : Option Value → Sg → Prop} (q0 : Nat) (As rest : List Value) (hL : gL Γ = l) (hC : CtW l y ws rm Ω (.ref (ad Ω q0) :: As) σ post) (hco : CoV M index C y ws rm n)
    (hq : q0 < 371) (hrecv : ∃ ci fs q, cel Ω σ q0 = .inr (ci, fs) ∧ vwCl[ci]? = some q ∧ q.1 = C) (hn : As.length = n) (hs : st = As.reverse ++ .ref (ad Ω q0) :: rest) (hc : (rest.map fun v => v.category).sum ≤ 8) (hd : decode (mB M) pc = .ok (.invokevirtual index, 3))
    (kk : ∀ (rv : Option Value) (σ' : Sg), post rv σ' → AtW M Γ Ω σ' (pc + 3) lv (rv.toList ++ rest)) : AtW M Γ Ω σ pc lv st := by
  intro G H locs ls hP hS hl
  subst hL
  obtain ⟨cc, maxL, rt, ws', g1, g2, g3, g4, g5, g6⟩ := hco
  obtain ⟨ci, fs, q, e1, e2, e3⟩ := hrecv
  subst hs
  have hrun := va_runV (rest := rest) (As := As) (b := ad Ω q0) (p := gP Γ) (l := gL Γ) (e := gE Γ) (R := mR M) (s := gSt Γ) (m := gM Γ) (args := gAr Γ) (below := gB Γ) (meth := gMe Γ) (c := gC Γ) (H := H) (locs := locs) (cells := (gN Γ).1) (slots := (gN Γ).2) (nL := mN M) (n := n) (bytes := cc) (maxL := maxL) (ret := rt) (g := F0 (gM Γ) pc ls (As.reverse ++ .ref (ad Ω q0) :: rest)) ⟨G.1, G.2.1, G.2.2.1, G.2.2.2.1, G.2.2.2.2.1⟩ (hC H.size) (cwV n G.2.2.2.2.1 g1 g2 g5 g6 g3 g4)
    ⟨blindW, by
      have hr := va_recv G.2.2.2.2.2.1 hP (ci := ci) (q0 := q0) (fs := fs) (a := ad Ω q0) e2 ((CW_get hq).trans (by rw [e1]))
      rw [e3] at hr
      exact hr, fun U hU hW => ⟨rfl, by rw [hU], by rw [hU]; exact hP, va_K.moved hW.alike G.2.2.2.2.2.1, G.2.2.2.2.2.2.1.weaken (fun _ _ _ _ => trivial)⟩⟩ rfl hn hl.1 rfl (lv_room hc) hd ⟨G.2.2.2.2.2.2.2.2.2.2.1, G.2.2.2.2.2.2.2.2.2.2.2⟩
  exact va_callC hrun hS (fun q _ h => aW_sub G hS q h) (aW_sub G hS) (fun rv σ' H1 locs1 h1 h2 h3 => kk rv σ' h1 G H1 locs1 ls h2 h3 hl)
theorem r_callS {l : Launch} {y : MethodName} {ws : List Cond} {rm : Room} {index n : Nat} {post : Option Value → Sg → Prop} (As rest : List Value) (hL : gL Γ = l) (hC : CtW l y ws rm Ω As σ post) (hco : CoS M index y ws rm n)
    (hn : As.length = n) (hs : st = As.reverse ++ rest) (hc : (rest.map fun v => v.category).sum ≤ 8) (hd : decode (mB M) pc = .ok (.invokestatic index, 3))
    (kk : ∀ (rv : Option Value) (σ' : Sg), post rv σ' → AtW M Γ Ω σ' (pc + 3) lv (rv.toList ++ rest)) : AtW M Γ Ω σ pc lv st := by
  intro G H locs ls hP hS hl
  subst hL
  obtain ⟨cc, maxL, rt, ws', g1, g2, g3, g4, g5, g6⟩ := hco
  subst hs
  have hrun := va_runS (rest := rest) (As := As) (p := gP Γ) (l := gL Γ) (e := gE Γ) (R := mR M) (s := gSt Γ) (m := gM Γ) (args := gAr Γ) (below := gB Γ) (meth := gMe Γ) (c := gC Γ) (H := H) (locs := locs) (cells := (gN Γ).1) (slots := (gN Γ).2) (nL := mN M) (n := n) (bytes := cc) (maxL := maxL) (ret := rt) (g := F0 (gM Γ) pc ls (As.reverse ++ rest)) ⟨G.1, G.2.1, G.2.2.1, G.2.2.2.1, G.2.2.2.2.1⟩ (hC H.size) (va_cwS n G.2.2.2.2.1 g1 g2 g5 g6 g3 g4)
    ⟨blindW, fun U hU hW => ⟨rfl, by rw [hU], by rw [hU]; exact hP, va_K.moved hW.alike G.2.2.2.2.2.1, G.2.2.2.2.2.2.1.weaken (fun _ _ _ _ => trivial)⟩⟩ rfl hn hl.1 rfl (lv_room hc) hd ⟨G.2.2.2.2.2.2.2.2.2.2.1, G.2.2.2.2.2.2.2.2.2.2.2⟩
  exact va_callC hrun hS (fun q _ h => aW_sub G hS q h) (aW_sub G hS) (fun rv σ' H1 locs1 h1 h2 h3 => kk rv σ' h1 G H1 locs1 ls h2 h3 hl)
end CALLS
/-! the three kinds of contract: an answer, the world as it was; no answer; an answer and another world -/
def roI (f : Int32) (σ : Sg) : Option Value → Sg → Prop := fun rv σ' => rv = some (.int f) ∧ σ' = σ
def reV (g : Sg → Prop) : Option Value → Sg → Prop := fun rv σ' => rv = none ∧ g σ'
def reJ (g : Int32 → Sg → Prop) : Option Value → Sg → Prop := fun rv σ' => ∃ x : Int32, rv = some (.int x) ∧ g x σ'
theorem roI_of {f x : Int32} {σ : Sg} (h : x = f) : roI f σ (some (.int x)) σ := ⟨by rw [h], rfl⟩
theorem reJ_of {g : Int32 → Sg → Prop} {x : Int32} {σ : Sg} (h : g x σ) : reJ g (some (.int x)) σ := ⟨x, rfl, h⟩
theorem reV_of {g : Sg → Prop} {σ : Sg} (h : g σ) : reV g none σ := ⟨rfl, h⟩
theorem iB_lt {b : Nat} (h : b < 113) : iBo b < 371 := by unfold iBo; omega
theorem iS_lt {s : Nat} (h : s < 7) : iS s < 371 := by unfold iS; omega
theorem iP_lt {p : Nat} (h : p < 2) : iP p < 371 := by unfold iP; omega
theorem iL_lt {b : Nat} (h : b < 113) : iL b < 371 := by unfold iL; omega
theorem iH_lt {b : Nat} (h : b < 113) : iH b < 371 := by unfold iH; omega
theorem iPA_lt {p j : Nat} (h : p < 2) (hj : j < 5) : iP p + j < 371 := by unfold iP; omega
def setA (σ : Sg) (k : Nat) (f : Nat → Int32) : Sg := fun k' => if k' = k then f else σ k'
section KINDS
variable {M : MI} {Γ : GmW} {Ω : Om} {σ : Sg} {pc : Nat} {lv : List (Option Value)} {st : List Value}

theorem r_callVI {l : Launch} {y : MethodName} {ws : List Cond} {rm : Room} {C : String} {index n : Nat} {f : Int32} (q0 : Nat) {As rest : List Value} (hL : gL Γ = l) (hC : CtW l y ws rm Ω (.ref (ad Ω q0) :: As) σ (roI f σ)) (hco : CoV M index C y ws rm n)
    (hq : q0 < 371) (hrecv : ∃ ci fs q, cel Ω σ q0 = .inr (ci, fs) ∧ vwCl[ci]? = some q ∧ q.1 = C) (hn : As.length = n) (hs : st = As.reverse ++ .ref (ad Ω q0) :: rest) (hc : (rest.map fun v => v.category).sum ≤ 8) (hd : decode (mB M) pc = .ok (.invokevirtual index, 3))
    (kk : AtW M Γ Ω σ (pc + 3) lv (.int f :: rest)) : AtW M Γ Ω σ pc lv st := r_callV q0 As rest hL hC hco hq hrecv hn hs hc hd (fun rv σ1 h => by obtain ⟨rfl, rfl⟩ := h; exact kk)
theorem r_callSI {l : Launch} {y : MethodName} {ws : List Cond} {rm : Room} {index n : Nat} {f : Int32} {As rest : List Value} (hL : gL Γ = l) (hC : CtW l y ws rm Ω As σ (roI f σ)) (hco : CoS M index y ws rm n)
    (hn : As.length = n) (hs : st = As.reverse ++ rest) (hc : (rest.map fun v => v.category).sum ≤ 8) (hd : decode (mB M) pc = .ok (.invokestatic index, 3))
    (kk : AtW M Γ Ω σ (pc + 3) lv (.int f :: rest)) : AtW M Γ Ω σ pc lv st := r_callS As rest hL hC hco hn hs hc hd (fun rv σ1 h => by obtain ⟨rfl, rfl⟩ := h; exact kk)
theorem r_callVV {l : Launch} {y : MethodName} {ws : List Cond} {rm : Room} {C : String} {index n : Nat} {g : Sg → Prop} (q0 : Nat) {As rest : List Value} (hL : gL Γ = l) (hC : CtW l y ws rm Ω (.ref (ad Ω q0) :: As) σ (reV g)) (hco : CoV M index C y ws rm n)
    (hq : q0 < 371) (hrecv : ∃ ci fs q, cel Ω σ q0 = .inr (ci, fs) ∧ vwCl[ci]? = some q ∧ q.1 = C) (hn : As.length = n) (hs : st = As.reverse ++ .ref (ad Ω q0) :: rest) (hc : (rest.map fun v => v.category).sum ≤ 8) (hd : decode (mB M) pc = .ok (.invokevirtual index, 3))
    (kk : ∀ σ1 : Sg, g σ1 → AtW M Γ Ω σ1 (pc + 3) lv rest) : AtW M Γ Ω σ pc lv st := r_callV q0 As rest hL hC hco hq hrecv hn hs hc hd (fun rv σ1 h => by obtain ⟨rfl, h⟩ := h; exact kk _ h)
theorem r_callSV {l : Launch} {y : MethodName} {ws : List Cond} {rm : Room} {index n : Nat} {g : Sg → Prop} {As rest : List Value} (hL : gL Γ = l) (hC : CtW l y ws rm Ω As σ (reV g)) (hco : CoS M index y ws rm n)
    (hn : As.length = n) (hs : st = As.reverse ++ rest) (hc : (rest.map fun v => v.category).sum ≤ 8) (hd : decode (mB M) pc = .ok (.invokestatic index, 3))
    (kk : ∀ σ1 : Sg, g σ1 → AtW M Γ Ω σ1 (pc + 3) lv rest) : AtW M Γ Ω σ pc lv st := r_callS As rest hL hC hco hn hs hc hd (fun rv σ1 h => by obtain ⟨rfl, h⟩ := h; exact kk _ h)
theorem r_callVJ {l : Launch} {y : MethodName} {ws : List Cond} {rm : Room} {C : String} {index n : Nat} {g : Int32 → Sg → Prop} (q0 : Nat) {As rest : List Value} (hL : gL Γ = l) (hC : CtW l y ws rm Ω (.ref (ad Ω q0) :: As) σ (reJ g)) (hco : CoV M index C y ws rm n)
    (hq : q0 < 371) (hrecv : ∃ ci fs q, cel Ω σ q0 = .inr (ci, fs) ∧ vwCl[ci]? = some q ∧ q.1 = C) (hn : As.length = n) (hs : st = As.reverse ++ .ref (ad Ω q0) :: rest) (hc : (rest.map fun v => v.category).sum ≤ 8) (hd : decode (mB M) pc = .ok (.invokevirtual index, 3))
    (kk : ∀ (x : Int32) (σ1 : Sg), g x σ1 → AtW M Γ Ω σ1 (pc + 3) lv (.int x :: rest)) : AtW M Γ Ω σ pc lv st := r_callV q0 As rest hL hC hco hq hrecv hn hs hc hd (fun rv σ1 h => by obtain ⟨x, rfl, h⟩ := h; exact kk x _ h)
theorem r_callSJ {l : Launch} {y : MethodName} {ws : List Cond} {rm : Room} {index n : Nat} {g : Int32 → Sg → Prop} {As rest : List Value} (hL : gL Γ = l) (hC : CtW l y ws rm Ω As σ (reJ g)) (hco : CoS M index y ws rm n)
    (hn : As.length = n) (hs : st = As.reverse ++ rest) (hc : (rest.map fun v => v.category).sum ≤ 8) (hd : decode (mB M) pc = .ok (.invokestatic index, 3))
    (kk : ∀ (x : Int32) (σ1 : Sg), g x σ1 → AtW M Γ Ω σ1 (pc + 3) lv (.int x :: rest)) : AtW M Γ Ω σ pc lv st := r_callS As rest hL hC hco hn hs hc hd (fun rv σ1 h => by obtain ⟨x, rfl, h⟩ := h; exact kk x _ h)
theorem r_mmax (index : Nat) (h1 : Cond.methodLink (mO M) index Lib.Math.max.name ∈ mW M) (h2 : Cond.static Lib.Math.max.name ∈ mW M) (h3 : Cond.initialized "java/lang/Math" ∈ mW M) (h4 : Cond.code Lib.Math.max.name Lib.Math.max.code 2 (some .int) ∈ mW M) (h5 : 1 ≤ (mR M).frames) (h6 : (st.map fun v => v.category).sum + 13 ≤ (mR M).locals) {x y : Int32} (hd : decode (mB M) pc = .ok (.invokestatic index, 3))
    (kk : AtW M Γ Ω σ (pc + 3) lv (.int (if x < y then y else x) :: st)) : AtW M Γ Ω σ pc lv (.int y :: .int x :: st) :=
  fun G H locs ls hP hS hl => va_mmax G.1 G.2.1 (G.2.2.1.trans hl.1.symm) G.2.2.2.1 (G.2.2.2.2.1 _ h1) (G.2.2.2.2.1 _ h2) (G.2.2.2.2.1 _ h3) (G.2.2.2.2.1 _ h4) h5 h6 G.2.2.2.2.2.2.2.2.2.2.1 G.2.2.2.2.2.2.2.2.2.2.2 hd (kk G H locs ls hP hS hl)
theorem r_copy (index : Nat) (h1 : Cond.methodLink (mO M) index arraycopyName ∈ mW M) (h2 : Cond.native arraycopyName ∈ mW M) (h3 : Cond.static arraycopyName ∈ mW M) (h4 : Cond.initialized "java/lang/System" ∈ mW M) (q0 q1 n0 n1 n : Nat) (hq0 : q0 < 371) (hq1 : q1 < 371) (he0 : cel Ω σ q0 = .inl (Ω.2.1 0, n0, .inl (σ q0))) (he1 : ∀ σ : Sg, cel Ω σ q1 = .inl (Ω.2.1 0, n1, .inl (σ q1))) (hn0 : n ≤ n0) (hn1 : n ≤ n1) (hn : n < 100)
    (h5 : 1 ≤ (mR M).frames) (h6 : (st.map fun v => v.category).sum + (nativeFrameWords "java/lang/System" "arraycopy" 5 + 11) ≤ (mR M).locals) {z : Int32} (hz : z = nI n) (hd : decode (mB M) pc = .ok (.invokestatic index, 3))
    (kk : AtW M Γ Ω (setA σ q1 (va_cpy (σ q0) (σ q1) 0 0 n)) (pc + 3) lv st) : AtW M Γ Ω σ pc lv (.int z :: .int 0 :: .ref (ad Ω q1) :: .int 0 :: .ref (ad Ω q0) :: st) := by
  intro G H locs ls hP hS hl
  subst hz
  have e0 : (0 : Int32).toNatClampNeg = 0 := rfl
  have en : (nI n).toNatClampNeg = n := nI_clamp (by omega)
  have hn0' : ¬ nI n < 0 := nI_pos (by omega)
  refine va_copyi (ty := .int) G.1 G.2.1 (G.2.2.1.trans hl.1.symm) G.2.2.2.1 (G.2.2.2.2.1 _ h1) (G.2.2.2.2.1 _ h2) (G.2.2.2.2.1 _ h3) (G.2.2.2.2.1 _ h4) G.2.2.2.2.2.1 hP (CW_D G.2.2.2.2.2.2.1) hS q0 q1 0 0 (f := σ q0) (g := σ q1) ((CW_get hq0).trans (by rw [he0])) ((CW_get hq1).trans (by rw [he1])) rfl rfl rfl (by decide) (by decide) hn0' (by rw [e0, en]; omega) (by rw [e0, en]; omega) (fun _ _ => rfl) h5 h6 hd ?_
  intro H1 locs1 hP1 _ hS1
  rw [e0, en, CW_set (σ' := setA σ q1 (va_cpy (σ q0) (σ q1) 0 0 n)) (fun j hj => by simp [setA, hj]) (by rw [he1]; simp [setA])] at hP1
  exact kk G H1 locs1 ls hP1 hS1 hl
end KINDS
end
section
/-! PURE: what the methods answer, in numbers -/
def bI (b : Bool) : Int32 := if b then 1 else 0
theorem bI_t {b : Bool} (h : ¬ bI b = 0) : b = true := by cases b <;> simp_all [bI]
theorem bI_f {b : Bool} (h : bI b = 0) : b = false := by cases b <;> simp_all [bI]
theorem bI_01 (b : Bool) : bI b = 0 ∨ bI b = 1 := by cases b <;> simp [bI]
/-- the first index with p, below n; n without one -/
def ffi (p : Nat → Bool) : Nat → Nat
  | 0 => 0
  | n + 1 => if ffi p n < n then ffi p n else if p n then n else n + 1
theorem ff_none {p : Nat → Bool} : ∀ {n : Nat}, (∀ j, j < n → p j = false) → ffi p n = n
  | 0, _ => rfl
  | n + 1, h => by
    have h1 := ff_none (n := n) (fun j hj => h j (by omega))
    rw [ffi, if_neg (by omega), h n (by omega)]
    rfl
theorem ff_hit {p : Nat → Bool} {k : Nat} (h0 : ∀ j, j < k → p j = false) (hk : p k = true) : ∀ {n : Nat}, k < n → ffi p n = k
  | 0, h => by omega
  | n + 1, h => by
    rw [ffi]
    by_cases e : k = n
    · subst e
      rw [if_neg (by rw [ff_none h0]; omega), if_pos hk]
    · have h1 := ff_hit h0 hk (n := n) (by omega)
      rw [if_pos (by omega), h1]
/-- the first index with p as an int; -1 without one -/
def fI (p : Nat → Bool) (n : Nat) : Int32 := if ffi p n < n then nI (ffi p n) else -1
theorem fI_hit {p : Nat → Bool} {k n : Nat} (h0 : ∀ j, j < k → p j = false) (hk : p k = true) (hn : k < n) : fI p n = nI k := by
  unfold fI
  rw [ff_hit h0 hk hn, if_pos hn]
theorem fI_none {p : Nat → Bool} {n : Nat} (h : ∀ j, j < n → p j = false) : fI p n = -1 := by
  unfold fI
  rw [ff_none h, if_neg (by omega)]
/-- some index below n with p; how many; a sum; the bits -/
def anyb (p : Nat → Bool) : Nat → Bool
  | 0 => false
  | n + 1 => anyb p n || p n
theorem anyb_t {p : Nat → Bool} {k : Nat} (hk : p k = true) : ∀ {n : Nat}, k < n → anyb p n = true
  | 0, h => by omega
  | n + 1, h => by
    rw [anyb]
    by_cases e : k = n
    · subst e
      simp [hk]
    · simp [anyb_t hk (n := n) (by omega)]
theorem anyb_f {p : Nat → Bool} : ∀ {n : Nat}, (∀ j, j < n → p j = false) → anyb p n = false
  | 0, _ => rfl
  | n + 1, h => by rw [anyb, anyb_f (n := n) (fun j hj => h j (by omega)), h n (by omega)]; rfl
def cntI (p : Nat → Bool) : Nat → Int32
  | 0 => 0
  | n + 1 => if p n then cntI p n + 1 else cntI p n
def sumI (f : Nat → Int32) : Nat → Int32
  | 0 => 0
  | n + 1 => sumI f n + f n
def bitI (k : Nat) : Int32 := (1 : Int32) <<< (nI k &&& 31)
def orI (p : Nat → Bool) (f : Nat → Int32) : Nat → Int32
  | 0 => 0
  | n + 1 => if p n then orI p f n ||| f n else orI p f n
def hasB (x : Int32) (k : Nat) : Bool := !decide ((x >>> (nI k &&& 31)) &&& 1 = 0)
/-- a box's ends: low, high -/
abbrev V3 : Type := Nat → Int32
def mtB (l1 h1 l2 h2 : V3) (d : Nat) : Bool := decide (l1 d < h2 d) && decide (l2 d < h1 d)
def md (l1 h1 l2 h2 : V3) (d e : Nat) : Bool := decide (l1 d - h1 e < h2 d - l2 e) && decide (l2 d - h2 e < h1 d - l1 e)
def ctBx (l1 h1 l2 h2 : V3) : Bool := mtB l1 h1 l2 h2 0 && mtB l1 h1 l2 h2 1 && mtB l1 h1 l2 h2 2
def ovB (l1 h1 l2 h2 : V3) : Bool := md l1 h1 l2 h2 0 1 && md l1 h1 l2 h2 0 2 && md l1 h1 l2 h2 1 2
def dhB (l1 h1 l2 h2 : V3) : Int32 := if ovB l1 h1 l2 h2 then fI (fun d => !decide (l1 d < h2 d)) 3 else -1
def beB (l1 h1 l2 h2 : V3) : Bool := mtB l1 h1 l2 h2 0 && mtB l1 h1 l2 h2 1 && !decide (l2 2 < h1 2)
def cvB (l1 h1 : V3) (y : Int32) : Bool := !decide (y < l1 1) && decide (y < h1 1)
/-- a range of add -/
def inRg (from_ size : Int32) : Bool := !decide (from_ < 0) && !decide (31 < from_) && !decide (size < 1) && !decide (12 < size) && !decide (32 < from_ + size)
/-- the longest of the directions 0 .. k -/
def lgd (f : Nat → Int32) : Nat → Nat
  | 0 => 0
  | k + 1 => if f (lgd f k) < f (k + 1) then k + 1 else lgd f k
theorem lgd_le (f : Nat → Int32) : ∀ k, lgd f k ≤ k
  | 0 => Nat.le_refl _
  | k + 1 => by
    rw [lgd]
    have := lgd_le f k
    split <;> omega
/-! the boxes of the world -/
def szB (σ : Sg) (b d : Nat) : Int32 := σ (iH b) d - σ (iL b) d
def voB (σ : Sg) (b : Nat) : Int32 := szB σ b 0 * szB σ b 1 * szB σ b 2
def rwB (σ : Sg) (b : Nat) : Int32 := ((1 : Int32) <<< (szB σ b 0 &&& 31) - 1) <<< (σ (iL b) 0 &&& 31)
/-- box b is as box o was; nothing else of the world changed -/
def bxC (σ' : Sg) (b : Nat) (σ : Sg) (o : Nat) : Prop := σ' (iBo b) 0 = σ (iBo o) 0 ∧ (∀ d, d < 3 → σ' (iL b) d = σ (iL o) d ∧ σ' (iH b) d = σ (iH o) d)
def frB (b : Nat) (σ σ' : Sg) : Prop := ∀ k, k ≠ iBo b → k ≠ iL b → k ≠ iH b → σ' k = σ k
theorem nBL (b c : Nat) : iBo b ≠ iL c := by unfold iBo iL; omega
theorem nBH (b c : Nat) : iBo b ≠ iH c := by unfold iBo iH; omega
theorem nLB (b c : Nat) : iL b ≠ iBo c := by unfold iBo iL; omega
theorem nLH (b c : Nat) : iL b ≠ iH c := by unfold iL iH; omega
theorem nHB (b c : Nat) : iH b ≠ iBo c := by unfold iBo iH; omega
theorem nHL (b c : Nat) : iH b ≠ iL c := by unfold iL iH; omega
theorem bx_lt {s k : Nat} (hs : s < 7) (hk : k < 16) : bx s k < 113 := by unfold bx; omega
def us (x y : Int32) : Int32 := (x.toUInt32 >>> (y.toUInt32 &&& Int32.toUInt32 31)).toInt32
/-- Integer.bitCount, as it is computed -/
def bcI (x : Int32) : Int32 :=
  let v1 := x - (us x 1 &&& 1431655765)
  let v2 := (v1 &&& 858993459) + (us v1 2 &&& 858993459)
  let v3 := (v2 + us v2 4) &&& 252645135
  let v4 := v3 + us v3 8
  let v5 := v4 + us v4 16
  v5 &&& 63
theorem fill_step (σ : Sg) (q k : Nat) (x : Int32) : upS (setA σ q (fun i => if i < k then x else σ q i)) q k x = setA σ q (fun i => if i < k + 1 then x else σ q i) := by
  funext a i
  by_cases ha : a = q
  · subst ha
    simp only [up_get, setA, if_true, true_and]
    by_cases hi : i = k
    · subst hi
      simp
    · by_cases h2 : i < k
      · simp [hi, h2, show i < k + 1 by omega]
      · simp [hi, h2, show ¬ i < k + 1 by omega]
  · simp [up_get, setA, ha]
def wtS (σ : Sg) (s k : Nat) : Int32 := if σ (iS s) 4 = 1 then σ (iL (bx s k)) 0 + σ (iL (bx s k)) 1 + σ (iL (bx s k)) 2 else if σ (iS s) 4 = 2 then voB σ (bx s k) else 0
def grS (σ : Sg) (s u : Nat) : Nat → Int32
  | 0 => 0
  | k + 1 => if beB (σ (iL (bx s k))) (σ (iH (bx s k))) (σ (iL (bx s u))) (σ (iH (bx s u))) then (if grS σ s u k < σ (iH (bx s k)) 2 then σ (iH (bx s k)) 2 else grS σ s u k) else grS σ s u k
theorem nSB (s b : Nat) (hb : b < 113) : iS s ≠ iBo b := by unfold iS iBo; omega
theorem nSL (s b : Nat) (hb : b < 113) : iS s ≠ iL b := by unfold iS iL; omega
theorem nSH (s b : Nat) (hb : b < 113) : iS s ≠ iH b := by unfold iS iH; omega
/-- a cell is none of a space's boxes' -/
def outB (s q : Nat) : Prop := ∀ j, j < 16 → q ≠ iBo (bx s j) ∧ q ≠ iL (bx s j) ∧ q ≠ iH (bx s j)
theorem outB_S (s t : Nat) (hs : s < 7) : outB s (iS t) := fun j hj => ⟨nSB _ _ (bx_lt hs hj), nSL _ _ (bx_lt hs hj), nSH _ _ (bx_lt hs hj)⟩
theorem outB_bx {s t j : Nat} (h : s ≠ t) (hj : j < 16) : outB s (iBo (bx t j)) ∧ outB s (iL (bx t j)) ∧ outB s (iH (bx t j)) := by
  refine ⟨fun i hi => ?_, fun i hi => ?_, fun i hi => ?_⟩ <;> unfold iBo iL iH bx <;> omega
theorem bx_ne {s i j : Nat} (h : i ≠ j) : iBo (bx s i) ≠ iBo (bx s j) ∧ iL (bx s i) ≠ iL (bx s j) ∧ iH (bx s i) ≠ iH (bx s j) := by
  unfold iBo iL iH bx; omega
/-- the space s is as the space t was (n boxes); nothing else of the world changed -/
def spC (σ1 : Sg) (s : Nat) (σ : Sg) (t n : Nat) : Prop := (∀ i, 1 ≤ i → i < 5 → σ1 (iS s) i = σ (iS t) i) ∧ ∀ j, j < n → bxC σ1 (bx s j) σ (bx t j)
def frS (s : Nat) (σ σ1 : Sg) : Prop := ∀ q, q ≠ iS s → outB s q → σ1 q = σ q
theorem bxC_in {σ τ : Sg} {b o : Nat} (h0 : τ (iBo o) = σ (iBo o)) (h1 : τ (iL o) = σ (iL o)) (h2 : τ (iH o) = σ (iH o)) {σ1 : Sg} (h : bxC σ1 b τ o) : bxC σ1 b σ o := by
  refine ⟨h.1.trans (by rw [h0]), fun d hd => ⟨(h.2 d hd).1.trans (by rw [h1]), (h.2 d hd).2.trans (by rw [h2])⟩⟩
theorem bxC_keep {σ τ σ1 : Sg} {b o : Nat} (h : bxC τ b σ o) (h0 : σ1 (iBo b) = τ (iBo b)) (h1 : σ1 (iL b) = τ (iL b)) (h2 : σ1 (iH b) = τ (iH b)) : bxC σ1 b σ o := by
  refine ⟨by rw [h0]; exact h.1, fun d hd => ⟨by rw [h1]; exact (h.2 d hd).1, by rw [h2]; exact (h.2 d hd).2⟩⟩
theorem frB_out {s k : Nat} {τ σ1 : Sg} (hk : k < 16) (g2 : frB (bx s k) τ σ1) {q : Nat} (h : outB s q) : σ1 q = τ q := g2 q (h k hk).1 (h k hk).2.1 (h k hk).2.2
theorem frB_oth {s k j : Nat} {τ σ1 : Sg} (g2 : frB (bx s k) τ σ1) (h : j ≠ k) : σ1 (iBo (bx s j)) = τ (iBo (bx s j)) ∧ σ1 (iL (bx s j)) = τ (iL (bx s j)) ∧ σ1 (iH (bx s j)) = τ (iH (bx s j)) :=
  ⟨g2 _ (bx_ne h).1 (nBL _ _) (nBH _ _), g2 _ (nLB _ _) (bx_ne h).2.1 (nLH _ _), g2 _ (nHB _ _) (nHL _ _) (bx_ne h).2.2⟩
theorem spC_step {s t k : Nat} {σ τ σ1 : Sg} (hs : s < 7) (h7 : t < 7) (hst : s ≠ t) (hk : k < 16) (h : spC τ s σ t k) (h3 : frS s σ τ) (g1 : bxC σ1 (bx s k) τ (bx t k)) (g2 : frB (bx s k) τ σ1) : spC σ1 s σ t (k + 1) ∧ frS s σ σ1 := by
  have ht : ∀ q, outB s q → q ≠ iS s → τ q = σ q := fun q a b => h3 q b a
  have hB := outB_bx (s := s) hst hk
  refine ⟨⟨fun i a b => ?_, fun j hj => ?_⟩, fun q a b => ?_⟩
  · rw [frB_out hk g2 (outB_S s s hs)]
    exact h.1 i a b
  · rcases Nat.lt_or_ge j k with q | q
    · obtain ⟨e1, e2, e3⟩ := frB_oth g2 (show j ≠ k by omega)
      exact bxC_keep (h.2 j q) e1 e2 e3
    · have : j = k := by omega
      subst this
      exact bxC_in (ht _ hB.1 (fun e => nSB s _ (bx_lt h7 hk) e.symm)) (ht _ hB.2.1 (fun e => nSL s _ (bx_lt h7 hk) e.symm)) (ht _ hB.2.2 (fun e => nSH s _ (bx_lt h7 hk) e.symm)) g1
  · rw [frB_out hk g2 b]
    exact h3 q a b
def shPd (σ : Sg) (s u y : Nat) : Nat → Bool := fun j => beB (σ (iL (bx s u))) (σ (iH (bx s u))) (σ (iL (bx s j))) (σ (iH (bx s j))) && cvB (σ (iL (bx s j))) (σ (iH (bx s j))) (nI y)
def shR (σ : Sg) (s u n y : Nat) : Int32 := orI (shPd σ s u y) (fun j => rwB σ (bx s j)) n
theorem copy_head (σ : Sg) {s t : Nat} (h : s ≠ t) : spC (upS (upS (upS (upS σ (iS s) 1 (σ (iS t) 1)) (iS s) 2 (upS σ (iS s) 1 (σ (iS t) 1) (iS t) 2)) (iS s) 3 (upS (upS σ (iS s) 1 (σ (iS t) 1)) (iS s) 2 (upS σ (iS s) 1 (σ (iS t) 1) (iS t) 2) (iS t) 3)) (iS s) 4 (upS (upS (upS σ (iS s) 1 (σ (iS t) 1)) (iS s) 2 (upS σ (iS s) 1 (σ (iS t) 1) (iS t) 2)) (iS s) 3 (upS (upS σ (iS s) 1 (σ (iS t) 1)) (iS s) 2 (upS σ (iS s) 1 (σ (iS t) 1) (iS t) 2) (iS t) 3) (iS t) 4)) s σ t 0 ∧ frS s σ (upS (upS (upS (upS σ (iS s) 1 (σ (iS t) 1)) (iS s) 2 (upS σ (iS s) 1 (σ (iS t) 1) (iS t) 2)) (iS s) 3 (upS (upS σ (iS s) 1 (σ (iS t) 1)) (iS s) 2 (upS σ (iS s) 1 (σ (iS t) 1) (iS t) 2) (iS t) 3)) (iS s) 4 (upS (upS (upS σ (iS s) 1 (σ (iS t) 1)) (iS s) 2 (upS σ (iS s) 1 (σ (iS t) 1) (iS t) 2)) (iS s) 3 (upS (upS σ (iS s) 1 (σ (iS t) 1)) (iS s) 2 (upS σ (iS s) 1 (σ (iS t) 1) (iS t) 2) (iS t) 3) (iS t) 4)) := by
  have hne : iS t ≠ iS s := by unfold iS; omega
  refine ⟨⟨fun i h1 h2 => ?_, fun j hj => absurd hj (by omega)⟩, fun q h1 h2 => ?_⟩
  · obtain rfl | rfl | rfl | rfl : i = 1 ∨ i = 2 ∨ i = 3 ∨ i = 4 := by omega
    all_goals simp [up_get, hne]
  · funext i
    simp [up_get, h1]
def apN (σ : Sg) (s o n : Nat) (x : Int32) (σ1 : Sg) : Prop := x = σ (iS s) 2 ∧ σ1 (iS s) 1 = nI (n + 1) ∧ σ1 (iS s) 2 = σ (iS s) 2 + 1 ∧ (∀ i, i ≠ 1 → i ≠ 2 → σ1 (iS s) i = σ (iS s) i) ∧ σ1 (iBo (bx s n)) 0 = σ (iS s) 2 ∧ (∀ d, d < 3 → σ1 (iL (bx s n)) d = σ (iL o) d ∧ σ1 (iH (bx s n)) d = σ (iH o) d) ∧ ∀ q, q ≠ iS s → q ≠ iBo (bx s n) → q ≠ iL (bx s n) → q ≠ iH (bx s n) → σ1 q = σ q
def apS (σ : Sg) (s o n : Nat) (x : Int32) (σ1 : Sg) : Prop := (n = 16 → x = -3 ∧ σ1 = σ) ∧ (n < 16 → apN σ s o n x σ1)
theorem apS_ok {σ σ1 : Sg} {s o n : Nat} (hs : s < 7) (hn : n < 16) (hc : σ (iS s) 1 = nI n) (h1 : bxC σ1 (bx s n) σ o) (h2 : frB (bx s n) σ σ1) : apS σ s o n ((upS (upS (upS σ1 (iBo (bx s n)) 0 (σ1 (iS s) 2)) (iS s) 1 (upS σ1 (iBo (bx s n)) 0 (σ1 (iS s) 2) (iS s) 1 + 1)) (iS s) 2 (upS (upS σ1 (iBo (bx s n)) 0 (σ1 (iS s) 2)) (iS s) 1 (upS σ1 (iBo (bx s n)) 0 (σ1 (iS s) 2) (iS s) 1 + 1) (iS s) 2 + 1)) (iBo (bx s n)) 0) (upS (upS (upS σ1 (iBo (bx s n)) 0 (σ1 (iS s) 2)) (iS s) 1 (upS σ1 (iBo (bx s n)) 0 (σ1 (iS s) 2) (iS s) 1 + 1)) (iS s) 2 (upS (upS σ1 (iBo (bx s n)) 0 (σ1 (iS s) 2)) (iS s) 1 (upS σ1 (iBo (bx s n)) 0 (σ1 (iS s) 2) (iS s) 1 + 1) (iS s) 2 + 1)) := by
  have hb := bx_lt hs hn
  have eS : σ1 (iS s) = σ (iS s) := h2 _ (nSB _ _ hb) (nSL _ _ hb) (nSH _ _ hb)
  have d1 := nSB s (bx s n) hb
  have d2 := nSL s (bx s n) hb
  have d3 := nSH s (bx s n) hb
  refine ⟨fun h => absurd h (by omega), fun _ => ⟨?_, ?_, ?_, fun i a b => ?_, ?_, fun d hd => ?_, fun q a b c d => ?_⟩⟩
  · simp [up_get, eS, d1.symm]
  · simp [up_get, eS, d1, hc, nI_1]
  · simp [up_get, eS, d1]
  · simp [up_get, eS, a, b, d1]
  · simp [up_get, eS, d1.symm]
  · have := h1.2 d hd
    simp [up_get, this.1, this.2, d2.symm, d3.symm, nLB, nHB]
  · funext i
    simp [up_get, a, b, h2 q b c d]
def mvI (g k j : Nat) : Nat := if g ≤ j ∧ j < k then j + 1 else j
theorem bxC_rfl (σ : Sg) (b : Nat) : bxC σ b σ b := ⟨rfl, fun _ _ => ⟨rfl, rfl⟩⟩
theorem bxC_trans {σ τ υ : Sg} {a b c : Nat} (h1 : bxC υ a τ b) (h2 : bxC τ b σ c) : bxC υ a σ c :=
  ⟨h1.1.trans h2.1, fun d hd => ⟨(h1.2 d hd).1.trans (h2.2 d hd).1, (h1.2 d hd).2.trans (h2.2 d hd).2⟩⟩
def tkI (σ : Sg) (s g k : Nat) (τ : Sg) : Prop := (∀ j, j < 16 → bxC τ (bx s j) σ (bx s (mvI g k j))) ∧ ∀ q, outB s q → τ q = σ q
theorem tkI_0 (σ : Sg) (s g : Nat) : tkI σ s g g σ := by
  refine ⟨fun j _ => ?_, fun _ _ => rfl⟩
  have : mvI g g j = j := by unfold mvI; rw [if_neg (by omega)]
  rw [this]
  exact bxC_rfl σ _
theorem tkI_step {σ τ σ1 : Sg} {s g k : Nat} (hk : k + 1 < 16) (hgk : g ≤ k) (h : tkI σ s g k τ) (g1 : bxC σ1 (bx s k) τ (bx s (k + 1))) (g2 : frB (bx s k) τ σ1) : tkI σ s g (k + 1) σ1 := by
  refine ⟨fun j hj => ?_, fun q hq => (frB_out (by omega) g2 hq).trans (h.2 q hq)⟩
  by_cases e : j = k
  · subst e
    have h1 := h.1 (j + 1) hk
    have e1 : mvI g j (j + 1) = j + 1 := by unfold mvI; rw [if_neg (by omega)]
    have e2 : mvI g (j + 1) j = j + 1 := by unfold mvI; rw [if_pos (by omega)]
    rw [e1] at h1
    rw [e2]
    exact bxC_trans g1 h1
  · have e1 : mvI g (k + 1) j = mvI g k j := by
      unfold mvI
      by_cases c : g ≤ j ∧ j < k
      · rw [if_pos c, if_pos (by omega)]
      · rw [if_neg c, if_neg (by omega)]
    rw [e1]
    obtain ⟨x1, x2, x3⟩ := frB_oth g2 e
    exact bxC_keep (h.1 j hj) x1 x2 x3
def tkS (σ : Sg) (s g n : Nat) (σ1 : Sg) : Prop := σ1 (iS s) 1 = nI (n - 1) ∧ (∀ i, i ≠ 1 → σ1 (iS s) i = σ (iS s) i) ∧ (∀ j, j < 16 → bxC σ1 (bx s j) σ (bx s (mvI g (n - 1) j))) ∧ frS s σ σ1
theorem tkS_ok {σ τ : Sg} {s g n : Nat} (hs : s < 7) (hn : 1 ≤ n) (hc : σ (iS s) 1 = nI n) (h : tkI σ s g (n - 1) τ) : tkS σ s g n (upS τ (iS s) 1 (τ (iS s) 1 - 1)) := by
  have eS : τ (iS s) = σ (iS s) := h.2 _ (outB_S s s hs)
  refine ⟨?_, fun i hi => ?_, fun j hj => ?_, fun q a b => ?_⟩
  · obtain ⟨m, rfl⟩ : ∃ m, n = m + 1 := ⟨n - 1, by omega⟩
    rw [up_get, if_pos ⟨rfl, rfl⟩, eS, hc, nI_pred]
    rfl
  · rw [up_get, if_neg (by simp [hi]), eS]
  · have hb := bx_lt hs hj
    exact bxC_keep (h.1 j hj) (up_ne (nSB _ _ hb).symm) (up_ne (nSL _ _ hb).symm) (up_ne (nSH _ _ hb).symm)
  · rw [up_ne a]
    exact h.2 q b
def cuS (σ : Sg) (s k d : Nat) (x : Int32) (n : Nat) (r : Int32) (σ2 : Sg) : Prop := (n = 16 → r = -3 ∧ σ2 = σ) ∧ (n < 16 → r = σ (iS s) 2 ∧ σ2 (iS s) 1 = nI (n + 1) ∧ σ2 (iS s) 2 = σ (iS s) 2 + 1 ∧ σ2 (iS s) 3 = σ (iS s) 3 + 1 ∧ σ2 (iS s) 4 = σ (iS s) 4 ∧ (∀ j, j < n → σ2 (iBo (bx s j)) 0 = σ (iBo (bx s j)) 0 ∧ ∀ e, e < 3 → σ2 (iL (bx s j)) e = σ (iL (bx s j)) e ∧ σ2 (iH (bx s j)) e = if j = k ∧ e = d then x else σ (iH (bx s j)) e) ∧ σ2 (iBo (bx s n)) 0 = σ (iS s) 2 ∧ (∀ e, e < 3 → σ2 (iL (bx s n)) e = (if e = d then x else σ (iL (bx s k)) e) ∧ σ2 (iH (bx s n)) e = σ (iH (bx s k)) e) ∧ frS s σ σ2)
theorem cuS_ok {σ σ1 : Sg} {s k d n : Nat} {x : Int32} (hs : s < 7) (hn : n < 16) (hk : k < n) (hd : d < 3) (hc : σ (iS s) 1 = nI n) (h : apN σ s (bx s k) n (σ (iS s) 2) σ1) : cuS σ s k d x n (σ (iS s) 2) (upS (upS (upS σ1 (iL (bx s n)) d x) (iH (bx s k)) d x) (iS s) 3 (upS (upS σ1 (iL (bx s n)) d x) (iH (bx s k)) d x (iS s) 3 + 1)) := by
  obtain ⟨-, g1, g2, g3, g4, g5, g6⟩ := h
  have n1 : ∀ b, b < 113 → iS s ≠ iL b := fun b hb => nSL s b hb
  have n2 : ∀ b, b < 113 → iS s ≠ iH b := fun b hb => nSH s b hb
  have n0 : ∀ b, b < 113 → iS s ≠ iBo b := fun b hb => nSB s b hb
  have bn := bx_lt hs (show n < 16 by omega)
  have bk := bx_lt hs (show k < 16 by omega)
  refine ⟨fun q => absurd q (by omega), fun _ => ⟨rfl, ?_, ?_, ?_, ?_, fun j hj => ⟨?_, fun e he => ⟨?_, ?_⟩⟩, ?_, fun e he => ⟨?_, ?_⟩, fun q a b => ?_⟩⟩
  · simp [up_get, n1 _ bn, n2 _ bk, g1]
  · simp [up_get, n1 _ bn, n2 _ bk, g2]
  · simp [up_get, n1 _ bn, n2 _ bk, g3]
  · simp [up_get, n1 _ bn, n2 _ bk, g3]
  · have bj := bx_lt hs (show j < 16 by omega)
    simp [up_get, (n0 _ bj).symm, nBL, nBH]
    rw [g6 _ (n0 _ bj).symm (bx_ne (by omega)).1 (nBL _ _) (nBH _ _)]
  · have bj := bx_lt hs (show j < 16 by omega)
    simp [up_get, (n1 _ bj).symm, (bx_ne (s := s) (show j ≠ n by omega)).2.1, nLH]
    rw [g6 _ (n1 _ bj).symm (nLB _ _) (bx_ne (by omega)).2.1 (nLH _ _)]
  · have bj := bx_lt hs (show j < 16 by omega)
    have hg := g6 (iH (bx s j)) (n2 _ bj).symm (nHB _ _) (nHL _ _) (bx_ne (by omega)).2.2
    by_cases e1 : j = k
    · subst e1
      by_cases e2 : e = d
      · simp [up_get, (n2 _ bj).symm, e2]
      · simp [up_get, (n2 _ bj).symm, e2, nHL, hg]
    · simp [up_get, (n2 _ bj).symm, e1, (bx_ne (s := s) e1).2.2, nHL, hg]
  · simp [up_get, (n0 _ bn).symm, nBL, nBH, g4]
  · have := g5 e he
    by_cases e2 : e = d
    · simp [up_get, (n1 _ bn).symm, e2, nLH]
    · simp [up_get, (n1 _ bn).symm, e2, nLH, this.1]
  · have := g5 e he
    simp [up_get, (n2 _ bn).symm, (bx_ne (s := s) (show n ≠ k by omega)).2.2, nHL, this.2]
  · have h1 := b n (by omega)
    have h2 := b k (by omega)
    rw [up_ne a, up_ne h2.2.2, up_ne h1.2.1]
    exact g6 q a h1.1 h1.2.1 h1.2.2
def qtB (σ τ : Sg) (b : Nat) : Prop := τ (iBo b) = σ (iBo b) ∧ τ (iL b) 0 = 32 - σ (iH b) 1 ∧ τ (iH b) 0 = 32 - σ (iL b) 1 ∧ τ (iL b) 1 = σ (iL b) 0 ∧ τ (iH b) 1 = σ (iH b) 0 ∧ τ (iL b) 2 = σ (iL b) 2 ∧ τ (iH b) 2 = σ (iH b) 2
def qtI (σ : Sg) (s k : Nat) (τ : Sg) : Prop := (∀ j, j < k → qtB σ τ (bx s j)) ∧ (∀ j, k ≤ j → j < 16 → τ (iBo (bx s j)) = σ (iBo (bx s j)) ∧ τ (iL (bx s j)) = σ (iL (bx s j)) ∧ τ (iH (bx s j)) = σ (iH (bx s j))) ∧ ∀ q, outB s q → τ q = σ q
theorem qtI_0 (σ : Sg) (s : Nat) : qtI σ s 0 σ := ⟨fun j hj => absurd hj (by omega), fun _ _ _ => ⟨rfl, rfl, rfl⟩, fun _ _ => rfl⟩
theorem qtI_step {σ τ : Sg} {s k : Nat} (hk : k < 16) (h : qtI σ s k τ) : qtI σ s (k + 1) (upS (upS (upS (upS τ (iL (bx s k)) 0 (32 - τ (iH (bx s k)) 1)) (iH (bx s k)) 0 (32 - upS τ (iL (bx s k)) 0 (32 - τ (iH (bx s k)) 1) (iL (bx s k)) 1)) (iL (bx s k)) 1 (τ (iL (bx s k)) 0)) (iH (bx s k)) 1 (τ (iH (bx s k)) 0)) := by
  obtain ⟨e0, e1, e2⟩ := h.2.1 k (Nat.le_refl _) hk
  refine ⟨fun j hj => ?_, fun j a b => ?_, fun q hq => ?_⟩
  · by_cases e : j = k
    · subst e
      refine ⟨?_, ?_, ?_, ?_, ?_, ?_, ?_⟩
      · funext i
        simp [up_get, nBL, nBH, e0]
      all_goals simp [up_get, nLH, nHL, e1, e2]
    · have := h.1 j (by omega)
      have n1 := (bx_ne (s := s) e)
      have f0 : ∀ υ : Sg, ∀ i v, upS υ (iL (bx s k)) i v (iL (bx s j)) = υ (iL (bx s j)) := fun υ i v => up_ne n1.2.1
      have f1 : ∀ υ : Sg, ∀ i v, upS υ (iH (bx s k)) i v (iH (bx s j)) = υ (iH (bx s j)) := fun υ i v => up_ne n1.2.2
      have f2 : ∀ υ : Sg, ∀ i v, upS υ (iH (bx s k)) i v (iL (bx s j)) = υ (iL (bx s j)) := fun υ i v => up_ne (nLH _ _)
      have f3 : ∀ υ : Sg, ∀ i v, upS υ (iL (bx s k)) i v (iH (bx s j)) = υ (iH (bx s j)) := fun υ i v => up_ne (nHL _ _)
      have f4 : ∀ υ : Sg, ∀ i v, upS υ (iL (bx s k)) i v (iBo (bx s j)) = υ (iBo (bx s j)) := fun υ i v => up_ne (nBL _ _)
      have f5 : ∀ υ : Sg, ∀ i v, upS υ (iH (bx s k)) i v (iBo (bx s j)) = υ (iBo (bx s j)) := fun υ i v => up_ne (nBH _ _)
      unfold qtB
      simp only [f0, f1, f2, f3, f4, f5]
      exact this
  · have := h.2.1 j (by omega) b
    have n1 := (bx_ne (s := s) (show j ≠ k by omega))
    rw [up_ne (nBH _ _), up_ne (nBL _ _), up_ne (nBH _ _), up_ne (nBL _ _), up_ne (nLH _ _), up_ne n1.2.1, up_ne (nLH _ _), up_ne n1.2.1, up_ne n1.2.2, up_ne (nHL _ _), up_ne n1.2.2, up_ne (nHL _ _)]
    exact this
  · have := hq k hk
    rw [up_ne this.2.2, up_ne this.2.1, up_ne this.2.2, up_ne this.2.1]
    exact h.2.2 q hq
/-! pictures: sets of boxes as the bits of an int -/
def oI : Option Nat → Int32
  | none => -1
  | some k => nI k
def hdS (σ : Sg) (s a b : Nat) : Bool := !decide (b = a) && !decide (dhB (σ (iL (bx s a))) (σ (iH (bx s a))) (σ (iL (bx s b))) (σ (iH (bx s b))) = -1)
def hmS (σ : Sg) (s n a : Nat) : Int32 := orI (hdS σ s a) bitI n
def wsR (c : Nat → Int32) (w : Nat) : Nat → (Nat → Int32)
  | 0 => c
  | k + 1 => if hasB (wsR c w k k) w then upd (wsR c w k) k (wsR c w k k ||| wsR c w k w) else wsR c w k
def wsO (c : Nat → Int32) (n : Nat) : Nat → (Nat → Int32)
  | 0 => c
  | w + 1 => wsR (wsO c n w) w n
theorem up_setA (σ : Sg) (q k : Nat) (F : Nat → Int32) (v : Int32) : upS (setA σ q F) q k v = setA σ q (upd F k v) := by
  funext a i
  by_cases h : a = q
  · subst h
    simp [upS, setA]
  · simp [upS, setA, h]
theorem setA_at (σ : Sg) (q : Nat) (F : Nat → Int32) : setA σ q F q = F := by simp [setA]
theorem setA_ne {σ : Sg} {q : Nat} {F : Nat → Int32} {a : Nat} (h : a ≠ q) : setA σ q F a = σ a := by simp [setA, h]
theorem setA_self (σ : Sg) (q : Nat) : setA σ q (σ q) = σ := by
  funext a
  by_cases h : a = q <;> simp [setA, h]
theorem setA_setA (σ : Sg) (q : Nat) (F G : Nat → Int32) : setA (setA σ q F) q G = setA σ q G := by
  funext a
  by_cases h : a = q <;> simp [setA, h]
theorem up_as (σ : Sg) (q k : Nat) (v : Int32) : upS σ q k v = setA σ q (upd (σ q) k v) := rfl
/-- who can be drawn, and the best of them among the first ones -/
def canD (h : Nat → Int32) (db : Int32) (k : Nat) : Bool := !hasB db k && decide (h k &&& (db ^^^ -1) = 0)
def bestO (p : Nat → Bool) (lt : Nat → Nat → Bool) : Nat → Option Nat
  | 0 => none
  | k + 1 => if p k && (match bestO p lt k with | none => true | some b => lt k b) then some k else bestO p lt k
theorem bestO_lt {p : Nat → Bool} {lt : Nat → Nat → Bool} : ∀ {k j : Nat}, bestO p lt k = some j → j < k
  | 0, j, h => by simp [bestO] at h
  | k + 1, j, h => by
    rw [bestO] at h
    by_cases c : (p k && (match bestO p lt k with | none => true | some b => lt k b)) = true
    · rw [if_pos c] at h
      cases h
      omega
    · rw [if_neg c] at h
      have := bestO_lt h
      omega
theorem oI_some {p : Nat → Bool} {lt : Nat → Nat → Bool} {k : Nat} {x : Int32} (hx : x = oI (bestO p lt k)) (h : ¬ x = -1) : ∃ j, j < k ∧ bestO p lt k = some j ∧ x = nI j := by
  cases e : bestO p lt k with
  | none => rw [e] at hx; exact absurd hx h
  | some j => rw [e] at hx; exact ⟨j, bestO_lt e, rfl, hx⟩
theorem oI_none {p : Nat → Bool} {lt : Nat → Nat → Bool} {k : Nat} {x : Int32} (hk : k ≤ 16) (hx : x = oI (bestO p lt k)) (h : x = -1) : bestO p lt k = none := by
  cases e : bestO p lt k with
  | none => rfl
  | some j =>
    rw [e, h] at hx
    have h1 : j < 16 := by have := bestO_lt e; omega
    have h2 : (nI j).toInt = (j : Int) := nI_toInt (by omega)
    have h3 : (-1 : Int32).toInt = -1 := by decide
    have h4 : (-1 : Int32) = nI j := hx
    rw [← h4, h3] at h2
    omega
theorem bestO_yes {p : Nat → Bool} {lt : Nat → Nat → Bool} {k : Nat} (h1 : p k = true) (h2 : bestO p lt k = none ∨ ∃ j, bestO p lt k = some j ∧ lt k j = true) : bestO p lt (k + 1) = some k := by
  rw [bestO]
  rcases h2 with e | ⟨j, e, h⟩ <;> simp [h1, e, *]
theorem bestO_no1 {p : Nat → Bool} {lt : Nat → Nat → Bool} {k : Nat} (h1 : p k = false) : bestO p lt (k + 1) = bestO p lt k := by
  rw [bestO]
  simp [h1]
theorem bestO_no2 {p : Nat → Bool} {lt : Nat → Nat → Bool} {k j : Nat} (e : bestO p lt k = some j) (h : lt k j = false) : bestO p lt (k + 1) = bestO p lt k := by
  rw [bestO]
  simp [e, h]
def nxO (n : Nat) (h wt : Nat → Int32) (db : Int32) : Option Nat := bestO (canD h db) (fun k b => decide (wt k < wt b)) n
def layA (lay : Nat → Int32) (x : Int32) : Nat → Int32
  | 0 => 0
  | k + 1 => if hasB x k then (if layA lay x k < lay k + 1 then lay k + 1 else layA lay x k) else layA lay x k
/-- the drawing after some boxes: those drawn, the order, the layers -/
def drS (n : Nat) (h wt : Nat → Int32) (o0 l0 : Nat → Int32) : Nat → Int32 × (Nat → Int32) × (Nat → Int32)
  | 0 => (0, o0, l0)
  | j + 1 => match nxO n h wt (drS n h wt o0 l0 j).1 with
    | none => drS n h wt o0 l0 j
    | some b => ((drS n h wt o0 l0 j).1 ||| bitI b, upd (drS n h wt o0 l0 j).2.1 j (nI b), upd (drS n h wt o0 l0 j).2.2 b (layA (drS n h wt o0 l0 j).2.2 (h b) n))
def drC (n : Nat) (h wt : Nat → Int32) (o0 l0 : Nat → Int32) : Nat := ffi (fun j => (nxO n h wt (drS n h wt o0 l0 j).1).isNone) n
def glI (lay : Nat → Int32) : Nat → Int32
  | 0 => -5
  | k + 1 => if glI lay k < lay k then lay k else glI lay k
def rchI (h : Nat → Int32) (n k : Nat) : Nat → Int32
  | 0 => h k
  | j + 1 => rchI h n k j ||| orI (hasB (rchI h n k j)) h n
def srO (h : Nat → Int32) (n k : Nat) : Int32 := if ffi (fun j => hasB (rchI h n k j) k) n < n then nI (ffi (fun j => hasB (rchI h n k j) k) n + 1) else -5
def srI (h : Nat → Int32) (n : Nat) : Nat → Int32
  | 0 => -5
  | k + 1 => if srO h n k = -5 then srI h n k else if srI h n k = -5 then srO h n k else if srO h n k < srI h n k then srO h n k else srI h n k
def grO (σ : Sg) (s : Nat) (c : Nat → Int32) (n : Nat) : Option Nat := bestO (fun k => hasB (c k) k) (fun k b => decide (voB σ (bx s b) < voB σ (bx s k))) n
theorem slot_ix {x : Int32} {m : Nat} (h0 : ¬ x < 0) (h1 : x < nI m) (hm : m < 2 ^ 31) : ∃ j : Nat, j < m ∧ x = nI j := by
  rcases pk_ix x hm with h | h | h
  · exact absurd h h0
  · exact absurd h1 (Int32.not_lt.mpr h)
  · exact h
theorem nx_some {n : Nat} {h wt : Nat → Int32} {db : Int32} (hq : ¬ oI (nxO n h wt db) = -1) : ∃ b, b < n ∧ nxO n h wt db = some b := by
  cases e : nxO n h wt db with
  | none => rw [e] at hq; exact absurd rfl hq
  | some b => exact ⟨b, bestO_lt e, rfl⟩
theorem nx_none {n : Nat} {h wt : Nat → Int32} {db : Int32} (hn : n ≤ 16) (hq : oI (nxO n h wt db) = -1) : nxO n h wt db = none := oI_none hn rfl hq
theorem chain_no {σ τ : Sg} {q w k : Nat} {c : Nat → Int32} (h : τ = setA σ q (wsR c w k)) (hb : hasB (τ q k) w = false) : τ = setA σ q (wsR c w (k + 1)) := by
  rw [h, setA_at] at hb
  rw [wsR, if_neg (by simp [hb])]
  exact h
theorem chain_yes {σ τ : Sg} {q w k : Nat} {c : Nat → Int32} (h : τ = setA σ q (wsR c w k)) (hb : hasB (τ q k) w = true) : upS τ q k (τ q k ||| τ q w) = setA σ q (wsR c w (k + 1)) := by
  rw [h, setA_at] at hb
  rw [wsR, if_pos hb, h, setA_at, up_setA]
/-- nothing but some cells of a picture changed -/
def wt_same {σ τ : Sg} {s : Nat} (hs : iS s < 353) (h : ∀ q, q < 353 → τ q = σ q) (hb : ∀ k, k < 16 → iH (bx s k) < 353) : ∀ k, k < 16 → wtS τ s k = wtS σ s k := by
  intro k hk
  have h1 := hb k hk
  have h2 : iL (bx s k) < 353 := by unfold iL; unfold iH at h1; omega
  unfold wtS voB szB
  rw [h _ hs, h _ h2, h _ h1]
theorem wt_eq {σ τ : Sg} {s : Nat} (hs : s < 7) (h : ∀ q, q < 353 → τ q = σ q) {k : Nat} (hk : k < 16) : wtS τ s k = wtS σ s k :=
  wt_same (by unfold iS; omega) h (fun k hk => by unfold iH bx; omega) k hk
theorem bestO_congr {p p' : Nat → Bool} {lt lt' : Nat → Nat → Bool} : ∀ {n : Nat}, (∀ k, k < n → p k = p' k) → (∀ k b, k < n → b < n → lt k b = lt' k b) → bestO p lt n = bestO p' lt' n
  | 0, _, _ => rfl
  | n + 1, h1, h2 => by
    have e := bestO_congr (n := n) (fun k hk => h1 k (by omega)) (fun k b hk hb => h2 k b (by omega) (by omega))
    rw [bestO, bestO, e, h1 n (by omega)]
    cases e2 : bestO p' lt' n with
    | none => rfl
    | some b => simp only [h2 n b (by omega) (by have := bestO_lt e2; omega)]
theorem nxO_congr {n : Nat} {h h' wt wt' : Nat → Int32} {db : Int32} (h1 : ∀ k, k < n → h k = h' k) (h2 : ∀ k, k < n → wt k = wt' k) : nxO n h wt db = nxO n h' wt' db :=
  bestO_congr (fun k hk => by unfold canD; rw [h1 k hk]) (fun k b hk hb => by rw [h2 k hk, h2 b hb])
/-- the drawing's cells of a picture -/
def dwC (n : Nat) (h wt o0 l0 : Nat → Int32) (p : Nat) (σ τ : Sg) (j : Nat) : Prop :=
  τ (iP p) 0 = nI n ∧ τ (iP p) 4 = (drS n h wt o0 l0 j).1 ∧ τ (iP p) 5 = nI j ∧ τ (iP p + 3) = (drS n h wt o0 l0 j).2.1 ∧ τ (iP p + 4) = (drS n h wt o0 l0 j).2.2 ∧ (∀ q, q ≠ iP p → q ≠ iP p + 3 → q ≠ iP p + 4 → τ q = σ q) ∧ ∀ i, i < j → (fun j => (nxO n h wt (drS n h wt o0 l0 j).1).isNone) i = false
theorem dw_step {n : Nat} {h wt o0 l0 : Nat → Int32} {p b j : Nat} {σ τ : Sg} (hh : h = τ (iP p + 1)) (hd : dwC n h wt o0 l0 p σ τ j) (hb : nxO n h wt (τ (iP p) 4) = some b) :
    dwC n h wt o0 l0 p σ (upS (upS (upS (upS τ (iP p + 3) j (nI b)) (iP p + 4) b (layA (upS τ (iP p + 3) j (nI b) (iP p + 4)) (upS τ (iP p + 3) j (nI b) (iP p + 1) b) n)) (iP p) 4 (upS (upS τ (iP p + 3) j (nI b)) (iP p + 4) b (layA (upS τ (iP p + 3) j (nI b) (iP p + 4)) (upS τ (iP p + 3) j (nI b) (iP p + 1) b) n) (iP p) 4 ||| bitI b)) (iP p) 5 (upS (upS (upS τ (iP p + 3) j (nI b)) (iP p + 4) b (layA (upS τ (iP p + 3) j (nI b) (iP p + 4)) (upS τ (iP p + 3) j (nI b) (iP p + 1) b) n)) (iP p) 4 (upS (upS τ (iP p + 3) j (nI b)) (iP p + 4) b (layA (upS τ (iP p + 3) j (nI b) (iP p + 4)) (upS τ (iP p + 3) j (nI b) (iP p + 1) b) n) (iP p) 4 ||| bitI b) (iP p) 5 + 1)) (j + 1) := by
  obtain ⟨d0, d1, d2, d3, d4, d5, d6⟩ := hd
  have a3 : iP p ≠ iP p + 3 := by omega
  have a4 : iP p ≠ iP p + 4 := by omega
  have hb2 : nxO n h wt (drS n h wt o0 l0 j).1 = some b := by rw [← d1]; exact hb
  have eS : drS n h wt o0 l0 (j + 1) = ((drS n h wt o0 l0 j).1 ||| bitI b, upd (drS n h wt o0 l0 j).2.1 j (nI b), upd (drS n h wt o0 l0 j).2.2 b (layA (drS n h wt o0 l0 j).2.2 (h b) n)) := by
    rw [drS, hb2]
  refine ⟨?_, ?_, ?_, ?_, ?_, fun q b1 b2 b3 => ?_, lt_s d6 (by simp [hb2])⟩
  · simp [up_get, d0]
  · rw [eS]
    simp [up_get, d1]
  · simp [up_get, d2, nI_1]
  · rw [eS]
    simp only
    rw [up_ne a3.symm, up_ne a3.symm, up_ne (by omega), up_at, d3]
  · rw [eS]
    simp only
    rw [up_ne a4.symm, up_ne a4.symm, up_at, up_ne (by omega), d4, up_ne (by omega), ← hh]
  · rw [up_ne b1, up_ne b1, up_ne b3, up_ne b2]
    exact d5 q b1 b2 b3
theorem drS_stuck {n : Nat} {h wt o0 l0 : Nat → Int32} {j : Nat} (hj : nxO n h wt (drS n h wt o0 l0 j).1 = none) : ∀ i, drS n h wt o0 l0 (j + i) = drS n h wt o0 l0 j
  | 0 => rfl
  | i + 1 => by
    have e := drS_stuck hj i
    show drS n h wt o0 l0 ((j + i) + 1) = _
    rw [drS, e, hj]
def dwI (σ : Sg) (s p n : Nat) (h wt o0 l0 : Nat → Int32) (σ1 : Sg) : Prop :=
  σ1 (iP p) 0 = nI n ∧ σ1 (iP p) 4 = (drS n h wt o0 l0 n).1 ∧ σ1 (iP p) 5 = nI (drC n h wt o0 l0) ∧ σ1 (iP p + 3) = (drS n h wt o0 l0 n).2.1 ∧ σ1 (iP p + 4) = (drS n h wt o0 l0 n).2.2 ∧ ∀ q, q ≠ iP p → q ≠ iP p + 3 → q ≠ iP p + 4 → σ1 q = σ q
theorem dw_end {n : Nat} {h wt o0 l0 : Nat → Int32} {p s : Nat} {σ τ : Sg} (hd : dwC n h wt o0 l0 p σ τ n) : dwI σ s p n h wt o0 l0 τ := by
  obtain ⟨d0, d1, d2, d3, d4, d5, d6⟩ := hd
  refine ⟨d0, d1, ?_, d3, d4, d5⟩
  rw [drC, ff_none d6]
  exact d2
theorem dw_stop {n : Nat} {h wt o0 l0 : Nat → Int32} {p s j : Nat} {σ τ : Sg} (hj : j < n) (hd : dwC n h wt o0 l0 p σ τ j) (hb : nxO n h wt (τ (iP p) 4) = none) : dwI σ s p n h wt o0 l0 τ := by
  obtain ⟨d0, d1, d2, d3, d4, d5, d6⟩ := hd
  have hb2 : nxO n h wt (drS n h wt o0 l0 j).1 = none := by rw [← d1]; exact hb
  have e := drS_stuck (o0 := o0) (l0 := l0) hb2 (n - j)
  rw [show j + (n - j) = n by omega] at e
  refine ⟨d0, by rw [e]; exact d1, ?_, by rw [e]; exact d3, by rw [e]; exact d4, d5⟩
  rw [drC, ff_hit d6 (by simp [hb2]) hj]
  exact d2
theorem dw_head {n : Nat} {h wt : Nat → Int32} {p : Nat} {σ : Sg} (hpc : σ (iP p) 0 = nI n) : dwC n h wt (σ (iP p + 3)) (fun i => if i < 16 then -5 else σ (iP p + 4) i) p σ (upS (upS (setA σ (iP p + 4) (fun i => if i < 16 then -5 else σ (iP p + 4) i)) (iP p) 4 0) (iP p) 5 0) 0 := by
  have a4 : iP p ≠ iP p + 4 := by omega
  refine ⟨?_, ?_, ?_, ?_, ?_, fun q b1 b2 b3 => ?_, fun i hi => absurd hi (by omega)⟩
  · simp [up_get, setA_ne a4, hpc]
  · simp [up_get, drS]
  · simp [up_get]
    rfl
  · rw [up_ne (by omega), up_ne (by omega), setA_ne (by omega)]
    rfl
  · rw [up_ne (by omega), up_ne (by omega), setA_at]
    rfl
  · rw [up_ne b1, up_ne b1, setA_ne b3]
theorem iL_53 {s j : Nat} (hs : s < 7) (hj : j < 16) : iL (bx s j) < 353 := by unfold iL bx; omega
theorem iH_53 {s j : Nat} (hs : s < 7) (hj : j < 16) : iH (bx s j) < 353 := by unfold iH bx; omega
theorem hd_eq {σ τ : Sg} {s : Nat} (hs : s < 7) (h : ∀ q, q < 353 → τ q = σ q) {a j : Nat} (ha : a < 16) (hj : j < 16) : hdS τ s a j = hdS σ s a j := by
  have e1 := h _ (iL_53 hs ha)
  have e2 := h _ (iH_53 hs ha)
  have e3 := h _ (iL_53 hs hj)
  have e4 := h _ (iH_53 hs hj)
  unfold hdS
  rw [e1, e2, e3, e4]
theorem orI_c {p q : Nat → Bool} {f g : Nat → Int32} : ∀ {n : Nat}, (∀ k, k < n → p k = q k) → (∀ k, k < n → f k = g k) → orI p f n = orI q g n
  | 0, _, _ => rfl
  | n + 1, h, h2 => by
    have e := orI_c (n := n) (fun k hk => h k (Nat.lt_succ_of_lt hk)) (fun k hk => h2 k (Nat.lt_succ_of_lt hk))
    show (if p n then orI p f n ||| f n else orI p f n) = (if q n then orI q g n ||| g n else orI q g n)
    rw [e, h n (Nat.lt_succ_self n), h2 n (Nat.lt_succ_self n)]
theorem hm_eq {σ τ : Sg} {s n : Nat} (hs : s < 7) (hn : n ≤ 16) (h : ∀ q, q < 353 → τ q = σ q) {a : Nat} (ha : a < 16) : hmS τ s n a = hmS σ s n a :=
  orI_c (fun j hj => hd_eq hs h ha (Nat.lt_of_lt_of_le hj hn)) (fun _ _ => rfl)
theorem wsR_congr {c c' : Nat → Int32} {n w : Nat} (hw : w < n) (h : ∀ k, k < n → c k = c' k) : ∀ m, m ≤ n → ∀ k, k < n → wsR c w m k = wsR c' w m k
  | 0, _, k, hk => h k hk
  | m + 1, hm, k, hk => by
    have e := wsR_congr hw h m (by omega)
    rw [wsR, wsR, e m (by omega)]
    by_cases q : hasB (wsR c' w m m) w = true
    · rw [if_pos q, if_pos q, e w hw]
      unfold upd
      by_cases q2 : k = m
      · simp [q2]
      · simp [q2, e k hk]
    · rw [if_neg q, if_neg q, e k hk]
theorem wsO_congr {c c' : Nat → Int32} {n : Nat} (h : ∀ k, k < n → c k = c' k) : ∀ w, w ≤ n → ∀ k, k < n → wsO c n w k = wsO c' n w k
  | 0, _, k, hk => h k hk
  | w + 1, hw, k, hk => wsR_congr (by omega) (fun k hk => wsO_congr h w (by omega) k hk) n (Nat.le_refl _) k hk
/-- what a picture holds once it has looked at a space of n boxes -/
def pcI (σ : Sg) (s p n : Nat) (σ1 : Sg) : Prop := ∃ (h o0 l0 : Nat → Int32), (∀ k, k < n → h k = hmS σ s n k) ∧ (∀ i, i < 16 → l0 i = -5) ∧ σ1 (iP p) 0 = nI n ∧ σ1 (iP p + 1) = h ∧ (∀ k, k < n → σ1 (iP p + 2) k = wsO h n n k) ∧ σ1 (iP p) 4 = (drS n h (wtS σ s) o0 l0 n).1 ∧ σ1 (iP p) 5 = nI (drC n h (wtS σ s) o0 l0) ∧ σ1 (iP p + 3) = (drS n h (wtS σ s) o0 l0 n).2.1 ∧ σ1 (iP p + 4) = (drS n h (wtS σ s) o0 l0 n).2.2 ∧ ∀ q, (q < iP p ∨ iP p + 4 < q) → σ1 q = σ q
def lkJ (σ : Sg) (s p n k : Nat) (τ : Sg) : Prop := τ (iP p) 0 = nI n ∧ (∀ j, j < k → τ (iP p + 1) j = hmS σ s n j) ∧ ∀ q, q ≠ iP p → q ≠ iP p + 1 → τ q = σ q
theorem lkJ_step {σ τ : Sg} {s p n k : Nat} (h : lkJ σ s p n k τ) : lkJ σ s p n (k + 1) (upS τ (iP p + 1) k (hmS σ s n k)) := by
  refine ⟨by rw [up_ne (by omega)]; exact h.1, fun j hj => ?_, fun q a b => by rw [up_ne b]; exact h.2.2 q a b⟩
  rw [up_get]
  by_cases e : j = k
  · subst e
    simp
  · simp [e]
    exact h.2.1 j (by omega)
theorem drS_wt {n : Nat} {h wt wt' o0 l0 : Nat → Int32} (e : ∀ k, k < n → wt k = wt' k) : ∀ j, drS n h wt o0 l0 j = drS n h wt' o0 l0 j
  | 0 => rfl
  | j + 1 => by
    rw [drS, drS, drS_wt e j, nxO_congr (fun _ _ => rfl) e]
theorem drC_wt {n : Nat} {h wt wt' o0 l0 : Nat → Int32} (e : ∀ k, k < n → wt k = wt' k) : drC n h wt o0 l0 = drC n h wt' o0 l0 := by
  unfold drC
  congr 1
  funext j
  rw [drS_wt e j, nxO_congr (fun _ _ => rfl) e]
theorem look_ok {σ τ σ1 σ2 : Sg} {s p n : Nat} (hs : s < 7) (hn : n ≤ 16) (hτ : lkJ σ s p n n τ) (h1 : σ1 = setA τ (iP p + 2) (wsO (va_cpy (τ (iP p + 1)) (τ (iP p + 2)) 0 0 16) n n))
    (h2 : dwI σ1 s p n (σ1 (iP p + 1)) (wtS σ1 s) (σ1 (iP p + 3)) (fun i => if i < 16 then -5 else σ1 (iP p + 4) i) σ2) : pcI σ s p n σ2 := by
  obtain ⟨t0, t1, t2⟩ := hτ
  obtain ⟨d0, d1, d2, d3, d4, d5⟩ := h2
  have f1 : ∀ q, q ≠ iP p → q ≠ iP p + 1 → q ≠ iP p + 2 → σ1 q = σ q := fun q a b c => by rw [h1, setA_ne c]; exact t2 q a b
  have ew : ∀ k, k < n → wtS σ1 s k = wtS σ s k := fun k hk => wt_eq hs (fun q hq => f1 q (by unfold iP; omega) (by unfold iP; omega) (by unfold iP; omega)) (by omega)
  have e1 : σ1 (iP p + 1) = τ (iP p + 1) := by rw [h1, setA_ne (by omega)]
  refine ⟨σ1 (iP p + 1), σ1 (iP p + 3), (fun i => if i < 16 then -5 else σ1 (iP p + 4) i), fun k hk => ?_, fun i hi => ?_, d0, ?_, fun k hk => ?_, ?_, ?_, ?_, ?_, fun q hq => ?_⟩
  · rw [e1]
    exact t1 k hk
  · simp [hi]
  · exact d5 _ (by omega) (by omega) (by omega)
  · rw [d5 _ (by omega) (by omega) (by omega), h1, setA_at, ← h1, e1]
    exact wsO_congr (fun k hk => by simp [va_cpy, show k < 16 by omega]) n (Nat.le_refl _) k hk
  · rw [d1, drS_wt ew]
  · rw [d2, drC_wt ew]
  · rw [d3, drS_wt ew]
  · rw [d4, drS_wt ew]
  · rw [d5 q (by omega) (by omega) (by omega)]
    exact f1 q (by omega) (by omega) (by omega)
end
section
/-! VIEW: what a space is, as a value; the same answers in its words -/
/-- boxes, numbers so far, splits, the rule; each box's number, lows and highs -/
abbrev SpV : Type := Nat × Int32 × Int32 × Int32 × (Nat → Int32) × (Nat → Nat → Int32) × (Nat → Nat → Int32)
abbrev vN (v : SpV) : Nat := v.1
abbrev vX (v : SpV) : Int32 := v.2.1
abbrev vSp (v : SpV) : Int32 := v.2.2.1
abbrev vRu (v : SpV) : Int32 := v.2.2.2.1
abbrev vNu (v : SpV) : Nat → Int32 := v.2.2.2.2.1
abbrev vLo (v : SpV) : Nat → Nat → Int32 := v.2.2.2.2.2.1
abbrev vHi (v : SpV) : Nat → Nat → Int32 := v.2.2.2.2.2.2
def isV (σ : Sg) (s : Nat) (v : SpV) : Prop := vN v ≤ 16 ∧ σ (iS s) 1 = nI (vN v) ∧ σ (iS s) 2 = vX v ∧ σ (iS s) 3 = vSp v ∧ σ (iS s) 4 = vRu v ∧ ∀ j, j < vN v → σ (iBo (bx s j)) 0 = vNu v j ∧ ∀ d, d < 3 → σ (iL (bx s j)) d = vLo v j d ∧ σ (iH (bx s j)) d = vHi v j d
theorem isV_sp {σ σ1 : Sg} {s t : Nat} {v : SpV} (h : isV σ t v) (h1 : spC σ1 s σ t (vN v)) : isV σ1 s v := by
  obtain ⟨a, b, c, d, e, f⟩ := h
  refine ⟨a, (h1.1 1 (by omega) (by omega)).trans b, (h1.1 2 (by omega) (by omega)).trans c, (h1.1 3 (by omega) (by omega)).trans d, (h1.1 4 (by omega) (by omega)).trans e, fun j hj => ?_⟩
  have g := h1.2 j hj
  exact ⟨g.1.trans (f j hj).1, fun d hd => ⟨(g.2 d hd).1.trans ((f j hj).2 d hd).1, (g.2 d hd).2.trans ((f j hj).2 d hd).2⟩⟩
/-- a space that nothing touched -/
theorem isV_keep {σ σ1 : Sg} {s : Nat} {v : SpV} (h : isV σ s v) (h1 : σ1 (iS s) = σ (iS s)) (h2 : ∀ j, j < 16 → σ1 (iBo (bx s j)) = σ (iBo (bx s j)) ∧ σ1 (iL (bx s j)) = σ (iL (bx s j)) ∧ σ1 (iH (bx s j)) = σ (iH (bx s j))) : isV σ1 s v := by
  obtain ⟨a, b, c, d, e, f⟩ := h
  refine ⟨a, by rw [h1]; exact b, by rw [h1]; exact c, by rw [h1]; exact d, by rw [h1]; exact e, fun j hj => ?_⟩
  obtain ⟨g0, g1, g2⟩ := h2 j (by omega)
  rw [g0, g1, g2]
  exact f j hj
theorem isV_fr {σ σ1 : Sg} {s t : Nat} {v : SpV} (h : isV σ t v) (hst : s ≠ t) (hs : s < 7) (ht : t < 7) (h1 : frS s σ σ1) : isV σ1 t v := by
  refine isV_keep h (h1 _ (by unfold iS; omega) (outB_S s t hs)) (fun j hj => ?_)
  · have hB := outB_bx (s := s) hst hj
    exact ⟨h1 _ (by unfold iBo iS bx; omega) hB.1, h1 _ (by unfold iL iS bx; omega) hB.2.1, h1 _ (by unfold iH iS bx; omega) hB.2.2⟩
theorem isV_bx {σ σ1 : Sg} {s : Nat} {v : SpV} (h : isV σ s v) (hq : ∀ q, q < 336 → σ1 q = σ q) (h1 : σ1 (iS s) = σ (iS s)) (hs : s < 7) : isV σ1 s v :=
  isV_keep h h1 (fun j hj => ⟨hq _ (by unfold iBo bx; omega), hq _ (by unfold iL bx; omega), hq _ (by unfold iH bx; omega)⟩)
/-! the same functions, of any lows and highs; they look at the first n boxes and at three directions alone -/
def eqL (n : Nat) (f g : Nat → Nat → Int32) : Prop := ∀ j, j < n → ∀ d, d < 3 → f j d = g j d
theorem mtB_c {l1 h1 l2 h2 l1' h1' l2' h2' : V3} {d : Nat} (hd : d < 3) (a : ∀ d, d < 3 → l1 d = l1' d) (b : ∀ d, d < 3 → h1 d = h1' d) (c : ∀ d, d < 3 → l2 d = l2' d) (e : ∀ d, d < 3 → h2 d = h2' d) : mtB l1 h1 l2 h2 d = mtB l1' h1' l2' h2' d := by
  unfold mtB
  rw [a d hd, b d hd, c d hd, e d hd]
theorem ctBx_c {l1 h1 l2 h2 l1' h1' l2' h2' : V3} (a : ∀ d, d < 3 → l1 d = l1' d) (b : ∀ d, d < 3 → h1 d = h1' d) (c : ∀ d, d < 3 → l2 d = l2' d) (e : ∀ d, d < 3 → h2 d = h2' d) : ctBx l1 h1 l2 h2 = ctBx l1' h1' l2' h2' := by
  unfold ctBx
  rw [mtB_c (by omega) a b c e, mtB_c (d := 1) (by omega) a b c e, mtB_c (d := 2) (by omega) a b c e]
theorem md_c {l1 h1 l2 h2 l1' h1' l2' h2' : V3} {d f : Nat} (hd : d < 3) (hf : f < 3) (a : ∀ d, d < 3 → l1 d = l1' d) (b : ∀ d, d < 3 → h1 d = h1' d) (c : ∀ d, d < 3 → l2 d = l2' d) (e : ∀ d, d < 3 → h2 d = h2' d) : md l1 h1 l2 h2 d f = md l1' h1' l2' h2' d f := by
  unfold md
  rw [a d hd, b d hd, c d hd, e d hd, a f hf, b f hf, c f hf, e f hf]
theorem ovB_c {l1 h1 l2 h2 l1' h1' l2' h2' : V3} (a : ∀ d, d < 3 → l1 d = l1' d) (b : ∀ d, d < 3 → h1 d = h1' d) (c : ∀ d, d < 3 → l2 d = l2' d) (e : ∀ d, d < 3 → h2 d = h2' d) : ovB l1 h1 l2 h2 = ovB l1' h1' l2' h2' := by
  unfold ovB
  rw [md_c (d := 0) (f := 1) (by omega) (by omega) a b c e, md_c (d := 0) (f := 2) (by omega) (by omega) a b c e, md_c (d := 1) (f := 2) (by omega) (by omega) a b c e]
theorem ffi_c {p q : Nat → Bool} : ∀ {n : Nat}, (∀ k, k < n → p k = q k) → ffi p n = ffi q n
  | 0, _ => rfl
  | n + 1, h => by rw [ffi, ffi, ffi_c (fun k hk => h k (by omega)), h n (by omega)]
theorem fI_c {p q : Nat → Bool} {n : Nat} (h : ∀ k, k < n → p k = q k) : fI p n = fI q n := by
  unfold fI
  rw [ffi_c h]
theorem anyb_c {p q : Nat → Bool} : ∀ {n : Nat}, (∀ k, k < n → p k = q k) → anyb p n = anyb q n
  | 0, _ => rfl
  | n + 1, h => by rw [anyb, anyb, anyb_c (fun k hk => h k (by omega)), h n (by omega)]
theorem cntI_c {p q : Nat → Bool} : ∀ {n : Nat}, (∀ k, k < n → p k = q k) → cntI p n = cntI q n
  | 0, _ => rfl
  | n + 1, h => by rw [cntI, cntI, cntI_c (fun k hk => h k (by omega)), h n (by omega)]
theorem sumI_c {p q : Nat → Int32} : ∀ {n : Nat}, (∀ k, k < n → p k = q k) → sumI p n = sumI q n
  | 0, _ => rfl
  | n + 1, h => by rw [sumI, sumI, sumI_c (fun k hk => h k (by omega)), h n (by omega)]
theorem dhB_c {l1 h1 l2 h2 l1' h1' l2' h2' : V3} (a : ∀ d, d < 3 → l1 d = l1' d) (b : ∀ d, d < 3 → h1 d = h1' d) (c : ∀ d, d < 3 → l2 d = l2' d) (e : ∀ d, d < 3 → h2 d = h2' d) : dhB l1 h1 l2 h2 = dhB l1' h1' l2' h2' := by
  unfold dhB
  rw [ovB_c a b c e, fI_c (fun k hk => by rw [a k hk, e k hk])]
theorem beB_c {l1 h1 l2 h2 l1' h1' l2' h2' : V3} (a : ∀ d, d < 3 → l1 d = l1' d) (b : ∀ d, d < 3 → h1 d = h1' d) (c : ∀ d, d < 3 → l2 d = l2' d) (e : ∀ d, d < 3 → h2 d = h2' d) : beB l1 h1 l2 h2 = beB l1' h1' l2' h2' := by
  unfold beB
  rw [mtB_c (d := 0) (by omega) a b c e, mtB_c (d := 1) (by omega) a b c e, b 2 (by omega), c 2 (by omega)]
theorem cvB_c {l1 h1 l1' h1' : V3} {y : Int32} (a : ∀ d, d < 3 → l1 d = l1' d) (b : ∀ d, d < 3 → h1 d = h1' d) : cvB l1 h1 y = cvB l1' h1' y := by
  unfold cvB
  rw [a 1 (by omega), b 1 (by omega)]
def hdG (lo hi : Nat → Nat → Int32) (a b : Nat) : Bool := !decide (b = a) && !decide (dhB (lo a) (hi a) (lo b) (hi b) = -1)
def hmG (lo hi : Nat → Nat → Int32) (n a : Nat) : Int32 := orI (hdG lo hi a) bitI n
def szG (lo hi : Nat → Nat → Int32) (k d : Nat) : Int32 := hi k d - lo k d
def voG (lo hi : Nat → Nat → Int32) (k : Nat) : Int32 := szG lo hi k 0 * szG lo hi k 1 * szG lo hi k 2
def wtG (ru : Int32) (lo hi : Nat → Nat → Int32) (k : Nat) : Int32 := if ru = 1 then lo k 0 + lo k 1 + lo k 2 else if ru = 2 then voG lo hi k else 0
def rwG (lo hi : Nat → Nat → Int32) (k : Nat) : Int32 := ((1 : Int32) <<< (szG lo hi k 0 &&& 31) - 1) <<< (lo k 0 &&& 31)
def grG (lo hi : Nat → Nat → Int32) (u : Nat) : Nat → Int32
  | 0 => 0
  | k + 1 => if beB (lo k) (hi k) (lo u) (hi u) then (if grG lo hi u k < hi k 2 then hi k 2 else grG lo hi u k) else grG lo hi u k
def shG (lo hi : Nat → Nat → Int32) (u n y : Nat) : Int32 := orI (fun j => beB (lo u) (hi u) (lo j) (hi j) && cvB (lo j) (hi j) (nI y)) (rwG lo hi) n
section VIEWS
variable {σ : Sg} {s : Nat} {v : SpV}
theorem v_lo (h : isV σ s v) {j : Nat} (hj : j < vN v) : ∀ d, d < 3 → σ (iL (bx s j)) d = vLo v j d := fun d hd => ((h.2.2.2.2.2 j hj).2 d hd).1
theorem v_hi (h : isV σ s v) {j : Nat} (hj : j < vN v) : ∀ d, d < 3 → σ (iH (bx s j)) d = vHi v j d := fun d hd => ((h.2.2.2.2.2 j hj).2 d hd).2
theorem v_slot (h : isV σ s v) (x : Int32) : fI (fun k => decide (σ (iBo (bx s k)) 0 = x)) (vN v) = fI (fun k => decide (vNu v k = x)) (vN v) := fI_c (fun k hk => by rw [(h.2.2.2.2.2 k hk).1])
theorem v_sz (h : isV σ s v) {j d : Nat} (hj : j < vN v) (hd : d < 3) : szB σ (bx s j) d = szG (vLo v) (vHi v) j d := by
  unfold szB szG
  rw [v_lo h hj d hd, v_hi h hj d hd]
theorem v_vo (h : isV σ s v) {j : Nat} (hj : j < vN v) : voB σ (bx s j) = voG (vLo v) (vHi v) j := by
  unfold voB voG
  rw [v_sz h hj (by omega), v_sz h hj (by omega), v_sz h hj (by omega)]
theorem v_rw (h : isV σ s v) {j : Nat} (hj : j < vN v) : rwB σ (bx s j) = rwG (vLo v) (vHi v) j := by
  unfold rwB rwG
  rw [v_sz h hj (by omega), v_lo h hj 0 (by omega)]
theorem v_wt (h : isV σ s v) {j : Nat} (hj : j < vN v) : wtS σ s j = wtG (vRu v) (vLo v) (vHi v) j := by
  unfold wtS wtG
  rw [v_vo h hj, v_lo h hj 0 (by omega), v_lo h hj 1 (by omega), v_lo h hj 2 (by omega), h.2.2.2.2.1]
theorem v_vol (h : isV σ s v) : sumI (fun k => voB σ (bx s k)) (vN v) = sumI (voG (vLo v) (vHi v)) (vN v) := sumI_c (fun k hk => v_vo h hk)
theorem v_be (h : isV σ s v) {a b : Nat} (ha : a < vN v) (hb : b < vN v) : beB (σ (iL (bx s a))) (σ (iH (bx s a))) (σ (iL (bx s b))) (σ (iH (bx s b))) = beB (vLo v a) (vHi v a) (vLo v b) (vHi v b) := beB_c (v_lo h ha) (v_hi h ha) (v_lo h hb) (v_hi h hb)
theorem v_gr (h : isV σ s v) {u : Nat} (hu : u < vN v) : ∀ m, m ≤ vN v → grS σ s u m = grG (vLo v) (vHi v) u m
  | 0, _ => rfl
  | m + 1, hm => by rw [grS, grG, v_gr h hu m (by omega), v_be h (by omega) hu, v_hi h (show m < vN v by omega) 2 (by omega)]
theorem v_bel (h : isV σ s v) {u : Nat} (hu : u < vN v) : cntI (fun k => beB (σ (iL (bx s k))) (σ (iH (bx s k))) (σ (iL (bx s u))) (σ (iH (bx s u)))) (vN v) = cntI (fun k => beB (vLo v k) (vHi v k) (vLo v u) (vHi v u)) (vN v) := cntI_c (fun k hk => v_be h hk hu)
theorem v_sup (h : isV σ s v) {u : Nat} (hu : u < vN v) : cntI (fun k => beB (σ (iL (bx s k))) (σ (iH (bx s k))) (σ (iL (bx s u))) (σ (iH (bx s u))) && decide (σ (iH (bx s k)) 2 = σ (iL (bx s u)) 2)) (vN v) = cntI (fun k => beB (vLo v k) (vHi v k) (vLo v u) (vHi v u) && decide (vHi v k 2 = vLo v u 2)) (vN v) := cntI_c (fun k hk => by rw [v_be h hk hu, v_hi h hk 2 (by omega), v_lo h hu 2 (by omega)])
theorem v_shR (h : isV σ s v) {u y : Nat} (hu : u < vN v) : shR σ s u (vN v) y = shG (vLo v) (vHi v) u (vN v) y := orI_c (fun k hk => by unfold shPd; rw [v_be h hu hk, cvB_c (v_lo h hk) (v_hi h hk)]) (fun k hk => v_rw h hk)
theorem v_hd (h : isV σ s v) {a b : Nat} (ha : a < vN v) (hb : b < vN v) : hdS σ s a b = hdG (vLo v) (vHi v) a b := by
  unfold hdS hdG
  rw [dhB_c (v_lo h ha) (v_hi h ha) (v_lo h hb) (v_hi h hb)]
theorem v_hm (h : isV σ s v) {a : Nat} (ha : a < vN v) : hmS σ s (vN v) a = hmG (vLo v) (vHi v) (vN v) a := orI_c (fun k hk => v_hd h ha hk) (fun _ _ => rfl)
end VIEWS
end
section
def wsX0_init : List Cond := .code yX0_init cX0_init 1 none :: ([.methodLink RX0 3 objectInit, .instanceMethod objectInit, .code objectInit ⟨#[0xb1]⟩ 1 none, .arrayClass .int, .fieldLink RX0 9 "HidingBoxes$Box" "low" "[I", .fieldLink RX0 15 "HidingBoxes$Box" "high" "[I"] ++ wsX00)
def wsX0_copyFrom : List Cond := .code yX0_copyFrom cX0_copyFrom 2 none :: ([.fieldLink RX0 18 "HidingBoxes$Box" "number" "I", .fieldLink RX0 9 "HidingBoxes$Box" "low" "[I", .methodLink RX0 22 arraycopyName, .native arraycopyName, .static arraycopyName, .initialized "java/lang/System", .fieldLink RX0 15 "HidingBoxes$Box" "high" "[I"] ++ wsX00)
def wsX0_lay : List Cond := .code yX0_lay cX0_lay 4 (some .boolean) :: ([.fieldLink RX0 9 "HidingBoxes$Box" "low" "[I", .fieldLink RX0 15 "HidingBoxes$Box" "high" "[I"] ++ wsX00)
def wsX0_shift : List Cond := .code yX0_shift cX0_shift 3 none :: ([.fieldLink RX0 9 "HidingBoxes$Box" "low" "[I", .fieldLink RX0 15 "HidingBoxes$Box" "high" "[I"] ++ wsX00)
def wsX0_size : List Cond := .code yX0_size cX0_size 2 (some .int) :: ([.fieldLink RX0 15 "HidingBoxes$Box" "high" "[I", .fieldLink RX0 9 "HidingBoxes$Box" "low" "[I"] ++ wsX00)
def wsX0_volume : List Cond := .code yX0_volume cX0_volume 1 (some .int) :: ([.methodLink RX0 28 yX0_size, .instanceMethod yX0_size, .selects RX0 yX0_size yX0_size, .initialized RX0, .code yX0_size cX0_size 2 (some .int), .fieldLink RX0 15 "HidingBoxes$Box" "high" "[I", .fieldLink RX0 9 "HidingBoxes$Box" "low" "[I"] ++ wsX00)
def wsX0_sumOfCorner : List Cond := .code yX0_sumOfCorner cX0_sumOfCorner 1 (some .int) :: ([.fieldLink RX0 9 "HidingBoxes$Box" "low" "[I"] ++ wsX00)
def wsX0_longestDirection : List Cond := .code yX0_longestDirection cX0_longestDirection 3 (some .int) :: ([.methodLink RX0 28 yX0_size, .instanceMethod yX0_size, .selects RX0 yX0_size yX0_size, .initialized RX0, .code yX0_size cX0_size 2 (some .int), .fieldLink RX0 15 "HidingBoxes$Box" "high" "[I", .fieldLink RX0 9 "HidingBoxes$Box" "low" "[I"] ++ wsX00)
def wsX0_meets : List Cond := .code yX0_meets cX0_meets 3 (some .boolean) :: ([.fieldLink RX0 9 "HidingBoxes$Box" "low" "[I", .fieldLink RX0 15 "HidingBoxes$Box" "high" "[I"] ++ wsX00)
def wsX0_cuts : List Cond := .code yX0_cuts cX0_cuts 2 (some .boolean) :: ([.methodLink RX0 32 yX0_meets, .instanceMethod yX0_meets, .selects RX0 yX0_meets yX0_meets, .initialized RX0, .code yX0_meets cX0_meets 3 (some .boolean), .fieldLink RX0 9 "HidingBoxes$Box" "low" "[I", .fieldLink RX0 15 "HidingBoxes$Box" "high" "[I"] ++ wsX00)
def wsX0_meetsInDifference : List Cond := .code yX0_meetsInDifference cX0_meetsInDifference 4 (some .boolean) :: ([.fieldLink RX0 9 "HidingBoxes$Box" "low" "[I", .fieldLink RX0 15 "HidingBoxes$Box" "high" "[I"] ++ wsX00)
def wsX0_overlapsOutlineOf : List Cond := .code yX0_overlapsOutlineOf cX0_overlapsOutlineOf 2 (some .boolean) :: ([.methodLink RX0 36 yX0_meetsInDifference, .instanceMethod yX0_meetsInDifference, .selects RX0 yX0_meetsInDifference yX0_meetsInDifference, .initialized RX0, .code yX0_meetsInDifference cX0_meetsInDifference 4 (some .boolean), .fieldLink RX0 9 "HidingBoxes$Box" "low" "[I", .fieldLink RX0 15 "HidingBoxes$Box" "high" "[I"] ++ wsX00)
def wsX0_directionOfHiding : List Cond := .code yX0_directionOfHiding cX0_directionOfHiding 3 (some .int) :: ([.fieldLink RX0 9 "HidingBoxes$Box" "low" "[I", .fieldLink RX0 15 "HidingBoxes$Box" "high" "[I", .methodLink RX0 40 yX0_overlapsOutlineOf, .instanceMethod yX0_overlapsOutlineOf, .selects RX0 yX0_overlapsOutlineOf yX0_overlapsOutlineOf, .initialized RX0, .code yX0_overlapsOutlineOf cX0_overlapsOutlineOf 2 (some .boolean), .methodLink RX0 36 yX0_meetsInDifference, .instanceMethod yX0_meetsInDifference, .selects RX0 yX0_meetsInDifference yX0_meetsInDifference, .code yX0_meetsInDifference cX0_meetsInDifference 4 (some .boolean)] ++ wsX00)
def wsX0_isBelow : List Cond := .code yX0_isBelow cX0_isBelow 2 (some .boolean) :: ([.fieldLink RX0 15 "HidingBoxes$Box" "high" "[I", .fieldLink RX0 9 "HidingBoxes$Box" "low" "[I", .methodLink RX0 32 yX0_meets, .instanceMethod yX0_meets, .selects RX0 yX0_meets yX0_meets, .initialized RX0, .code yX0_meets cX0_meets 3 (some .boolean)] ++ wsX00)
def wsX0_coversRow : List Cond := .code yX0_coversRow cX0_coversRow 2 (some .boolean) :: ([.fieldLink RX0 9 "HidingBoxes$Box" "low" "[I", .fieldLink RX0 15 "HidingBoxes$Box" "high" "[I"] ++ wsX00)
def wsX0_rowOfCells : List Cond := .code yX0_rowOfCells cX0_rowOfCells 1 (some .int) :: ([.fieldLink RX0 9 "HidingBoxes$Box" "low" "[I", .methodLink RX0 28 yX0_size, .instanceMethod yX0_size, .selects RX0 yX0_size yX0_size, .initialized RX0, .code yX0_size cX0_size 2 (some .int), .fieldLink RX0 15 "HidingBoxes$Box" "high" "[I"] ++ wsX00)
def wsX3_init : List Cond := .code yX3_init cX3_init 2 none :: ([.methodLink RX3 3 objectInit, .instanceMethod objectInit, .code objectInit ⟨#[0xb1]⟩ 1 none, .classLink RX3 9 RX0, .fieldLink RX3 11 "HidingBoxes$Space" "boxes" "[LHidingBoxes$Box;", .instantiable RX0 3, .initialized RX0, .instanceMethod yX0_init, .code yX0_init cX0_init 1 none, .methodLink RX0 3 objectInit, .arrayClass .int, .fieldLink RX0 9 "HidingBoxes$Box" "low" "[I", .fieldLink RX0 15 "HidingBoxes$Box" "high" "[I"] ++ wsX30 ++ wsX00)
def wsX1_init : List Cond := .code yX1_init cX1_init 2 none :: ([.methodLink RX1 3 objectInit, .instanceMethod objectInit, .code objectInit ⟨#[0xb1]⟩ 1 none, .classLink RX1 9 RX3, .fieldLink RX1 11 "HidingBoxes$History" "states" "[LHidingBoxes$Space;", .instantiable RX3 5, .initialized RX3, .methodLink RX1 17 yX3_init, .instanceMethod yX3_init, .code yX3_init cX3_init 2 none, .methodLink RX3 3 objectInit, .classLink RX3 9 RX0, .fieldLink RX3 11 "HidingBoxes$Space" "boxes" "[LHidingBoxes$Box;", .instantiable RX0 3, .initialized RX0, .instanceMethod yX0_init, .code yX0_init cX0_init 1 none, .methodLink RX0 3 objectInit, .arrayClass .int, .fieldLink RX0 9 "HidingBoxes$Box" "low" "[I", .fieldLink RX0 15 "HidingBoxes$Box" "high" "[I"] ++ wsX10 ++ wsX30 ++ wsX00)
def wsX1_dropOldest : List Cond := .code yX1_dropOldest cX1_dropOldest 3 none :: ([.fieldLink RX1 11 "HidingBoxes$History" "states" "[LHidingBoxes$Space;", .fieldLink RX1 18 "HidingBoxes$History" "count" "I"] ++ wsX10)
def wsX3_copyFrom : List Cond := .code yX3_copyFrom cX3_copyFrom 3 none :: ([.fieldLink RX3 18 "HidingBoxes$Space" "count" "I", .fieldLink RX3 22 "HidingBoxes$Space" "nextNumber" "I", .fieldLink RX3 25 "HidingBoxes$Space" "splits" "I", .fieldLink RX3 28 "HidingBoxes$Space" "rule" "I", .fieldLink RX3 11 "HidingBoxes$Space" "boxes" "[LHidingBoxes$Box;", .methodLink RX3 31 yX0_copyFrom, .instanceMethod yX0_copyFrom, .selects RX0 yX0_copyFrom yX0_copyFrom, .initialized RX0, .code yX0_copyFrom cX0_copyFrom 2 none, .fieldLink RX0 18 "HidingBoxes$Box" "number" "I", .fieldLink RX0 9 "HidingBoxes$Box" "low" "[I", .methodLink RX0 22 arraycopyName, .native arraycopyName, .static arraycopyName, .initialized "java/lang/System", .fieldLink RX0 15 "HidingBoxes$Box" "high" "[I"] ++ wsX30 ++ wsX00)
def wsX1_remember_r1 : List Cond := [Cond.fieldLink RX1 18 "HidingBoxes$History" "count" "I", Cond.fieldLink RX1 11 "HidingBoxes$History" "states" "[LHidingBoxes$Space;", Cond.methodLink RX1 22 yX1_dropOldest, Cond.instanceMethod yX1_dropOldest, Cond.selects RX1 yX1_dropOldest yX1_dropOldest, Cond.initialized RX1, Cond.code yX1_dropOldest cX1_dropOldest 3 none, Cond.methodLink RX1 25 yX3_copyFrom, Cond.instanceMethod yX3_copyFrom, Cond.selects RX3 yX3_copyFrom yX3_copyFrom, Cond.initialized RX3, Cond.code yX3_copyFrom cX3_copyFrom 3 none, Cond.fieldLink RX3 18 "HidingBoxes$Space" "count" "I", Cond.fieldLink RX3 22 "HidingBoxes$Space" "nextNumber" "I", Cond.fieldLink RX3 25 "HidingBoxes$Space" "splits" "I", Cond.fieldLink RX3 28 "HidingBoxes$Space" "rule" "I", Cond.fieldLink RX3 11 "HidingBoxes$Space" "boxes" "[LHidingBoxes$Box;", Cond.methodLink RX3 31 yX0_copyFrom, Cond.instanceMethod yX0_copyFrom, Cond.selects RX0 yX0_copyFrom yX0_copyFrom, Cond.initialized RX0, Cond.code yX0_copyFrom cX0_copyFrom 2 none, Cond.fieldLink RX0 18 "HidingBoxes$Box" "number" "I", Cond.fieldLink RX0 9 "HidingBoxes$Box" "low" "[I"]
def wsX1_remember_r2 : List Cond := [Cond.methodLink RX0 22 arraycopyName, Cond.native arraycopyName, Cond.static arraycopyName, Cond.initialized "java/lang/System", Cond.fieldLink RX0 15 "HidingBoxes$Box" "high" "[I"]
def wsX1_remember : List Cond := .code yX1_remember cX1_remember 2 none :: ((wsX1_remember_r1 ++ wsX1_remember_r2) ++ wsX10 ++ wsX30 ++ wsX00)
def wsX2_init : List Cond := .code yX2_init cX2_init 1 none :: ([.methodLink RX2 3 objectInit, .instanceMethod objectInit, .code objectInit ⟨#[0xb1]⟩ 1 none, .arrayClass .int, .fieldLink RX2 9 "HidingBoxes$Picture" "hides" "[I", .fieldLink RX2 15 "HidingBoxes$Picture" "chains" "[I", .fieldLink RX2 18 "HidingBoxes$Picture" "order" "[I", .fieldLink RX2 21 "HidingBoxes$Picture" "layers" "[I"] ++ wsX20)
def wsX2_bitsHiddenBy : List Cond := .code yX2_bitsHiddenBy cX2_bitsHiddenBy 4 (some .int) :: ([.fieldLink RX2 24 "HidingBoxes$Space" "count" "I", .fieldLink RX2 42 "HidingBoxes$Space" "boxes" "[LHidingBoxes$Box;", .methodLink RX2 46 yX0_directionOfHiding, .instanceMethod yX0_directionOfHiding, .selects RX0 yX0_directionOfHiding yX0_directionOfHiding, .initialized RX0, .code yX0_directionOfHiding cX0_directionOfHiding 3 (some .int), .fieldLink RX0 9 "HidingBoxes$Box" "low" "[I", .fieldLink RX0 15 "HidingBoxes$Box" "high" "[I", .methodLink RX0 40 yX0_overlapsOutlineOf, .instanceMethod yX0_overlapsOutlineOf, .selects RX0 yX0_overlapsOutlineOf yX0_overlapsOutlineOf, .code yX0_overlapsOutlineOf cX0_overlapsOutlineOf 2 (some .boolean), .methodLink RX0 36 yX0_meetsInDifference, .instanceMethod yX0_meetsInDifference, .selects RX0 yX0_meetsInDifference yX0_meetsInDifference, .code yX0_meetsInDifference cX0_meetsInDifference 4 (some .boolean)] ++ wsX30 ++ wsX00)
def wsX2_hasBit : List Cond := .code yX2_hasBit cX2_hasBit 2 (some .boolean) :: ([])
def wsX2_followChains : List Cond := .code yX2_followChains cX2_followChains 3 none :: ([.fieldLink RX2 9 "HidingBoxes$Picture" "hides" "[I", .fieldLink RX2 15 "HidingBoxes$Picture" "chains" "[I", .methodLink RX2 52 arraycopyName, .native arraycopyName, .static arraycopyName, .initialized "java/lang/System", .fieldLink RX2 30 "HidingBoxes$Picture" "count" "I", .methodLink RX2 58 yX2_hasBit, .static yX2_hasBit, .initialized RX2, .code yX2_hasBit cX2_hasBit 2 (some .boolean)] ++ wsX20)
def wsJ7_fill_53178 : List Cond := .code yJ7_fill_53178 cJ7_fill_53178 4 none :: ([])
def wsX3_weightInDrawing : List Cond := .code yX3_weightInDrawing cX3_weightInDrawing 2 (some .int) :: ([.fieldLink RX3 28 "HidingBoxes$Space" "rule" "I", .fieldLink RX3 11 "HidingBoxes$Space" "boxes" "[LHidingBoxes$Box;", .methodLink RX3 57 yX0_sumOfCorner, .instanceMethod yX0_sumOfCorner, .selects RX0 yX0_sumOfCorner yX0_sumOfCorner, .initialized RX0, .code yX0_sumOfCorner cX0_sumOfCorner 1 (some .int), .fieldLink RX0 9 "HidingBoxes$Box" "low" "[I", .methodLink RX3 61 yX0_volume, .instanceMethod yX0_volume, .selects RX0 yX0_volume yX0_volume, .code yX0_volume cX0_volume 1 (some .int), .methodLink RX0 28 yX0_size, .instanceMethod yX0_size, .selects RX0 yX0_size yX0_size, .code yX0_size cX0_size 2 (some .int), .fieldLink RX0 15 "HidingBoxes$Box" "high" "[I"] ++ wsX30 ++ wsX00)
def wsX2_nextToDraw_r1 : List Cond := [Cond.fieldLink RX2 30 "HidingBoxes$Picture" "count" "I", Cond.fieldLink RX2 68 "HidingBoxes$Picture" "drawnBits" "I", Cond.fieldLink RX2 9 "HidingBoxes$Picture" "hides" "[I", Cond.methodLink RX2 58 yX2_hasBit, Cond.static yX2_hasBit, Cond.initialized RX2, Cond.code yX2_hasBit cX2_hasBit 2 (some .boolean), Cond.methodLink RX2 82 yX3_weightInDrawing, Cond.instanceMethod yX3_weightInDrawing, Cond.selects RX3 yX3_weightInDrawing yX3_weightInDrawing, Cond.initialized RX3, Cond.code yX3_weightInDrawing cX3_weightInDrawing 2 (some .int), Cond.fieldLink RX3 28 "HidingBoxes$Space" "rule" "I", Cond.fieldLink RX3 11 "HidingBoxes$Space" "boxes" "[LHidingBoxes$Box;", Cond.methodLink RX3 57 yX0_sumOfCorner, Cond.instanceMethod yX0_sumOfCorner, Cond.selects RX0 yX0_sumOfCorner yX0_sumOfCorner, Cond.initialized RX0, Cond.code yX0_sumOfCorner cX0_sumOfCorner 1 (some .int), Cond.fieldLink RX0 9 "HidingBoxes$Box" "low" "[I", Cond.methodLink RX3 61 yX0_volume, Cond.instanceMethod yX0_volume, Cond.selects RX0 yX0_volume yX0_volume, Cond.code yX0_volume cX0_volume 1 (some .int)]
def wsX2_nextToDraw_r2 : List Cond := [Cond.methodLink RX0 28 yX0_size, Cond.instanceMethod yX0_size, Cond.selects RX0 yX0_size yX0_size, Cond.code yX0_size cX0_size 2 (some .int), Cond.fieldLink RX0 15 "HidingBoxes$Box" "high" "[I"]
def wsX2_nextToDraw : List Cond := .code yX2_nextToDraw cX2_nextToDraw 5 (some .int) :: ((wsX2_nextToDraw_r1 ++ wsX2_nextToDraw_r2) ++ wsX20 ++ wsX30 ++ wsX00)
def wsX2_layerAbove : List Cond := .code yX2_layerAbove cX2_layerAbove 4 (some .int) :: ([.fieldLink RX2 30 "HidingBoxes$Picture" "count" "I", .fieldLink RX2 21 "HidingBoxes$Picture" "layers" "[I", .methodLink RX2 85 Lib.Math.max.name, .static Lib.Math.max.name, .initialized "java/lang/Math", .code Lib.Math.max.name Lib.Math.max.code 2 (some .int), .methodLink RX2 58 yX2_hasBit, .static yX2_hasBit, .initialized RX2, .code yX2_hasBit cX2_hasBit 2 (some .boolean)] ++ wsX20)
def wsX2_draw_r1 : List Cond := [Cond.fieldLink RX2 21 "HidingBoxes$Picture" "layers" "[I", Cond.fieldLink RX2 68 "HidingBoxes$Picture" "drawnBits" "I", Cond.fieldLink RX2 71 "HidingBoxes$Picture" "drawnCount" "I", Cond.fieldLink RX2 30 "HidingBoxes$Picture" "count" "I", Cond.fieldLink RX2 18 "HidingBoxes$Picture" "order" "[I", Cond.fieldLink RX2 9 "HidingBoxes$Picture" "hides" "[I", Cond.methodLink RX2 62 yJ7_fill_53178, Cond.static yJ7_fill_53178, Cond.initialized RJ7, Cond.code yJ7_fill_53178 cJ7_fill_53178 4 none, Cond.methodLink RX2 74 yX2_nextToDraw, Cond.instanceMethod yX2_nextToDraw, Cond.selects RX2 yX2_nextToDraw yX2_nextToDraw, Cond.initialized RX2, Cond.code yX2_nextToDraw cX2_nextToDraw 5 (some .int), Cond.methodLink RX2 58 yX2_hasBit, Cond.static yX2_hasBit, Cond.code yX2_hasBit cX2_hasBit 2 (some .boolean), Cond.methodLink RX2 82 yX3_weightInDrawing, Cond.instanceMethod yX3_weightInDrawing, Cond.selects RX3 yX3_weightInDrawing yX3_weightInDrawing, Cond.initialized RX3, Cond.code yX3_weightInDrawing cX3_weightInDrawing 2 (some .int), Cond.fieldLink RX3 28 "HidingBoxes$Space" "rule" "I"]
def wsX2_draw_r2 : List Cond := [Cond.fieldLink RX3 11 "HidingBoxes$Space" "boxes" "[LHidingBoxes$Box;", Cond.methodLink RX3 57 yX0_sumOfCorner, Cond.instanceMethod yX0_sumOfCorner, Cond.selects RX0 yX0_sumOfCorner yX0_sumOfCorner, Cond.initialized RX0, Cond.code yX0_sumOfCorner cX0_sumOfCorner 1 (some .int), Cond.fieldLink RX0 9 "HidingBoxes$Box" "low" "[I", Cond.methodLink RX3 61 yX0_volume, Cond.instanceMethod yX0_volume, Cond.selects RX0 yX0_volume yX0_volume, Cond.code yX0_volume cX0_volume 1 (some .int), Cond.methodLink RX0 28 yX0_size, Cond.instanceMethod yX0_size, Cond.selects RX0 yX0_size yX0_size, Cond.code yX0_size cX0_size 2 (some .int), Cond.fieldLink RX0 15 "HidingBoxes$Box" "high" "[I", Cond.methodLink RX2 78 yX2_layerAbove, Cond.instanceMethod yX2_layerAbove, Cond.selects RX2 yX2_layerAbove yX2_layerAbove, Cond.code yX2_layerAbove cX2_layerAbove 4 (some .int), Cond.methodLink RX2 85 Lib.Math.max.name, Cond.static Lib.Math.max.name, Cond.initialized "java/lang/Math", Cond.code Lib.Math.max.name Lib.Math.max.code 2 (some .int)]
def wsX2_draw : List Cond := .code yX2_draw cX2_draw 4 none :: ((wsX2_draw_r1 ++ wsX2_draw_r2) ++ wsX20 ++ wsX30 ++ wsX00)
def wsX2_look_r1 : List Cond := [Cond.fieldLink RX2 24 "HidingBoxes$Space" "count" "I", Cond.fieldLink RX2 30 "HidingBoxes$Picture" "count" "I", Cond.fieldLink RX2 9 "HidingBoxes$Picture" "hides" "[I", Cond.methodLink RX2 31 yX2_bitsHiddenBy, Cond.static yX2_bitsHiddenBy, Cond.initialized RX2, Cond.code yX2_bitsHiddenBy cX2_bitsHiddenBy 4 (some .int), Cond.fieldLink RX2 42 "HidingBoxes$Space" "boxes" "[LHidingBoxes$Box;", Cond.methodLink RX2 46 yX0_directionOfHiding, Cond.instanceMethod yX0_directionOfHiding, Cond.selects RX0 yX0_directionOfHiding yX0_directionOfHiding, Cond.initialized RX0, Cond.code yX0_directionOfHiding cX0_directionOfHiding 3 (some .int), Cond.fieldLink RX0 9 "HidingBoxes$Box" "low" "[I", Cond.fieldLink RX0 15 "HidingBoxes$Box" "high" "[I", Cond.methodLink RX0 40 yX0_overlapsOutlineOf, Cond.instanceMethod yX0_overlapsOutlineOf, Cond.selects RX0 yX0_overlapsOutlineOf yX0_overlapsOutlineOf, Cond.code yX0_overlapsOutlineOf cX0_overlapsOutlineOf 2 (some .boolean), Cond.methodLink RX0 36 yX0_meetsInDifference, Cond.instanceMethod yX0_meetsInDifference, Cond.selects RX0 yX0_meetsInDifference yX0_meetsInDifference, Cond.code yX0_meetsInDifference cX0_meetsInDifference 4 (some .boolean), Cond.methodLink RX2 35 yX2_followChains]
def wsX2_look_r2 : List Cond := [Cond.instanceMethod yX2_followChains, Cond.selects RX2 yX2_followChains yX2_followChains, Cond.code yX2_followChains cX2_followChains 3 none, Cond.fieldLink RX2 15 "HidingBoxes$Picture" "chains" "[I", Cond.methodLink RX2 52 arraycopyName, Cond.native arraycopyName, Cond.static arraycopyName, Cond.initialized "java/lang/System", Cond.methodLink RX2 58 yX2_hasBit, Cond.static yX2_hasBit, Cond.code yX2_hasBit cX2_hasBit 2 (some .boolean), Cond.methodLink RX2 38 yX2_draw, Cond.instanceMethod yX2_draw, Cond.selects RX2 yX2_draw yX2_draw, Cond.code yX2_draw cX2_draw 4 none, Cond.fieldLink RX2 21 "HidingBoxes$Picture" "layers" "[I", Cond.fieldLink RX2 68 "HidingBoxes$Picture" "drawnBits" "I", Cond.fieldLink RX2 71 "HidingBoxes$Picture" "drawnCount" "I", Cond.fieldLink RX2 18 "HidingBoxes$Picture" "order" "[I", Cond.methodLink RX2 62 yJ7_fill_53178, Cond.static yJ7_fill_53178, Cond.initialized RJ7, Cond.code yJ7_fill_53178 cJ7_fill_53178 4 none, Cond.methodLink RX2 74 yX2_nextToDraw]
def wsX2_look_r3 : List Cond := [Cond.instanceMethod yX2_nextToDraw, Cond.selects RX2 yX2_nextToDraw yX2_nextToDraw, Cond.code yX2_nextToDraw cX2_nextToDraw 5 (some .int), Cond.methodLink RX2 82 yX3_weightInDrawing, Cond.instanceMethod yX3_weightInDrawing, Cond.selects RX3 yX3_weightInDrawing yX3_weightInDrawing, Cond.initialized RX3, Cond.code yX3_weightInDrawing cX3_weightInDrawing 2 (some .int), Cond.fieldLink RX3 28 "HidingBoxes$Space" "rule" "I", Cond.fieldLink RX3 11 "HidingBoxes$Space" "boxes" "[LHidingBoxes$Box;", Cond.methodLink RX3 57 yX0_sumOfCorner, Cond.instanceMethod yX0_sumOfCorner, Cond.selects RX0 yX0_sumOfCorner yX0_sumOfCorner, Cond.code yX0_sumOfCorner cX0_sumOfCorner 1 (some .int), Cond.methodLink RX3 61 yX0_volume, Cond.instanceMethod yX0_volume, Cond.selects RX0 yX0_volume yX0_volume, Cond.code yX0_volume cX0_volume 1 (some .int), Cond.methodLink RX0 28 yX0_size, Cond.instanceMethod yX0_size, Cond.selects RX0 yX0_size yX0_size, Cond.code yX0_size cX0_size 2 (some .int), Cond.methodLink RX2 78 yX2_layerAbove, Cond.instanceMethod yX2_layerAbove]
def wsX2_look_r4 : List Cond := [Cond.selects RX2 yX2_layerAbove yX2_layerAbove, Cond.code yX2_layerAbove cX2_layerAbove 4 (some .int), Cond.methodLink RX2 85 Lib.Math.max.name, Cond.static Lib.Math.max.name, Cond.initialized "java/lang/Math", Cond.code Lib.Math.max.name Lib.Math.max.code 2 (some .int)]
def wsX2_look : List Cond := .code yX2_look cX2_look 3 none :: ((wsX2_look_r1 ++ (wsX2_look_r2 ++ (wsX2_look_r3 ++ wsX2_look_r4))) ++ wsX30 ++ wsX20 ++ wsX00)
def wsJ6_bitCount_0f7a4 : List Cond := .code yJ6_bitCount_0f7a4 cJ6_bitCount_0f7a4 1 (some .int) :: ([.constant RJ6 265 (1431655765), .constant RJ6 266 (858993459), .constant RJ6 267 (252645135)])
def wsX2_hiddenBy : List Cond := .code yX2_hiddenBy cX2_hiddenBy 2 (some .int) :: ([.fieldLink RX2 9 "HidingBoxes$Picture" "hides" "[I", .methodLink RX2 91 yJ6_bitCount_0f7a4, .static yJ6_bitCount_0f7a4, .initialized RJ6, .code yJ6_bitCount_0f7a4 cJ6_bitCount_0f7a4 1 (some .int), .constant RJ6 265 (1431655765), .constant RJ6 266 (858993459), .constant RJ6 267 (252645135)] ++ wsX20)
def wsX2_hidersOf : List Cond := .code yX2_hidersOf cX2_hidersOf 4 (some .int) :: ([.fieldLink RX2 30 "HidingBoxes$Picture" "count" "I", .fieldLink RX2 9 "HidingBoxes$Picture" "hides" "[I", .methodLink RX2 58 yX2_hasBit, .static yX2_hasBit, .initialized RX2, .code yX2_hasBit cX2_hasBit 2 (some .boolean)] ++ wsX20)
def wsX2_hidings : List Cond := .code yX2_hidings cX2_hidings 3 (some .int) :: ([.fieldLink RX2 30 "HidingBoxes$Picture" "count" "I", .methodLink RX2 96 yX2_hiddenBy, .instanceMethod yX2_hiddenBy, .selects RX2 yX2_hiddenBy yX2_hiddenBy, .initialized RX2, .code yX2_hiddenBy cX2_hiddenBy 2 (some .int), .fieldLink RX2 9 "HidingBoxes$Picture" "hides" "[I", .methodLink RX2 91 yJ6_bitCount_0f7a4, .static yJ6_bitCount_0f7a4, .initialized RJ6, .code yJ6_bitCount_0f7a4 cJ6_bitCount_0f7a4 1 (some .int), .constant RJ6 265 (1431655765), .constant RJ6 266 (858993459), .constant RJ6 267 (252645135)] ++ wsX20)
def wsX2_hidingsNotIn : List Cond := .code yX2_hidingsNotIn cX2_hidingsNotIn 4 (some .int) :: ([.fieldLink RX2 30 "HidingBoxes$Picture" "count" "I", .fieldLink RX2 9 "HidingBoxes$Picture" "hides" "[I", .methodLink RX2 91 yJ6_bitCount_0f7a4, .static yJ6_bitCount_0f7a4, .initialized RJ6, .code yJ6_bitCount_0f7a4 cJ6_bitCount_0f7a4 1 (some .int), .constant RJ6 265 (1431655765), .constant RJ6 266 (858993459), .constant RJ6 267 (252645135)] ++ wsX20)
def wsX2_slotDrawn : List Cond := .code yX2_slotDrawn cX2_slotDrawn 2 (some .int) :: ([.fieldLink RX2 71 "HidingBoxes$Picture" "drawnCount" "I", .fieldLink RX2 18 "HidingBoxes$Picture" "order" "[I"] ++ wsX20)
def wsX2_greatestLayer : List Cond := .code yX2_greatestLayer cX2_greatestLayer 3 (some .int) :: ([.fieldLink RX2 30 "HidingBoxes$Picture" "count" "I", .fieldLink RX2 21 "HidingBoxes$Picture" "layers" "[I", .methodLink RX2 85 Lib.Math.max.name, .static Lib.Math.max.name, .initialized "java/lang/Math", .code Lib.Math.max.name Lib.Math.max.code 2 (some .int)] ++ wsX20)
def wsX2_firstNotDrawnUnder : List Cond := .code yX2_firstNotDrawnUnder cX2_firstNotDrawnUnder 3 (some .int) :: ([.fieldLink RX2 30 "HidingBoxes$Picture" "count" "I", .fieldLink RX2 9 "HidingBoxes$Picture" "hides" "[I", .fieldLink RX2 68 "HidingBoxes$Picture" "drawnBits" "I", .methodLink RX2 58 yX2_hasBit, .static yX2_hasBit, .initialized RX2, .code yX2_hasBit cX2_hasBit 2 (some .boolean)] ++ wsX20)
def wsX2_isInRing : List Cond := .code yX2_isInRing cX2_isInRing 2 (some .boolean) :: ([.fieldLink RX2 15 "HidingBoxes$Picture" "chains" "[I", .methodLink RX2 58 yX2_hasBit, .static yX2_hasBit, .initialized RX2, .code yX2_hasBit cX2_hasBit 2 (some .boolean)] ++ wsX20)
def wsX2_boxesInRings : List Cond := .code yX2_boxesInRings cX2_boxesInRings 3 (some .int) :: ([.fieldLink RX2 30 "HidingBoxes$Picture" "count" "I", .methodLink RX2 99 yX2_isInRing, .instanceMethod yX2_isInRing, .selects RX2 yX2_isInRing yX2_isInRing, .initialized RX2, .code yX2_isInRing cX2_isInRing 2 (some .boolean), .fieldLink RX2 15 "HidingBoxes$Picture" "chains" "[I", .methodLink RX2 58 yX2_hasBit, .static yX2_hasBit, .code yX2_hasBit cX2_hasBit 2 (some .boolean)] ++ wsX20)
def wsX2_bitsHiddenByAll : List Cond := .code yX2_bitsHiddenByAll cX2_bitsHiddenByAll 4 (some .int) :: ([.fieldLink RX2 30 "HidingBoxes$Picture" "count" "I", .fieldLink RX2 9 "HidingBoxes$Picture" "hides" "[I", .methodLink RX2 58 yX2_hasBit, .static yX2_hasBit, .initialized RX2, .code yX2_hasBit cX2_hasBit 2 (some .boolean)] ++ wsX20)
def wsX2_shortestRingOf : List Cond := .code yX2_shortestRingOf cX2_shortestRingOf 4 (some .int) :: ([.fieldLink RX2 9 "HidingBoxes$Picture" "hides" "[I", .fieldLink RX2 30 "HidingBoxes$Picture" "count" "I", .methodLink RX2 58 yX2_hasBit, .static yX2_hasBit, .initialized RX2, .code yX2_hasBit cX2_hasBit 2 (some .boolean), .methodLink RX2 106 yX2_bitsHiddenByAll, .instanceMethod yX2_bitsHiddenByAll, .selects RX2 yX2_bitsHiddenByAll yX2_bitsHiddenByAll, .code yX2_bitsHiddenByAll cX2_bitsHiddenByAll 4 (some .int)] ++ wsX20)
def wsX2_shortestRing : List Cond := .code yX2_shortestRing cX2_shortestRing 4 (some .int) :: ([.fieldLink RX2 30 "HidingBoxes$Picture" "count" "I", .methodLink RX2 103 yX2_shortestRingOf, .instanceMethod yX2_shortestRingOf, .selects RX2 yX2_shortestRingOf yX2_shortestRingOf, .initialized RX2, .code yX2_shortestRingOf cX2_shortestRingOf 4 (some .int), .fieldLink RX2 9 "HidingBoxes$Picture" "hides" "[I", .methodLink RX2 58 yX2_hasBit, .static yX2_hasBit, .code yX2_hasBit cX2_hasBit 2 (some .boolean), .methodLink RX2 106 yX2_bitsHiddenByAll, .instanceMethod yX2_bitsHiddenByAll, .selects RX2 yX2_bitsHiddenByAll yX2_bitsHiddenByAll, .code yX2_bitsHiddenByAll cX2_bitsHiddenByAll 4 (some .int)] ++ wsX20)
def wsX2_greatestInRings : List Cond := .code yX2_greatestInRings cX2_greatestInRings 4 (some .int) :: ([.fieldLink RX2 30 "HidingBoxes$Picture" "count" "I", .fieldLink RX2 42 "HidingBoxes$Space" "boxes" "[LHidingBoxes$Box;", .methodLink RX2 99 yX2_isInRing, .instanceMethod yX2_isInRing, .selects RX2 yX2_isInRing yX2_isInRing, .initialized RX2, .code yX2_isInRing cX2_isInRing 2 (some .boolean), .fieldLink RX2 15 "HidingBoxes$Picture" "chains" "[I", .methodLink RX2 58 yX2_hasBit, .static yX2_hasBit, .code yX2_hasBit cX2_hasBit 2 (some .boolean), .methodLink RX2 109 yX0_volume, .instanceMethod yX0_volume, .selects RX0 yX0_volume yX0_volume, .initialized RX0, .code yX0_volume cX0_volume 1 (some .int), .methodLink RX0 28 yX0_size, .instanceMethod yX0_size, .selects RX0 yX0_size yX0_size, .code yX0_size cX0_size 2 (some .int), .fieldLink RX0 15 "HidingBoxes$Box" "high" "[I", .fieldLink RX0 9 "HidingBoxes$Box" "low" "[I"] ++ wsX20 ++ wsX30 ++ wsX00)
def wsX3_isFull : List Cond := .code yX3_isFull cX3_isFull 1 (some .boolean) :: ([.fieldLink RX3 18 "HidingBoxes$Space" "count" "I"] ++ wsX30)
def wsX3_slotOf : List Cond := .code yX3_slotOf cX3_slotOf 3 (some .int) :: ([.fieldLink RX3 18 "HidingBoxes$Space" "count" "I", .fieldLink RX3 11 "HidingBoxes$Space" "boxes" "[LHidingBoxes$Box;", .fieldLink RX3 35 "HidingBoxes$Box" "number" "I"] ++ wsX30 ++ wsX00)
def wsX3_isCutBy : List Cond := .code yX3_isCutBy cX3_isCutBy 4 (some .boolean) :: ([.fieldLink RX3 18 "HidingBoxes$Space" "count" "I", .fieldLink RX3 11 "HidingBoxes$Space" "boxes" "[LHidingBoxes$Box;", .methodLink RX3 38 yX0_cuts, .instanceMethod yX0_cuts, .selects RX0 yX0_cuts yX0_cuts, .initialized RX0, .code yX0_cuts cX0_cuts 2 (some .boolean), .methodLink RX0 32 yX0_meets, .instanceMethod yX0_meets, .selects RX0 yX0_meets yX0_meets, .code yX0_meets cX0_meets 3 (some .boolean), .fieldLink RX0 9 "HidingBoxes$Box" "low" "[I", .fieldLink RX0 15 "HidingBoxes$Box" "high" "[I"] ++ wsX30 ++ wsX00)
def wsX3_append : List Cond := .code yX3_append cX3_append 3 (some .int) :: ([.fieldLink RX3 11 "HidingBoxes$Space" "boxes" "[LHidingBoxes$Box;", .fieldLink RX3 18 "HidingBoxes$Space" "count" "I", .fieldLink RX3 22 "HidingBoxes$Space" "nextNumber" "I", .fieldLink RX3 35 "HidingBoxes$Box" "number" "I", .methodLink RX3 42 yX3_isFull, .instanceMethod yX3_isFull, .selects RX3 yX3_isFull yX3_isFull, .initialized RX3, .code yX3_isFull cX3_isFull 1 (some .boolean), .methodLink RX3 31 yX0_copyFrom, .instanceMethod yX0_copyFrom, .selects RX0 yX0_copyFrom yX0_copyFrom, .initialized RX0, .code yX0_copyFrom cX0_copyFrom 2 none, .fieldLink RX0 18 "HidingBoxes$Box" "number" "I", .fieldLink RX0 9 "HidingBoxes$Box" "low" "[I", .methodLink RX0 22 arraycopyName, .native arraycopyName, .static arraycopyName, .initialized "java/lang/System", .fieldLink RX0 15 "HidingBoxes$Box" "high" "[I"] ++ wsX30 ++ wsX00)
def wsX3_takeOut : List Cond := .code yX3_takeOut cX3_takeOut 3 none :: ([.fieldLink RX3 18 "HidingBoxes$Space" "count" "I", .fieldLink RX3 11 "HidingBoxes$Space" "boxes" "[LHidingBoxes$Box;", .methodLink RX3 31 yX0_copyFrom, .instanceMethod yX0_copyFrom, .selects RX0 yX0_copyFrom yX0_copyFrom, .initialized RX0, .code yX0_copyFrom cX0_copyFrom 2 none, .fieldLink RX0 18 "HidingBoxes$Box" "number" "I", .fieldLink RX0 9 "HidingBoxes$Box" "low" "[I", .methodLink RX0 22 arraycopyName, .native arraycopyName, .static arraycopyName, .initialized "java/lang/System", .fieldLink RX0 15 "HidingBoxes$Box" "high" "[I"] ++ wsX30 ++ wsX00)
def wsX3_cutInTwo_r1 : List Cond := [Cond.fieldLink RX3 11 "HidingBoxes$Space" "boxes" "[LHidingBoxes$Box;", Cond.fieldLink RX3 18 "HidingBoxes$Space" "count" "I", Cond.fieldLink RX3 50 "HidingBoxes$Box" "low" "[I", Cond.fieldLink RX3 54 "HidingBoxes$Box" "high" "[I", Cond.fieldLink RX3 25 "HidingBoxes$Space" "splits" "I", Cond.methodLink RX3 46 yX3_append, Cond.instanceMethod yX3_append, Cond.selects RX3 yX3_append yX3_append, Cond.initialized RX3, Cond.code yX3_append cX3_append 3 (some .int), Cond.fieldLink RX3 22 "HidingBoxes$Space" "nextNumber" "I", Cond.fieldLink RX3 35 "HidingBoxes$Box" "number" "I", Cond.methodLink RX3 42 yX3_isFull, Cond.instanceMethod yX3_isFull, Cond.selects RX3 yX3_isFull yX3_isFull, Cond.code yX3_isFull cX3_isFull 1 (some .boolean), Cond.methodLink RX3 31 yX0_copyFrom, Cond.instanceMethod yX0_copyFrom, Cond.selects RX0 yX0_copyFrom yX0_copyFrom, Cond.initialized RX0, Cond.code yX0_copyFrom cX0_copyFrom 2 none, Cond.fieldLink RX0 18 "HidingBoxes$Box" "number" "I", Cond.fieldLink RX0 9 "HidingBoxes$Box" "low" "[I", Cond.methodLink RX0 22 arraycopyName]
def wsX3_cutInTwo_r2 : List Cond := [Cond.native arraycopyName, Cond.static arraycopyName, Cond.initialized "java/lang/System", Cond.fieldLink RX0 15 "HidingBoxes$Box" "high" "[I"]
def wsX3_cutInTwo : List Cond := .code yX3_cutInTwo cX3_cutInTwo 5 (some .int) :: ((wsX3_cutInTwo_r1 ++ wsX3_cutInTwo_r2) ++ wsX30 ++ wsX00)
def wsX3_quarterTurn : List Cond := .code yX3_quarterTurn cX3_quarterTurn 5 none :: ([.fieldLink RX3 18 "HidingBoxes$Space" "count" "I", .fieldLink RX3 11 "HidingBoxes$Space" "boxes" "[LHidingBoxes$Box;", .fieldLink RX3 50 "HidingBoxes$Box" "low" "[I", .fieldLink RX3 54 "HidingBoxes$Box" "high" "[I"] ++ wsX30 ++ wsX00)
def wsX3_volume : List Cond := .code yX3_volume cX3_volume 3 (some .int) :: ([.fieldLink RX3 18 "HidingBoxes$Space" "count" "I", .fieldLink RX3 11 "HidingBoxes$Space" "boxes" "[LHidingBoxes$Box;", .methodLink RX3 61 yX0_volume, .instanceMethod yX0_volume, .selects RX0 yX0_volume yX0_volume, .initialized RX0, .code yX0_volume cX0_volume 1 (some .int), .methodLink RX0 28 yX0_size, .instanceMethod yX0_size, .selects RX0 yX0_size yX0_size, .code yX0_size cX0_size 2 (some .int), .fieldLink RX0 15 "HidingBoxes$Box" "high" "[I", .fieldLink RX0 9 "HidingBoxes$Box" "low" "[I"] ++ wsX30 ++ wsX00)
def wsX3_groundUnder : List Cond := .code yX3_groundUnder cX3_groundUnder 4 (some .int) :: ([.fieldLink RX3 18 "HidingBoxes$Space" "count" "I", .fieldLink RX3 11 "HidingBoxes$Space" "boxes" "[LHidingBoxes$Box;", .fieldLink RX3 54 "HidingBoxes$Box" "high" "[I", .methodLink RX3 67 Lib.Math.max.name, .static Lib.Math.max.name, .initialized "java/lang/Math", .code Lib.Math.max.name Lib.Math.max.code 2 (some .int), .methodLink RX3 64 yX0_isBelow, .instanceMethod yX0_isBelow, .selects RX0 yX0_isBelow yX0_isBelow, .initialized RX0, .code yX0_isBelow cX0_isBelow 2 (some .boolean), .fieldLink RX0 15 "HidingBoxes$Box" "high" "[I", .fieldLink RX0 9 "HidingBoxes$Box" "low" "[I", .methodLink RX0 32 yX0_meets, .instanceMethod yX0_meets, .selects RX0 yX0_meets yX0_meets, .code yX0_meets cX0_meets 3 (some .boolean)] ++ wsX30 ++ wsX00)
def wsX3_boxesBelow : List Cond := .code yX3_boxesBelow cX3_boxesBelow 4 (some .int) :: ([.fieldLink RX3 18 "HidingBoxes$Space" "count" "I", .fieldLink RX3 11 "HidingBoxes$Space" "boxes" "[LHidingBoxes$Box;", .methodLink RX3 64 yX0_isBelow, .instanceMethod yX0_isBelow, .selects RX0 yX0_isBelow yX0_isBelow, .initialized RX0, .code yX0_isBelow cX0_isBelow 2 (some .boolean), .fieldLink RX0 15 "HidingBoxes$Box" "high" "[I", .fieldLink RX0 9 "HidingBoxes$Box" "low" "[I", .methodLink RX0 32 yX0_meets, .instanceMethod yX0_meets, .selects RX0 yX0_meets yX0_meets, .code yX0_meets cX0_meets 3 (some .boolean)] ++ wsX30 ++ wsX00)
def wsX3_supportsOf : List Cond := .code yX3_supportsOf cX3_supportsOf 5 (some .int) :: ([.fieldLink RX3 11 "HidingBoxes$Space" "boxes" "[LHidingBoxes$Box;", .fieldLink RX3 18 "HidingBoxes$Space" "count" "I", .fieldLink RX3 54 "HidingBoxes$Box" "high" "[I", .fieldLink RX3 50 "HidingBoxes$Box" "low" "[I", .methodLink RX3 64 yX0_isBelow, .instanceMethod yX0_isBelow, .selects RX0 yX0_isBelow yX0_isBelow, .initialized RX0, .code yX0_isBelow cX0_isBelow 2 (some .boolean), .fieldLink RX0 15 "HidingBoxes$Box" "high" "[I", .fieldLink RX0 9 "HidingBoxes$Box" "low" "[I", .methodLink RX0 32 yX0_meets, .instanceMethod yX0_meets, .selects RX0 yX0_meets yX0_meets, .code yX0_meets cX0_meets 3 (some .boolean)] ++ wsX30 ++ wsX00)
def wsX3_shadowOn_r1 : List Cond := [Cond.fieldLink RX3 11 "HidingBoxes$Space" "boxes" "[LHidingBoxes$Box;", Cond.fieldLink RX3 50 "HidingBoxes$Box" "low" "[I", Cond.fieldLink RX3 54 "HidingBoxes$Box" "high" "[I", Cond.fieldLink RX3 18 "HidingBoxes$Space" "count" "I", Cond.methodLink RX3 64 yX0_isBelow, Cond.instanceMethod yX0_isBelow, Cond.selects RX0 yX0_isBelow yX0_isBelow, Cond.initialized RX0, Cond.code yX0_isBelow cX0_isBelow 2 (some .boolean), Cond.fieldLink RX0 15 "HidingBoxes$Box" "high" "[I", Cond.fieldLink RX0 9 "HidingBoxes$Box" "low" "[I", Cond.methodLink RX0 32 yX0_meets, Cond.instanceMethod yX0_meets, Cond.selects RX0 yX0_meets yX0_meets, Cond.code yX0_meets cX0_meets 3 (some .boolean), Cond.methodLink RX3 73 yX0_coversRow, Cond.instanceMethod yX0_coversRow, Cond.selects RX0 yX0_coversRow yX0_coversRow, Cond.code yX0_coversRow cX0_coversRow 2 (some .boolean), Cond.methodLink RX3 77 yX0_rowOfCells, Cond.instanceMethod yX0_rowOfCells, Cond.selects RX0 yX0_rowOfCells yX0_rowOfCells, Cond.code yX0_rowOfCells cX0_rowOfCells 1 (some .int), Cond.methodLink RX0 28 yX0_size]
def wsX3_shadowOn_r2 : List Cond := [Cond.instanceMethod yX0_size, Cond.selects RX0 yX0_size yX0_size, Cond.code yX0_size cX0_size 2 (some .int), Cond.methodLink RX3 80 yJ6_bitCount_0f7a4, Cond.static yJ6_bitCount_0f7a4, Cond.initialized RJ6, Cond.code yJ6_bitCount_0f7a4 cJ6_bitCount_0f7a4 1 (some .int), Cond.constant RJ6 265 (1431655765), Cond.constant RJ6 266 (858993459), Cond.constant RJ6 267 (252645135)]
def wsX3_shadowOn : List Cond := .code yX3_shadowOn cX3_shadowOn 7 (some .int) :: ((wsX3_shadowOn_r1 ++ wsX3_shadowOn_r2) ++ wsX30 ++ wsX00)
def wsX3_shadow_r1 : List Cond := [Cond.fieldLink RX3 18 "HidingBoxes$Space" "count" "I", Cond.methodLink RX3 86 yX3_shadowOn, Cond.instanceMethod yX3_shadowOn, Cond.selects RX3 yX3_shadowOn yX3_shadowOn, Cond.initialized RX3, Cond.code yX3_shadowOn cX3_shadowOn 7 (some .int), Cond.fieldLink RX3 11 "HidingBoxes$Space" "boxes" "[LHidingBoxes$Box;", Cond.fieldLink RX3 50 "HidingBoxes$Box" "low" "[I", Cond.fieldLink RX3 54 "HidingBoxes$Box" "high" "[I", Cond.methodLink RX3 64 yX0_isBelow, Cond.instanceMethod yX0_isBelow, Cond.selects RX0 yX0_isBelow yX0_isBelow, Cond.initialized RX0, Cond.code yX0_isBelow cX0_isBelow 2 (some .boolean), Cond.fieldLink RX0 15 "HidingBoxes$Box" "high" "[I", Cond.fieldLink RX0 9 "HidingBoxes$Box" "low" "[I", Cond.methodLink RX0 32 yX0_meets, Cond.instanceMethod yX0_meets, Cond.selects RX0 yX0_meets yX0_meets, Cond.code yX0_meets cX0_meets 3 (some .boolean), Cond.methodLink RX3 73 yX0_coversRow, Cond.instanceMethod yX0_coversRow, Cond.selects RX0 yX0_coversRow yX0_coversRow, Cond.code yX0_coversRow cX0_coversRow 2 (some .boolean)]
def wsX3_shadow_r2 : List Cond := [Cond.methodLink RX3 77 yX0_rowOfCells, Cond.instanceMethod yX0_rowOfCells, Cond.selects RX0 yX0_rowOfCells yX0_rowOfCells, Cond.code yX0_rowOfCells cX0_rowOfCells 1 (some .int), Cond.methodLink RX0 28 yX0_size, Cond.instanceMethod yX0_size, Cond.selects RX0 yX0_size yX0_size, Cond.code yX0_size cX0_size 2 (some .int), Cond.methodLink RX3 80 yJ6_bitCount_0f7a4, Cond.static yJ6_bitCount_0f7a4, Cond.initialized RJ6, Cond.code yJ6_bitCount_0f7a4 cJ6_bitCount_0f7a4 1 (some .int), Cond.constant RJ6 265 (1431655765), Cond.constant RJ6 266 (858993459), Cond.constant RJ6 267 (252645135)]
def wsX3_shadow : List Cond := .code yX3_shadow cX3_shadow 3 (some .int) :: ((wsX3_shadow_r1 ++ wsX3_shadow_r2) ++ wsX30 ++ wsX00)
def wsX4_init : List Cond := .code yX4_init cX4_init 1 none :: ([.methodLink RX4 3 objectInit, .instanceMethod objectInit, .code objectInit ⟨#[0xb1]⟩ 1 none, .arrayClass .char, .fieldLink RX4 9 "HidingBoxes$Text" "signs" "[C", .arrayClass .int, .fieldLink RX4 15 "HidingBoxes$Text" "values" "[I"] ++ wsX40)
def wsX5_init_r1 : List Cond := [Cond.methodLink RX5 1 objectInit, Cond.instanceMethod objectInit, Cond.code objectInit ⟨#[0xb1]⟩ 1 none, Cond.classLink RX5 7 RX3, Cond.instantiable RX3 5, Cond.initialized RX3, Cond.fieldLink RX5 10 "HidingBoxes" "now" "LHidingBoxes$Space;", Cond.fieldLink RX5 16 "HidingBoxes" "trial" "LHidingBoxes$Space;", Cond.fieldLink RX5 19 "HidingBoxes" "snapshot" "LHidingBoxes$Space;", Cond.classLink RX5 22 RX1, Cond.instantiable RX1 2, Cond.initialized RX1, Cond.fieldLink RX5 25 "HidingBoxes" "history" "LHidingBoxes$History;", Cond.classLink RX5 29 RX4, Cond.instantiable RX4 4, Cond.initialized RX4, Cond.fieldLink RX5 32 "HidingBoxes" "text" "LHidingBoxes$Text;", Cond.classLink RX5 36 RX2, Cond.instantiable RX2 7, Cond.initialized RX2, Cond.fieldLink RX5 39 "HidingBoxes" "picture" "LHidingBoxes$Picture;", Cond.fieldLink RX5 43 "HidingBoxes" "turnedPicture" "LHidingBoxes$Picture;", Cond.classLink RX5 46 RX0, Cond.instantiable RX0 3]
def wsX5_init_r2 : List Cond := [Cond.initialized RX0, Cond.fieldLink RX5 49 "HidingBoxes" "newcomer" "LHidingBoxes$Box;", Cond.fieldLink RX5 53 "HidingBoxes" "hasSnapshot" "Z", Cond.methodLink RX5 9 yX3_init, Cond.instanceMethod yX3_init, Cond.code yX3_init cX3_init 2 none, Cond.methodLink RX3 3 objectInit, Cond.classLink RX3 9 RX0, Cond.fieldLink RX3 11 "HidingBoxes$Space" "boxes" "[LHidingBoxes$Box;", Cond.instanceMethod yX0_init, Cond.code yX0_init cX0_init 1 none, Cond.methodLink RX0 3 objectInit, Cond.arrayClass .int, Cond.fieldLink RX0 9 "HidingBoxes$Box" "low" "[I", Cond.fieldLink RX0 15 "HidingBoxes$Box" "high" "[I", Cond.methodLink RX5 24 yX1_init, Cond.instanceMethod yX1_init, Cond.code yX1_init cX1_init 2 none, Cond.methodLink RX1 3 objectInit, Cond.classLink RX1 9 RX3, Cond.fieldLink RX1 11 "HidingBoxes$History" "states" "[LHidingBoxes$Space;", Cond.methodLink RX1 17 yX3_init, Cond.instanceMethod yX4_init, Cond.code yX4_init cX4_init 1 none]
def wsX5_init_r3 : List Cond := [Cond.methodLink RX4 3 objectInit, Cond.arrayClass .char, Cond.fieldLink RX4 9 "HidingBoxes$Text" "signs" "[C", Cond.fieldLink RX4 15 "HidingBoxes$Text" "values" "[I", Cond.instanceMethod yX2_init, Cond.code yX2_init cX2_init 1 none, Cond.methodLink RX2 3 objectInit, Cond.fieldLink RX2 9 "HidingBoxes$Picture" "hides" "[I", Cond.fieldLink RX2 15 "HidingBoxes$Picture" "chains" "[I", Cond.fieldLink RX2 18 "HidingBoxes$Picture" "order" "[I", Cond.fieldLink RX2 21 "HidingBoxes$Picture" "layers" "[I"]
def wsX5_init : List Cond := .code yX5_init cX5_init 1 none :: ((wsX5_init_r1 ++ (wsX5_init_r2 ++ wsX5_init_r3)) ++ wsX30 ++ wsX50 ++ wsX10 ++ wsX40 ++ wsX20 ++ wsX00)
def wsX5_enter_r1 : List Cond := [Cond.fieldLink RX5 49 "HidingBoxes" "newcomer" "LHidingBoxes$Box;", Cond.methodLink RX5 221 yX0_lay, Cond.instanceMethod yX0_lay, Cond.selects RX0 yX0_lay yX0_lay, Cond.initialized RX0, Cond.code yX0_lay cX0_lay 4 (some .boolean), Cond.fieldLink RX0 9 "HidingBoxes$Box" "low" "[I", Cond.fieldLink RX0 15 "HidingBoxes$Box" "high" "[I", Cond.methodLink RX5 99 yX3_isCutBy, Cond.instanceMethod yX3_isCutBy, Cond.selects RX3 yX3_isCutBy yX3_isCutBy, Cond.initialized RX3, Cond.code yX3_isCutBy cX3_isCutBy 4 (some .boolean), Cond.fieldLink RX3 18 "HidingBoxes$Space" "count" "I", Cond.fieldLink RX3 11 "HidingBoxes$Space" "boxes" "[LHidingBoxes$Box;", Cond.methodLink RX3 38 yX0_cuts, Cond.instanceMethod yX0_cuts, Cond.selects RX0 yX0_cuts yX0_cuts, Cond.code yX0_cuts cX0_cuts 2 (some .boolean), Cond.methodLink RX0 32 yX0_meets, Cond.instanceMethod yX0_meets, Cond.selects RX0 yX0_meets yX0_meets, Cond.code yX0_meets cX0_meets 3 (some .boolean), Cond.methodLink RX5 106 yX3_isFull]
def wsX5_enter_r2 : List Cond := [Cond.instanceMethod yX3_isFull, Cond.selects RX3 yX3_isFull yX3_isFull, Cond.code yX3_isFull cX3_isFull 1 (some .boolean), Cond.methodLink RX5 225 yX3_append, Cond.instanceMethod yX3_append, Cond.selects RX3 yX3_append yX3_append, Cond.code yX3_append cX3_append 3 (some .int), Cond.fieldLink RX3 22 "HidingBoxes$Space" "nextNumber" "I", Cond.fieldLink RX3 35 "HidingBoxes$Box" "number" "I", Cond.methodLink RX3 42 yX3_isFull, Cond.methodLink RX3 31 yX0_copyFrom, Cond.instanceMethod yX0_copyFrom, Cond.selects RX0 yX0_copyFrom yX0_copyFrom, Cond.code yX0_copyFrom cX0_copyFrom 2 none, Cond.fieldLink RX0 18 "HidingBoxes$Box" "number" "I", Cond.methodLink RX0 22 arraycopyName, Cond.native arraycopyName, Cond.static arraycopyName, Cond.initialized "java/lang/System"]
def wsX5_enter : List Cond := .code yX5_enter cX5_enter 9 (some .int) :: ((wsX5_enter_r1 ++ wsX5_enter_r2) ++ wsX50 ++ wsX00 ++ wsX30)
def wsX5_adoptTrial_r1 : List Cond := [Cond.fieldLink RX5 25 "HidingBoxes" "history" "LHidingBoxes$History;", Cond.fieldLink RX5 10 "HidingBoxes" "now" "LHidingBoxes$Space;", Cond.fieldLink RX5 16 "HidingBoxes" "trial" "LHidingBoxes$Space;", Cond.methodLink RX5 218 yX1_remember, Cond.instanceMethod yX1_remember, Cond.selects RX1 yX1_remember yX1_remember, Cond.initialized RX1, Cond.code yX1_remember cX1_remember 2 none, Cond.fieldLink RX1 18 "HidingBoxes$History" "count" "I", Cond.fieldLink RX1 11 "HidingBoxes$History" "states" "[LHidingBoxes$Space;", Cond.methodLink RX1 22 yX1_dropOldest, Cond.instanceMethod yX1_dropOldest, Cond.selects RX1 yX1_dropOldest yX1_dropOldest, Cond.code yX1_dropOldest cX1_dropOldest 3 none, Cond.methodLink RX1 25 yX3_copyFrom, Cond.instanceMethod yX3_copyFrom, Cond.selects RX3 yX3_copyFrom yX3_copyFrom, Cond.initialized RX3, Cond.code yX3_copyFrom cX3_copyFrom 3 none, Cond.fieldLink RX3 18 "HidingBoxes$Space" "count" "I", Cond.fieldLink RX3 22 "HidingBoxes$Space" "nextNumber" "I", Cond.fieldLink RX3 25 "HidingBoxes$Space" "splits" "I", Cond.fieldLink RX3 28 "HidingBoxes$Space" "rule" "I", Cond.fieldLink RX3 11 "HidingBoxes$Space" "boxes" "[LHidingBoxes$Box;"]
def wsX5_adoptTrial_r2 : List Cond := [Cond.methodLink RX3 31 yX0_copyFrom, Cond.instanceMethod yX0_copyFrom, Cond.selects RX0 yX0_copyFrom yX0_copyFrom, Cond.initialized RX0, Cond.code yX0_copyFrom cX0_copyFrom 2 none, Cond.fieldLink RX0 18 "HidingBoxes$Box" "number" "I", Cond.fieldLink RX0 9 "HidingBoxes$Box" "low" "[I", Cond.methodLink RX0 22 arraycopyName, Cond.native arraycopyName, Cond.static arraycopyName, Cond.initialized "java/lang/System", Cond.fieldLink RX0 15 "HidingBoxes$Box" "high" "[I", Cond.methodLink RX5 57 yX3_copyFrom]
def wsX5_adoptTrial : List Cond := .code yX5_adoptTrial cX5_adoptTrial 1 none :: ((wsX5_adoptTrial_r1 ++ wsX5_adoptTrial_r2) ++ wsX50 ++ wsX10 ++ wsX30 ++ wsX00)
def wsX5_add_r1 : List Cond := [Cond.fieldLink RX5 16 "HidingBoxes" "trial" "LHidingBoxes$Space;", Cond.fieldLink RX5 10 "HidingBoxes" "now" "LHidingBoxes$Space;", Cond.methodLink RX5 57 yX3_copyFrom, Cond.instanceMethod yX3_copyFrom, Cond.selects RX3 yX3_copyFrom yX3_copyFrom, Cond.initialized RX3, Cond.code yX3_copyFrom cX3_copyFrom 3 none, Cond.fieldLink RX3 18 "HidingBoxes$Space" "count" "I", Cond.fieldLink RX3 22 "HidingBoxes$Space" "nextNumber" "I", Cond.fieldLink RX3 25 "HidingBoxes$Space" "splits" "I", Cond.fieldLink RX3 28 "HidingBoxes$Space" "rule" "I", Cond.fieldLink RX3 11 "HidingBoxes$Space" "boxes" "[LHidingBoxes$Box;", Cond.methodLink RX3 31 yX0_copyFrom, Cond.instanceMethod yX0_copyFrom, Cond.selects RX0 yX0_copyFrom yX0_copyFrom, Cond.initialized RX0, Cond.code yX0_copyFrom cX0_copyFrom 2 none, Cond.fieldLink RX0 18 "HidingBoxes$Box" "number" "I", Cond.fieldLink RX0 9 "HidingBoxes$Box" "low" "[I", Cond.methodLink RX0 22 arraycopyName, Cond.native arraycopyName, Cond.static arraycopyName, Cond.initialized "java/lang/System", Cond.fieldLink RX0 15 "HidingBoxes$Box" "high" "[I"]
def wsX5_add_r2 : List Cond := [Cond.methodLink RX5 61 yX5_enter, Cond.instanceMethod yX5_enter, Cond.selects RX5 yX5_enter yX5_enter, Cond.initialized RX5, Cond.code yX5_enter cX5_enter 9 (some .int), Cond.fieldLink RX5 49 "HidingBoxes" "newcomer" "LHidingBoxes$Box;", Cond.methodLink RX5 221 yX0_lay, Cond.instanceMethod yX0_lay, Cond.selects RX0 yX0_lay yX0_lay, Cond.code yX0_lay cX0_lay 4 (some .boolean), Cond.methodLink RX5 99 yX3_isCutBy, Cond.instanceMethod yX3_isCutBy, Cond.selects RX3 yX3_isCutBy yX3_isCutBy, Cond.code yX3_isCutBy cX3_isCutBy 4 (some .boolean), Cond.methodLink RX3 38 yX0_cuts, Cond.instanceMethod yX0_cuts, Cond.selects RX0 yX0_cuts yX0_cuts, Cond.code yX0_cuts cX0_cuts 2 (some .boolean), Cond.methodLink RX0 32 yX0_meets, Cond.instanceMethod yX0_meets, Cond.selects RX0 yX0_meets yX0_meets, Cond.code yX0_meets cX0_meets 3 (some .boolean), Cond.methodLink RX5 106 yX3_isFull, Cond.instanceMethod yX3_isFull]
def wsX5_add_r3 : List Cond := [Cond.selects RX3 yX3_isFull yX3_isFull, Cond.code yX3_isFull cX3_isFull 1 (some .boolean), Cond.methodLink RX5 225 yX3_append, Cond.instanceMethod yX3_append, Cond.selects RX3 yX3_append yX3_append, Cond.code yX3_append cX3_append 3 (some .int), Cond.fieldLink RX3 35 "HidingBoxes$Box" "number" "I", Cond.methodLink RX3 42 yX3_isFull, Cond.methodLink RX5 65 yX5_adoptTrial, Cond.instanceMethod yX5_adoptTrial, Cond.selects RX5 yX5_adoptTrial yX5_adoptTrial, Cond.code yX5_adoptTrial cX5_adoptTrial 1 none, Cond.fieldLink RX5 25 "HidingBoxes" "history" "LHidingBoxes$History;", Cond.methodLink RX5 218 yX1_remember, Cond.instanceMethod yX1_remember, Cond.selects RX1 yX1_remember yX1_remember, Cond.initialized RX1, Cond.code yX1_remember cX1_remember 2 none, Cond.fieldLink RX1 18 "HidingBoxes$History" "count" "I", Cond.fieldLink RX1 11 "HidingBoxes$History" "states" "[LHidingBoxes$Space;", Cond.methodLink RX1 22 yX1_dropOldest, Cond.instanceMethod yX1_dropOldest, Cond.selects RX1 yX1_dropOldest yX1_dropOldest, Cond.code yX1_dropOldest cX1_dropOldest 3 none]
def wsX5_add_r4 : List Cond := [Cond.methodLink RX1 25 yX3_copyFrom]
def wsX5_add : List Cond := .code yX5_add cX5_add 8 (some .int) :: ((wsX5_add_r1 ++ (wsX5_add_r2 ++ (wsX5_add_r3 ++ wsX5_add_r4))) ++ wsX50 ++ wsX30 ++ wsX00 ++ wsX10)
def wsX5_remove_r1 : List Cond := [Cond.fieldLink RX5 10 "HidingBoxes" "now" "LHidingBoxes$Space;", Cond.fieldLink RX5 72 "HidingBoxes$Space" "boxes" "[LHidingBoxes$Box;", Cond.fieldLink RX5 16 "HidingBoxes" "trial" "LHidingBoxes$Space;", Cond.methodLink RX5 68 yX3_slotOf, Cond.instanceMethod yX3_slotOf, Cond.selects RX3 yX3_slotOf yX3_slotOf, Cond.initialized RX3, Cond.code yX3_slotOf cX3_slotOf 3 (some .int), Cond.fieldLink RX3 18 "HidingBoxes$Space" "count" "I", Cond.fieldLink RX3 11 "HidingBoxes$Space" "boxes" "[LHidingBoxes$Box;", Cond.fieldLink RX3 35 "HidingBoxes$Box" "number" "I", Cond.methodLink RX5 76 yX0_volume, Cond.instanceMethod yX0_volume, Cond.selects RX0 yX0_volume yX0_volume, Cond.initialized RX0, Cond.code yX0_volume cX0_volume 1 (some .int), Cond.methodLink RX0 28 yX0_size, Cond.instanceMethod yX0_size, Cond.selects RX0 yX0_size yX0_size, Cond.code yX0_size cX0_size 2 (some .int), Cond.fieldLink RX0 15 "HidingBoxes$Box" "high" "[I", Cond.fieldLink RX0 9 "HidingBoxes$Box" "low" "[I", Cond.methodLink RX5 57 yX3_copyFrom, Cond.instanceMethod yX3_copyFrom]
def wsX5_remove_r2 : List Cond := [Cond.selects RX3 yX3_copyFrom yX3_copyFrom, Cond.code yX3_copyFrom cX3_copyFrom 3 none, Cond.fieldLink RX3 22 "HidingBoxes$Space" "nextNumber" "I", Cond.fieldLink RX3 25 "HidingBoxes$Space" "splits" "I", Cond.fieldLink RX3 28 "HidingBoxes$Space" "rule" "I", Cond.methodLink RX3 31 yX0_copyFrom, Cond.instanceMethod yX0_copyFrom, Cond.selects RX0 yX0_copyFrom yX0_copyFrom, Cond.code yX0_copyFrom cX0_copyFrom 2 none, Cond.fieldLink RX0 18 "HidingBoxes$Box" "number" "I", Cond.methodLink RX0 22 arraycopyName, Cond.native arraycopyName, Cond.static arraycopyName, Cond.initialized "java/lang/System", Cond.methodLink RX5 80 yX3_takeOut, Cond.instanceMethod yX3_takeOut, Cond.selects RX3 yX3_takeOut yX3_takeOut, Cond.code yX3_takeOut cX3_takeOut 3 none, Cond.methodLink RX5 65 yX5_adoptTrial, Cond.instanceMethod yX5_adoptTrial, Cond.selects RX5 yX5_adoptTrial yX5_adoptTrial, Cond.initialized RX5, Cond.code yX5_adoptTrial cX5_adoptTrial 1 none, Cond.fieldLink RX5 25 "HidingBoxes" "history" "LHidingBoxes$History;"]
def wsX5_remove_r3 : List Cond := [Cond.methodLink RX5 218 yX1_remember, Cond.instanceMethod yX1_remember, Cond.selects RX1 yX1_remember yX1_remember, Cond.initialized RX1, Cond.code yX1_remember cX1_remember 2 none, Cond.fieldLink RX1 18 "HidingBoxes$History" "count" "I", Cond.fieldLink RX1 11 "HidingBoxes$History" "states" "[LHidingBoxes$Space;", Cond.methodLink RX1 22 yX1_dropOldest, Cond.instanceMethod yX1_dropOldest, Cond.selects RX1 yX1_dropOldest yX1_dropOldest, Cond.code yX1_dropOldest cX1_dropOldest 3 none, Cond.methodLink RX1 25 yX3_copyFrom]
def wsX5_remove : List Cond := .code yX5_remove cX5_remove 4 (some .int) :: ((wsX5_remove_r1 ++ (wsX5_remove_r2 ++ wsX5_remove_r3)) ++ wsX50 ++ wsX30 ++ wsX00 ++ wsX10)
def wsX5_isDirection : List Cond := .code yX5_isDirection cX5_isDirection 1 (some .boolean) :: ([])
def wsX5_move_r1 : List Cond := [Cond.fieldLink RX5 10 "HidingBoxes" "now" "LHidingBoxes$Space;", Cond.fieldLink RX5 16 "HidingBoxes" "trial" "LHidingBoxes$Space;", Cond.fieldLink RX5 72 "HidingBoxes$Space" "boxes" "[LHidingBoxes$Box;", Cond.fieldLink RX5 88 "HidingBoxes$Box" "low" "[I", Cond.fieldLink RX5 92 "HidingBoxes$Box" "high" "[I", Cond.methodLink RX5 68 yX3_slotOf, Cond.instanceMethod yX3_slotOf, Cond.selects RX3 yX3_slotOf yX3_slotOf, Cond.initialized RX3, Cond.code yX3_slotOf cX3_slotOf 3 (some .int), Cond.fieldLink RX3 18 "HidingBoxes$Space" "count" "I", Cond.fieldLink RX3 11 "HidingBoxes$Space" "boxes" "[LHidingBoxes$Box;", Cond.fieldLink RX3 35 "HidingBoxes$Box" "number" "I", Cond.methodLink RX5 84 yX5_isDirection, Cond.static yX5_isDirection, Cond.initialized RX5, Cond.code yX5_isDirection cX5_isDirection 1 (some .boolean), Cond.methodLink RX5 57 yX3_copyFrom, Cond.instanceMethod yX3_copyFrom, Cond.selects RX3 yX3_copyFrom yX3_copyFrom, Cond.code yX3_copyFrom cX3_copyFrom 3 none, Cond.fieldLink RX3 22 "HidingBoxes$Space" "nextNumber" "I", Cond.fieldLink RX3 25 "HidingBoxes$Space" "splits" "I", Cond.fieldLink RX3 28 "HidingBoxes$Space" "rule" "I"]
def wsX5_move_r2 : List Cond := [Cond.methodLink RX3 31 yX0_copyFrom, Cond.instanceMethod yX0_copyFrom, Cond.selects RX0 yX0_copyFrom yX0_copyFrom, Cond.initialized RX0, Cond.code yX0_copyFrom cX0_copyFrom 2 none, Cond.fieldLink RX0 18 "HidingBoxes$Box" "number" "I", Cond.fieldLink RX0 9 "HidingBoxes$Box" "low" "[I", Cond.methodLink RX0 22 arraycopyName, Cond.native arraycopyName, Cond.static arraycopyName, Cond.initialized "java/lang/System", Cond.fieldLink RX0 15 "HidingBoxes$Box" "high" "[I", Cond.methodLink RX5 95 yX0_shift, Cond.instanceMethod yX0_shift, Cond.selects RX0 yX0_shift yX0_shift, Cond.code yX0_shift cX0_shift 3 none, Cond.methodLink RX5 99 yX3_isCutBy, Cond.instanceMethod yX3_isCutBy, Cond.selects RX3 yX3_isCutBy yX3_isCutBy, Cond.code yX3_isCutBy cX3_isCutBy 4 (some .boolean), Cond.methodLink RX3 38 yX0_cuts, Cond.instanceMethod yX0_cuts, Cond.selects RX0 yX0_cuts yX0_cuts, Cond.code yX0_cuts cX0_cuts 2 (some .boolean)]
def wsX5_move_r3 : List Cond := [Cond.methodLink RX0 32 yX0_meets, Cond.instanceMethod yX0_meets, Cond.selects RX0 yX0_meets yX0_meets, Cond.code yX0_meets cX0_meets 3 (some .boolean), Cond.methodLink RX5 65 yX5_adoptTrial, Cond.instanceMethod yX5_adoptTrial, Cond.selects RX5 yX5_adoptTrial yX5_adoptTrial, Cond.code yX5_adoptTrial cX5_adoptTrial 1 none, Cond.fieldLink RX5 25 "HidingBoxes" "history" "LHidingBoxes$History;", Cond.methodLink RX5 218 yX1_remember, Cond.instanceMethod yX1_remember, Cond.selects RX1 yX1_remember yX1_remember, Cond.initialized RX1, Cond.code yX1_remember cX1_remember 2 none, Cond.fieldLink RX1 18 "HidingBoxes$History" "count" "I", Cond.fieldLink RX1 11 "HidingBoxes$History" "states" "[LHidingBoxes$Space;", Cond.methodLink RX1 22 yX1_dropOldest, Cond.instanceMethod yX1_dropOldest, Cond.selects RX1 yX1_dropOldest yX1_dropOldest, Cond.code yX1_dropOldest cX1_dropOldest 3 none, Cond.methodLink RX1 25 yX3_copyFrom]
def wsX5_move : List Cond := .code yX5_move cX5_move 6 (some .int) :: ((wsX5_move_r1 ++ (wsX5_move_r2 ++ wsX5_move_r3)) ++ wsX50 ++ wsX30 ++ wsX00 ++ wsX10)
def wsX5_fall_r1 : List Cond := [Cond.fieldLink RX5 10 "HidingBoxes" "now" "LHidingBoxes$Space;", Cond.fieldLink RX5 72 "HidingBoxes$Space" "boxes" "[LHidingBoxes$Box;", Cond.fieldLink RX5 88 "HidingBoxes$Box" "low" "[I", Cond.fieldLink RX5 16 "HidingBoxes" "trial" "LHidingBoxes$Space;", Cond.methodLink RX5 68 yX3_slotOf, Cond.instanceMethod yX3_slotOf, Cond.selects RX3 yX3_slotOf yX3_slotOf, Cond.initialized RX3, Cond.code yX3_slotOf cX3_slotOf 3 (some .int), Cond.fieldLink RX3 18 "HidingBoxes$Space" "count" "I", Cond.fieldLink RX3 11 "HidingBoxes$Space" "boxes" "[LHidingBoxes$Box;", Cond.fieldLink RX3 35 "HidingBoxes$Box" "number" "I", Cond.methodLink RX5 103 yX3_groundUnder, Cond.instanceMethod yX3_groundUnder, Cond.selects RX3 yX3_groundUnder yX3_groundUnder, Cond.code yX3_groundUnder cX3_groundUnder 4 (some .int), Cond.fieldLink RX3 54 "HidingBoxes$Box" "high" "[I", Cond.methodLink RX3 67 Lib.Math.max.name, Cond.static Lib.Math.max.name, Cond.initialized "java/lang/Math", Cond.code Lib.Math.max.name Lib.Math.max.code 2 (some .int), Cond.methodLink RX3 64 yX0_isBelow, Cond.instanceMethod yX0_isBelow, Cond.selects RX0 yX0_isBelow yX0_isBelow]
def wsX5_fall_r2 : List Cond := [Cond.initialized RX0, Cond.code yX0_isBelow cX0_isBelow 2 (some .boolean), Cond.fieldLink RX0 15 "HidingBoxes$Box" "high" "[I", Cond.fieldLink RX0 9 "HidingBoxes$Box" "low" "[I", Cond.methodLink RX0 32 yX0_meets, Cond.instanceMethod yX0_meets, Cond.selects RX0 yX0_meets yX0_meets, Cond.code yX0_meets cX0_meets 3 (some .boolean), Cond.methodLink RX5 57 yX3_copyFrom, Cond.instanceMethod yX3_copyFrom, Cond.selects RX3 yX3_copyFrom yX3_copyFrom, Cond.code yX3_copyFrom cX3_copyFrom 3 none, Cond.fieldLink RX3 22 "HidingBoxes$Space" "nextNumber" "I", Cond.fieldLink RX3 25 "HidingBoxes$Space" "splits" "I", Cond.fieldLink RX3 28 "HidingBoxes$Space" "rule" "I", Cond.methodLink RX3 31 yX0_copyFrom, Cond.instanceMethod yX0_copyFrom, Cond.selects RX0 yX0_copyFrom yX0_copyFrom, Cond.code yX0_copyFrom cX0_copyFrom 2 none, Cond.fieldLink RX0 18 "HidingBoxes$Box" "number" "I", Cond.methodLink RX0 22 arraycopyName, Cond.native arraycopyName, Cond.static arraycopyName, Cond.initialized "java/lang/System"]
def wsX5_fall_r3 : List Cond := [Cond.methodLink RX5 95 yX0_shift, Cond.instanceMethod yX0_shift, Cond.selects RX0 yX0_shift yX0_shift, Cond.code yX0_shift cX0_shift 3 none, Cond.methodLink RX5 65 yX5_adoptTrial, Cond.instanceMethod yX5_adoptTrial, Cond.selects RX5 yX5_adoptTrial yX5_adoptTrial, Cond.initialized RX5, Cond.code yX5_adoptTrial cX5_adoptTrial 1 none, Cond.fieldLink RX5 25 "HidingBoxes" "history" "LHidingBoxes$History;", Cond.methodLink RX5 218 yX1_remember, Cond.instanceMethod yX1_remember, Cond.selects RX1 yX1_remember yX1_remember, Cond.initialized RX1, Cond.code yX1_remember cX1_remember 2 none, Cond.fieldLink RX1 18 "HidingBoxes$History" "count" "I", Cond.fieldLink RX1 11 "HidingBoxes$History" "states" "[LHidingBoxes$Space;", Cond.methodLink RX1 22 yX1_dropOldest, Cond.instanceMethod yX1_dropOldest, Cond.selects RX1 yX1_dropOldest yX1_dropOldest, Cond.code yX1_dropOldest cX1_dropOldest 3 none, Cond.methodLink RX1 25 yX3_copyFrom]
def wsX5_fall : List Cond := .code yX5_fall cX5_fall 4 (some .int) :: ((wsX5_fall_r1 ++ (wsX5_fall_r2 ++ wsX5_fall_r3)) ++ wsX50 ++ wsX30 ++ wsX00 ++ wsX10)
def wsX5_split_r1 : List Cond := [Cond.fieldLink RX5 10 "HidingBoxes" "now" "LHidingBoxes$Space;", Cond.fieldLink RX5 72 "HidingBoxes$Space" "boxes" "[LHidingBoxes$Box;", Cond.fieldLink RX5 88 "HidingBoxes$Box" "low" "[I", Cond.fieldLink RX5 92 "HidingBoxes$Box" "high" "[I", Cond.fieldLink RX5 16 "HidingBoxes" "trial" "LHidingBoxes$Space;", Cond.methodLink RX5 68 yX3_slotOf, Cond.instanceMethod yX3_slotOf, Cond.selects RX3 yX3_slotOf yX3_slotOf, Cond.initialized RX3, Cond.code yX3_slotOf cX3_slotOf 3 (some .int), Cond.fieldLink RX3 18 "HidingBoxes$Space" "count" "I", Cond.fieldLink RX3 11 "HidingBoxes$Space" "boxes" "[LHidingBoxes$Box;", Cond.fieldLink RX3 35 "HidingBoxes$Box" "number" "I", Cond.methodLink RX5 84 yX5_isDirection, Cond.static yX5_isDirection, Cond.initialized RX5, Cond.code yX5_isDirection cX5_isDirection 1 (some .boolean), Cond.methodLink RX5 106 yX3_isFull, Cond.instanceMethod yX3_isFull, Cond.selects RX3 yX3_isFull yX3_isFull, Cond.code yX3_isFull cX3_isFull 1 (some .boolean), Cond.methodLink RX5 57 yX3_copyFrom, Cond.instanceMethod yX3_copyFrom, Cond.selects RX3 yX3_copyFrom yX3_copyFrom]
def wsX5_split_r2 : List Cond := [Cond.code yX3_copyFrom cX3_copyFrom 3 none, Cond.fieldLink RX3 22 "HidingBoxes$Space" "nextNumber" "I", Cond.fieldLink RX3 25 "HidingBoxes$Space" "splits" "I", Cond.fieldLink RX3 28 "HidingBoxes$Space" "rule" "I", Cond.methodLink RX3 31 yX0_copyFrom, Cond.instanceMethod yX0_copyFrom, Cond.selects RX0 yX0_copyFrom yX0_copyFrom, Cond.initialized RX0, Cond.code yX0_copyFrom cX0_copyFrom 2 none, Cond.fieldLink RX0 18 "HidingBoxes$Box" "number" "I", Cond.fieldLink RX0 9 "HidingBoxes$Box" "low" "[I", Cond.methodLink RX0 22 arraycopyName, Cond.native arraycopyName, Cond.static arraycopyName, Cond.initialized "java/lang/System", Cond.fieldLink RX0 15 "HidingBoxes$Box" "high" "[I", Cond.methodLink RX5 110 yX3_cutInTwo, Cond.instanceMethod yX3_cutInTwo, Cond.selects RX3 yX3_cutInTwo yX3_cutInTwo, Cond.code yX3_cutInTwo cX3_cutInTwo 5 (some .int), Cond.fieldLink RX3 50 "HidingBoxes$Box" "low" "[I", Cond.fieldLink RX3 54 "HidingBoxes$Box" "high" "[I", Cond.methodLink RX3 46 yX3_append, Cond.instanceMethod yX3_append]
def wsX5_split_r3 : List Cond := [Cond.selects RX3 yX3_append yX3_append, Cond.code yX3_append cX3_append 3 (some .int), Cond.methodLink RX3 42 yX3_isFull, Cond.methodLink RX5 65 yX5_adoptTrial, Cond.instanceMethod yX5_adoptTrial, Cond.selects RX5 yX5_adoptTrial yX5_adoptTrial, Cond.code yX5_adoptTrial cX5_adoptTrial 1 none, Cond.fieldLink RX5 25 "HidingBoxes" "history" "LHidingBoxes$History;", Cond.methodLink RX5 218 yX1_remember, Cond.instanceMethod yX1_remember, Cond.selects RX1 yX1_remember yX1_remember, Cond.initialized RX1, Cond.code yX1_remember cX1_remember 2 none, Cond.fieldLink RX1 18 "HidingBoxes$History" "count" "I", Cond.fieldLink RX1 11 "HidingBoxes$History" "states" "[LHidingBoxes$Space;", Cond.methodLink RX1 22 yX1_dropOldest, Cond.instanceMethod yX1_dropOldest, Cond.selects RX1 yX1_dropOldest yX1_dropOldest, Cond.code yX1_dropOldest cX1_dropOldest 3 none, Cond.methodLink RX1 25 yX3_copyFrom]
def wsX5_split : List Cond := .code yX5_split cX5_split 7 (some .int) :: ((wsX5_split_r1 ++ (wsX5_split_r2 ++ wsX5_split_r3)) ++ wsX50 ++ wsX30 ++ wsX00 ++ wsX10)
def wsX5_breakOne_r1 : List Cond := [Cond.fieldLink RX5 39 "HidingBoxes" "picture" "LHidingBoxes$Picture;", Cond.fieldLink RX5 72 "HidingBoxes$Space" "boxes" "[LHidingBoxes$Box;", Cond.fieldLink RX5 88 "HidingBoxes$Box" "low" "[I", Cond.methodLink RX5 125 yX2_look, Cond.instanceMethod yX2_look, Cond.selects RX2 yX2_look yX2_look, Cond.initialized RX2, Cond.code yX2_look cX2_look 3 none, Cond.fieldLink RX2 24 "HidingBoxes$Space" "count" "I", Cond.fieldLink RX2 30 "HidingBoxes$Picture" "count" "I", Cond.fieldLink RX2 9 "HidingBoxes$Picture" "hides" "[I", Cond.methodLink RX2 31 yX2_bitsHiddenBy, Cond.static yX2_bitsHiddenBy, Cond.code yX2_bitsHiddenBy cX2_bitsHiddenBy 4 (some .int), Cond.fieldLink RX2 42 "HidingBoxes$Space" "boxes" "[LHidingBoxes$Box;", Cond.methodLink RX2 46 yX0_directionOfHiding, Cond.instanceMethod yX0_directionOfHiding, Cond.selects RX0 yX0_directionOfHiding yX0_directionOfHiding, Cond.initialized RX0, Cond.code yX0_directionOfHiding cX0_directionOfHiding 3 (some .int), Cond.fieldLink RX0 9 "HidingBoxes$Box" "low" "[I", Cond.fieldLink RX0 15 "HidingBoxes$Box" "high" "[I", Cond.methodLink RX0 40 yX0_overlapsOutlineOf, Cond.instanceMethod yX0_overlapsOutlineOf]
def wsX5_breakOne_r2 : List Cond := [Cond.selects RX0 yX0_overlapsOutlineOf yX0_overlapsOutlineOf, Cond.code yX0_overlapsOutlineOf cX0_overlapsOutlineOf 2 (some .boolean), Cond.methodLink RX0 36 yX0_meetsInDifference, Cond.instanceMethod yX0_meetsInDifference, Cond.selects RX0 yX0_meetsInDifference yX0_meetsInDifference, Cond.code yX0_meetsInDifference cX0_meetsInDifference 4 (some .boolean), Cond.methodLink RX2 35 yX2_followChains, Cond.instanceMethod yX2_followChains, Cond.selects RX2 yX2_followChains yX2_followChains, Cond.code yX2_followChains cX2_followChains 3 none, Cond.fieldLink RX2 15 "HidingBoxes$Picture" "chains" "[I", Cond.methodLink RX2 52 arraycopyName, Cond.native arraycopyName, Cond.static arraycopyName, Cond.initialized "java/lang/System", Cond.methodLink RX2 58 yX2_hasBit, Cond.static yX2_hasBit, Cond.code yX2_hasBit cX2_hasBit 2 (some .boolean), Cond.methodLink RX2 38 yX2_draw, Cond.instanceMethod yX2_draw, Cond.selects RX2 yX2_draw yX2_draw, Cond.code yX2_draw cX2_draw 4 none, Cond.fieldLink RX2 21 "HidingBoxes$Picture" "layers" "[I", Cond.fieldLink RX2 68 "HidingBoxes$Picture" "drawnBits" "I"]
def wsX5_breakOne_r3 : List Cond := [Cond.fieldLink RX2 71 "HidingBoxes$Picture" "drawnCount" "I", Cond.fieldLink RX2 18 "HidingBoxes$Picture" "order" "[I", Cond.methodLink RX2 62 yJ7_fill_53178, Cond.static yJ7_fill_53178, Cond.initialized RJ7, Cond.code yJ7_fill_53178 cJ7_fill_53178 4 none, Cond.methodLink RX2 74 yX2_nextToDraw, Cond.instanceMethod yX2_nextToDraw, Cond.selects RX2 yX2_nextToDraw yX2_nextToDraw, Cond.code yX2_nextToDraw cX2_nextToDraw 5 (some .int), Cond.methodLink RX2 82 yX3_weightInDrawing, Cond.instanceMethod yX3_weightInDrawing, Cond.selects RX3 yX3_weightInDrawing yX3_weightInDrawing, Cond.initialized RX3, Cond.code yX3_weightInDrawing cX3_weightInDrawing 2 (some .int), Cond.fieldLink RX3 28 "HidingBoxes$Space" "rule" "I", Cond.fieldLink RX3 11 "HidingBoxes$Space" "boxes" "[LHidingBoxes$Box;", Cond.methodLink RX3 57 yX0_sumOfCorner, Cond.instanceMethod yX0_sumOfCorner, Cond.selects RX0 yX0_sumOfCorner yX0_sumOfCorner, Cond.code yX0_sumOfCorner cX0_sumOfCorner 1 (some .int), Cond.methodLink RX3 61 yX0_volume, Cond.instanceMethod yX0_volume, Cond.selects RX0 yX0_volume yX0_volume]
def wsX5_breakOne_r4 : List Cond := [Cond.code yX0_volume cX0_volume 1 (some .int), Cond.methodLink RX0 28 yX0_size, Cond.instanceMethod yX0_size, Cond.selects RX0 yX0_size yX0_size, Cond.code yX0_size cX0_size 2 (some .int), Cond.methodLink RX2 78 yX2_layerAbove, Cond.instanceMethod yX2_layerAbove, Cond.selects RX2 yX2_layerAbove yX2_layerAbove, Cond.code yX2_layerAbove cX2_layerAbove 4 (some .int), Cond.methodLink RX2 85 Lib.Math.max.name, Cond.static Lib.Math.max.name, Cond.initialized "java/lang/Math", Cond.code Lib.Math.max.name Lib.Math.max.code 2 (some .int), Cond.methodLink RX5 227 yX2_greatestInRings, Cond.instanceMethod yX2_greatestInRings, Cond.selects RX2 yX2_greatestInRings yX2_greatestInRings, Cond.code yX2_greatestInRings cX2_greatestInRings 4 (some .int), Cond.methodLink RX2 99 yX2_isInRing, Cond.instanceMethod yX2_isInRing, Cond.selects RX2 yX2_isInRing yX2_isInRing, Cond.code yX2_isInRing cX2_isInRing 2 (some .boolean), Cond.methodLink RX2 109 yX0_volume, Cond.methodLink RX5 230 yX0_longestDirection, Cond.instanceMethod yX0_longestDirection]
def wsX5_breakOne_r5 : List Cond := [Cond.selects RX0 yX0_longestDirection yX0_longestDirection, Cond.code yX0_longestDirection cX0_longestDirection 3 (some .int), Cond.methodLink RX5 233 yX0_size, Cond.methodLink RX5 106 yX3_isFull, Cond.instanceMethod yX3_isFull, Cond.selects RX3 yX3_isFull yX3_isFull, Cond.code yX3_isFull cX3_isFull 1 (some .boolean), Cond.fieldLink RX3 18 "HidingBoxes$Space" "count" "I", Cond.methodLink RX5 110 yX3_cutInTwo, Cond.instanceMethod yX3_cutInTwo, Cond.selects RX3 yX3_cutInTwo yX3_cutInTwo, Cond.code yX3_cutInTwo cX3_cutInTwo 5 (some .int), Cond.fieldLink RX3 50 "HidingBoxes$Box" "low" "[I", Cond.fieldLink RX3 54 "HidingBoxes$Box" "high" "[I", Cond.fieldLink RX3 25 "HidingBoxes$Space" "splits" "I", Cond.methodLink RX3 46 yX3_append, Cond.instanceMethod yX3_append, Cond.selects RX3 yX3_append yX3_append, Cond.code yX3_append cX3_append 3 (some .int), Cond.fieldLink RX3 22 "HidingBoxes$Space" "nextNumber" "I", Cond.fieldLink RX3 35 "HidingBoxes$Box" "number" "I", Cond.methodLink RX3 42 yX3_isFull, Cond.methodLink RX3 31 yX0_copyFrom, Cond.instanceMethod yX0_copyFrom]
def wsX5_breakOne_r6 : List Cond := [Cond.selects RX0 yX0_copyFrom yX0_copyFrom, Cond.code yX0_copyFrom cX0_copyFrom 2 none, Cond.fieldLink RX0 18 "HidingBoxes$Box" "number" "I", Cond.methodLink RX0 22 arraycopyName]
def wsX5_breakOne : List Cond := .code yX5_breakOne cX5_breakOne 6 (some .int) :: ((wsX5_breakOne_r1 ++ (wsX5_breakOne_r2 ++ (wsX5_breakOne_r3 ++ (wsX5_breakOne_r4 ++ (wsX5_breakOne_r5 ++ wsX5_breakOne_r6))))) ++ wsX50 ++ wsX30 ++ wsX00 ++ wsX20)
def wsX5_breakRing_r1 : List Cond := [Cond.fieldLink RX5 16 "HidingBoxes" "trial" "LHidingBoxes$Space;", Cond.fieldLink RX5 10 "HidingBoxes" "now" "LHidingBoxes$Space;", Cond.methodLink RX5 57 yX3_copyFrom, Cond.instanceMethod yX3_copyFrom, Cond.selects RX3 yX3_copyFrom yX3_copyFrom, Cond.initialized RX3, Cond.code yX3_copyFrom cX3_copyFrom 3 none, Cond.fieldLink RX3 18 "HidingBoxes$Space" "count" "I", Cond.fieldLink RX3 22 "HidingBoxes$Space" "nextNumber" "I", Cond.fieldLink RX3 25 "HidingBoxes$Space" "splits" "I", Cond.fieldLink RX3 28 "HidingBoxes$Space" "rule" "I", Cond.fieldLink RX3 11 "HidingBoxes$Space" "boxes" "[LHidingBoxes$Box;", Cond.methodLink RX3 31 yX0_copyFrom, Cond.instanceMethod yX0_copyFrom, Cond.selects RX0 yX0_copyFrom yX0_copyFrom, Cond.initialized RX0, Cond.code yX0_copyFrom cX0_copyFrom 2 none, Cond.fieldLink RX0 18 "HidingBoxes$Box" "number" "I", Cond.fieldLink RX0 9 "HidingBoxes$Box" "low" "[I", Cond.methodLink RX0 22 arraycopyName, Cond.native arraycopyName, Cond.static arraycopyName, Cond.initialized "java/lang/System", Cond.fieldLink RX0 15 "HidingBoxes$Box" "high" "[I"]
def wsX5_breakRing_r2 : List Cond := [Cond.methodLink RX5 114 yX5_breakOne, Cond.instanceMethod yX5_breakOne, Cond.selects RX5 yX5_breakOne yX5_breakOne, Cond.initialized RX5, Cond.code yX5_breakOne cX5_breakOne 6 (some .int), Cond.fieldLink RX5 39 "HidingBoxes" "picture" "LHidingBoxes$Picture;", Cond.fieldLink RX5 72 "HidingBoxes$Space" "boxes" "[LHidingBoxes$Box;", Cond.fieldLink RX5 88 "HidingBoxes$Box" "low" "[I", Cond.methodLink RX5 125 yX2_look, Cond.instanceMethod yX2_look, Cond.selects RX2 yX2_look yX2_look, Cond.initialized RX2, Cond.code yX2_look cX2_look 3 none, Cond.fieldLink RX2 24 "HidingBoxes$Space" "count" "I", Cond.fieldLink RX2 30 "HidingBoxes$Picture" "count" "I", Cond.fieldLink RX2 9 "HidingBoxes$Picture" "hides" "[I", Cond.methodLink RX2 31 yX2_bitsHiddenBy, Cond.static yX2_bitsHiddenBy, Cond.code yX2_bitsHiddenBy cX2_bitsHiddenBy 4 (some .int), Cond.fieldLink RX2 42 "HidingBoxes$Space" "boxes" "[LHidingBoxes$Box;", Cond.methodLink RX2 46 yX0_directionOfHiding, Cond.instanceMethod yX0_directionOfHiding, Cond.selects RX0 yX0_directionOfHiding yX0_directionOfHiding, Cond.code yX0_directionOfHiding cX0_directionOfHiding 3 (some .int)]
def wsX5_breakRing_r3 : List Cond := [Cond.methodLink RX0 40 yX0_overlapsOutlineOf, Cond.instanceMethod yX0_overlapsOutlineOf, Cond.selects RX0 yX0_overlapsOutlineOf yX0_overlapsOutlineOf, Cond.code yX0_overlapsOutlineOf cX0_overlapsOutlineOf 2 (some .boolean), Cond.methodLink RX0 36 yX0_meetsInDifference, Cond.instanceMethod yX0_meetsInDifference, Cond.selects RX0 yX0_meetsInDifference yX0_meetsInDifference, Cond.code yX0_meetsInDifference cX0_meetsInDifference 4 (some .boolean), Cond.methodLink RX2 35 yX2_followChains, Cond.instanceMethod yX2_followChains, Cond.selects RX2 yX2_followChains yX2_followChains, Cond.code yX2_followChains cX2_followChains 3 none, Cond.fieldLink RX2 15 "HidingBoxes$Picture" "chains" "[I", Cond.methodLink RX2 52 arraycopyName, Cond.methodLink RX2 58 yX2_hasBit, Cond.static yX2_hasBit, Cond.code yX2_hasBit cX2_hasBit 2 (some .boolean), Cond.methodLink RX2 38 yX2_draw, Cond.instanceMethod yX2_draw, Cond.selects RX2 yX2_draw yX2_draw, Cond.code yX2_draw cX2_draw 4 none, Cond.fieldLink RX2 21 "HidingBoxes$Picture" "layers" "[I", Cond.fieldLink RX2 68 "HidingBoxes$Picture" "drawnBits" "I", Cond.fieldLink RX2 71 "HidingBoxes$Picture" "drawnCount" "I"]
def wsX5_breakRing_r4 : List Cond := [Cond.fieldLink RX2 18 "HidingBoxes$Picture" "order" "[I", Cond.methodLink RX2 62 yJ7_fill_53178, Cond.static yJ7_fill_53178, Cond.initialized RJ7, Cond.code yJ7_fill_53178 cJ7_fill_53178 4 none, Cond.methodLink RX2 74 yX2_nextToDraw, Cond.instanceMethod yX2_nextToDraw, Cond.selects RX2 yX2_nextToDraw yX2_nextToDraw, Cond.code yX2_nextToDraw cX2_nextToDraw 5 (some .int), Cond.methodLink RX2 82 yX3_weightInDrawing, Cond.instanceMethod yX3_weightInDrawing, Cond.selects RX3 yX3_weightInDrawing yX3_weightInDrawing, Cond.code yX3_weightInDrawing cX3_weightInDrawing 2 (some .int), Cond.methodLink RX3 57 yX0_sumOfCorner, Cond.instanceMethod yX0_sumOfCorner, Cond.selects RX0 yX0_sumOfCorner yX0_sumOfCorner, Cond.code yX0_sumOfCorner cX0_sumOfCorner 1 (some .int), Cond.methodLink RX3 61 yX0_volume, Cond.instanceMethod yX0_volume, Cond.selects RX0 yX0_volume yX0_volume, Cond.code yX0_volume cX0_volume 1 (some .int), Cond.methodLink RX0 28 yX0_size, Cond.instanceMethod yX0_size, Cond.selects RX0 yX0_size yX0_size]
def wsX5_breakRing_r5 : List Cond := [Cond.code yX0_size cX0_size 2 (some .int), Cond.methodLink RX2 78 yX2_layerAbove, Cond.instanceMethod yX2_layerAbove, Cond.selects RX2 yX2_layerAbove yX2_layerAbove, Cond.code yX2_layerAbove cX2_layerAbove 4 (some .int), Cond.methodLink RX2 85 Lib.Math.max.name, Cond.static Lib.Math.max.name, Cond.initialized "java/lang/Math", Cond.code Lib.Math.max.name Lib.Math.max.code 2 (some .int), Cond.methodLink RX5 227 yX2_greatestInRings, Cond.instanceMethod yX2_greatestInRings, Cond.selects RX2 yX2_greatestInRings yX2_greatestInRings, Cond.code yX2_greatestInRings cX2_greatestInRings 4 (some .int), Cond.methodLink RX2 99 yX2_isInRing, Cond.instanceMethod yX2_isInRing, Cond.selects RX2 yX2_isInRing yX2_isInRing, Cond.code yX2_isInRing cX2_isInRing 2 (some .boolean), Cond.methodLink RX2 109 yX0_volume, Cond.methodLink RX5 230 yX0_longestDirection, Cond.instanceMethod yX0_longestDirection, Cond.selects RX0 yX0_longestDirection yX0_longestDirection, Cond.code yX0_longestDirection cX0_longestDirection 3 (some .int), Cond.methodLink RX5 233 yX0_size, Cond.methodLink RX5 106 yX3_isFull]
def wsX5_breakRing_r6 : List Cond := [Cond.instanceMethod yX3_isFull, Cond.selects RX3 yX3_isFull yX3_isFull, Cond.code yX3_isFull cX3_isFull 1 (some .boolean), Cond.methodLink RX5 110 yX3_cutInTwo, Cond.instanceMethod yX3_cutInTwo, Cond.selects RX3 yX3_cutInTwo yX3_cutInTwo, Cond.code yX3_cutInTwo cX3_cutInTwo 5 (some .int), Cond.fieldLink RX3 50 "HidingBoxes$Box" "low" "[I", Cond.fieldLink RX3 54 "HidingBoxes$Box" "high" "[I", Cond.methodLink RX3 46 yX3_append, Cond.instanceMethod yX3_append, Cond.selects RX3 yX3_append yX3_append, Cond.code yX3_append cX3_append 3 (some .int), Cond.fieldLink RX3 35 "HidingBoxes$Box" "number" "I", Cond.methodLink RX3 42 yX3_isFull, Cond.methodLink RX5 65 yX5_adoptTrial, Cond.instanceMethod yX5_adoptTrial, Cond.selects RX5 yX5_adoptTrial yX5_adoptTrial, Cond.code yX5_adoptTrial cX5_adoptTrial 1 none, Cond.fieldLink RX5 25 "HidingBoxes" "history" "LHidingBoxes$History;", Cond.methodLink RX5 218 yX1_remember, Cond.instanceMethod yX1_remember, Cond.selects RX1 yX1_remember yX1_remember, Cond.initialized RX1]
def wsX5_breakRing_r7 : List Cond := [Cond.code yX1_remember cX1_remember 2 none, Cond.fieldLink RX1 18 "HidingBoxes$History" "count" "I", Cond.fieldLink RX1 11 "HidingBoxes$History" "states" "[LHidingBoxes$Space;", Cond.methodLink RX1 22 yX1_dropOldest, Cond.instanceMethod yX1_dropOldest, Cond.selects RX1 yX1_dropOldest yX1_dropOldest, Cond.code yX1_dropOldest cX1_dropOldest 3 none, Cond.methodLink RX1 25 yX3_copyFrom]
def wsX5_breakRing : List Cond := .code yX5_breakRing cX5_breakRing 2 (some .int) :: ((wsX5_breakRing_r1 ++ (wsX5_breakRing_r2 ++ (wsX5_breakRing_r3 ++ (wsX5_breakRing_r4 ++ (wsX5_breakRing_r5 ++ (wsX5_breakRing_r6 ++ wsX5_breakRing_r7)))))) ++ wsX50 ++ wsX30 ++ wsX00 ++ wsX20 ++ wsX10)
def wsX5_turn_r1 : List Cond := [Cond.fieldLink RX5 10 "HidingBoxes" "now" "LHidingBoxes$Space;", Cond.fieldLink RX5 118 "HidingBoxes$Space" "count" "I", Cond.fieldLink RX5 16 "HidingBoxes" "trial" "LHidingBoxes$Space;", Cond.fieldLink RX5 39 "HidingBoxes" "picture" "LHidingBoxes$Picture;", Cond.fieldLink RX5 43 "HidingBoxes" "turnedPicture" "LHidingBoxes$Picture;", Cond.methodLink RX5 57 yX3_copyFrom, Cond.instanceMethod yX3_copyFrom, Cond.selects RX3 yX3_copyFrom yX3_copyFrom, Cond.initialized RX3, Cond.code yX3_copyFrom cX3_copyFrom 3 none, Cond.fieldLink RX3 18 "HidingBoxes$Space" "count" "I", Cond.fieldLink RX3 22 "HidingBoxes$Space" "nextNumber" "I", Cond.fieldLink RX3 25 "HidingBoxes$Space" "splits" "I", Cond.fieldLink RX3 28 "HidingBoxes$Space" "rule" "I", Cond.fieldLink RX3 11 "HidingBoxes$Space" "boxes" "[LHidingBoxes$Box;", Cond.methodLink RX3 31 yX0_copyFrom, Cond.instanceMethod yX0_copyFrom, Cond.selects RX0 yX0_copyFrom yX0_copyFrom, Cond.initialized RX0, Cond.code yX0_copyFrom cX0_copyFrom 2 none, Cond.fieldLink RX0 18 "HidingBoxes$Box" "number" "I", Cond.fieldLink RX0 9 "HidingBoxes$Box" "low" "[I", Cond.methodLink RX0 22 arraycopyName, Cond.native arraycopyName]
def wsX5_turn_r2 : List Cond := [Cond.static arraycopyName, Cond.initialized "java/lang/System", Cond.fieldLink RX0 15 "HidingBoxes$Box" "high" "[I", Cond.methodLink RX5 122 yX3_quarterTurn, Cond.instanceMethod yX3_quarterTurn, Cond.selects RX3 yX3_quarterTurn yX3_quarterTurn, Cond.code yX3_quarterTurn cX3_quarterTurn 5 none, Cond.fieldLink RX3 50 "HidingBoxes$Box" "low" "[I", Cond.fieldLink RX3 54 "HidingBoxes$Box" "high" "[I", Cond.methodLink RX5 125 yX2_look, Cond.instanceMethod yX2_look, Cond.selects RX2 yX2_look yX2_look, Cond.initialized RX2, Cond.code yX2_look cX2_look 3 none, Cond.fieldLink RX2 24 "HidingBoxes$Space" "count" "I", Cond.fieldLink RX2 30 "HidingBoxes$Picture" "count" "I", Cond.fieldLink RX2 9 "HidingBoxes$Picture" "hides" "[I", Cond.methodLink RX2 31 yX2_bitsHiddenBy, Cond.static yX2_bitsHiddenBy, Cond.code yX2_bitsHiddenBy cX2_bitsHiddenBy 4 (some .int), Cond.fieldLink RX2 42 "HidingBoxes$Space" "boxes" "[LHidingBoxes$Box;", Cond.methodLink RX2 46 yX0_directionOfHiding, Cond.instanceMethod yX0_directionOfHiding, Cond.selects RX0 yX0_directionOfHiding yX0_directionOfHiding]
def wsX5_turn_r3 : List Cond := [Cond.code yX0_directionOfHiding cX0_directionOfHiding 3 (some .int), Cond.methodLink RX0 40 yX0_overlapsOutlineOf, Cond.instanceMethod yX0_overlapsOutlineOf, Cond.selects RX0 yX0_overlapsOutlineOf yX0_overlapsOutlineOf, Cond.code yX0_overlapsOutlineOf cX0_overlapsOutlineOf 2 (some .boolean), Cond.methodLink RX0 36 yX0_meetsInDifference, Cond.instanceMethod yX0_meetsInDifference, Cond.selects RX0 yX0_meetsInDifference yX0_meetsInDifference, Cond.code yX0_meetsInDifference cX0_meetsInDifference 4 (some .boolean), Cond.methodLink RX2 35 yX2_followChains, Cond.instanceMethod yX2_followChains, Cond.selects RX2 yX2_followChains yX2_followChains, Cond.code yX2_followChains cX2_followChains 3 none, Cond.fieldLink RX2 15 "HidingBoxes$Picture" "chains" "[I", Cond.methodLink RX2 52 arraycopyName, Cond.methodLink RX2 58 yX2_hasBit, Cond.static yX2_hasBit, Cond.code yX2_hasBit cX2_hasBit 2 (some .boolean), Cond.methodLink RX2 38 yX2_draw, Cond.instanceMethod yX2_draw, Cond.selects RX2 yX2_draw yX2_draw, Cond.code yX2_draw cX2_draw 4 none, Cond.fieldLink RX2 21 "HidingBoxes$Picture" "layers" "[I", Cond.fieldLink RX2 68 "HidingBoxes$Picture" "drawnBits" "I"]
def wsX5_turn_r4 : List Cond := [Cond.fieldLink RX2 71 "HidingBoxes$Picture" "drawnCount" "I", Cond.fieldLink RX2 18 "HidingBoxes$Picture" "order" "[I", Cond.methodLink RX2 62 yJ7_fill_53178, Cond.static yJ7_fill_53178, Cond.initialized RJ7, Cond.code yJ7_fill_53178 cJ7_fill_53178 4 none, Cond.methodLink RX2 74 yX2_nextToDraw, Cond.instanceMethod yX2_nextToDraw, Cond.selects RX2 yX2_nextToDraw yX2_nextToDraw, Cond.code yX2_nextToDraw cX2_nextToDraw 5 (some .int), Cond.methodLink RX2 82 yX3_weightInDrawing, Cond.instanceMethod yX3_weightInDrawing, Cond.selects RX3 yX3_weightInDrawing yX3_weightInDrawing, Cond.code yX3_weightInDrawing cX3_weightInDrawing 2 (some .int), Cond.methodLink RX3 57 yX0_sumOfCorner, Cond.instanceMethod yX0_sumOfCorner, Cond.selects RX0 yX0_sumOfCorner yX0_sumOfCorner, Cond.code yX0_sumOfCorner cX0_sumOfCorner 1 (some .int), Cond.methodLink RX3 61 yX0_volume, Cond.instanceMethod yX0_volume, Cond.selects RX0 yX0_volume yX0_volume, Cond.code yX0_volume cX0_volume 1 (some .int), Cond.methodLink RX0 28 yX0_size, Cond.instanceMethod yX0_size]
def wsX5_turn_r5 : List Cond := [Cond.selects RX0 yX0_size yX0_size, Cond.code yX0_size cX0_size 2 (some .int), Cond.methodLink RX2 78 yX2_layerAbove, Cond.instanceMethod yX2_layerAbove, Cond.selects RX2 yX2_layerAbove yX2_layerAbove, Cond.code yX2_layerAbove cX2_layerAbove 4 (some .int), Cond.methodLink RX2 85 Lib.Math.max.name, Cond.static Lib.Math.max.name, Cond.initialized "java/lang/Math", Cond.code Lib.Math.max.name Lib.Math.max.code 2 (some .int), Cond.methodLink RX5 128 yX2_hidingsNotIn, Cond.instanceMethod yX2_hidingsNotIn, Cond.selects RX2 yX2_hidingsNotIn yX2_hidingsNotIn, Cond.code yX2_hidingsNotIn cX2_hidingsNotIn 4 (some .int), Cond.methodLink RX2 91 yJ6_bitCount_0f7a4, Cond.static yJ6_bitCount_0f7a4, Cond.initialized RJ6, Cond.code yJ6_bitCount_0f7a4 cJ6_bitCount_0f7a4 1 (some .int), Cond.constant RJ6 265 (1431655765), Cond.constant RJ6 266 (858993459), Cond.constant RJ6 267 (252645135), Cond.methodLink RX5 65 yX5_adoptTrial, Cond.instanceMethod yX5_adoptTrial, Cond.selects RX5 yX5_adoptTrial yX5_adoptTrial]
def wsX5_turn_r6 : List Cond := [Cond.initialized RX5, Cond.code yX5_adoptTrial cX5_adoptTrial 1 none, Cond.fieldLink RX5 25 "HidingBoxes" "history" "LHidingBoxes$History;", Cond.methodLink RX5 218 yX1_remember, Cond.instanceMethod yX1_remember, Cond.selects RX1 yX1_remember yX1_remember, Cond.initialized RX1, Cond.code yX1_remember cX1_remember 2 none, Cond.fieldLink RX1 18 "HidingBoxes$History" "count" "I", Cond.fieldLink RX1 11 "HidingBoxes$History" "states" "[LHidingBoxes$Space;", Cond.methodLink RX1 22 yX1_dropOldest, Cond.instanceMethod yX1_dropOldest, Cond.selects RX1 yX1_dropOldest yX1_dropOldest, Cond.code yX1_dropOldest cX1_dropOldest 3 none, Cond.methodLink RX1 25 yX3_copyFrom]
def wsX5_turn : List Cond := .code yX5_turn cX5_turn 2 (some .int) :: ((wsX5_turn_r1 ++ (wsX5_turn_r2 ++ (wsX5_turn_r3 ++ (wsX5_turn_r4 ++ (wsX5_turn_r5 ++ wsX5_turn_r6))))) ++ wsX50 ++ wsX30 ++ wsX00 ++ wsX20 ++ wsX10)
def wsX5_set_r1 : List Cond := [Cond.fieldLink RX5 10 "HidingBoxes" "now" "LHidingBoxes$Space;", Cond.fieldLink RX5 132 "HidingBoxes$Space" "rule" "I", Cond.fieldLink RX5 16 "HidingBoxes" "trial" "LHidingBoxes$Space;", Cond.methodLink RX5 57 yX3_copyFrom, Cond.instanceMethod yX3_copyFrom, Cond.selects RX3 yX3_copyFrom yX3_copyFrom, Cond.initialized RX3, Cond.code yX3_copyFrom cX3_copyFrom 3 none, Cond.fieldLink RX3 18 "HidingBoxes$Space" "count" "I", Cond.fieldLink RX3 22 "HidingBoxes$Space" "nextNumber" "I", Cond.fieldLink RX3 25 "HidingBoxes$Space" "splits" "I", Cond.fieldLink RX3 28 "HidingBoxes$Space" "rule" "I", Cond.fieldLink RX3 11 "HidingBoxes$Space" "boxes" "[LHidingBoxes$Box;", Cond.methodLink RX3 31 yX0_copyFrom, Cond.instanceMethod yX0_copyFrom, Cond.selects RX0 yX0_copyFrom yX0_copyFrom, Cond.initialized RX0, Cond.code yX0_copyFrom cX0_copyFrom 2 none, Cond.fieldLink RX0 18 "HidingBoxes$Box" "number" "I", Cond.fieldLink RX0 9 "HidingBoxes$Box" "low" "[I", Cond.methodLink RX0 22 arraycopyName, Cond.native arraycopyName, Cond.static arraycopyName, Cond.initialized "java/lang/System"]
def wsX5_set_r2 : List Cond := [Cond.fieldLink RX0 15 "HidingBoxes$Box" "high" "[I", Cond.methodLink RX5 65 yX5_adoptTrial, Cond.instanceMethod yX5_adoptTrial, Cond.selects RX5 yX5_adoptTrial yX5_adoptTrial, Cond.initialized RX5, Cond.code yX5_adoptTrial cX5_adoptTrial 1 none, Cond.fieldLink RX5 25 "HidingBoxes" "history" "LHidingBoxes$History;", Cond.methodLink RX5 218 yX1_remember, Cond.instanceMethod yX1_remember, Cond.selects RX1 yX1_remember yX1_remember, Cond.initialized RX1, Cond.code yX1_remember cX1_remember 2 none, Cond.fieldLink RX1 18 "HidingBoxes$History" "count" "I", Cond.fieldLink RX1 11 "HidingBoxes$History" "states" "[LHidingBoxes$Space;", Cond.methodLink RX1 22 yX1_dropOldest, Cond.instanceMethod yX1_dropOldest, Cond.selects RX1 yX1_dropOldest yX1_dropOldest, Cond.code yX1_dropOldest cX1_dropOldest 3 none, Cond.methodLink RX1 25 yX3_copyFrom]
def wsX5_set : List Cond := .code yX5_set cX5_set 4 (some .int) :: ((wsX5_set_r1 ++ wsX5_set_r2) ++ wsX50 ++ wsX30 ++ wsX00 ++ wsX10)
def wsX5_box : List Cond := .code yX5_box cX5_box 2 (some .int) :: ([.fieldLink RX5 10 "HidingBoxes" "now" "LHidingBoxes$Space;", .fieldLink RX5 118 "HidingBoxes$Space" "count" "I", .fieldLink RX5 72 "HidingBoxes$Space" "boxes" "[LHidingBoxes$Box;", .fieldLink RX5 156 "HidingBoxes$Box" "number" "I"] ++ wsX50 ++ wsX30 ++ wsX00)
def wsX5_end : List Cond := .code yX5_end cX5_end 6 (some .int) :: ([.fieldLink RX5 10 "HidingBoxes" "now" "LHidingBoxes$Space;", .fieldLink RX5 72 "HidingBoxes$Space" "boxes" "[LHidingBoxes$Box;", .fieldLink RX5 92 "HidingBoxes$Box" "high" "[I", .fieldLink RX5 88 "HidingBoxes$Box" "low" "[I", .methodLink RX5 68 yX3_slotOf, .instanceMethod yX3_slotOf, .selects RX3 yX3_slotOf yX3_slotOf, .initialized RX3, .code yX3_slotOf cX3_slotOf 3 (some .int), .fieldLink RX3 18 "HidingBoxes$Space" "count" "I", .fieldLink RX3 11 "HidingBoxes$Space" "boxes" "[LHidingBoxes$Box;", .fieldLink RX3 35 "HidingBoxes$Box" "number" "I", .methodLink RX5 84 yX5_isDirection, .static yX5_isDirection, .initialized RX5, .code yX5_isDirection cX5_isDirection 1 (some .boolean)] ++ wsX50 ++ wsX30 ++ wsX00)
def wsX5_look_r1 : List Cond := [Cond.fieldLink RX5 39 "HidingBoxes" "picture" "LHidingBoxes$Picture;", Cond.fieldLink RX5 10 "HidingBoxes" "now" "LHidingBoxes$Space;", Cond.methodLink RX5 125 yX2_look, Cond.instanceMethod yX2_look, Cond.selects RX2 yX2_look yX2_look, Cond.initialized RX2, Cond.code yX2_look cX2_look 3 none, Cond.fieldLink RX2 24 "HidingBoxes$Space" "count" "I", Cond.fieldLink RX2 30 "HidingBoxes$Picture" "count" "I", Cond.fieldLink RX2 9 "HidingBoxes$Picture" "hides" "[I", Cond.methodLink RX2 31 yX2_bitsHiddenBy, Cond.static yX2_bitsHiddenBy, Cond.code yX2_bitsHiddenBy cX2_bitsHiddenBy 4 (some .int), Cond.fieldLink RX2 42 "HidingBoxes$Space" "boxes" "[LHidingBoxes$Box;", Cond.methodLink RX2 46 yX0_directionOfHiding, Cond.instanceMethod yX0_directionOfHiding, Cond.selects RX0 yX0_directionOfHiding yX0_directionOfHiding, Cond.initialized RX0, Cond.code yX0_directionOfHiding cX0_directionOfHiding 3 (some .int), Cond.fieldLink RX0 9 "HidingBoxes$Box" "low" "[I", Cond.fieldLink RX0 15 "HidingBoxes$Box" "high" "[I", Cond.methodLink RX0 40 yX0_overlapsOutlineOf, Cond.instanceMethod yX0_overlapsOutlineOf, Cond.selects RX0 yX0_overlapsOutlineOf yX0_overlapsOutlineOf]
def wsX5_look_r2 : List Cond := [Cond.code yX0_overlapsOutlineOf cX0_overlapsOutlineOf 2 (some .boolean), Cond.methodLink RX0 36 yX0_meetsInDifference, Cond.instanceMethod yX0_meetsInDifference, Cond.selects RX0 yX0_meetsInDifference yX0_meetsInDifference, Cond.code yX0_meetsInDifference cX0_meetsInDifference 4 (some .boolean), Cond.methodLink RX2 35 yX2_followChains, Cond.instanceMethod yX2_followChains, Cond.selects RX2 yX2_followChains yX2_followChains, Cond.code yX2_followChains cX2_followChains 3 none, Cond.fieldLink RX2 15 "HidingBoxes$Picture" "chains" "[I", Cond.methodLink RX2 52 arraycopyName, Cond.native arraycopyName, Cond.static arraycopyName, Cond.initialized "java/lang/System", Cond.methodLink RX2 58 yX2_hasBit, Cond.static yX2_hasBit, Cond.code yX2_hasBit cX2_hasBit 2 (some .boolean), Cond.methodLink RX2 38 yX2_draw, Cond.instanceMethod yX2_draw, Cond.selects RX2 yX2_draw yX2_draw, Cond.code yX2_draw cX2_draw 4 none, Cond.fieldLink RX2 21 "HidingBoxes$Picture" "layers" "[I", Cond.fieldLink RX2 68 "HidingBoxes$Picture" "drawnBits" "I", Cond.fieldLink RX2 71 "HidingBoxes$Picture" "drawnCount" "I"]
def wsX5_look_r3 : List Cond := [Cond.fieldLink RX2 18 "HidingBoxes$Picture" "order" "[I", Cond.methodLink RX2 62 yJ7_fill_53178, Cond.static yJ7_fill_53178, Cond.initialized RJ7, Cond.code yJ7_fill_53178 cJ7_fill_53178 4 none, Cond.methodLink RX2 74 yX2_nextToDraw, Cond.instanceMethod yX2_nextToDraw, Cond.selects RX2 yX2_nextToDraw yX2_nextToDraw, Cond.code yX2_nextToDraw cX2_nextToDraw 5 (some .int), Cond.methodLink RX2 82 yX3_weightInDrawing, Cond.instanceMethod yX3_weightInDrawing, Cond.selects RX3 yX3_weightInDrawing yX3_weightInDrawing, Cond.initialized RX3, Cond.code yX3_weightInDrawing cX3_weightInDrawing 2 (some .int), Cond.fieldLink RX3 28 "HidingBoxes$Space" "rule" "I", Cond.fieldLink RX3 11 "HidingBoxes$Space" "boxes" "[LHidingBoxes$Box;", Cond.methodLink RX3 57 yX0_sumOfCorner, Cond.instanceMethod yX0_sumOfCorner, Cond.selects RX0 yX0_sumOfCorner yX0_sumOfCorner, Cond.code yX0_sumOfCorner cX0_sumOfCorner 1 (some .int), Cond.methodLink RX3 61 yX0_volume, Cond.instanceMethod yX0_volume, Cond.selects RX0 yX0_volume yX0_volume, Cond.code yX0_volume cX0_volume 1 (some .int)]
def wsX5_look_r4 : List Cond := [Cond.methodLink RX0 28 yX0_size, Cond.instanceMethod yX0_size, Cond.selects RX0 yX0_size yX0_size, Cond.code yX0_size cX0_size 2 (some .int), Cond.methodLink RX2 78 yX2_layerAbove, Cond.instanceMethod yX2_layerAbove, Cond.selects RX2 yX2_layerAbove yX2_layerAbove, Cond.code yX2_layerAbove cX2_layerAbove 4 (some .int), Cond.methodLink RX2 85 Lib.Math.max.name, Cond.static Lib.Math.max.name, Cond.initialized "java/lang/Math", Cond.code Lib.Math.max.name Lib.Math.max.code 2 (some .int)]
def wsX5_look : List Cond := .code yX5_look cX5_look 1 (some (.object "HidingBoxes$Picture")) :: ((wsX5_look_r1 ++ (wsX5_look_r2 ++ (wsX5_look_r3 ++ wsX5_look_r4))) ++ wsX50 ++ wsX30 ++ wsX20 ++ wsX00)
def wsX5_ofBox_r1 : List Cond := [Cond.fieldLink RX5 10 "HidingBoxes" "now" "LHidingBoxes$Space;", Cond.fieldLink RX5 72 "HidingBoxes$Space" "boxes" "[LHidingBoxes$Box;", Cond.fieldLink RX5 168 "HidingBoxes$Picture" "layers" "[I", Cond.fieldLink RX5 88 "HidingBoxes$Box" "low" "[I", Cond.methodLink RX5 68 yX3_slotOf, Cond.instanceMethod yX3_slotOf, Cond.selects RX3 yX3_slotOf yX3_slotOf, Cond.initialized RX3, Cond.code yX3_slotOf cX3_slotOf 3 (some .int), Cond.fieldLink RX3 18 "HidingBoxes$Space" "count" "I", Cond.fieldLink RX3 11 "HidingBoxes$Space" "boxes" "[LHidingBoxes$Box;", Cond.fieldLink RX3 35 "HidingBoxes$Box" "number" "I", Cond.methodLink RX5 76 yX0_volume, Cond.instanceMethod yX0_volume, Cond.selects RX0 yX0_volume yX0_volume, Cond.initialized RX0, Cond.code yX0_volume cX0_volume 1 (some .int), Cond.methodLink RX0 28 yX0_size, Cond.instanceMethod yX0_size, Cond.selects RX0 yX0_size yX0_size, Cond.code yX0_size cX0_size 2 (some .int), Cond.fieldLink RX0 15 "HidingBoxes$Box" "high" "[I", Cond.fieldLink RX0 9 "HidingBoxes$Box" "low" "[I", Cond.methodLink RX5 159 yX5_look]
def wsX5_ofBox_r2 : List Cond := [Cond.instanceMethod yX5_look, Cond.selects RX5 yX5_look yX5_look, Cond.initialized RX5, Cond.code yX5_look cX5_look 1 (some (.object "HidingBoxes$Picture")), Cond.fieldLink RX5 39 "HidingBoxes" "picture" "LHidingBoxes$Picture;", Cond.methodLink RX5 125 yX2_look, Cond.instanceMethod yX2_look, Cond.selects RX2 yX2_look yX2_look, Cond.initialized RX2, Cond.code yX2_look cX2_look 3 none, Cond.fieldLink RX2 24 "HidingBoxes$Space" "count" "I", Cond.fieldLink RX2 30 "HidingBoxes$Picture" "count" "I", Cond.fieldLink RX2 9 "HidingBoxes$Picture" "hides" "[I", Cond.methodLink RX2 31 yX2_bitsHiddenBy, Cond.static yX2_bitsHiddenBy, Cond.code yX2_bitsHiddenBy cX2_bitsHiddenBy 4 (some .int), Cond.fieldLink RX2 42 "HidingBoxes$Space" "boxes" "[LHidingBoxes$Box;", Cond.methodLink RX2 46 yX0_directionOfHiding, Cond.instanceMethod yX0_directionOfHiding, Cond.selects RX0 yX0_directionOfHiding yX0_directionOfHiding, Cond.code yX0_directionOfHiding cX0_directionOfHiding 3 (some .int), Cond.methodLink RX0 40 yX0_overlapsOutlineOf, Cond.instanceMethod yX0_overlapsOutlineOf, Cond.selects RX0 yX0_overlapsOutlineOf yX0_overlapsOutlineOf]
def wsX5_ofBox_r3 : List Cond := [Cond.code yX0_overlapsOutlineOf cX0_overlapsOutlineOf 2 (some .boolean), Cond.methodLink RX0 36 yX0_meetsInDifference, Cond.instanceMethod yX0_meetsInDifference, Cond.selects RX0 yX0_meetsInDifference yX0_meetsInDifference, Cond.code yX0_meetsInDifference cX0_meetsInDifference 4 (some .boolean), Cond.methodLink RX2 35 yX2_followChains, Cond.instanceMethod yX2_followChains, Cond.selects RX2 yX2_followChains yX2_followChains, Cond.code yX2_followChains cX2_followChains 3 none, Cond.fieldLink RX2 15 "HidingBoxes$Picture" "chains" "[I", Cond.methodLink RX2 52 arraycopyName, Cond.native arraycopyName, Cond.static arraycopyName, Cond.initialized "java/lang/System", Cond.methodLink RX2 58 yX2_hasBit, Cond.static yX2_hasBit, Cond.code yX2_hasBit cX2_hasBit 2 (some .boolean), Cond.methodLink RX2 38 yX2_draw, Cond.instanceMethod yX2_draw, Cond.selects RX2 yX2_draw yX2_draw, Cond.code yX2_draw cX2_draw 4 none, Cond.fieldLink RX2 21 "HidingBoxes$Picture" "layers" "[I", Cond.fieldLink RX2 68 "HidingBoxes$Picture" "drawnBits" "I", Cond.fieldLink RX2 71 "HidingBoxes$Picture" "drawnCount" "I"]
def wsX5_ofBox_r4 : List Cond := [Cond.fieldLink RX2 18 "HidingBoxes$Picture" "order" "[I", Cond.methodLink RX2 62 yJ7_fill_53178, Cond.static yJ7_fill_53178, Cond.initialized RJ7, Cond.code yJ7_fill_53178 cJ7_fill_53178 4 none, Cond.methodLink RX2 74 yX2_nextToDraw, Cond.instanceMethod yX2_nextToDraw, Cond.selects RX2 yX2_nextToDraw yX2_nextToDraw, Cond.code yX2_nextToDraw cX2_nextToDraw 5 (some .int), Cond.methodLink RX2 82 yX3_weightInDrawing, Cond.instanceMethod yX3_weightInDrawing, Cond.selects RX3 yX3_weightInDrawing yX3_weightInDrawing, Cond.code yX3_weightInDrawing cX3_weightInDrawing 2 (some .int), Cond.fieldLink RX3 28 "HidingBoxes$Space" "rule" "I", Cond.methodLink RX3 57 yX0_sumOfCorner, Cond.instanceMethod yX0_sumOfCorner, Cond.selects RX0 yX0_sumOfCorner yX0_sumOfCorner, Cond.code yX0_sumOfCorner cX0_sumOfCorner 1 (some .int), Cond.methodLink RX3 61 yX0_volume, Cond.methodLink RX2 78 yX2_layerAbove, Cond.instanceMethod yX2_layerAbove, Cond.selects RX2 yX2_layerAbove yX2_layerAbove, Cond.code yX2_layerAbove cX2_layerAbove 4 (some .int), Cond.methodLink RX2 85 Lib.Math.max.name]
def wsX5_ofBox_r5 : List Cond := [Cond.static Lib.Math.max.name, Cond.initialized "java/lang/Math", Cond.code Lib.Math.max.name Lib.Math.max.code 2 (some .int), Cond.methodLink RX5 162 yX2_hiddenBy, Cond.instanceMethod yX2_hiddenBy, Cond.selects RX2 yX2_hiddenBy yX2_hiddenBy, Cond.code yX2_hiddenBy cX2_hiddenBy 2 (some .int), Cond.methodLink RX2 91 yJ6_bitCount_0f7a4, Cond.static yJ6_bitCount_0f7a4, Cond.initialized RJ6, Cond.code yJ6_bitCount_0f7a4 cJ6_bitCount_0f7a4 1 (some .int), Cond.constant RJ6 265 (1431655765), Cond.constant RJ6 266 (858993459), Cond.constant RJ6 267 (252645135), Cond.methodLink RX5 165 yX2_hidersOf, Cond.instanceMethod yX2_hidersOf, Cond.selects RX2 yX2_hidersOf yX2_hidersOf, Cond.code yX2_hidersOf cX2_hidersOf 4 (some .int), Cond.methodLink RX5 171 yX2_shortestRingOf, Cond.instanceMethod yX2_shortestRingOf, Cond.selects RX2 yX2_shortestRingOf yX2_shortestRingOf, Cond.code yX2_shortestRingOf cX2_shortestRingOf 4 (some .int), Cond.methodLink RX2 106 yX2_bitsHiddenByAll, Cond.instanceMethod yX2_bitsHiddenByAll]
def wsX5_ofBox_r6 : List Cond := [Cond.selects RX2 yX2_bitsHiddenByAll yX2_bitsHiddenByAll, Cond.code yX2_bitsHiddenByAll cX2_bitsHiddenByAll 4 (some .int), Cond.methodLink RX5 174 yX3_supportsOf, Cond.instanceMethod yX3_supportsOf, Cond.selects RX3 yX3_supportsOf yX3_supportsOf, Cond.code yX3_supportsOf cX3_supportsOf 5 (some .int), Cond.fieldLink RX3 54 "HidingBoxes$Box" "high" "[I", Cond.fieldLink RX3 50 "HidingBoxes$Box" "low" "[I", Cond.methodLink RX3 64 yX0_isBelow, Cond.instanceMethod yX0_isBelow, Cond.selects RX0 yX0_isBelow yX0_isBelow, Cond.code yX0_isBelow cX0_isBelow 2 (some .boolean), Cond.methodLink RX0 32 yX0_meets, Cond.instanceMethod yX0_meets, Cond.selects RX0 yX0_meets yX0_meets, Cond.code yX0_meets cX0_meets 3 (some .boolean), Cond.methodLink RX5 177 yX3_boxesBelow, Cond.instanceMethod yX3_boxesBelow, Cond.selects RX3 yX3_boxesBelow yX3_boxesBelow, Cond.code yX3_boxesBelow cX3_boxesBelow 4 (some .int), Cond.methodLink RX5 180 yX3_shadowOn, Cond.instanceMethod yX3_shadowOn, Cond.selects RX3 yX3_shadowOn yX3_shadowOn, Cond.code yX3_shadowOn cX3_shadowOn 7 (some .int)]
def wsX5_ofBox_r7 : List Cond := [Cond.methodLink RX3 73 yX0_coversRow, Cond.instanceMethod yX0_coversRow, Cond.selects RX0 yX0_coversRow yX0_coversRow, Cond.code yX0_coversRow cX0_coversRow 2 (some .boolean), Cond.methodLink RX3 77 yX0_rowOfCells, Cond.instanceMethod yX0_rowOfCells, Cond.selects RX0 yX0_rowOfCells yX0_rowOfCells, Cond.code yX0_rowOfCells cX0_rowOfCells 1 (some .int), Cond.methodLink RX3 80 yJ6_bitCount_0f7a4]
def wsX5_ofBox : List Cond := .code yX5_ofBox cX5_ofBox 4 (some .int) :: ((wsX5_ofBox_r1 ++ (wsX5_ofBox_r2 ++ (wsX5_ofBox_r3 ++ (wsX5_ofBox_r4 ++ (wsX5_ofBox_r5 ++ (wsX5_ofBox_r6 ++ wsX5_ofBox_r7)))))) ++ wsX50 ++ wsX30 ++ wsX20 ++ wsX00)
def wsX5_pair_r1 : List Cond := [Cond.fieldLink RX5 10 "HidingBoxes" "now" "LHidingBoxes$Space;", Cond.fieldLink RX5 72 "HidingBoxes$Space" "boxes" "[LHidingBoxes$Box;", Cond.methodLink RX5 68 yX3_slotOf, Cond.instanceMethod yX3_slotOf, Cond.selects RX3 yX3_slotOf yX3_slotOf, Cond.initialized RX3, Cond.code yX3_slotOf cX3_slotOf 3 (some .int), Cond.fieldLink RX3 18 "HidingBoxes$Space" "count" "I", Cond.fieldLink RX3 11 "HidingBoxes$Space" "boxes" "[LHidingBoxes$Box;", Cond.fieldLink RX3 35 "HidingBoxes$Box" "number" "I", Cond.methodLink RX5 183 yX0_directionOfHiding, Cond.instanceMethod yX0_directionOfHiding, Cond.selects RX0 yX0_directionOfHiding yX0_directionOfHiding, Cond.initialized RX0, Cond.code yX0_directionOfHiding cX0_directionOfHiding 3 (some .int), Cond.fieldLink RX0 9 "HidingBoxes$Box" "low" "[I", Cond.fieldLink RX0 15 "HidingBoxes$Box" "high" "[I", Cond.methodLink RX0 40 yX0_overlapsOutlineOf, Cond.instanceMethod yX0_overlapsOutlineOf, Cond.selects RX0 yX0_overlapsOutlineOf yX0_overlapsOutlineOf, Cond.code yX0_overlapsOutlineOf cX0_overlapsOutlineOf 2 (some .boolean), Cond.methodLink RX0 36 yX0_meetsInDifference, Cond.instanceMethod yX0_meetsInDifference, Cond.selects RX0 yX0_meetsInDifference yX0_meetsInDifference]
def wsX5_pair_r2 : List Cond := [Cond.code yX0_meetsInDifference cX0_meetsInDifference 4 (some .boolean)]
def wsX5_pair : List Cond := .code yX5_pair cX5_pair 7 (some .int) :: ((wsX5_pair_r1 ++ wsX5_pair_r2) ++ wsX50 ++ wsX30 ++ wsX00)
def wsX5_drawn_r1 : List Cond := [Cond.fieldLink RX5 10 "HidingBoxes" "now" "LHidingBoxes$Space;", Cond.fieldLink RX5 72 "HidingBoxes$Space" "boxes" "[LHidingBoxes$Box;", Cond.fieldLink RX5 156 "HidingBoxes$Box" "number" "I", Cond.methodLink RX5 159 yX5_look, Cond.instanceMethod yX5_look, Cond.selects RX5 yX5_look yX5_look, Cond.initialized RX5, Cond.code yX5_look cX5_look 1 (some (.object "HidingBoxes$Picture")), Cond.fieldLink RX5 39 "HidingBoxes" "picture" "LHidingBoxes$Picture;", Cond.methodLink RX5 125 yX2_look, Cond.instanceMethod yX2_look, Cond.selects RX2 yX2_look yX2_look, Cond.initialized RX2, Cond.code yX2_look cX2_look 3 none, Cond.fieldLink RX2 24 "HidingBoxes$Space" "count" "I", Cond.fieldLink RX2 30 "HidingBoxes$Picture" "count" "I", Cond.fieldLink RX2 9 "HidingBoxes$Picture" "hides" "[I", Cond.methodLink RX2 31 yX2_bitsHiddenBy, Cond.static yX2_bitsHiddenBy, Cond.code yX2_bitsHiddenBy cX2_bitsHiddenBy 4 (some .int), Cond.fieldLink RX2 42 "HidingBoxes$Space" "boxes" "[LHidingBoxes$Box;", Cond.methodLink RX2 46 yX0_directionOfHiding, Cond.instanceMethod yX0_directionOfHiding, Cond.selects RX0 yX0_directionOfHiding yX0_directionOfHiding]
def wsX5_drawn_r2 : List Cond := [Cond.initialized RX0, Cond.code yX0_directionOfHiding cX0_directionOfHiding 3 (some .int), Cond.fieldLink RX0 9 "HidingBoxes$Box" "low" "[I", Cond.fieldLink RX0 15 "HidingBoxes$Box" "high" "[I", Cond.methodLink RX0 40 yX0_overlapsOutlineOf, Cond.instanceMethod yX0_overlapsOutlineOf, Cond.selects RX0 yX0_overlapsOutlineOf yX0_overlapsOutlineOf, Cond.code yX0_overlapsOutlineOf cX0_overlapsOutlineOf 2 (some .boolean), Cond.methodLink RX0 36 yX0_meetsInDifference, Cond.instanceMethod yX0_meetsInDifference, Cond.selects RX0 yX0_meetsInDifference yX0_meetsInDifference, Cond.code yX0_meetsInDifference cX0_meetsInDifference 4 (some .boolean), Cond.methodLink RX2 35 yX2_followChains, Cond.instanceMethod yX2_followChains, Cond.selects RX2 yX2_followChains yX2_followChains, Cond.code yX2_followChains cX2_followChains 3 none, Cond.fieldLink RX2 15 "HidingBoxes$Picture" "chains" "[I", Cond.methodLink RX2 52 arraycopyName, Cond.native arraycopyName, Cond.static arraycopyName, Cond.initialized "java/lang/System", Cond.methodLink RX2 58 yX2_hasBit, Cond.static yX2_hasBit, Cond.code yX2_hasBit cX2_hasBit 2 (some .boolean)]
def wsX5_drawn_r3 : List Cond := [Cond.methodLink RX2 38 yX2_draw, Cond.instanceMethod yX2_draw, Cond.selects RX2 yX2_draw yX2_draw, Cond.code yX2_draw cX2_draw 4 none, Cond.fieldLink RX2 21 "HidingBoxes$Picture" "layers" "[I", Cond.fieldLink RX2 68 "HidingBoxes$Picture" "drawnBits" "I", Cond.fieldLink RX2 71 "HidingBoxes$Picture" "drawnCount" "I", Cond.fieldLink RX2 18 "HidingBoxes$Picture" "order" "[I", Cond.methodLink RX2 62 yJ7_fill_53178, Cond.static yJ7_fill_53178, Cond.initialized RJ7, Cond.code yJ7_fill_53178 cJ7_fill_53178 4 none, Cond.methodLink RX2 74 yX2_nextToDraw, Cond.instanceMethod yX2_nextToDraw, Cond.selects RX2 yX2_nextToDraw yX2_nextToDraw, Cond.code yX2_nextToDraw cX2_nextToDraw 5 (some .int), Cond.methodLink RX2 82 yX3_weightInDrawing, Cond.instanceMethod yX3_weightInDrawing, Cond.selects RX3 yX3_weightInDrawing yX3_weightInDrawing, Cond.initialized RX3, Cond.code yX3_weightInDrawing cX3_weightInDrawing 2 (some .int), Cond.fieldLink RX3 28 "HidingBoxes$Space" "rule" "I", Cond.fieldLink RX3 11 "HidingBoxes$Space" "boxes" "[LHidingBoxes$Box;", Cond.methodLink RX3 57 yX0_sumOfCorner]
def wsX5_drawn_r4 : List Cond := [Cond.instanceMethod yX0_sumOfCorner, Cond.selects RX0 yX0_sumOfCorner yX0_sumOfCorner, Cond.code yX0_sumOfCorner cX0_sumOfCorner 1 (some .int), Cond.methodLink RX3 61 yX0_volume, Cond.instanceMethod yX0_volume, Cond.selects RX0 yX0_volume yX0_volume, Cond.code yX0_volume cX0_volume 1 (some .int), Cond.methodLink RX0 28 yX0_size, Cond.instanceMethod yX0_size, Cond.selects RX0 yX0_size yX0_size, Cond.code yX0_size cX0_size 2 (some .int), Cond.methodLink RX2 78 yX2_layerAbove, Cond.instanceMethod yX2_layerAbove, Cond.selects RX2 yX2_layerAbove yX2_layerAbove, Cond.code yX2_layerAbove cX2_layerAbove 4 (some .int), Cond.methodLink RX2 85 Lib.Math.max.name, Cond.static Lib.Math.max.name, Cond.initialized "java/lang/Math", Cond.code Lib.Math.max.name Lib.Math.max.code 2 (some .int), Cond.methodLink RX5 187 yX2_slotDrawn, Cond.instanceMethod yX2_slotDrawn, Cond.selects RX2 yX2_slotDrawn yX2_slotDrawn, Cond.code yX2_slotDrawn cX2_slotDrawn 2 (some .int)]
def wsX5_drawn : List Cond := .code yX5_drawn cX5_drawn 3 (some .int) :: ((wsX5_drawn_r1 ++ (wsX5_drawn_r2 ++ (wsX5_drawn_r3 ++ wsX5_drawn_r4))) ++ wsX50 ++ wsX30 ++ wsX00 ++ wsX20)
def wsX5_total_r1 : List Cond := [Cond.fieldLink RX5 10 "HidingBoxes" "now" "LHidingBoxes$Space;", Cond.fieldLink RX5 118 "HidingBoxes$Space" "count" "I", Cond.fieldLink RX5 190 "HidingBoxes$Space" "nextNumber" "I", Cond.fieldLink RX5 196 "HidingBoxes$Picture" "drawnCount" "I", Cond.fieldLink RX5 208 "HidingBoxes$Space" "splits" "I", Cond.fieldLink RX5 132 "HidingBoxes$Space" "rule" "I", Cond.fieldLink RX5 25 "HidingBoxes" "history" "LHidingBoxes$History;", Cond.fieldLink RX5 152 "HidingBoxes$History" "count" "I", Cond.fieldLink RX5 32 "HidingBoxes" "text" "LHidingBoxes$Text;", Cond.fieldLink RX5 139 "HidingBoxes$Text" "length" "I", Cond.methodLink RX5 159 yX5_look, Cond.instanceMethod yX5_look, Cond.selects RX5 yX5_look yX5_look, Cond.initialized RX5, Cond.code yX5_look cX5_look 1 (some (.object "HidingBoxes$Picture")), Cond.fieldLink RX5 39 "HidingBoxes" "picture" "LHidingBoxes$Picture;", Cond.methodLink RX5 125 yX2_look, Cond.instanceMethod yX2_look, Cond.selects RX2 yX2_look yX2_look, Cond.initialized RX2, Cond.code yX2_look cX2_look 3 none, Cond.fieldLink RX2 24 "HidingBoxes$Space" "count" "I", Cond.fieldLink RX2 30 "HidingBoxes$Picture" "count" "I", Cond.fieldLink RX2 9 "HidingBoxes$Picture" "hides" "[I"]
def wsX5_total_r2 : List Cond := [Cond.methodLink RX2 31 yX2_bitsHiddenBy, Cond.static yX2_bitsHiddenBy, Cond.code yX2_bitsHiddenBy cX2_bitsHiddenBy 4 (some .int), Cond.fieldLink RX2 42 "HidingBoxes$Space" "boxes" "[LHidingBoxes$Box;", Cond.methodLink RX2 46 yX0_directionOfHiding, Cond.instanceMethod yX0_directionOfHiding, Cond.selects RX0 yX0_directionOfHiding yX0_directionOfHiding, Cond.initialized RX0, Cond.code yX0_directionOfHiding cX0_directionOfHiding 3 (some .int), Cond.fieldLink RX0 9 "HidingBoxes$Box" "low" "[I", Cond.fieldLink RX0 15 "HidingBoxes$Box" "high" "[I", Cond.methodLink RX0 40 yX0_overlapsOutlineOf, Cond.instanceMethod yX0_overlapsOutlineOf, Cond.selects RX0 yX0_overlapsOutlineOf yX0_overlapsOutlineOf, Cond.code yX0_overlapsOutlineOf cX0_overlapsOutlineOf 2 (some .boolean), Cond.methodLink RX0 36 yX0_meetsInDifference, Cond.instanceMethod yX0_meetsInDifference, Cond.selects RX0 yX0_meetsInDifference yX0_meetsInDifference, Cond.code yX0_meetsInDifference cX0_meetsInDifference 4 (some .boolean), Cond.methodLink RX2 35 yX2_followChains, Cond.instanceMethod yX2_followChains, Cond.selects RX2 yX2_followChains yX2_followChains, Cond.code yX2_followChains cX2_followChains 3 none, Cond.fieldLink RX2 15 "HidingBoxes$Picture" "chains" "[I"]
def wsX5_total_r3 : List Cond := [Cond.methodLink RX2 52 arraycopyName, Cond.native arraycopyName, Cond.static arraycopyName, Cond.initialized "java/lang/System", Cond.methodLink RX2 58 yX2_hasBit, Cond.static yX2_hasBit, Cond.code yX2_hasBit cX2_hasBit 2 (some .boolean), Cond.methodLink RX2 38 yX2_draw, Cond.instanceMethod yX2_draw, Cond.selects RX2 yX2_draw yX2_draw, Cond.code yX2_draw cX2_draw 4 none, Cond.fieldLink RX2 21 "HidingBoxes$Picture" "layers" "[I", Cond.fieldLink RX2 68 "HidingBoxes$Picture" "drawnBits" "I", Cond.fieldLink RX2 71 "HidingBoxes$Picture" "drawnCount" "I", Cond.fieldLink RX2 18 "HidingBoxes$Picture" "order" "[I", Cond.methodLink RX2 62 yJ7_fill_53178, Cond.static yJ7_fill_53178, Cond.initialized RJ7, Cond.code yJ7_fill_53178 cJ7_fill_53178 4 none, Cond.methodLink RX2 74 yX2_nextToDraw, Cond.instanceMethod yX2_nextToDraw, Cond.selects RX2 yX2_nextToDraw yX2_nextToDraw, Cond.code yX2_nextToDraw cX2_nextToDraw 5 (some .int), Cond.methodLink RX2 82 yX3_weightInDrawing]
def wsX5_total_r4 : List Cond := [Cond.instanceMethod yX3_weightInDrawing, Cond.selects RX3 yX3_weightInDrawing yX3_weightInDrawing, Cond.initialized RX3, Cond.code yX3_weightInDrawing cX3_weightInDrawing 2 (some .int), Cond.fieldLink RX3 28 "HidingBoxes$Space" "rule" "I", Cond.fieldLink RX3 11 "HidingBoxes$Space" "boxes" "[LHidingBoxes$Box;", Cond.methodLink RX3 57 yX0_sumOfCorner, Cond.instanceMethod yX0_sumOfCorner, Cond.selects RX0 yX0_sumOfCorner yX0_sumOfCorner, Cond.code yX0_sumOfCorner cX0_sumOfCorner 1 (some .int), Cond.methodLink RX3 61 yX0_volume, Cond.instanceMethod yX0_volume, Cond.selects RX0 yX0_volume yX0_volume, Cond.code yX0_volume cX0_volume 1 (some .int), Cond.methodLink RX0 28 yX0_size, Cond.instanceMethod yX0_size, Cond.selects RX0 yX0_size yX0_size, Cond.code yX0_size cX0_size 2 (some .int), Cond.methodLink RX2 78 yX2_layerAbove, Cond.instanceMethod yX2_layerAbove, Cond.selects RX2 yX2_layerAbove yX2_layerAbove, Cond.code yX2_layerAbove cX2_layerAbove 4 (some .int), Cond.methodLink RX2 85 Lib.Math.max.name, Cond.static Lib.Math.max.name]
def wsX5_total_r5 : List Cond := [Cond.initialized "java/lang/Math", Cond.code Lib.Math.max.name Lib.Math.max.code 2 (some .int), Cond.methodLink RX5 193 yX2_hidings, Cond.instanceMethod yX2_hidings, Cond.selects RX2 yX2_hidings yX2_hidings, Cond.code yX2_hidings cX2_hidings 3 (some .int), Cond.methodLink RX2 96 yX2_hiddenBy, Cond.instanceMethod yX2_hiddenBy, Cond.selects RX2 yX2_hiddenBy yX2_hiddenBy, Cond.code yX2_hiddenBy cX2_hiddenBy 2 (some .int), Cond.methodLink RX2 91 yJ6_bitCount_0f7a4, Cond.static yJ6_bitCount_0f7a4, Cond.initialized RJ6, Cond.code yJ6_bitCount_0f7a4 cJ6_bitCount_0f7a4 1 (some .int), Cond.constant RJ6 265 (1431655765), Cond.constant RJ6 266 (858993459), Cond.constant RJ6 267 (252645135), Cond.methodLink RX5 199 yX2_boxesInRings, Cond.instanceMethod yX2_boxesInRings, Cond.selects RX2 yX2_boxesInRings yX2_boxesInRings, Cond.code yX2_boxesInRings cX2_boxesInRings 3 (some .int), Cond.methodLink RX2 99 yX2_isInRing, Cond.instanceMethod yX2_isInRing, Cond.selects RX2 yX2_isInRing yX2_isInRing]
def wsX5_total_r6 : List Cond := [Cond.code yX2_isInRing cX2_isInRing 2 (some .boolean), Cond.methodLink RX5 202 yX2_shortestRing, Cond.instanceMethod yX2_shortestRing, Cond.selects RX2 yX2_shortestRing yX2_shortestRing, Cond.code yX2_shortestRing cX2_shortestRing 4 (some .int), Cond.methodLink RX2 103 yX2_shortestRingOf, Cond.instanceMethod yX2_shortestRingOf, Cond.selects RX2 yX2_shortestRingOf yX2_shortestRingOf, Cond.code yX2_shortestRingOf cX2_shortestRingOf 4 (some .int), Cond.methodLink RX2 106 yX2_bitsHiddenByAll, Cond.instanceMethod yX2_bitsHiddenByAll, Cond.selects RX2 yX2_bitsHiddenByAll yX2_bitsHiddenByAll, Cond.code yX2_bitsHiddenByAll cX2_bitsHiddenByAll 4 (some .int), Cond.methodLink RX5 205 yX2_greatestLayer, Cond.instanceMethod yX2_greatestLayer, Cond.selects RX2 yX2_greatestLayer yX2_greatestLayer, Cond.code yX2_greatestLayer cX2_greatestLayer 3 (some .int), Cond.methodLink RX5 211 yX3_volume, Cond.instanceMethod yX3_volume, Cond.selects RX3 yX3_volume yX3_volume, Cond.code yX3_volume cX3_volume 3 (some .int), Cond.fieldLink RX3 18 "HidingBoxes$Space" "count" "I", Cond.methodLink RX5 212 yX3_shadow, Cond.instanceMethod yX3_shadow]
def wsX5_total_r7 : List Cond := [Cond.selects RX3 yX3_shadow yX3_shadow, Cond.code yX3_shadow cX3_shadow 3 (some .int), Cond.methodLink RX3 86 yX3_shadowOn, Cond.instanceMethod yX3_shadowOn, Cond.selects RX3 yX3_shadowOn yX3_shadowOn, Cond.code yX3_shadowOn cX3_shadowOn 7 (some .int), Cond.fieldLink RX3 50 "HidingBoxes$Box" "low" "[I", Cond.fieldLink RX3 54 "HidingBoxes$Box" "high" "[I", Cond.methodLink RX3 64 yX0_isBelow, Cond.instanceMethod yX0_isBelow, Cond.selects RX0 yX0_isBelow yX0_isBelow, Cond.code yX0_isBelow cX0_isBelow 2 (some .boolean), Cond.methodLink RX0 32 yX0_meets, Cond.instanceMethod yX0_meets, Cond.selects RX0 yX0_meets yX0_meets, Cond.code yX0_meets cX0_meets 3 (some .boolean), Cond.methodLink RX3 73 yX0_coversRow, Cond.instanceMethod yX0_coversRow, Cond.selects RX0 yX0_coversRow yX0_coversRow, Cond.code yX0_coversRow cX0_coversRow 2 (some .boolean), Cond.methodLink RX3 77 yX0_rowOfCells, Cond.instanceMethod yX0_rowOfCells, Cond.selects RX0 yX0_rowOfCells yX0_rowOfCells, Cond.code yX0_rowOfCells cX0_rowOfCells 1 (some .int)]
def wsX5_total_r8 : List Cond := [Cond.methodLink RX3 80 yJ6_bitCount_0f7a4]
def wsX5_total : List Cond := .code yX5_total cX5_total 2 (some .int) :: ((wsX5_total_r1 ++ (wsX5_total_r2 ++ (wsX5_total_r3 ++ (wsX5_total_r4 ++ (wsX5_total_r5 ++ (wsX5_total_r6 ++ (wsX5_total_r7 ++ wsX5_total_r8))))))) ++ wsX50 ++ wsX30 ++ wsX20 ++ wsX10 ++ wsX40 ++ wsX00)
def wsX5_waitsFor_r1 : List Cond := [Cond.fieldLink RX5 10 "HidingBoxes" "now" "LHidingBoxes$Space;", Cond.fieldLink RX5 72 "HidingBoxes$Space" "boxes" "[LHidingBoxes$Box;", Cond.fieldLink RX5 156 "HidingBoxes$Box" "number" "I", Cond.methodLink RX5 68 yX3_slotOf, Cond.instanceMethod yX3_slotOf, Cond.selects RX3 yX3_slotOf yX3_slotOf, Cond.initialized RX3, Cond.code yX3_slotOf cX3_slotOf 3 (some .int), Cond.fieldLink RX3 18 "HidingBoxes$Space" "count" "I", Cond.fieldLink RX3 11 "HidingBoxes$Space" "boxes" "[LHidingBoxes$Box;", Cond.fieldLink RX3 35 "HidingBoxes$Box" "number" "I", Cond.methodLink RX5 159 yX5_look, Cond.instanceMethod yX5_look, Cond.selects RX5 yX5_look yX5_look, Cond.initialized RX5, Cond.code yX5_look cX5_look 1 (some (.object "HidingBoxes$Picture")), Cond.fieldLink RX5 39 "HidingBoxes" "picture" "LHidingBoxes$Picture;", Cond.methodLink RX5 125 yX2_look, Cond.instanceMethod yX2_look, Cond.selects RX2 yX2_look yX2_look, Cond.initialized RX2, Cond.code yX2_look cX2_look 3 none, Cond.fieldLink RX2 24 "HidingBoxes$Space" "count" "I", Cond.fieldLink RX2 30 "HidingBoxes$Picture" "count" "I"]
def wsX5_waitsFor_r2 : List Cond := [Cond.fieldLink RX2 9 "HidingBoxes$Picture" "hides" "[I", Cond.methodLink RX2 31 yX2_bitsHiddenBy, Cond.static yX2_bitsHiddenBy, Cond.code yX2_bitsHiddenBy cX2_bitsHiddenBy 4 (some .int), Cond.fieldLink RX2 42 "HidingBoxes$Space" "boxes" "[LHidingBoxes$Box;", Cond.methodLink RX2 46 yX0_directionOfHiding, Cond.instanceMethod yX0_directionOfHiding, Cond.selects RX0 yX0_directionOfHiding yX0_directionOfHiding, Cond.initialized RX0, Cond.code yX0_directionOfHiding cX0_directionOfHiding 3 (some .int), Cond.fieldLink RX0 9 "HidingBoxes$Box" "low" "[I", Cond.fieldLink RX0 15 "HidingBoxes$Box" "high" "[I", Cond.methodLink RX0 40 yX0_overlapsOutlineOf, Cond.instanceMethod yX0_overlapsOutlineOf, Cond.selects RX0 yX0_overlapsOutlineOf yX0_overlapsOutlineOf, Cond.code yX0_overlapsOutlineOf cX0_overlapsOutlineOf 2 (some .boolean), Cond.methodLink RX0 36 yX0_meetsInDifference, Cond.instanceMethod yX0_meetsInDifference, Cond.selects RX0 yX0_meetsInDifference yX0_meetsInDifference, Cond.code yX0_meetsInDifference cX0_meetsInDifference 4 (some .boolean), Cond.methodLink RX2 35 yX2_followChains, Cond.instanceMethod yX2_followChains, Cond.selects RX2 yX2_followChains yX2_followChains, Cond.code yX2_followChains cX2_followChains 3 none]
def wsX5_waitsFor_r3 : List Cond := [Cond.fieldLink RX2 15 "HidingBoxes$Picture" "chains" "[I", Cond.methodLink RX2 52 arraycopyName, Cond.native arraycopyName, Cond.static arraycopyName, Cond.initialized "java/lang/System", Cond.methodLink RX2 58 yX2_hasBit, Cond.static yX2_hasBit, Cond.code yX2_hasBit cX2_hasBit 2 (some .boolean), Cond.methodLink RX2 38 yX2_draw, Cond.instanceMethod yX2_draw, Cond.selects RX2 yX2_draw yX2_draw, Cond.code yX2_draw cX2_draw 4 none, Cond.fieldLink RX2 21 "HidingBoxes$Picture" "layers" "[I", Cond.fieldLink RX2 68 "HidingBoxes$Picture" "drawnBits" "I", Cond.fieldLink RX2 71 "HidingBoxes$Picture" "drawnCount" "I", Cond.fieldLink RX2 18 "HidingBoxes$Picture" "order" "[I", Cond.methodLink RX2 62 yJ7_fill_53178, Cond.static yJ7_fill_53178, Cond.initialized RJ7, Cond.code yJ7_fill_53178 cJ7_fill_53178 4 none, Cond.methodLink RX2 74 yX2_nextToDraw, Cond.instanceMethod yX2_nextToDraw, Cond.selects RX2 yX2_nextToDraw yX2_nextToDraw, Cond.code yX2_nextToDraw cX2_nextToDraw 5 (some .int)]
def wsX5_waitsFor_r4 : List Cond := [Cond.methodLink RX2 82 yX3_weightInDrawing, Cond.instanceMethod yX3_weightInDrawing, Cond.selects RX3 yX3_weightInDrawing yX3_weightInDrawing, Cond.code yX3_weightInDrawing cX3_weightInDrawing 2 (some .int), Cond.fieldLink RX3 28 "HidingBoxes$Space" "rule" "I", Cond.methodLink RX3 57 yX0_sumOfCorner, Cond.instanceMethod yX0_sumOfCorner, Cond.selects RX0 yX0_sumOfCorner yX0_sumOfCorner, Cond.code yX0_sumOfCorner cX0_sumOfCorner 1 (some .int), Cond.methodLink RX3 61 yX0_volume, Cond.instanceMethod yX0_volume, Cond.selects RX0 yX0_volume yX0_volume, Cond.code yX0_volume cX0_volume 1 (some .int), Cond.methodLink RX0 28 yX0_size, Cond.instanceMethod yX0_size, Cond.selects RX0 yX0_size yX0_size, Cond.code yX0_size cX0_size 2 (some .int), Cond.methodLink RX2 78 yX2_layerAbove, Cond.instanceMethod yX2_layerAbove, Cond.selects RX2 yX2_layerAbove yX2_layerAbove, Cond.code yX2_layerAbove cX2_layerAbove 4 (some .int), Cond.methodLink RX2 85 Lib.Math.max.name, Cond.static Lib.Math.max.name, Cond.initialized "java/lang/Math"]
def wsX5_waitsFor_r5 : List Cond := [Cond.code Lib.Math.max.name Lib.Math.max.code 2 (some .int), Cond.methodLink RX5 215 yX2_firstNotDrawnUnder, Cond.instanceMethod yX2_firstNotDrawnUnder, Cond.selects RX2 yX2_firstNotDrawnUnder yX2_firstNotDrawnUnder, Cond.code yX2_firstNotDrawnUnder cX2_firstNotDrawnUnder 3 (some .int)]
def wsX5_waitsFor : List Cond := .code yX5_waitsFor cX5_waitsFor 4 (some .int) :: ((wsX5_waitsFor_r1 ++ (wsX5_waitsFor_r2 ++ (wsX5_waitsFor_r3 ++ (wsX5_waitsFor_r4 ++ wsX5_waitsFor_r5)))) ++ wsX50 ++ wsX30 ++ wsX00 ++ wsX20)
def wsX5_breaks_r1 : List Cond := [Cond.fieldLink RX5 16 "HidingBoxes" "trial" "LHidingBoxes$Space;", Cond.fieldLink RX5 10 "HidingBoxes" "now" "LHidingBoxes$Space;", Cond.methodLink RX5 57 yX3_copyFrom, Cond.instanceMethod yX3_copyFrom, Cond.selects RX3 yX3_copyFrom yX3_copyFrom, Cond.initialized RX3, Cond.code yX3_copyFrom cX3_copyFrom 3 none, Cond.fieldLink RX3 18 "HidingBoxes$Space" "count" "I", Cond.fieldLink RX3 22 "HidingBoxes$Space" "nextNumber" "I", Cond.fieldLink RX3 25 "HidingBoxes$Space" "splits" "I", Cond.fieldLink RX3 28 "HidingBoxes$Space" "rule" "I", Cond.fieldLink RX3 11 "HidingBoxes$Space" "boxes" "[LHidingBoxes$Box;", Cond.methodLink RX3 31 yX0_copyFrom, Cond.instanceMethod yX0_copyFrom, Cond.selects RX0 yX0_copyFrom yX0_copyFrom, Cond.initialized RX0, Cond.code yX0_copyFrom cX0_copyFrom 2 none, Cond.fieldLink RX0 18 "HidingBoxes$Box" "number" "I", Cond.fieldLink RX0 9 "HidingBoxes$Box" "low" "[I", Cond.methodLink RX0 22 arraycopyName, Cond.native arraycopyName, Cond.static arraycopyName, Cond.initialized "java/lang/System", Cond.fieldLink RX0 15 "HidingBoxes$Box" "high" "[I"]
def wsX5_breaks_r2 : List Cond := [Cond.methodLink RX5 114 yX5_breakOne, Cond.instanceMethod yX5_breakOne, Cond.selects RX5 yX5_breakOne yX5_breakOne, Cond.initialized RX5, Cond.code yX5_breakOne cX5_breakOne 6 (some .int), Cond.fieldLink RX5 39 "HidingBoxes" "picture" "LHidingBoxes$Picture;", Cond.fieldLink RX5 72 "HidingBoxes$Space" "boxes" "[LHidingBoxes$Box;", Cond.fieldLink RX5 88 "HidingBoxes$Box" "low" "[I", Cond.methodLink RX5 125 yX2_look, Cond.instanceMethod yX2_look, Cond.selects RX2 yX2_look yX2_look, Cond.initialized RX2, Cond.code yX2_look cX2_look 3 none, Cond.fieldLink RX2 24 "HidingBoxes$Space" "count" "I", Cond.fieldLink RX2 30 "HidingBoxes$Picture" "count" "I", Cond.fieldLink RX2 9 "HidingBoxes$Picture" "hides" "[I", Cond.methodLink RX2 31 yX2_bitsHiddenBy, Cond.static yX2_bitsHiddenBy, Cond.code yX2_bitsHiddenBy cX2_bitsHiddenBy 4 (some .int), Cond.fieldLink RX2 42 "HidingBoxes$Space" "boxes" "[LHidingBoxes$Box;", Cond.methodLink RX2 46 yX0_directionOfHiding, Cond.instanceMethod yX0_directionOfHiding, Cond.selects RX0 yX0_directionOfHiding yX0_directionOfHiding, Cond.code yX0_directionOfHiding cX0_directionOfHiding 3 (some .int)]
def wsX5_breaks_r3 : List Cond := [Cond.methodLink RX0 40 yX0_overlapsOutlineOf, Cond.instanceMethod yX0_overlapsOutlineOf, Cond.selects RX0 yX0_overlapsOutlineOf yX0_overlapsOutlineOf, Cond.code yX0_overlapsOutlineOf cX0_overlapsOutlineOf 2 (some .boolean), Cond.methodLink RX0 36 yX0_meetsInDifference, Cond.instanceMethod yX0_meetsInDifference, Cond.selects RX0 yX0_meetsInDifference yX0_meetsInDifference, Cond.code yX0_meetsInDifference cX0_meetsInDifference 4 (some .boolean), Cond.methodLink RX2 35 yX2_followChains, Cond.instanceMethod yX2_followChains, Cond.selects RX2 yX2_followChains yX2_followChains, Cond.code yX2_followChains cX2_followChains 3 none, Cond.fieldLink RX2 15 "HidingBoxes$Picture" "chains" "[I", Cond.methodLink RX2 52 arraycopyName, Cond.methodLink RX2 58 yX2_hasBit, Cond.static yX2_hasBit, Cond.code yX2_hasBit cX2_hasBit 2 (some .boolean), Cond.methodLink RX2 38 yX2_draw, Cond.instanceMethod yX2_draw, Cond.selects RX2 yX2_draw yX2_draw, Cond.code yX2_draw cX2_draw 4 none, Cond.fieldLink RX2 21 "HidingBoxes$Picture" "layers" "[I", Cond.fieldLink RX2 68 "HidingBoxes$Picture" "drawnBits" "I", Cond.fieldLink RX2 71 "HidingBoxes$Picture" "drawnCount" "I"]
def wsX5_breaks_r4 : List Cond := [Cond.fieldLink RX2 18 "HidingBoxes$Picture" "order" "[I", Cond.methodLink RX2 62 yJ7_fill_53178, Cond.static yJ7_fill_53178, Cond.initialized RJ7, Cond.code yJ7_fill_53178 cJ7_fill_53178 4 none, Cond.methodLink RX2 74 yX2_nextToDraw, Cond.instanceMethod yX2_nextToDraw, Cond.selects RX2 yX2_nextToDraw yX2_nextToDraw, Cond.code yX2_nextToDraw cX2_nextToDraw 5 (some .int), Cond.methodLink RX2 82 yX3_weightInDrawing, Cond.instanceMethod yX3_weightInDrawing, Cond.selects RX3 yX3_weightInDrawing yX3_weightInDrawing, Cond.code yX3_weightInDrawing cX3_weightInDrawing 2 (some .int), Cond.methodLink RX3 57 yX0_sumOfCorner, Cond.instanceMethod yX0_sumOfCorner, Cond.selects RX0 yX0_sumOfCorner yX0_sumOfCorner, Cond.code yX0_sumOfCorner cX0_sumOfCorner 1 (some .int), Cond.methodLink RX3 61 yX0_volume, Cond.instanceMethod yX0_volume, Cond.selects RX0 yX0_volume yX0_volume, Cond.code yX0_volume cX0_volume 1 (some .int), Cond.methodLink RX0 28 yX0_size, Cond.instanceMethod yX0_size, Cond.selects RX0 yX0_size yX0_size]
def wsX5_breaks_r5 : List Cond := [Cond.code yX0_size cX0_size 2 (some .int), Cond.methodLink RX2 78 yX2_layerAbove, Cond.instanceMethod yX2_layerAbove, Cond.selects RX2 yX2_layerAbove yX2_layerAbove, Cond.code yX2_layerAbove cX2_layerAbove 4 (some .int), Cond.methodLink RX2 85 Lib.Math.max.name, Cond.static Lib.Math.max.name, Cond.initialized "java/lang/Math", Cond.code Lib.Math.max.name Lib.Math.max.code 2 (some .int), Cond.methodLink RX5 227 yX2_greatestInRings, Cond.instanceMethod yX2_greatestInRings, Cond.selects RX2 yX2_greatestInRings yX2_greatestInRings, Cond.code yX2_greatestInRings cX2_greatestInRings 4 (some .int), Cond.methodLink RX2 99 yX2_isInRing, Cond.instanceMethod yX2_isInRing, Cond.selects RX2 yX2_isInRing yX2_isInRing, Cond.code yX2_isInRing cX2_isInRing 2 (some .boolean), Cond.methodLink RX2 109 yX0_volume, Cond.methodLink RX5 230 yX0_longestDirection, Cond.instanceMethod yX0_longestDirection, Cond.selects RX0 yX0_longestDirection yX0_longestDirection, Cond.code yX0_longestDirection cX0_longestDirection 3 (some .int), Cond.methodLink RX5 233 yX0_size, Cond.methodLink RX5 106 yX3_isFull]
def wsX5_breaks_r6 : List Cond := [Cond.instanceMethod yX3_isFull, Cond.selects RX3 yX3_isFull yX3_isFull, Cond.code yX3_isFull cX3_isFull 1 (some .boolean), Cond.methodLink RX5 110 yX3_cutInTwo, Cond.instanceMethod yX3_cutInTwo, Cond.selects RX3 yX3_cutInTwo yX3_cutInTwo, Cond.code yX3_cutInTwo cX3_cutInTwo 5 (some .int), Cond.fieldLink RX3 50 "HidingBoxes$Box" "low" "[I", Cond.fieldLink RX3 54 "HidingBoxes$Box" "high" "[I", Cond.methodLink RX3 46 yX3_append, Cond.instanceMethod yX3_append, Cond.selects RX3 yX3_append yX3_append, Cond.code yX3_append cX3_append 3 (some .int), Cond.fieldLink RX3 35 "HidingBoxes$Box" "number" "I", Cond.methodLink RX3 42 yX3_isFull]
def wsX5_breaks : List Cond := .code yX5_breaks cX5_breaks 3 (some .int) :: ((wsX5_breaks_r1 ++ (wsX5_breaks_r2 ++ (wsX5_breaks_r3 ++ (wsX5_breaks_r4 ++ (wsX5_breaks_r5 ++ wsX5_breaks_r6))))) ++ wsX50 ++ wsX30 ++ wsX00 ++ wsX20)
def wsX5_drawnWithout_r1 : List Cond := [Cond.fieldLink RX5 10 "HidingBoxes" "now" "LHidingBoxes$Space;", Cond.fieldLink RX5 16 "HidingBoxes" "trial" "LHidingBoxes$Space;", Cond.fieldLink RX5 39 "HidingBoxes" "picture" "LHidingBoxes$Picture;", Cond.fieldLink RX5 196 "HidingBoxes$Picture" "drawnCount" "I", Cond.methodLink RX5 68 yX3_slotOf, Cond.instanceMethod yX3_slotOf, Cond.selects RX3 yX3_slotOf yX3_slotOf, Cond.initialized RX3, Cond.code yX3_slotOf cX3_slotOf 3 (some .int), Cond.fieldLink RX3 18 "HidingBoxes$Space" "count" "I", Cond.fieldLink RX3 11 "HidingBoxes$Space" "boxes" "[LHidingBoxes$Box;", Cond.fieldLink RX3 35 "HidingBoxes$Box" "number" "I", Cond.methodLink RX5 57 yX3_copyFrom, Cond.instanceMethod yX3_copyFrom, Cond.selects RX3 yX3_copyFrom yX3_copyFrom, Cond.code yX3_copyFrom cX3_copyFrom 3 none, Cond.fieldLink RX3 22 "HidingBoxes$Space" "nextNumber" "I", Cond.fieldLink RX3 25 "HidingBoxes$Space" "splits" "I", Cond.fieldLink RX3 28 "HidingBoxes$Space" "rule" "I", Cond.methodLink RX3 31 yX0_copyFrom, Cond.instanceMethod yX0_copyFrom, Cond.selects RX0 yX0_copyFrom yX0_copyFrom, Cond.initialized RX0, Cond.code yX0_copyFrom cX0_copyFrom 2 none]
def wsX5_drawnWithout_r2 : List Cond := [Cond.fieldLink RX0 18 "HidingBoxes$Box" "number" "I", Cond.fieldLink RX0 9 "HidingBoxes$Box" "low" "[I", Cond.methodLink RX0 22 arraycopyName, Cond.native arraycopyName, Cond.static arraycopyName, Cond.initialized "java/lang/System", Cond.fieldLink RX0 15 "HidingBoxes$Box" "high" "[I", Cond.methodLink RX5 80 yX3_takeOut, Cond.instanceMethod yX3_takeOut, Cond.selects RX3 yX3_takeOut yX3_takeOut, Cond.code yX3_takeOut cX3_takeOut 3 none, Cond.methodLink RX5 125 yX2_look, Cond.instanceMethod yX2_look, Cond.selects RX2 yX2_look yX2_look, Cond.initialized RX2, Cond.code yX2_look cX2_look 3 none, Cond.fieldLink RX2 24 "HidingBoxes$Space" "count" "I", Cond.fieldLink RX2 30 "HidingBoxes$Picture" "count" "I", Cond.fieldLink RX2 9 "HidingBoxes$Picture" "hides" "[I", Cond.methodLink RX2 31 yX2_bitsHiddenBy, Cond.static yX2_bitsHiddenBy, Cond.code yX2_bitsHiddenBy cX2_bitsHiddenBy 4 (some .int), Cond.fieldLink RX2 42 "HidingBoxes$Space" "boxes" "[LHidingBoxes$Box;", Cond.methodLink RX2 46 yX0_directionOfHiding]
def wsX5_drawnWithout_r3 : List Cond := [Cond.instanceMethod yX0_directionOfHiding, Cond.selects RX0 yX0_directionOfHiding yX0_directionOfHiding, Cond.code yX0_directionOfHiding cX0_directionOfHiding 3 (some .int), Cond.methodLink RX0 40 yX0_overlapsOutlineOf, Cond.instanceMethod yX0_overlapsOutlineOf, Cond.selects RX0 yX0_overlapsOutlineOf yX0_overlapsOutlineOf, Cond.code yX0_overlapsOutlineOf cX0_overlapsOutlineOf 2 (some .boolean), Cond.methodLink RX0 36 yX0_meetsInDifference, Cond.instanceMethod yX0_meetsInDifference, Cond.selects RX0 yX0_meetsInDifference yX0_meetsInDifference, Cond.code yX0_meetsInDifference cX0_meetsInDifference 4 (some .boolean), Cond.methodLink RX2 35 yX2_followChains, Cond.instanceMethod yX2_followChains, Cond.selects RX2 yX2_followChains yX2_followChains, Cond.code yX2_followChains cX2_followChains 3 none, Cond.fieldLink RX2 15 "HidingBoxes$Picture" "chains" "[I", Cond.methodLink RX2 52 arraycopyName, Cond.methodLink RX2 58 yX2_hasBit, Cond.static yX2_hasBit, Cond.code yX2_hasBit cX2_hasBit 2 (some .boolean), Cond.methodLink RX2 38 yX2_draw, Cond.instanceMethod yX2_draw, Cond.selects RX2 yX2_draw yX2_draw, Cond.code yX2_draw cX2_draw 4 none]
def wsX5_drawnWithout_r4 : List Cond := [Cond.fieldLink RX2 21 "HidingBoxes$Picture" "layers" "[I", Cond.fieldLink RX2 68 "HidingBoxes$Picture" "drawnBits" "I", Cond.fieldLink RX2 71 "HidingBoxes$Picture" "drawnCount" "I", Cond.fieldLink RX2 18 "HidingBoxes$Picture" "order" "[I", Cond.methodLink RX2 62 yJ7_fill_53178, Cond.static yJ7_fill_53178, Cond.initialized RJ7, Cond.code yJ7_fill_53178 cJ7_fill_53178 4 none, Cond.methodLink RX2 74 yX2_nextToDraw, Cond.instanceMethod yX2_nextToDraw, Cond.selects RX2 yX2_nextToDraw yX2_nextToDraw, Cond.code yX2_nextToDraw cX2_nextToDraw 5 (some .int), Cond.methodLink RX2 82 yX3_weightInDrawing, Cond.instanceMethod yX3_weightInDrawing, Cond.selects RX3 yX3_weightInDrawing yX3_weightInDrawing, Cond.code yX3_weightInDrawing cX3_weightInDrawing 2 (some .int), Cond.methodLink RX3 57 yX0_sumOfCorner, Cond.instanceMethod yX0_sumOfCorner, Cond.selects RX0 yX0_sumOfCorner yX0_sumOfCorner, Cond.code yX0_sumOfCorner cX0_sumOfCorner 1 (some .int), Cond.methodLink RX3 61 yX0_volume, Cond.instanceMethod yX0_volume, Cond.selects RX0 yX0_volume yX0_volume, Cond.code yX0_volume cX0_volume 1 (some .int)]
def wsX5_drawnWithout_r5 : List Cond := [Cond.methodLink RX0 28 yX0_size, Cond.instanceMethod yX0_size, Cond.selects RX0 yX0_size yX0_size, Cond.code yX0_size cX0_size 2 (some .int), Cond.methodLink RX2 78 yX2_layerAbove, Cond.instanceMethod yX2_layerAbove, Cond.selects RX2 yX2_layerAbove yX2_layerAbove, Cond.code yX2_layerAbove cX2_layerAbove 4 (some .int), Cond.methodLink RX2 85 Lib.Math.max.name, Cond.static Lib.Math.max.name, Cond.initialized "java/lang/Math", Cond.code Lib.Math.max.name Lib.Math.max.code 2 (some .int)]
def wsX5_drawnWithout : List Cond := .code yX5_drawnWithout cX5_drawnWithout 3 (some .int) :: ((wsX5_drawnWithout_r1 ++ (wsX5_drawnWithout_r2 ++ (wsX5_drawnWithout_r3 ++ (wsX5_drawnWithout_r4 ++ wsX5_drawnWithout_r5)))) ++ wsX50 ++ wsX20 ++ wsX30 ++ wsX00)
def wsJ9_max_7cf53 : List Cond := .code yJ9_max_7cf53 cJ9_max_7cf53 2 (some .int) :: ([])
theorem dX0_init_0 : decode cX0_init 0 = .ok (.aload_n 0, 1) := by decide +kernel
theorem dX0_init_1 : decode cX0_init 1 = .ok (.invokespecial 3, 3) := by decide +kernel
theorem dX0_init_4 : decode cX0_init 4 = .ok (.aload_n 0, 1) := by decide +kernel
theorem dX0_init_5 : decode cX0_init 5 = .ok (.iconst 3, 1) := by decide +kernel
theorem dX0_init_6 : decode cX0_init 6 = .ok (.newarray .int, 2) := by decide +kernel
theorem dX0_init_8 : decode cX0_init 8 = .ok (.putfield 9, 3) := by decide +kernel
theorem dX0_init_11 : decode cX0_init 11 = .ok (.aload_n 0, 1) := by decide +kernel
theorem dX0_init_12 : decode cX0_init 12 = .ok (.iconst 3, 1) := by decide +kernel
theorem dX0_init_13 : decode cX0_init 13 = .ok (.newarray .int, 2) := by decide +kernel
theorem dX0_init_15 : decode cX0_init 15 = .ok (.putfield 15, 3) := by decide +kernel
theorem dX0_init_18 : decode cX0_init 18 = .ok (.return_, 1) := by decide +kernel
theorem dX0_copyFrom_0 : decode cX0_copyFrom 0 = .ok (.aload_n 0, 1) := by decide +kernel
theorem dX0_copyFrom_1 : decode cX0_copyFrom 1 = .ok (.aload_n 1, 1) := by decide +kernel
theorem dX0_copyFrom_2 : decode cX0_copyFrom 2 = .ok (.getfield 18, 3) := by decide +kernel
theorem dX0_copyFrom_5 : decode cX0_copyFrom 5 = .ok (.putfield 18, 3) := by decide +kernel
theorem dX0_copyFrom_8 : decode cX0_copyFrom 8 = .ok (.aload_n 1, 1) := by decide +kernel
theorem dX0_copyFrom_9 : decode cX0_copyFrom 9 = .ok (.getfield 9, 3) := by decide +kernel
theorem dX0_copyFrom_12 : decode cX0_copyFrom 12 = .ok (.iconst 0, 1) := by decide +kernel
theorem dX0_copyFrom_13 : decode cX0_copyFrom 13 = .ok (.aload_n 0, 1) := by decide +kernel
theorem dX0_copyFrom_14 : decode cX0_copyFrom 14 = .ok (.getfield 9, 3) := by decide +kernel
theorem dX0_copyFrom_17 : decode cX0_copyFrom 17 = .ok (.iconst 0, 1) := by decide +kernel
theorem dX0_copyFrom_18 : decode cX0_copyFrom 18 = .ok (.iconst 3, 1) := by decide +kernel
theorem dX0_copyFrom_19 : decode cX0_copyFrom 19 = .ok (.invokestatic 22, 3) := by decide +kernel
theorem dX0_copyFrom_22 : decode cX0_copyFrom 22 = .ok (.aload_n 1, 1) := by decide +kernel
theorem dX0_copyFrom_23 : decode cX0_copyFrom 23 = .ok (.getfield 15, 3) := by decide +kernel
theorem dX0_copyFrom_26 : decode cX0_copyFrom 26 = .ok (.iconst 0, 1) := by decide +kernel
theorem dX0_copyFrom_27 : decode cX0_copyFrom 27 = .ok (.aload_n 0, 1) := by decide +kernel
theorem dX0_copyFrom_28 : decode cX0_copyFrom 28 = .ok (.getfield 15, 3) := by decide +kernel
theorem dX0_copyFrom_31 : decode cX0_copyFrom 31 = .ok (.iconst 0, 1) := by decide +kernel
theorem dX0_copyFrom_32 : decode cX0_copyFrom 32 = .ok (.iconst 3, 1) := by decide +kernel
theorem dX0_copyFrom_33 : decode cX0_copyFrom 33 = .ok (.invokestatic 22, 3) := by decide +kernel
theorem dX0_copyFrom_36 : decode cX0_copyFrom 36 = .ok (.return_, 1) := by decide +kernel
theorem dX0_lay_0 : decode cX0_lay 0 = .ok (.iload_n 2, 1) := by decide +kernel
theorem dX0_lay_1 : decode cX0_lay 1 = .ok (.ifCond .lt 28, 3) := by decide +kernel
theorem dX0_lay_4 : decode cX0_lay 4 = .ok (.iload_n 2, 1) := by decide +kernel
theorem dX0_lay_5 : decode cX0_lay 5 = .ok (.bipush 31, 2) := by decide +kernel
theorem dX0_lay_7 : decode cX0_lay 7 = .ok (.if_icmp .gt 22, 3) := by decide +kernel
theorem dX0_lay_10 : decode cX0_lay 10 = .ok (.iload_n 3, 1) := by decide +kernel
theorem dX0_lay_11 : decode cX0_lay 11 = .ok (.iconst 1, 1) := by decide +kernel
theorem dX0_lay_12 : decode cX0_lay 12 = .ok (.if_icmp .lt 17, 3) := by decide +kernel
theorem dX0_lay_15 : decode cX0_lay 15 = .ok (.iload_n 3, 1) := by decide +kernel
theorem dX0_lay_16 : decode cX0_lay 16 = .ok (.bipush 12, 2) := by decide +kernel
theorem dX0_lay_18 : decode cX0_lay 18 = .ok (.if_icmp .gt 11, 3) := by decide +kernel
theorem dX0_lay_21 : decode cX0_lay 21 = .ok (.iload_n 2, 1) := by decide +kernel
theorem dX0_lay_22 : decode cX0_lay 22 = .ok (.iload_n 3, 1) := by decide +kernel
theorem dX0_lay_23 : decode cX0_lay 23 = .ok (.iadd, 1) := by decide +kernel
theorem dX0_lay_24 : decode cX0_lay 24 = .ok (.bipush 32, 2) := by decide +kernel
theorem dX0_lay_26 : decode cX0_lay 26 = .ok (.if_icmp .le 5, 3) := by decide +kernel
theorem dX0_lay_29 : decode cX0_lay 29 = .ok (.iconst 0, 1) := by decide +kernel
theorem dX0_lay_30 : decode cX0_lay 30 = .ok (.ireturn, 1) := by decide +kernel
theorem dX0_lay_31 : decode cX0_lay 31 = .ok (.aload_n 0, 1) := by decide +kernel
theorem dX0_lay_32 : decode cX0_lay 32 = .ok (.getfield 9, 3) := by decide +kernel
theorem dX0_lay_35 : decode cX0_lay 35 = .ok (.iload_n 1, 1) := by decide +kernel
theorem dX0_lay_36 : decode cX0_lay 36 = .ok (.iload_n 2, 1) := by decide +kernel
theorem dX0_lay_37 : decode cX0_lay 37 = .ok (.iastore, 1) := by decide +kernel
theorem dX0_lay_38 : decode cX0_lay 38 = .ok (.aload_n 0, 1) := by decide +kernel
theorem dX0_lay_39 : decode cX0_lay 39 = .ok (.getfield 15, 3) := by decide +kernel
theorem dX0_lay_42 : decode cX0_lay 42 = .ok (.iload_n 1, 1) := by decide +kernel
theorem dX0_lay_43 : decode cX0_lay 43 = .ok (.iload_n 2, 1) := by decide +kernel
theorem dX0_lay_44 : decode cX0_lay 44 = .ok (.iload_n 3, 1) := by decide +kernel
theorem dX0_lay_45 : decode cX0_lay 45 = .ok (.iadd, 1) := by decide +kernel
theorem dX0_lay_46 : decode cX0_lay 46 = .ok (.iastore, 1) := by decide +kernel
theorem dX0_lay_47 : decode cX0_lay 47 = .ok (.iconst 1, 1) := by decide +kernel
theorem dX0_lay_48 : decode cX0_lay 48 = .ok (.ireturn, 1) := by decide +kernel
theorem dX0_shift_0 : decode cX0_shift 0 = .ok (.aload_n 0, 1) := by decide +kernel
theorem dX0_shift_1 : decode cX0_shift 1 = .ok (.getfield 9, 3) := by decide +kernel
theorem dX0_shift_4 : decode cX0_shift 4 = .ok (.iload_n 1, 1) := by decide +kernel
theorem dX0_shift_5 : decode cX0_shift 5 = .ok (.dup2, 1) := by decide +kernel
theorem dX0_shift_6 : decode cX0_shift 6 = .ok (.iaload, 1) := by decide +kernel
theorem dX0_shift_7 : decode cX0_shift 7 = .ok (.iload_n 2, 1) := by decide +kernel
theorem dX0_shift_8 : decode cX0_shift 8 = .ok (.iadd, 1) := by decide +kernel
theorem dX0_shift_9 : decode cX0_shift 9 = .ok (.iastore, 1) := by decide +kernel
theorem dX0_shift_10 : decode cX0_shift 10 = .ok (.aload_n 0, 1) := by decide +kernel
theorem dX0_shift_11 : decode cX0_shift 11 = .ok (.getfield 15, 3) := by decide +kernel
theorem dX0_shift_14 : decode cX0_shift 14 = .ok (.iload_n 1, 1) := by decide +kernel
theorem dX0_shift_15 : decode cX0_shift 15 = .ok (.dup2, 1) := by decide +kernel
theorem dX0_shift_16 : decode cX0_shift 16 = .ok (.iaload, 1) := by decide +kernel
theorem dX0_shift_17 : decode cX0_shift 17 = .ok (.iload_n 2, 1) := by decide +kernel
theorem dX0_shift_18 : decode cX0_shift 18 = .ok (.iadd, 1) := by decide +kernel
theorem dX0_shift_19 : decode cX0_shift 19 = .ok (.iastore, 1) := by decide +kernel
theorem dX0_shift_20 : decode cX0_shift 20 = .ok (.return_, 1) := by decide +kernel
theorem dX0_size_0 : decode cX0_size 0 = .ok (.aload_n 0, 1) := by decide +kernel
theorem dX0_size_1 : decode cX0_size 1 = .ok (.getfield 15, 3) := by decide +kernel
theorem dX0_size_4 : decode cX0_size 4 = .ok (.iload_n 1, 1) := by decide +kernel
theorem dX0_size_5 : decode cX0_size 5 = .ok (.iaload, 1) := by decide +kernel
theorem dX0_size_6 : decode cX0_size 6 = .ok (.aload_n 0, 1) := by decide +kernel
theorem dX0_size_7 : decode cX0_size 7 = .ok (.getfield 9, 3) := by decide +kernel
theorem dX0_size_10 : decode cX0_size 10 = .ok (.iload_n 1, 1) := by decide +kernel
theorem dX0_size_11 : decode cX0_size 11 = .ok (.iaload, 1) := by decide +kernel
theorem dX0_size_12 : decode cX0_size 12 = .ok (.isub, 1) := by decide +kernel
theorem dX0_size_13 : decode cX0_size 13 = .ok (.ireturn, 1) := by decide +kernel
set_option maxRecDepth 20000 in
theorem ggX0_volume_X0_size : GoodIn wsX0_volume wsX0_size := goodIn_r _ [5, 6, 7, 8, 9, 10] (by decide +kernel) (by decide +kernel)
set_option maxRecDepth 20000 in
theorem gX0_volume_X0_size : GoodIn wsX0_volume (wsV RX0 28 RX0 yX0_size wsX0_size) := goodIn_app (goodIn_of _ (by decide +kernel)) ggX0_volume_X0_size
theorem dX0_volume_0 : decode cX0_volume 0 = .ok (.aload_n 0, 1) := by decide +kernel
theorem dX0_volume_1 : decode cX0_volume 1 = .ok (.iconst 0, 1) := by decide +kernel
theorem dX0_volume_2 : decode cX0_volume 2 = .ok (.invokevirtual 28, 3) := by decide +kernel
theorem dX0_volume_5 : decode cX0_volume 5 = .ok (.aload_n 0, 1) := by decide +kernel
theorem dX0_volume_6 : decode cX0_volume 6 = .ok (.iconst 1, 1) := by decide +kernel
theorem dX0_volume_7 : decode cX0_volume 7 = .ok (.invokevirtual 28, 3) := by decide +kernel
theorem dX0_volume_10 : decode cX0_volume 10 = .ok (.imul, 1) := by decide +kernel
theorem dX0_volume_11 : decode cX0_volume 11 = .ok (.aload_n 0, 1) := by decide +kernel
theorem dX0_volume_12 : decode cX0_volume 12 = .ok (.iconst 2, 1) := by decide +kernel
theorem dX0_volume_13 : decode cX0_volume 13 = .ok (.invokevirtual 28, 3) := by decide +kernel
theorem dX0_volume_16 : decode cX0_volume 16 = .ok (.imul, 1) := by decide +kernel
theorem dX0_volume_17 : decode cX0_volume 17 = .ok (.ireturn, 1) := by decide +kernel
theorem dX0_sumOfCorner_0 : decode cX0_sumOfCorner 0 = .ok (.aload_n 0, 1) := by decide +kernel
theorem dX0_sumOfCorner_1 : decode cX0_sumOfCorner 1 = .ok (.getfield 9, 3) := by decide +kernel
theorem dX0_sumOfCorner_4 : decode cX0_sumOfCorner 4 = .ok (.iconst 0, 1) := by decide +kernel
theorem dX0_sumOfCorner_5 : decode cX0_sumOfCorner 5 = .ok (.iaload, 1) := by decide +kernel
theorem dX0_sumOfCorner_6 : decode cX0_sumOfCorner 6 = .ok (.aload_n 0, 1) := by decide +kernel
theorem dX0_sumOfCorner_7 : decode cX0_sumOfCorner 7 = .ok (.getfield 9, 3) := by decide +kernel
theorem dX0_sumOfCorner_10 : decode cX0_sumOfCorner 10 = .ok (.iconst 1, 1) := by decide +kernel
theorem dX0_sumOfCorner_11 : decode cX0_sumOfCorner 11 = .ok (.iaload, 1) := by decide +kernel
theorem dX0_sumOfCorner_12 : decode cX0_sumOfCorner 12 = .ok (.iadd, 1) := by decide +kernel
theorem dX0_sumOfCorner_13 : decode cX0_sumOfCorner 13 = .ok (.aload_n 0, 1) := by decide +kernel
theorem dX0_sumOfCorner_14 : decode cX0_sumOfCorner 14 = .ok (.getfield 9, 3) := by decide +kernel
theorem dX0_sumOfCorner_17 : decode cX0_sumOfCorner 17 = .ok (.iconst 2, 1) := by decide +kernel
theorem dX0_sumOfCorner_18 : decode cX0_sumOfCorner 18 = .ok (.iaload, 1) := by decide +kernel
theorem dX0_sumOfCorner_19 : decode cX0_sumOfCorner 19 = .ok (.iadd, 1) := by decide +kernel
theorem dX0_sumOfCorner_20 : decode cX0_sumOfCorner 20 = .ok (.ireturn, 1) := by decide +kernel
set_option maxRecDepth 20000 in
theorem ggX0_longestDirection_X0_size : GoodIn wsX0_longestDirection wsX0_size := goodIn_r _ [5, 6, 7, 8, 9, 10] (by decide +kernel) (by decide +kernel)
set_option maxRecDepth 20000 in
theorem gX0_longestDirection_X0_size : GoodIn wsX0_longestDirection (wsV RX0 28 RX0 yX0_size wsX0_size) := goodIn_app (goodIn_of _ (by decide +kernel)) ggX0_longestDirection_X0_size
theorem dX0_longestDirection_0 : decode cX0_longestDirection 0 = .ok (.iconst 0, 1) := by decide +kernel
theorem dX0_longestDirection_1 : decode cX0_longestDirection 1 = .ok (.istore_n 1, 1) := by decide +kernel
theorem dX0_longestDirection_2 : decode cX0_longestDirection 2 = .ok (.iconst 1, 1) := by decide +kernel
theorem dX0_longestDirection_3 : decode cX0_longestDirection 3 = .ok (.istore_n 2, 1) := by decide +kernel
theorem dX0_longestDirection_4 : decode cX0_longestDirection 4 = .ok (.iload_n 2, 1) := by decide +kernel
theorem dX0_longestDirection_5 : decode cX0_longestDirection 5 = .ok (.iconst 3, 1) := by decide +kernel
theorem dX0_longestDirection_6 : decode cX0_longestDirection 6 = .ok (.if_icmp .ge 24, 3) := by decide +kernel
theorem dX0_longestDirection_9 : decode cX0_longestDirection 9 = .ok (.aload_n 0, 1) := by decide +kernel
theorem dX0_longestDirection_10 : decode cX0_longestDirection 10 = .ok (.iload_n 2, 1) := by decide +kernel
theorem dX0_longestDirection_11 : decode cX0_longestDirection 11 = .ok (.invokevirtual 28, 3) := by decide +kernel
theorem dX0_longestDirection_14 : decode cX0_longestDirection 14 = .ok (.aload_n 0, 1) := by decide +kernel
theorem dX0_longestDirection_15 : decode cX0_longestDirection 15 = .ok (.iload_n 1, 1) := by decide +kernel
theorem dX0_longestDirection_16 : decode cX0_longestDirection 16 = .ok (.invokevirtual 28, 3) := by decide +kernel
theorem dX0_longestDirection_19 : decode cX0_longestDirection 19 = .ok (.if_icmp .le 5, 3) := by decide +kernel
theorem dX0_longestDirection_22 : decode cX0_longestDirection 22 = .ok (.iload_n 2, 1) := by decide +kernel
theorem dX0_longestDirection_23 : decode cX0_longestDirection 23 = .ok (.istore_n 1, 1) := by decide +kernel
theorem dX0_longestDirection_24 : decode cX0_longestDirection 24 = .ok (.iinc 2 1, 3) := by decide +kernel
theorem dX0_longestDirection_27 : decode cX0_longestDirection 27 = .ok (.goto (-23), 3) := by decide +kernel
theorem dX0_longestDirection_30 : decode cX0_longestDirection 30 = .ok (.iload_n 1, 1) := by decide +kernel
theorem dX0_longestDirection_31 : decode cX0_longestDirection 31 = .ok (.ireturn, 1) := by decide +kernel
theorem dX0_meets_0 : decode cX0_meets 0 = .ok (.aload_n 0, 1) := by decide +kernel
theorem dX0_meets_1 : decode cX0_meets 1 = .ok (.getfield 9, 3) := by decide +kernel
theorem dX0_meets_4 : decode cX0_meets 4 = .ok (.iload_n 2, 1) := by decide +kernel
theorem dX0_meets_5 : decode cX0_meets 5 = .ok (.iaload, 1) := by decide +kernel
theorem dX0_meets_6 : decode cX0_meets 6 = .ok (.aload_n 1, 1) := by decide +kernel
theorem dX0_meets_7 : decode cX0_meets 7 = .ok (.getfield 15, 3) := by decide +kernel
theorem dX0_meets_10 : decode cX0_meets 10 = .ok (.iload_n 2, 1) := by decide +kernel
theorem dX0_meets_11 : decode cX0_meets 11 = .ok (.iaload, 1) := by decide +kernel
theorem dX0_meets_12 : decode cX0_meets 12 = .ok (.if_icmp .ge 22, 3) := by decide +kernel
theorem dX0_meets_15 : decode cX0_meets 15 = .ok (.aload_n 1, 1) := by decide +kernel
theorem dX0_meets_16 : decode cX0_meets 16 = .ok (.getfield 9, 3) := by decide +kernel
theorem dX0_meets_19 : decode cX0_meets 19 = .ok (.iload_n 2, 1) := by decide +kernel
theorem dX0_meets_20 : decode cX0_meets 20 = .ok (.iaload, 1) := by decide +kernel
theorem dX0_meets_21 : decode cX0_meets 21 = .ok (.aload_n 0, 1) := by decide +kernel
theorem dX0_meets_22 : decode cX0_meets 22 = .ok (.getfield 15, 3) := by decide +kernel
theorem dX0_meets_25 : decode cX0_meets 25 = .ok (.iload_n 2, 1) := by decide +kernel
theorem dX0_meets_26 : decode cX0_meets 26 = .ok (.iaload, 1) := by decide +kernel
theorem dX0_meets_27 : decode cX0_meets 27 = .ok (.if_icmp .ge 7, 3) := by decide +kernel
theorem dX0_meets_30 : decode cX0_meets 30 = .ok (.iconst 1, 1) := by decide +kernel
theorem dX0_meets_31 : decode cX0_meets 31 = .ok (.goto 4, 3) := by decide +kernel
theorem dX0_meets_34 : decode cX0_meets 34 = .ok (.iconst 0, 1) := by decide +kernel
theorem dX0_meets_35 : decode cX0_meets 35 = .ok (.ireturn, 1) := by decide +kernel
set_option maxRecDepth 20000 in
theorem ggX0_cuts_X0_meets : GoodIn wsX0_cuts wsX0_meets := goodIn_r _ [5, 6, 7, 8, 9, 10] (by decide +kernel) (by decide +kernel)
set_option maxRecDepth 20000 in
theorem gX0_cuts_X0_meets : GoodIn wsX0_cuts (wsV RX0 32 RX0 yX0_meets wsX0_meets) := goodIn_app (goodIn_of _ (by decide +kernel)) ggX0_cuts_X0_meets
theorem dX0_cuts_0 : decode cX0_cuts 0 = .ok (.aload_n 0, 1) := by decide +kernel
theorem dX0_cuts_1 : decode cX0_cuts 1 = .ok (.aload_n 1, 1) := by decide +kernel
theorem dX0_cuts_2 : decode cX0_cuts 2 = .ok (.iconst 0, 1) := by decide +kernel
theorem dX0_cuts_3 : decode cX0_cuts 3 = .ok (.invokevirtual 32, 3) := by decide +kernel
theorem dX0_cuts_6 : decode cX0_cuts 6 = .ok (.ifCond .eq 25, 3) := by decide +kernel
theorem dX0_cuts_9 : decode cX0_cuts 9 = .ok (.aload_n 0, 1) := by decide +kernel
theorem dX0_cuts_10 : decode cX0_cuts 10 = .ok (.aload_n 1, 1) := by decide +kernel
theorem dX0_cuts_11 : decode cX0_cuts 11 = .ok (.iconst 1, 1) := by decide +kernel
theorem dX0_cuts_12 : decode cX0_cuts 12 = .ok (.invokevirtual 32, 3) := by decide +kernel
theorem dX0_cuts_15 : decode cX0_cuts 15 = .ok (.ifCond .eq 16, 3) := by decide +kernel
theorem dX0_cuts_18 : decode cX0_cuts 18 = .ok (.aload_n 0, 1) := by decide +kernel
theorem dX0_cuts_19 : decode cX0_cuts 19 = .ok (.aload_n 1, 1) := by decide +kernel
theorem dX0_cuts_20 : decode cX0_cuts 20 = .ok (.iconst 2, 1) := by decide +kernel
theorem dX0_cuts_21 : decode cX0_cuts 21 = .ok (.invokevirtual 32, 3) := by decide +kernel
theorem dX0_cuts_24 : decode cX0_cuts 24 = .ok (.ifCond .eq 7, 3) := by decide +kernel
theorem dX0_cuts_27 : decode cX0_cuts 27 = .ok (.iconst 1, 1) := by decide +kernel
theorem dX0_cuts_28 : decode cX0_cuts 28 = .ok (.goto 4, 3) := by decide +kernel
theorem dX0_cuts_31 : decode cX0_cuts 31 = .ok (.iconst 0, 1) := by decide +kernel
theorem dX0_cuts_32 : decode cX0_cuts 32 = .ok (.ireturn, 1) := by decide +kernel
theorem dX0_meetsInDifference_0 : decode cX0_meetsInDifference 0 = .ok (.aload_n 0, 1) := by decide +kernel
theorem dX0_meetsInDifference_1 : decode cX0_meetsInDifference 1 = .ok (.getfield 9, 3) := by decide +kernel
theorem dX0_meetsInDifference_4 : decode cX0_meetsInDifference 4 = .ok (.iload_n 2, 1) := by decide +kernel
theorem dX0_meetsInDifference_5 : decode cX0_meetsInDifference 5 = .ok (.iaload, 1) := by decide +kernel
theorem dX0_meetsInDifference_6 : decode cX0_meetsInDifference 6 = .ok (.aload_n 0, 1) := by decide +kernel
theorem dX0_meetsInDifference_7 : decode cX0_meetsInDifference 7 = .ok (.getfield 15, 3) := by decide +kernel
theorem dX0_meetsInDifference_10 : decode cX0_meetsInDifference 10 = .ok (.iload_n 3, 1) := by decide +kernel
theorem dX0_meetsInDifference_11 : decode cX0_meetsInDifference 11 = .ok (.iaload, 1) := by decide +kernel
theorem dX0_meetsInDifference_12 : decode cX0_meetsInDifference 12 = .ok (.isub, 1) := by decide +kernel
theorem dX0_meetsInDifference_13 : decode cX0_meetsInDifference 13 = .ok (.aload_n 1, 1) := by decide +kernel
theorem dX0_meetsInDifference_14 : decode cX0_meetsInDifference 14 = .ok (.getfield 15, 3) := by decide +kernel
theorem dX0_meetsInDifference_17 : decode cX0_meetsInDifference 17 = .ok (.iload_n 2, 1) := by decide +kernel
theorem dX0_meetsInDifference_18 : decode cX0_meetsInDifference 18 = .ok (.iaload, 1) := by decide +kernel
theorem dX0_meetsInDifference_19 : decode cX0_meetsInDifference 19 = .ok (.aload_n 1, 1) := by decide +kernel
theorem dX0_meetsInDifference_20 : decode cX0_meetsInDifference 20 = .ok (.getfield 9, 3) := by decide +kernel
theorem dX0_meetsInDifference_23 : decode cX0_meetsInDifference 23 = .ok (.iload_n 3, 1) := by decide +kernel
theorem dX0_meetsInDifference_24 : decode cX0_meetsInDifference 24 = .ok (.iaload, 1) := by decide +kernel
theorem dX0_meetsInDifference_25 : decode cX0_meetsInDifference 25 = .ok (.isub, 1) := by decide +kernel
theorem dX0_meetsInDifference_26 : decode cX0_meetsInDifference 26 = .ok (.if_icmp .ge 36, 3) := by decide +kernel
theorem dX0_meetsInDifference_29 : decode cX0_meetsInDifference 29 = .ok (.aload_n 1, 1) := by decide +kernel
theorem dX0_meetsInDifference_30 : decode cX0_meetsInDifference 30 = .ok (.getfield 9, 3) := by decide +kernel
theorem dX0_meetsInDifference_33 : decode cX0_meetsInDifference 33 = .ok (.iload_n 2, 1) := by decide +kernel
theorem dX0_meetsInDifference_34 : decode cX0_meetsInDifference 34 = .ok (.iaload, 1) := by decide +kernel
theorem dX0_meetsInDifference_35 : decode cX0_meetsInDifference 35 = .ok (.aload_n 1, 1) := by decide +kernel
theorem dX0_meetsInDifference_36 : decode cX0_meetsInDifference 36 = .ok (.getfield 15, 3) := by decide +kernel
theorem dX0_meetsInDifference_39 : decode cX0_meetsInDifference 39 = .ok (.iload_n 3, 1) := by decide +kernel
theorem dX0_meetsInDifference_40 : decode cX0_meetsInDifference 40 = .ok (.iaload, 1) := by decide +kernel
theorem dX0_meetsInDifference_41 : decode cX0_meetsInDifference 41 = .ok (.isub, 1) := by decide +kernel
theorem dX0_meetsInDifference_42 : decode cX0_meetsInDifference 42 = .ok (.aload_n 0, 1) := by decide +kernel
theorem dX0_meetsInDifference_43 : decode cX0_meetsInDifference 43 = .ok (.getfield 15, 3) := by decide +kernel
theorem dX0_meetsInDifference_46 : decode cX0_meetsInDifference 46 = .ok (.iload_n 2, 1) := by decide +kernel
theorem dX0_meetsInDifference_47 : decode cX0_meetsInDifference 47 = .ok (.iaload, 1) := by decide +kernel
theorem dX0_meetsInDifference_48 : decode cX0_meetsInDifference 48 = .ok (.aload_n 0, 1) := by decide +kernel
theorem dX0_meetsInDifference_49 : decode cX0_meetsInDifference 49 = .ok (.getfield 9, 3) := by decide +kernel
theorem dX0_meetsInDifference_52 : decode cX0_meetsInDifference 52 = .ok (.iload_n 3, 1) := by decide +kernel
theorem dX0_meetsInDifference_53 : decode cX0_meetsInDifference 53 = .ok (.iaload, 1) := by decide +kernel
theorem dX0_meetsInDifference_54 : decode cX0_meetsInDifference 54 = .ok (.isub, 1) := by decide +kernel
theorem dX0_meetsInDifference_55 : decode cX0_meetsInDifference 55 = .ok (.if_icmp .ge 7, 3) := by decide +kernel
theorem dX0_meetsInDifference_58 : decode cX0_meetsInDifference 58 = .ok (.iconst 1, 1) := by decide +kernel
theorem dX0_meetsInDifference_59 : decode cX0_meetsInDifference 59 = .ok (.goto 4, 3) := by decide +kernel
theorem dX0_meetsInDifference_62 : decode cX0_meetsInDifference 62 = .ok (.iconst 0, 1) := by decide +kernel
theorem dX0_meetsInDifference_63 : decode cX0_meetsInDifference 63 = .ok (.ireturn, 1) := by decide +kernel
set_option maxRecDepth 20000 in
theorem ggX0_overlapsOutlineOf_X0_meetsInDifference : GoodIn wsX0_overlapsOutlineOf wsX0_meetsInDifference := goodIn_r _ [5, 6, 7, 8, 9, 10] (by decide +kernel) (by decide +kernel)
set_option maxRecDepth 20000 in
theorem gX0_overlapsOutlineOf_X0_meetsInDifference : GoodIn wsX0_overlapsOutlineOf (wsV RX0 36 RX0 yX0_meetsInDifference wsX0_meetsInDifference) := goodIn_app (goodIn_of _ (by decide +kernel)) ggX0_overlapsOutlineOf_X0_meetsInDifference
theorem dX0_overlapsOutlineOf_0 : decode cX0_overlapsOutlineOf 0 = .ok (.aload_n 0, 1) := by decide +kernel
theorem dX0_overlapsOutlineOf_1 : decode cX0_overlapsOutlineOf 1 = .ok (.aload_n 1, 1) := by decide +kernel
theorem dX0_overlapsOutlineOf_2 : decode cX0_overlapsOutlineOf 2 = .ok (.iconst 0, 1) := by decide +kernel
theorem dX0_overlapsOutlineOf_3 : decode cX0_overlapsOutlineOf 3 = .ok (.iconst 1, 1) := by decide +kernel
theorem dX0_overlapsOutlineOf_4 : decode cX0_overlapsOutlineOf 4 = .ok (.invokevirtual 36, 3) := by decide +kernel
theorem dX0_overlapsOutlineOf_7 : decode cX0_overlapsOutlineOf 7 = .ok (.ifCond .eq 27, 3) := by decide +kernel
theorem dX0_overlapsOutlineOf_10 : decode cX0_overlapsOutlineOf 10 = .ok (.aload_n 0, 1) := by decide +kernel
theorem dX0_overlapsOutlineOf_11 : decode cX0_overlapsOutlineOf 11 = .ok (.aload_n 1, 1) := by decide +kernel
theorem dX0_overlapsOutlineOf_12 : decode cX0_overlapsOutlineOf 12 = .ok (.iconst 0, 1) := by decide +kernel
theorem dX0_overlapsOutlineOf_13 : decode cX0_overlapsOutlineOf 13 = .ok (.iconst 2, 1) := by decide +kernel
theorem dX0_overlapsOutlineOf_14 : decode cX0_overlapsOutlineOf 14 = .ok (.invokevirtual 36, 3) := by decide +kernel
theorem dX0_overlapsOutlineOf_17 : decode cX0_overlapsOutlineOf 17 = .ok (.ifCond .eq 17, 3) := by decide +kernel
theorem dX0_overlapsOutlineOf_20 : decode cX0_overlapsOutlineOf 20 = .ok (.aload_n 0, 1) := by decide +kernel
theorem dX0_overlapsOutlineOf_21 : decode cX0_overlapsOutlineOf 21 = .ok (.aload_n 1, 1) := by decide +kernel
theorem dX0_overlapsOutlineOf_22 : decode cX0_overlapsOutlineOf 22 = .ok (.iconst 1, 1) := by decide +kernel
theorem dX0_overlapsOutlineOf_23 : decode cX0_overlapsOutlineOf 23 = .ok (.iconst 2, 1) := by decide +kernel
theorem dX0_overlapsOutlineOf_24 : decode cX0_overlapsOutlineOf 24 = .ok (.invokevirtual 36, 3) := by decide +kernel
theorem dX0_overlapsOutlineOf_27 : decode cX0_overlapsOutlineOf 27 = .ok (.ifCond .eq 7, 3) := by decide +kernel
theorem dX0_overlapsOutlineOf_30 : decode cX0_overlapsOutlineOf 30 = .ok (.iconst 1, 1) := by decide +kernel
theorem dX0_overlapsOutlineOf_31 : decode cX0_overlapsOutlineOf 31 = .ok (.goto 4, 3) := by decide +kernel
theorem dX0_overlapsOutlineOf_34 : decode cX0_overlapsOutlineOf 34 = .ok (.iconst 0, 1) := by decide +kernel
theorem dX0_overlapsOutlineOf_35 : decode cX0_overlapsOutlineOf 35 = .ok (.ireturn, 1) := by decide +kernel
set_option maxRecDepth 20000 in
theorem ggX0_directionOfHiding_X0_overlapsOutlineOf : GoodIn wsX0_directionOfHiding wsX0_overlapsOutlineOf := goodIn_r _ [7, 8, 9, 10, 6, 11, 1, 2, 12, 13, 14] (by decide +kernel) (by decide +kernel)
set_option maxRecDepth 20000 in
theorem gX0_directionOfHiding_X0_overlapsOutlineOf : GoodIn wsX0_directionOfHiding (wsV RX0 40 RX0 yX0_overlapsOutlineOf wsX0_overlapsOutlineOf) := goodIn_app (goodIn_of _ (by decide +kernel)) ggX0_directionOfHiding_X0_overlapsOutlineOf
theorem dX0_directionOfHiding_0 : decode cX0_directionOfHiding 0 = .ok (.aload_n 0, 1) := by decide +kernel
theorem dX0_directionOfHiding_1 : decode cX0_directionOfHiding 1 = .ok (.aload_n 1, 1) := by decide +kernel
theorem dX0_directionOfHiding_2 : decode cX0_directionOfHiding 2 = .ok (.invokevirtual 40, 3) := by decide +kernel
theorem dX0_directionOfHiding_5 : decode cX0_directionOfHiding 5 = .ok (.ifCond .ne 5, 3) := by decide +kernel
theorem dX0_directionOfHiding_8 : decode cX0_directionOfHiding 8 = .ok (.iconst (-1), 1) := by decide +kernel
theorem dX0_directionOfHiding_9 : decode cX0_directionOfHiding 9 = .ok (.ireturn, 1) := by decide +kernel
theorem dX0_directionOfHiding_10 : decode cX0_directionOfHiding 10 = .ok (.iconst 0, 1) := by decide +kernel
theorem dX0_directionOfHiding_11 : decode cX0_directionOfHiding 11 = .ok (.istore_n 2, 1) := by decide +kernel
theorem dX0_directionOfHiding_12 : decode cX0_directionOfHiding 12 = .ok (.iload_n 2, 1) := by decide +kernel
theorem dX0_directionOfHiding_13 : decode cX0_directionOfHiding 13 = .ok (.iconst 3, 1) := by decide +kernel
theorem dX0_directionOfHiding_14 : decode cX0_directionOfHiding 14 = .ok (.if_icmp .ge 26, 3) := by decide +kernel
theorem dX0_directionOfHiding_17 : decode cX0_directionOfHiding 17 = .ok (.aload_n 0, 1) := by decide +kernel
theorem dX0_directionOfHiding_18 : decode cX0_directionOfHiding 18 = .ok (.getfield 9, 3) := by decide +kernel
theorem dX0_directionOfHiding_21 : decode cX0_directionOfHiding 21 = .ok (.iload_n 2, 1) := by decide +kernel
theorem dX0_directionOfHiding_22 : decode cX0_directionOfHiding 22 = .ok (.iaload, 1) := by decide +kernel
theorem dX0_directionOfHiding_23 : decode cX0_directionOfHiding 23 = .ok (.aload_n 1, 1) := by decide +kernel
theorem dX0_directionOfHiding_24 : decode cX0_directionOfHiding 24 = .ok (.getfield 15, 3) := by decide +kernel
theorem dX0_directionOfHiding_27 : decode cX0_directionOfHiding 27 = .ok (.iload_n 2, 1) := by decide +kernel
theorem dX0_directionOfHiding_28 : decode cX0_directionOfHiding 28 = .ok (.iaload, 1) := by decide +kernel
theorem dX0_directionOfHiding_29 : decode cX0_directionOfHiding 29 = .ok (.if_icmp .lt 5, 3) := by decide +kernel
theorem dX0_directionOfHiding_32 : decode cX0_directionOfHiding 32 = .ok (.iload_n 2, 1) := by decide +kernel
theorem dX0_directionOfHiding_33 : decode cX0_directionOfHiding 33 = .ok (.ireturn, 1) := by decide +kernel
theorem dX0_directionOfHiding_34 : decode cX0_directionOfHiding 34 = .ok (.iinc 2 1, 3) := by decide +kernel
theorem dX0_directionOfHiding_37 : decode cX0_directionOfHiding 37 = .ok (.goto (-25), 3) := by decide +kernel
theorem dX0_directionOfHiding_40 : decode cX0_directionOfHiding 40 = .ok (.iconst (-1), 1) := by decide +kernel
theorem dX0_directionOfHiding_41 : decode cX0_directionOfHiding 41 = .ok (.ireturn, 1) := by decide +kernel
set_option maxRecDepth 20000 in
theorem ggX0_isBelow_X0_meets : GoodIn wsX0_isBelow wsX0_meets := goodIn_r _ [7, 2, 1, 8, 9, 10] (by decide +kernel) (by decide +kernel)
set_option maxRecDepth 20000 in
theorem gX0_isBelow_X0_meets : GoodIn wsX0_isBelow (wsV RX0 32 RX0 yX0_meets wsX0_meets) := goodIn_app (goodIn_of _ (by decide +kernel)) ggX0_isBelow_X0_meets
theorem dX0_isBelow_0 : decode cX0_isBelow 0 = .ok (.aload_n 0, 1) := by decide +kernel
theorem dX0_isBelow_1 : decode cX0_isBelow 1 = .ok (.aload_n 1, 1) := by decide +kernel
theorem dX0_isBelow_2 : decode cX0_isBelow 2 = .ok (.iconst 0, 1) := by decide +kernel
theorem dX0_isBelow_3 : decode cX0_isBelow 3 = .ok (.invokevirtual 32, 3) := by decide +kernel
theorem dX0_isBelow_6 : decode cX0_isBelow 6 = .ok (.ifCond .eq 31, 3) := by decide +kernel
theorem dX0_isBelow_9 : decode cX0_isBelow 9 = .ok (.aload_n 0, 1) := by decide +kernel
theorem dX0_isBelow_10 : decode cX0_isBelow 10 = .ok (.aload_n 1, 1) := by decide +kernel
theorem dX0_isBelow_11 : decode cX0_isBelow 11 = .ok (.iconst 1, 1) := by decide +kernel
theorem dX0_isBelow_12 : decode cX0_isBelow 12 = .ok (.invokevirtual 32, 3) := by decide +kernel
theorem dX0_isBelow_15 : decode cX0_isBelow 15 = .ok (.ifCond .eq 22, 3) := by decide +kernel
theorem dX0_isBelow_18 : decode cX0_isBelow 18 = .ok (.aload_n 0, 1) := by decide +kernel
theorem dX0_isBelow_19 : decode cX0_isBelow 19 = .ok (.getfield 15, 3) := by decide +kernel
theorem dX0_isBelow_22 : decode cX0_isBelow 22 = .ok (.iconst 2, 1) := by decide +kernel
theorem dX0_isBelow_23 : decode cX0_isBelow 23 = .ok (.iaload, 1) := by decide +kernel
theorem dX0_isBelow_24 : decode cX0_isBelow 24 = .ok (.aload_n 1, 1) := by decide +kernel
theorem dX0_isBelow_25 : decode cX0_isBelow 25 = .ok (.getfield 9, 3) := by decide +kernel
theorem dX0_isBelow_28 : decode cX0_isBelow 28 = .ok (.iconst 2, 1) := by decide +kernel
theorem dX0_isBelow_29 : decode cX0_isBelow 29 = .ok (.iaload, 1) := by decide +kernel
theorem dX0_isBelow_30 : decode cX0_isBelow 30 = .ok (.if_icmp .gt 7, 3) := by decide +kernel
theorem dX0_isBelow_33 : decode cX0_isBelow 33 = .ok (.iconst 1, 1) := by decide +kernel
theorem dX0_isBelow_34 : decode cX0_isBelow 34 = .ok (.goto 4, 3) := by decide +kernel
theorem dX0_isBelow_37 : decode cX0_isBelow 37 = .ok (.iconst 0, 1) := by decide +kernel
theorem dX0_isBelow_38 : decode cX0_isBelow 38 = .ok (.ireturn, 1) := by decide +kernel
theorem dX0_coversRow_0 : decode cX0_coversRow 0 = .ok (.aload_n 0, 1) := by decide +kernel
theorem dX0_coversRow_1 : decode cX0_coversRow 1 = .ok (.getfield 9, 3) := by decide +kernel
theorem dX0_coversRow_4 : decode cX0_coversRow 4 = .ok (.iconst 1, 1) := by decide +kernel
theorem dX0_coversRow_5 : decode cX0_coversRow 5 = .ok (.iaload, 1) := by decide +kernel
theorem dX0_coversRow_6 : decode cX0_coversRow 6 = .ok (.iload_n 1, 1) := by decide +kernel
theorem dX0_coversRow_7 : decode cX0_coversRow 7 = .ok (.if_icmp .gt 17, 3) := by decide +kernel
theorem dX0_coversRow_10 : decode cX0_coversRow 10 = .ok (.iload_n 1, 1) := by decide +kernel
theorem dX0_coversRow_11 : decode cX0_coversRow 11 = .ok (.aload_n 0, 1) := by decide +kernel
theorem dX0_coversRow_12 : decode cX0_coversRow 12 = .ok (.getfield 15, 3) := by decide +kernel
theorem dX0_coversRow_15 : decode cX0_coversRow 15 = .ok (.iconst 1, 1) := by decide +kernel
theorem dX0_coversRow_16 : decode cX0_coversRow 16 = .ok (.iaload, 1) := by decide +kernel
theorem dX0_coversRow_17 : decode cX0_coversRow 17 = .ok (.if_icmp .ge 7, 3) := by decide +kernel
theorem dX0_coversRow_20 : decode cX0_coversRow 20 = .ok (.iconst 1, 1) := by decide +kernel
theorem dX0_coversRow_21 : decode cX0_coversRow 21 = .ok (.goto 4, 3) := by decide +kernel
theorem dX0_coversRow_24 : decode cX0_coversRow 24 = .ok (.iconst 0, 1) := by decide +kernel
theorem dX0_coversRow_25 : decode cX0_coversRow 25 = .ok (.ireturn, 1) := by decide +kernel
set_option maxRecDepth 20000 in
theorem ggX0_rowOfCells_X0_size : GoodIn wsX0_rowOfCells wsX0_size := goodIn_r _ [6, 7, 1, 8, 9, 10] (by decide +kernel) (by decide +kernel)
set_option maxRecDepth 20000 in
theorem gX0_rowOfCells_X0_size : GoodIn wsX0_rowOfCells (wsV RX0 28 RX0 yX0_size wsX0_size) := goodIn_app (goodIn_of _ (by decide +kernel)) ggX0_rowOfCells_X0_size
theorem dX0_rowOfCells_0 : decode cX0_rowOfCells 0 = .ok (.iconst 1, 1) := by decide +kernel
theorem dX0_rowOfCells_1 : decode cX0_rowOfCells 1 = .ok (.aload_n 0, 1) := by decide +kernel
theorem dX0_rowOfCells_2 : decode cX0_rowOfCells 2 = .ok (.iconst 0, 1) := by decide +kernel
theorem dX0_rowOfCells_3 : decode cX0_rowOfCells 3 = .ok (.invokevirtual 28, 3) := by decide +kernel
theorem dX0_rowOfCells_6 : decode cX0_rowOfCells 6 = .ok (.ishl, 1) := by decide +kernel
theorem dX0_rowOfCells_7 : decode cX0_rowOfCells 7 = .ok (.iconst 1, 1) := by decide +kernel
theorem dX0_rowOfCells_8 : decode cX0_rowOfCells 8 = .ok (.isub, 1) := by decide +kernel
theorem dX0_rowOfCells_9 : decode cX0_rowOfCells 9 = .ok (.aload_n 0, 1) := by decide +kernel
theorem dX0_rowOfCells_10 : decode cX0_rowOfCells 10 = .ok (.getfield 9, 3) := by decide +kernel
theorem dX0_rowOfCells_13 : decode cX0_rowOfCells 13 = .ok (.iconst 0, 1) := by decide +kernel
theorem dX0_rowOfCells_14 : decode cX0_rowOfCells 14 = .ok (.iaload, 1) := by decide +kernel
theorem dX0_rowOfCells_15 : decode cX0_rowOfCells 15 = .ok (.ishl, 1) := by decide +kernel
theorem dX0_rowOfCells_16 : decode cX0_rowOfCells 16 = .ok (.ireturn, 1) := by decide +kernel
set_option maxRecDepth 20000 in
theorem ggX1_init_X3_init : GoodIn wsX1_init wsX3_init := goodIn_r _ [10, 11, 2, 3, 12, 13, 14, 15, 16, 17, 18, 19, 20, 21, 24, 25, 26, 27, 28, 29, 30, 31] (by decide +kernel) (by decide +kernel)
set_option maxRecDepth 20000 in
theorem gX1_init_X3_init : GoodIn wsX1_init (wsX3_init) := ggX1_init_X3_init
theorem dX1_init_0 : decode cX1_init 0 = .ok (.aload_n 0, 1) := by decide +kernel
theorem dX1_init_1 : decode cX1_init 1 = .ok (.invokespecial 3, 3) := by decide +kernel
theorem dX1_init_4 : decode cX1_init 4 = .ok (.aload_n 0, 1) := by decide +kernel
theorem dX1_init_5 : decode cX1_init 5 = .ok (.iconst 4, 1) := by decide +kernel
theorem dX1_init_6 : decode cX1_init 6 = .ok (.anewarray 9, 3) := by decide +kernel
theorem dX1_init_9 : decode cX1_init 9 = .ok (.putfield 11, 3) := by decide +kernel
theorem dX1_init_12 : decode cX1_init 12 = .ok (.iconst 0, 1) := by decide +kernel
theorem dX1_init_13 : decode cX1_init 13 = .ok (.istore_n 1, 1) := by decide +kernel
theorem dX1_init_14 : decode cX1_init 14 = .ok (.iload_n 1, 1) := by decide +kernel
theorem dX1_init_15 : decode cX1_init 15 = .ok (.iconst 4, 1) := by decide +kernel
theorem dX1_init_16 : decode cX1_init 16 = .ok (.if_icmp .ge 22, 3) := by decide +kernel
theorem dX1_init_19 : decode cX1_init 19 = .ok (.aload_n 0, 1) := by decide +kernel
theorem dX1_init_20 : decode cX1_init 20 = .ok (.getfield 11, 3) := by decide +kernel
theorem dX1_init_23 : decode cX1_init 23 = .ok (.iload_n 1, 1) := by decide +kernel
theorem dX1_init_24 : decode cX1_init 24 = .ok (.new 9, 3) := by decide +kernel
theorem dX1_init_27 : decode cX1_init 27 = .ok (.dup, 1) := by decide +kernel
theorem dX1_init_28 : decode cX1_init 28 = .ok (.invokespecial 17, 3) := by decide +kernel
theorem dX1_init_31 : decode cX1_init 31 = .ok (.aastore, 1) := by decide +kernel
theorem dX1_init_32 : decode cX1_init 32 = .ok (.iinc 1 1, 3) := by decide +kernel
theorem dX1_init_35 : decode cX1_init 35 = .ok (.goto (-21), 3) := by decide +kernel
theorem dX1_init_38 : decode cX1_init 38 = .ok (.return_, 1) := by decide +kernel
set_option maxRecDepth 20000 in
theorem ggX1_remember_X1_dropOldest : GoodIn wsX1_remember wsX1_dropOldest := goodIn_r _ [7, 2, 1, 30, 31] (by decide +kernel) (by decide +kernel)
set_option maxRecDepth 20000 in
theorem gX1_remember_X1_dropOldest : GoodIn wsX1_remember (wsV RX1 22 RX1 yX1_dropOldest wsX1_dropOldest) := goodIn_app (goodIn_of _ (by decide +kernel)) ggX1_remember_X1_dropOldest
set_option maxRecDepth 20000 in
theorem ggX1_remember_X3_copyFrom : GoodIn wsX1_remember wsX3_copyFrom := goodIn_r _ [12, 13, 14, 15, 16, 17, 18, 19, 20, 21, 22, 23, 24, 25, 26, 27, 28, 29, 32, 33, 34, 35, 36, 37, 38, 39] (by decide +kernel) (by decide +kernel)
set_option maxRecDepth 20000 in
theorem gX1_remember_X3_copyFrom : GoodIn wsX1_remember (wsV RX1 25 RX3 yX3_copyFrom wsX3_copyFrom) := goodIn_app (goodIn_of _ (by decide +kernel)) ggX1_remember_X3_copyFrom
theorem dX1_remember_0 : decode cX1_remember 0 = .ok (.aload_n 0, 1) := by decide +kernel
theorem dX1_remember_1 : decode cX1_remember 1 = .ok (.getfield 18, 3) := by decide +kernel
theorem dX1_remember_4 : decode cX1_remember 4 = .ok (.iconst 4, 1) := by decide +kernel
theorem dX1_remember_5 : decode cX1_remember 5 = .ok (.if_icmp .lt 7, 3) := by decide +kernel
theorem dX1_remember_8 : decode cX1_remember 8 = .ok (.aload_n 0, 1) := by decide +kernel
theorem dX1_remember_9 : decode cX1_remember 9 = .ok (.invokevirtual 22, 3) := by decide +kernel
theorem dX1_remember_12 : decode cX1_remember 12 = .ok (.aload_n 0, 1) := by decide +kernel
theorem dX1_remember_13 : decode cX1_remember 13 = .ok (.getfield 11, 3) := by decide +kernel
theorem dX1_remember_16 : decode cX1_remember 16 = .ok (.aload_n 0, 1) := by decide +kernel
theorem dX1_remember_17 : decode cX1_remember 17 = .ok (.getfield 18, 3) := by decide +kernel
theorem dX1_remember_20 : decode cX1_remember 20 = .ok (.aaload, 1) := by decide +kernel
theorem dX1_remember_21 : decode cX1_remember 21 = .ok (.aload_n 1, 1) := by decide +kernel
theorem dX1_remember_22 : decode cX1_remember 22 = .ok (.invokevirtual 25, 3) := by decide +kernel
theorem dX1_remember_25 : decode cX1_remember 25 = .ok (.aload_n 0, 1) := by decide +kernel
theorem dX1_remember_26 : decode cX1_remember 26 = .ok (.dup, 1) := by decide +kernel
theorem dX1_remember_27 : decode cX1_remember 27 = .ok (.getfield 18, 3) := by decide +kernel
theorem dX1_remember_30 : decode cX1_remember 30 = .ok (.iconst 1, 1) := by decide +kernel
theorem dX1_remember_31 : decode cX1_remember 31 = .ok (.iadd, 1) := by decide +kernel
theorem dX1_remember_32 : decode cX1_remember 32 = .ok (.putfield 18, 3) := by decide +kernel
theorem dX1_remember_35 : decode cX1_remember 35 = .ok (.return_, 1) := by decide +kernel
theorem dX1_dropOldest_0 : decode cX1_dropOldest 0 = .ok (.aload_n 0, 1) := by decide +kernel
theorem dX1_dropOldest_1 : decode cX1_dropOldest 1 = .ok (.getfield 11, 3) := by decide +kernel
theorem dX1_dropOldest_4 : decode cX1_dropOldest 4 = .ok (.iconst 0, 1) := by decide +kernel
theorem dX1_dropOldest_5 : decode cX1_dropOldest 5 = .ok (.aaload, 1) := by decide +kernel
theorem dX1_dropOldest_6 : decode cX1_dropOldest 6 = .ok (.astore_n 1, 1) := by decide +kernel
theorem dX1_dropOldest_7 : decode cX1_dropOldest 7 = .ok (.iconst 0, 1) := by decide +kernel
theorem dX1_dropOldest_8 : decode cX1_dropOldest 8 = .ok (.istore_n 2, 1) := by decide +kernel
theorem dX1_dropOldest_9 : decode cX1_dropOldest 9 = .ok (.iload_n 2, 1) := by decide +kernel
theorem dX1_dropOldest_10 : decode cX1_dropOldest 10 = .ok (.iconst 1, 1) := by decide +kernel
theorem dX1_dropOldest_11 : decode cX1_dropOldest 11 = .ok (.iadd, 1) := by decide +kernel
theorem dX1_dropOldest_12 : decode cX1_dropOldest 12 = .ok (.iconst 4, 1) := by decide +kernel
theorem dX1_dropOldest_13 : decode cX1_dropOldest 13 = .ok (.if_icmp .ge 23, 3) := by decide +kernel
theorem dX1_dropOldest_16 : decode cX1_dropOldest 16 = .ok (.aload_n 0, 1) := by decide +kernel
theorem dX1_dropOldest_17 : decode cX1_dropOldest 17 = .ok (.getfield 11, 3) := by decide +kernel
theorem dX1_dropOldest_20 : decode cX1_dropOldest 20 = .ok (.iload_n 2, 1) := by decide +kernel
theorem dX1_dropOldest_21 : decode cX1_dropOldest 21 = .ok (.aload_n 0, 1) := by decide +kernel
theorem dX1_dropOldest_22 : decode cX1_dropOldest 22 = .ok (.getfield 11, 3) := by decide +kernel
theorem dX1_dropOldest_25 : decode cX1_dropOldest 25 = .ok (.iload_n 2, 1) := by decide +kernel
theorem dX1_dropOldest_26 : decode cX1_dropOldest 26 = .ok (.iconst 1, 1) := by decide +kernel
theorem dX1_dropOldest_27 : decode cX1_dropOldest 27 = .ok (.iadd, 1) := by decide +kernel
theorem dX1_dropOldest_28 : decode cX1_dropOldest 28 = .ok (.aaload, 1) := by decide +kernel
theorem dX1_dropOldest_29 : decode cX1_dropOldest 29 = .ok (.aastore, 1) := by decide +kernel
theorem dX1_dropOldest_30 : decode cX1_dropOldest 30 = .ok (.iinc 2 1, 3) := by decide +kernel
theorem dX1_dropOldest_33 : decode cX1_dropOldest 33 = .ok (.goto (-24), 3) := by decide +kernel
theorem dX1_dropOldest_36 : decode cX1_dropOldest 36 = .ok (.aload_n 0, 1) := by decide +kernel
theorem dX1_dropOldest_37 : decode cX1_dropOldest 37 = .ok (.getfield 11, 3) := by decide +kernel
theorem dX1_dropOldest_40 : decode cX1_dropOldest 40 = .ok (.iconst 3, 1) := by decide +kernel
theorem dX1_dropOldest_41 : decode cX1_dropOldest 41 = .ok (.aload_n 1, 1) := by decide +kernel
theorem dX1_dropOldest_42 : decode cX1_dropOldest 42 = .ok (.aastore, 1) := by decide +kernel
theorem dX1_dropOldest_43 : decode cX1_dropOldest 43 = .ok (.aload_n 0, 1) := by decide +kernel
theorem dX1_dropOldest_44 : decode cX1_dropOldest 44 = .ok (.iconst 3, 1) := by decide +kernel
theorem dX1_dropOldest_45 : decode cX1_dropOldest 45 = .ok (.putfield 18, 3) := by decide +kernel
theorem dX1_dropOldest_48 : decode cX1_dropOldest 48 = .ok (.return_, 1) := by decide +kernel
theorem dX2_init_0 : decode cX2_init 0 = .ok (.aload_n 0, 1) := by decide +kernel
theorem dX2_init_1 : decode cX2_init 1 = .ok (.invokespecial 3, 3) := by decide +kernel
theorem dX2_init_4 : decode cX2_init 4 = .ok (.aload_n 0, 1) := by decide +kernel
theorem dX2_init_5 : decode cX2_init 5 = .ok (.bipush 16, 2) := by decide +kernel
theorem dX2_init_7 : decode cX2_init 7 = .ok (.newarray .int, 2) := by decide +kernel
theorem dX2_init_9 : decode cX2_init 9 = .ok (.putfield 9, 3) := by decide +kernel
theorem dX2_init_12 : decode cX2_init 12 = .ok (.aload_n 0, 1) := by decide +kernel
theorem dX2_init_13 : decode cX2_init 13 = .ok (.bipush 16, 2) := by decide +kernel
theorem dX2_init_15 : decode cX2_init 15 = .ok (.newarray .int, 2) := by decide +kernel
theorem dX2_init_17 : decode cX2_init 17 = .ok (.putfield 15, 3) := by decide +kernel
theorem dX2_init_20 : decode cX2_init 20 = .ok (.aload_n 0, 1) := by decide +kernel
theorem dX2_init_21 : decode cX2_init 21 = .ok (.bipush 16, 2) := by decide +kernel
theorem dX2_init_23 : decode cX2_init 23 = .ok (.newarray .int, 2) := by decide +kernel
theorem dX2_init_25 : decode cX2_init 25 = .ok (.putfield 18, 3) := by decide +kernel
theorem dX2_init_28 : decode cX2_init 28 = .ok (.aload_n 0, 1) := by decide +kernel
theorem dX2_init_29 : decode cX2_init 29 = .ok (.bipush 16, 2) := by decide +kernel
theorem dX2_init_31 : decode cX2_init 31 = .ok (.newarray .int, 2) := by decide +kernel
theorem dX2_init_33 : decode cX2_init 33 = .ok (.putfield 21, 3) := by decide +kernel
theorem dX2_init_36 : decode cX2_init 36 = .ok (.return_, 1) := by decide +kernel
set_option maxRecDepth 20000 in
theorem ggX2_look_X2_bitsHiddenBy : GoodIn wsX2_look wsX2_bitsHiddenBy := goodIn_r _ [7, 1, 8, 9, 10, 11, 12, 13, 14, 15, 16, 17, 18, 19, 20, 21, 22, 23, 79, 80, 81, 82, 83, 91, 92, 93] (by decide +kernel) (by decide +kernel)
set_option maxRecDepth 20000 in
theorem gX2_look_X2_bitsHiddenBy : GoodIn wsX2_look (va_wsS RX2 31 yX2_bitsHiddenBy wsX2_bitsHiddenBy) := goodIn_app (goodIn_of _ (by decide +kernel)) ggX2_look_X2_bitsHiddenBy
set_option maxRecDepth 20000 in
theorem ggX2_look_X2_followChains : GoodIn wsX2_look wsX2_followChains := goodIn_r _ [27, 3, 28, 29, 30, 31, 32, 2, 33, 34, 6, 35, 84, 85, 86, 87, 88, 89, 90] (by decide +kernel) (by decide +kernel)
set_option maxRecDepth 20000 in
theorem gX2_look_X2_followChains : GoodIn wsX2_look (wsV RX2 35 RX2 yX2_followChains wsX2_followChains) := goodIn_app (goodIn_of _ (by decide +kernel)) ggX2_look_X2_followChains
set_option maxRecDepth 20000 in
theorem ggX2_look_X2_draw : GoodIn wsX2_look wsX2_draw := goodIn_r _ [39, 40, 41, 42, 2, 43, 3, 44, 45, 46, 47, 48, 49, 50, 6, 51, 33, 34, 35, 52, 53, 54, 55, 56, 57, 58, 59, 60, 61, 12, 62, 14, 63, 64, 65, 66, 67, 68, 69, 70, 15, 71, 72, 73, 74, 75, 76, 77, 78, 84, 85, 86, 87, 88, 89, 90, 79, 80, 81, 82, 83, 91, 92, 93] (by decide +kernel) (by decide +kernel)
set_option maxRecDepth 20000 in
theorem gX2_look_X2_draw : GoodIn wsX2_look (wsV RX2 38 RX2 yX2_draw wsX2_draw) := goodIn_app (goodIn_of _ (by decide +kernel)) ggX2_look_X2_draw
theorem dX2_look_0 : decode cX2_look 0 = .ok (.aload_n 0, 1) := by decide +kernel
theorem dX2_look_1 : decode cX2_look 1 = .ok (.aload_n 1, 1) := by decide +kernel
theorem dX2_look_2 : decode cX2_look 2 = .ok (.getfield 24, 3) := by decide +kernel
theorem dX2_look_5 : decode cX2_look 5 = .ok (.putfield 30, 3) := by decide +kernel
theorem dX2_look_8 : decode cX2_look 8 = .ok (.iconst 0, 1) := by decide +kernel
theorem dX2_look_9 : decode cX2_look 9 = .ok (.istore_n 2, 1) := by decide +kernel
theorem dX2_look_10 : decode cX2_look 10 = .ok (.iload_n 2, 1) := by decide +kernel
theorem dX2_look_11 : decode cX2_look 11 = .ok (.aload_n 0, 1) := by decide +kernel
theorem dX2_look_12 : decode cX2_look 12 = .ok (.getfield 30, 3) := by decide +kernel
theorem dX2_look_15 : decode cX2_look 15 = .ok (.if_icmp .ge 20, 3) := by decide +kernel
theorem dX2_look_18 : decode cX2_look 18 = .ok (.aload_n 0, 1) := by decide +kernel
theorem dX2_look_19 : decode cX2_look 19 = .ok (.getfield 9, 3) := by decide +kernel
theorem dX2_look_22 : decode cX2_look 22 = .ok (.iload_n 2, 1) := by decide +kernel
theorem dX2_look_23 : decode cX2_look 23 = .ok (.aload_n 1, 1) := by decide +kernel
theorem dX2_look_24 : decode cX2_look 24 = .ok (.iload_n 2, 1) := by decide +kernel
theorem dX2_look_25 : decode cX2_look 25 = .ok (.invokestatic 31, 3) := by decide +kernel
theorem dX2_look_28 : decode cX2_look 28 = .ok (.iastore, 1) := by decide +kernel
theorem dX2_look_29 : decode cX2_look 29 = .ok (.iinc 2 1, 3) := by decide +kernel
theorem dX2_look_32 : decode cX2_look 32 = .ok (.goto (-22), 3) := by decide +kernel
theorem dX2_look_35 : decode cX2_look 35 = .ok (.aload_n 0, 1) := by decide +kernel
theorem dX2_look_36 : decode cX2_look 36 = .ok (.invokevirtual 35, 3) := by decide +kernel
theorem dX2_look_39 : decode cX2_look 39 = .ok (.aload_n 0, 1) := by decide +kernel
theorem dX2_look_40 : decode cX2_look 40 = .ok (.aload_n 1, 1) := by decide +kernel
theorem dX2_look_41 : decode cX2_look 41 = .ok (.invokevirtual 38, 3) := by decide +kernel
theorem dX2_look_44 : decode cX2_look 44 = .ok (.return_, 1) := by decide +kernel
set_option maxRecDepth 20000 in
theorem ggX2_bitsHiddenBy_X0_directionOfHiding : GoodIn wsX2_bitsHiddenBy wsX0_directionOfHiding := goodIn_r _ [7, 8, 9, 10, 11, 12, 6, 13, 14, 15, 16, 17, 23, 24, 25] (by decide +kernel) (by decide +kernel)
set_option maxRecDepth 20000 in
theorem gX2_bitsHiddenBy_X0_directionOfHiding : GoodIn wsX2_bitsHiddenBy (wsV RX2 46 RX0 yX0_directionOfHiding wsX0_directionOfHiding) := goodIn_app (goodIn_of _ (by decide +kernel)) ggX2_bitsHiddenBy_X0_directionOfHiding
theorem dX2_bitsHiddenBy_0 : decode cX2_bitsHiddenBy 0 = .ok (.iconst 0, 1) := by decide +kernel
theorem dX2_bitsHiddenBy_1 : decode cX2_bitsHiddenBy 1 = .ok (.istore_n 2, 1) := by decide +kernel
theorem dX2_bitsHiddenBy_2 : decode cX2_bitsHiddenBy 2 = .ok (.iconst 0, 1) := by decide +kernel
theorem dX2_bitsHiddenBy_3 : decode cX2_bitsHiddenBy 3 = .ok (.istore_n 3, 1) := by decide +kernel
theorem dX2_bitsHiddenBy_4 : decode cX2_bitsHiddenBy 4 = .ok (.iload_n 3, 1) := by decide +kernel
theorem dX2_bitsHiddenBy_5 : decode cX2_bitsHiddenBy 5 = .ok (.aload_n 0, 1) := by decide +kernel
theorem dX2_bitsHiddenBy_6 : decode cX2_bitsHiddenBy 6 = .ok (.getfield 24, 3) := by decide +kernel
theorem dX2_bitsHiddenBy_9 : decode cX2_bitsHiddenBy 9 = .ok (.if_icmp .ge 39, 3) := by decide +kernel
theorem dX2_bitsHiddenBy_12 : decode cX2_bitsHiddenBy 12 = .ok (.iload_n 3, 1) := by decide +kernel
theorem dX2_bitsHiddenBy_13 : decode cX2_bitsHiddenBy 13 = .ok (.iload_n 1, 1) := by decide +kernel
theorem dX2_bitsHiddenBy_14 : decode cX2_bitsHiddenBy 14 = .ok (.if_icmp .eq 28, 3) := by decide +kernel
theorem dX2_bitsHiddenBy_17 : decode cX2_bitsHiddenBy 17 = .ok (.aload_n 0, 1) := by decide +kernel
theorem dX2_bitsHiddenBy_18 : decode cX2_bitsHiddenBy 18 = .ok (.getfield 42, 3) := by decide +kernel
theorem dX2_bitsHiddenBy_21 : decode cX2_bitsHiddenBy 21 = .ok (.iload_n 1, 1) := by decide +kernel
theorem dX2_bitsHiddenBy_22 : decode cX2_bitsHiddenBy 22 = .ok (.aaload, 1) := by decide +kernel
theorem dX2_bitsHiddenBy_23 : decode cX2_bitsHiddenBy 23 = .ok (.aload_n 0, 1) := by decide +kernel
theorem dX2_bitsHiddenBy_24 : decode cX2_bitsHiddenBy 24 = .ok (.getfield 42, 3) := by decide +kernel
theorem dX2_bitsHiddenBy_27 : decode cX2_bitsHiddenBy 27 = .ok (.iload_n 3, 1) := by decide +kernel
theorem dX2_bitsHiddenBy_28 : decode cX2_bitsHiddenBy 28 = .ok (.aaload, 1) := by decide +kernel
theorem dX2_bitsHiddenBy_29 : decode cX2_bitsHiddenBy 29 = .ok (.invokevirtual 46, 3) := by decide +kernel
theorem dX2_bitsHiddenBy_32 : decode cX2_bitsHiddenBy 32 = .ok (.iconst (-1), 1) := by decide +kernel
theorem dX2_bitsHiddenBy_33 : decode cX2_bitsHiddenBy 33 = .ok (.if_icmp .eq 9, 3) := by decide +kernel
theorem dX2_bitsHiddenBy_36 : decode cX2_bitsHiddenBy 36 = .ok (.iload_n 2, 1) := by decide +kernel
theorem dX2_bitsHiddenBy_37 : decode cX2_bitsHiddenBy 37 = .ok (.iconst 1, 1) := by decide +kernel
theorem dX2_bitsHiddenBy_38 : decode cX2_bitsHiddenBy 38 = .ok (.iload_n 3, 1) := by decide +kernel
theorem dX2_bitsHiddenBy_39 : decode cX2_bitsHiddenBy 39 = .ok (.ishl, 1) := by decide +kernel
theorem dX2_bitsHiddenBy_40 : decode cX2_bitsHiddenBy 40 = .ok (.ior, 1) := by decide +kernel
theorem dX2_bitsHiddenBy_41 : decode cX2_bitsHiddenBy 41 = .ok (.istore_n 2, 1) := by decide +kernel
theorem dX2_bitsHiddenBy_42 : decode cX2_bitsHiddenBy 42 = .ok (.iinc 3 1, 3) := by decide +kernel
theorem dX2_bitsHiddenBy_45 : decode cX2_bitsHiddenBy 45 = .ok (.goto (-41), 3) := by decide +kernel
theorem dX2_bitsHiddenBy_48 : decode cX2_bitsHiddenBy 48 = .ok (.iload_n 2, 1) := by decide +kernel
end
section
theorem dX2_bitsHiddenBy_49 : decode cX2_bitsHiddenBy 49 = .ok (.ireturn, 1) := by decide +kernel
theorem dX2_hasBit_0 : decode cX2_hasBit 0 = .ok (.iload_n 0, 1) := by decide +kernel
theorem dX2_hasBit_1 : decode cX2_hasBit 1 = .ok (.iload_n 1, 1) := by decide +kernel
theorem dX2_hasBit_2 : decode cX2_hasBit 2 = .ok (.ishr, 1) := by decide +kernel
theorem dX2_hasBit_3 : decode cX2_hasBit 3 = .ok (.iconst 1, 1) := by decide +kernel
theorem dX2_hasBit_4 : decode cX2_hasBit 4 = .ok (.iand, 1) := by decide +kernel
theorem dX2_hasBit_5 : decode cX2_hasBit 5 = .ok (.ifCond .eq 7, 3) := by decide +kernel
theorem dX2_hasBit_8 : decode cX2_hasBit 8 = .ok (.iconst 1, 1) := by decide +kernel
theorem dX2_hasBit_9 : decode cX2_hasBit 9 = .ok (.goto 4, 3) := by decide +kernel
theorem dX2_hasBit_12 : decode cX2_hasBit 12 = .ok (.iconst 0, 1) := by decide +kernel
theorem dX2_hasBit_13 : decode cX2_hasBit 13 = .ok (.ireturn, 1) := by decide +kernel
set_option maxRecDepth 20000 in
theorem ggX2_followChains_X2_hasBit : GoodIn wsX2_followChains wsX2_hasBit := goodIn_r _ [11] (by decide +kernel) (by decide +kernel)
set_option maxRecDepth 20000 in
theorem gX2_followChains_X2_hasBit : GoodIn wsX2_followChains (va_wsS RX2 58 yX2_hasBit wsX2_hasBit) := goodIn_app (goodIn_of _ (by decide +kernel)) ggX2_followChains_X2_hasBit
theorem dX2_followChains_0 : decode cX2_followChains 0 = .ok (.aload_n 0, 1) := by decide +kernel
theorem dX2_followChains_1 : decode cX2_followChains 1 = .ok (.getfield 9, 3) := by decide +kernel
theorem dX2_followChains_4 : decode cX2_followChains 4 = .ok (.iconst 0, 1) := by decide +kernel
theorem dX2_followChains_5 : decode cX2_followChains 5 = .ok (.aload_n 0, 1) := by decide +kernel
theorem dX2_followChains_6 : decode cX2_followChains 6 = .ok (.getfield 15, 3) := by decide +kernel
theorem dX2_followChains_9 : decode cX2_followChains 9 = .ok (.iconst 0, 1) := by decide +kernel
theorem dX2_followChains_10 : decode cX2_followChains 10 = .ok (.bipush 16, 2) := by decide +kernel
theorem dX2_followChains_12 : decode cX2_followChains 12 = .ok (.invokestatic 52, 3) := by decide +kernel
theorem dX2_followChains_15 : decode cX2_followChains 15 = .ok (.iconst 0, 1) := by decide +kernel
theorem dX2_followChains_16 : decode cX2_followChains 16 = .ok (.istore_n 1, 1) := by decide +kernel
theorem dX2_followChains_17 : decode cX2_followChains 17 = .ok (.iload_n 1, 1) := by decide +kernel
theorem dX2_followChains_18 : decode cX2_followChains 18 = .ok (.aload_n 0, 1) := by decide +kernel
theorem dX2_followChains_19 : decode cX2_followChains 19 = .ok (.getfield 30, 3) := by decide +kernel
theorem dX2_followChains_22 : decode cX2_followChains 22 = .ok (.if_icmp .ge 53, 3) := by decide +kernel
theorem dX2_followChains_25 : decode cX2_followChains 25 = .ok (.iconst 0, 1) := by decide +kernel
theorem dX2_followChains_26 : decode cX2_followChains 26 = .ok (.istore_n 2, 1) := by decide +kernel
theorem dX2_followChains_27 : decode cX2_followChains 27 = .ok (.iload_n 2, 1) := by decide +kernel
theorem dX2_followChains_28 : decode cX2_followChains 28 = .ok (.aload_n 0, 1) := by decide +kernel
theorem dX2_followChains_29 : decode cX2_followChains 29 = .ok (.getfield 30, 3) := by decide +kernel
theorem dX2_followChains_32 : decode cX2_followChains 32 = .ok (.if_icmp .ge 37, 3) := by decide +kernel
theorem dX2_followChains_35 : decode cX2_followChains 35 = .ok (.aload_n 0, 1) := by decide +kernel
theorem dX2_followChains_36 : decode cX2_followChains 36 = .ok (.getfield 15, 3) := by decide +kernel
theorem dX2_followChains_39 : decode cX2_followChains 39 = .ok (.iload_n 2, 1) := by decide +kernel
theorem dX2_followChains_40 : decode cX2_followChains 40 = .ok (.iaload, 1) := by decide +kernel
theorem dX2_followChains_41 : decode cX2_followChains 41 = .ok (.iload_n 1, 1) := by decide +kernel
theorem dX2_followChains_42 : decode cX2_followChains 42 = .ok (.invokestatic 58, 3) := by decide +kernel
theorem dX2_followChains_45 : decode cX2_followChains 45 = .ok (.ifCond .eq 18, 3) := by decide +kernel
theorem dX2_followChains_48 : decode cX2_followChains 48 = .ok (.aload_n 0, 1) := by decide +kernel
theorem dX2_followChains_49 : decode cX2_followChains 49 = .ok (.getfield 15, 3) := by decide +kernel
theorem dX2_followChains_52 : decode cX2_followChains 52 = .ok (.iload_n 2, 1) := by decide +kernel
theorem dX2_followChains_53 : decode cX2_followChains 53 = .ok (.dup2, 1) := by decide +kernel
theorem dX2_followChains_54 : decode cX2_followChains 54 = .ok (.iaload, 1) := by decide +kernel
theorem dX2_followChains_55 : decode cX2_followChains 55 = .ok (.aload_n 0, 1) := by decide +kernel
theorem dX2_followChains_56 : decode cX2_followChains 56 = .ok (.getfield 15, 3) := by decide +kernel
theorem dX2_followChains_59 : decode cX2_followChains 59 = .ok (.iload_n 1, 1) := by decide +kernel
theorem dX2_followChains_60 : decode cX2_followChains 60 = .ok (.iaload, 1) := by decide +kernel
theorem dX2_followChains_61 : decode cX2_followChains 61 = .ok (.ior, 1) := by decide +kernel
theorem dX2_followChains_62 : decode cX2_followChains 62 = .ok (.iastore, 1) := by decide +kernel
theorem dX2_followChains_63 : decode cX2_followChains 63 = .ok (.iinc 2 1, 3) := by decide +kernel
theorem dX2_followChains_66 : decode cX2_followChains 66 = .ok (.goto (-39), 3) := by decide +kernel
theorem dX2_followChains_69 : decode cX2_followChains 69 = .ok (.iinc 1 1, 3) := by decide +kernel
theorem dX2_followChains_72 : decode cX2_followChains 72 = .ok (.goto (-55), 3) := by decide +kernel
theorem dX2_followChains_75 : decode cX2_followChains 75 = .ok (.return_, 1) := by decide +kernel
set_option maxRecDepth 20000 in
theorem ggX2_draw_J7_fill_53178 : GoodIn wsX2_draw wsJ7_fill_53178 := goodIn_r _ [10] (by decide +kernel) (by decide +kernel)
set_option maxRecDepth 20000 in
theorem gX2_draw_J7_fill_53178 : GoodIn wsX2_draw (va_wsS RX2 62 yJ7_fill_53178 wsJ7_fill_53178) := goodIn_app (goodIn_of _ (by decide +kernel)) ggX2_draw_J7_fill_53178
set_option maxRecDepth 20000 in
theorem ggX2_draw_X2_nextToDraw : GoodIn wsX2_draw wsX2_nextToDraw := goodIn_r _ [15, 4, 2, 6, 16, 17, 14, 18, 19, 20, 21, 22, 23, 24, 25, 26, 27, 28, 29, 30, 31, 32, 33, 34, 35, 36, 37, 38, 39, 40, 49, 50, 51, 52, 53, 54, 55, 56, 57, 58, 59, 60, 61, 62, 63] (by decide +kernel) (by decide +kernel)
set_option maxRecDepth 20000 in
theorem gX2_draw_X2_nextToDraw : GoodIn wsX2_draw (wsV RX2 74 RX2 yX2_nextToDraw wsX2_nextToDraw) := goodIn_app (goodIn_of _ (by decide +kernel)) ggX2_draw_X2_nextToDraw
set_option maxRecDepth 20000 in
theorem ggX2_draw_X2_layerAbove : GoodIn wsX2_draw wsX2_layerAbove := goodIn_r _ [44, 4, 1, 45, 46, 47, 48, 16, 17, 14, 18, 49, 50, 51, 52, 53, 54, 55] (by decide +kernel) (by decide +kernel)
set_option maxRecDepth 20000 in
theorem gX2_draw_X2_layerAbove : GoodIn wsX2_draw (wsV RX2 78 RX2 yX2_layerAbove wsX2_layerAbove) := goodIn_app (goodIn_of _ (by decide +kernel)) ggX2_draw_X2_layerAbove
theorem dX2_draw_0 : decode cX2_draw 0 = .ok (.aload_n 0, 1) := by decide +kernel
theorem dX2_draw_1 : decode cX2_draw 1 = .ok (.getfield 21, 3) := by decide +kernel
theorem dX2_draw_4 : decode cX2_draw 4 = .ok (.bipush (-5), 2) := by decide +kernel
theorem dX2_draw_6 : decode cX2_draw 6 = .ok (.invokestatic 62, 3) := by decide +kernel
theorem dX2_draw_9 : decode cX2_draw 9 = .ok (.aload_n 0, 1) := by decide +kernel
theorem dX2_draw_10 : decode cX2_draw 10 = .ok (.iconst 0, 1) := by decide +kernel
theorem dX2_draw_11 : decode cX2_draw 11 = .ok (.putfield 68, 3) := by decide +kernel
theorem dX2_draw_14 : decode cX2_draw 14 = .ok (.aload_n 0, 1) := by decide +kernel
theorem dX2_draw_15 : decode cX2_draw 15 = .ok (.iconst 0, 1) := by decide +kernel
theorem dX2_draw_16 : decode cX2_draw 16 = .ok (.putfield 71, 3) := by decide +kernel
theorem dX2_draw_19 : decode cX2_draw 19 = .ok (.iconst 0, 1) := by decide +kernel
theorem dX2_draw_20 : decode cX2_draw 20 = .ok (.istore_n 2, 1) := by decide +kernel
theorem dX2_draw_21 : decode cX2_draw 21 = .ok (.iload_n 2, 1) := by decide +kernel
theorem dX2_draw_22 : decode cX2_draw 22 = .ok (.aload_n 0, 1) := by decide +kernel
theorem dX2_draw_23 : decode cX2_draw 23 = .ok (.getfield 30, 3) := by decide +kernel
theorem dX2_draw_26 : decode cX2_draw 26 = .ok (.if_icmp .ge 66, 3) := by decide +kernel
theorem dX2_draw_29 : decode cX2_draw 29 = .ok (.aload_n 0, 1) := by decide +kernel
theorem dX2_draw_30 : decode cX2_draw 30 = .ok (.aload_n 1, 1) := by decide +kernel
theorem dX2_draw_31 : decode cX2_draw 31 = .ok (.invokevirtual 74, 3) := by decide +kernel
theorem dX2_draw_34 : decode cX2_draw 34 = .ok (.istore_n 3, 1) := by decide +kernel
theorem dX2_draw_35 : decode cX2_draw 35 = .ok (.iload_n 3, 1) := by decide +kernel
theorem dX2_draw_36 : decode cX2_draw 36 = .ok (.iconst (-1), 1) := by decide +kernel
theorem dX2_draw_37 : decode cX2_draw 37 = .ok (.if_icmp .ne 4, 3) := by decide +kernel
theorem dX2_draw_40 : decode cX2_draw 40 = .ok (.return_, 1) := by decide +kernel
theorem dX2_draw_41 : decode cX2_draw 41 = .ok (.aload_n 0, 1) := by decide +kernel
theorem dX2_draw_42 : decode cX2_draw 42 = .ok (.getfield 18, 3) := by decide +kernel
theorem dX2_draw_45 : decode cX2_draw 45 = .ok (.iload_n 2, 1) := by decide +kernel
theorem dX2_draw_46 : decode cX2_draw 46 = .ok (.iload_n 3, 1) := by decide +kernel
theorem dX2_draw_47 : decode cX2_draw 47 = .ok (.iastore, 1) := by decide +kernel
theorem dX2_draw_48 : decode cX2_draw 48 = .ok (.aload_n 0, 1) := by decide +kernel
theorem dX2_draw_49 : decode cX2_draw 49 = .ok (.getfield 21, 3) := by decide +kernel
theorem dX2_draw_52 : decode cX2_draw 52 = .ok (.iload_n 3, 1) := by decide +kernel
theorem dX2_draw_53 : decode cX2_draw 53 = .ok (.aload_n 0, 1) := by decide +kernel
theorem dX2_draw_54 : decode cX2_draw 54 = .ok (.aload_n 0, 1) := by decide +kernel
theorem dX2_draw_55 : decode cX2_draw 55 = .ok (.getfield 9, 3) := by decide +kernel
theorem dX2_draw_58 : decode cX2_draw 58 = .ok (.iload_n 3, 1) := by decide +kernel
theorem dX2_draw_59 : decode cX2_draw 59 = .ok (.iaload, 1) := by decide +kernel
theorem dX2_draw_60 : decode cX2_draw 60 = .ok (.invokevirtual 78, 3) := by decide +kernel
theorem dX2_draw_63 : decode cX2_draw 63 = .ok (.iastore, 1) := by decide +kernel
theorem dX2_draw_64 : decode cX2_draw 64 = .ok (.aload_n 0, 1) := by decide +kernel
theorem dX2_draw_65 : decode cX2_draw 65 = .ok (.dup, 1) := by decide +kernel
theorem dX2_draw_66 : decode cX2_draw 66 = .ok (.getfield 68, 3) := by decide +kernel
theorem dX2_draw_69 : decode cX2_draw 69 = .ok (.iconst 1, 1) := by decide +kernel
theorem dX2_draw_70 : decode cX2_draw 70 = .ok (.iload_n 3, 1) := by decide +kernel
theorem dX2_draw_71 : decode cX2_draw 71 = .ok (.ishl, 1) := by decide +kernel
theorem dX2_draw_72 : decode cX2_draw 72 = .ok (.ior, 1) := by decide +kernel
theorem dX2_draw_73 : decode cX2_draw 73 = .ok (.putfield 68, 3) := by decide +kernel
theorem dX2_draw_76 : decode cX2_draw 76 = .ok (.aload_n 0, 1) := by decide +kernel
theorem dX2_draw_77 : decode cX2_draw 77 = .ok (.dup, 1) := by decide +kernel
theorem dX2_draw_78 : decode cX2_draw 78 = .ok (.getfield 71, 3) := by decide +kernel
theorem dX2_draw_81 : decode cX2_draw 81 = .ok (.iconst 1, 1) := by decide +kernel
theorem dX2_draw_82 : decode cX2_draw 82 = .ok (.iadd, 1) := by decide +kernel
theorem dX2_draw_83 : decode cX2_draw 83 = .ok (.putfield 71, 3) := by decide +kernel
theorem dX2_draw_86 : decode cX2_draw 86 = .ok (.iinc 2 1, 3) := by decide +kernel
theorem dX2_draw_89 : decode cX2_draw 89 = .ok (.goto (-68), 3) := by decide +kernel
theorem dX2_draw_92 : decode cX2_draw 92 = .ok (.return_, 1) := by decide +kernel
set_option maxRecDepth 20000 in
theorem ggX2_nextToDraw_X2_hasBit : GoodIn wsX2_nextToDraw wsX2_hasBit := goodIn_r _ [7] (by decide +kernel) (by decide +kernel)
set_option maxRecDepth 20000 in
theorem gX2_nextToDraw_X2_hasBit : GoodIn wsX2_nextToDraw (va_wsS RX2 58 yX2_hasBit wsX2_hasBit) := goodIn_app (goodIn_of _ (by decide +kernel)) ggX2_nextToDraw_X2_hasBit
set_option maxRecDepth 20000 in
theorem ggX2_nextToDraw_X3_weightInDrawing : GoodIn wsX2_nextToDraw wsX3_weightInDrawing := goodIn_r _ [12, 13, 14, 15, 16, 17, 18, 19, 20, 21, 22, 23, 24, 25, 26, 27, 28, 29, 37, 38, 39, 40, 41, 42, 43, 44] (by decide +kernel) (by decide +kernel)
set_option maxRecDepth 20000 in
theorem gX2_nextToDraw_X3_weightInDrawing : GoodIn wsX2_nextToDraw (wsV RX2 82 RX3 yX3_weightInDrawing wsX3_weightInDrawing) := goodIn_app (goodIn_of _ (by decide +kernel)) ggX2_nextToDraw_X3_weightInDrawing
theorem dX2_nextToDraw_0 : decode cX2_nextToDraw 0 = .ok (.iconst (-1), 1) := by decide +kernel
theorem dX2_nextToDraw_1 : decode cX2_nextToDraw 1 = .ok (.istore_n 2, 1) := by decide +kernel
theorem dX2_nextToDraw_2 : decode cX2_nextToDraw 2 = .ok (.iconst 0, 1) := by decide +kernel
theorem dX2_nextToDraw_3 : decode cX2_nextToDraw 3 = .ok (.istore_n 3, 1) := by decide +kernel
theorem dX2_nextToDraw_4 : decode cX2_nextToDraw 4 = .ok (.iload_n 3, 1) := by decide +kernel
theorem dX2_nextToDraw_5 : decode cX2_nextToDraw 5 = .ok (.aload_n 0, 1) := by decide +kernel
theorem dX2_nextToDraw_6 : decode cX2_nextToDraw 6 = .ok (.getfield 30, 3) := by decide +kernel
theorem dX2_nextToDraw_9 : decode cX2_nextToDraw 9 = .ok (.if_icmp .ge 68, 3) := by decide +kernel
theorem dX2_nextToDraw_12 : decode cX2_nextToDraw 12 = .ok (.aload_n 0, 1) := by decide +kernel
theorem dX2_nextToDraw_13 : decode cX2_nextToDraw 13 = .ok (.getfield 68, 3) := by decide +kernel
theorem dX2_nextToDraw_16 : decode cX2_nextToDraw 16 = .ok (.iload_n 3, 1) := by decide +kernel
theorem dX2_nextToDraw_17 : decode cX2_nextToDraw 17 = .ok (.invokestatic 58, 3) := by decide +kernel
theorem dX2_nextToDraw_20 : decode cX2_nextToDraw 20 = .ok (.ifCond .ne 23, 3) := by decide +kernel
theorem dX2_nextToDraw_23 : decode cX2_nextToDraw 23 = .ok (.aload_n 0, 1) := by decide +kernel
theorem dX2_nextToDraw_24 : decode cX2_nextToDraw 24 = .ok (.getfield 9, 3) := by decide +kernel
theorem dX2_nextToDraw_27 : decode cX2_nextToDraw 27 = .ok (.iload_n 3, 1) := by decide +kernel
theorem dX2_nextToDraw_28 : decode cX2_nextToDraw 28 = .ok (.iaload, 1) := by decide +kernel
theorem dX2_nextToDraw_29 : decode cX2_nextToDraw 29 = .ok (.aload_n 0, 1) := by decide +kernel
theorem dX2_nextToDraw_30 : decode cX2_nextToDraw 30 = .ok (.getfield 68, 3) := by decide +kernel
theorem dX2_nextToDraw_33 : decode cX2_nextToDraw 33 = .ok (.iconst (-1), 1) := by decide +kernel
theorem dX2_nextToDraw_34 : decode cX2_nextToDraw 34 = .ok (.ixor, 1) := by decide +kernel
theorem dX2_nextToDraw_35 : decode cX2_nextToDraw 35 = .ok (.iand, 1) := by decide +kernel
theorem dX2_nextToDraw_36 : decode cX2_nextToDraw 36 = .ok (.ifCond .ne 7, 3) := by decide +kernel
theorem dX2_nextToDraw_39 : decode cX2_nextToDraw 39 = .ok (.iconst 1, 1) := by decide +kernel
theorem dX2_nextToDraw_40 : decode cX2_nextToDraw 40 = .ok (.goto 4, 3) := by decide +kernel
theorem dX2_nextToDraw_43 : decode cX2_nextToDraw 43 = .ok (.iconst 0, 1) := by decide +kernel
theorem dX2_nextToDraw_44 : decode cX2_nextToDraw 44 = .ok (.istore 4, 2) := by decide +kernel
theorem dX2_nextToDraw_46 : decode cX2_nextToDraw 46 = .ok (.iload 4, 2) := by decide +kernel
theorem dX2_nextToDraw_48 : decode cX2_nextToDraw 48 = .ok (.ifCond .eq 23, 3) := by decide +kernel
theorem dX2_nextToDraw_51 : decode cX2_nextToDraw 51 = .ok (.iload_n 2, 1) := by decide +kernel
theorem dX2_nextToDraw_52 : decode cX2_nextToDraw 52 = .ok (.iconst (-1), 1) := by decide +kernel
theorem dX2_nextToDraw_53 : decode cX2_nextToDraw 53 = .ok (.if_icmp .eq 16, 3) := by decide +kernel
theorem dX2_nextToDraw_56 : decode cX2_nextToDraw 56 = .ok (.aload_n 1, 1) := by decide +kernel
theorem dX2_nextToDraw_57 : decode cX2_nextToDraw 57 = .ok (.iload_n 3, 1) := by decide +kernel
theorem dX2_nextToDraw_58 : decode cX2_nextToDraw 58 = .ok (.invokevirtual 82, 3) := by decide +kernel
theorem dX2_nextToDraw_61 : decode cX2_nextToDraw 61 = .ok (.aload_n 1, 1) := by decide +kernel
theorem dX2_nextToDraw_62 : decode cX2_nextToDraw 62 = .ok (.iload_n 2, 1) := by decide +kernel
theorem dX2_nextToDraw_63 : decode cX2_nextToDraw 63 = .ok (.invokevirtual 82, 3) := by decide +kernel
theorem dX2_nextToDraw_66 : decode cX2_nextToDraw 66 = .ok (.if_icmp .ge 5, 3) := by decide +kernel
theorem dX2_nextToDraw_69 : decode cX2_nextToDraw 69 = .ok (.iload_n 3, 1) := by decide +kernel
theorem dX2_nextToDraw_70 : decode cX2_nextToDraw 70 = .ok (.istore_n 2, 1) := by decide +kernel
theorem dX2_nextToDraw_71 : decode cX2_nextToDraw 71 = .ok (.iinc 3 1, 3) := by decide +kernel
theorem dX2_nextToDraw_74 : decode cX2_nextToDraw 74 = .ok (.goto (-70), 3) := by decide +kernel
theorem dX2_nextToDraw_77 : decode cX2_nextToDraw 77 = .ok (.iload_n 2, 1) := by decide +kernel
theorem dX2_nextToDraw_78 : decode cX2_nextToDraw 78 = .ok (.ireturn, 1) := by decide +kernel
set_option maxRecDepth 20000 in
theorem ggX2_layerAbove_X2_hasBit : GoodIn wsX2_layerAbove wsX2_hasBit := goodIn_r _ [10] (by decide +kernel) (by decide +kernel)
set_option maxRecDepth 20000 in
theorem gX2_layerAbove_X2_hasBit : GoodIn wsX2_layerAbove (va_wsS RX2 58 yX2_hasBit wsX2_hasBit) := goodIn_app (goodIn_of _ (by decide +kernel)) ggX2_layerAbove_X2_hasBit
theorem dX2_layerAbove_0 : decode cX2_layerAbove 0 = .ok (.iconst 0, 1) := by decide +kernel
theorem dX2_layerAbove_1 : decode cX2_layerAbove 1 = .ok (.istore_n 2, 1) := by decide +kernel
theorem dX2_layerAbove_2 : decode cX2_layerAbove 2 = .ok (.iconst 0, 1) := by decide +kernel
theorem dX2_layerAbove_3 : decode cX2_layerAbove 3 = .ok (.istore_n 3, 1) := by decide +kernel
theorem dX2_layerAbove_4 : decode cX2_layerAbove 4 = .ok (.iload_n 3, 1) := by decide +kernel
theorem dX2_layerAbove_5 : decode cX2_layerAbove 5 = .ok (.aload_n 0, 1) := by decide +kernel
theorem dX2_layerAbove_6 : decode cX2_layerAbove 6 = .ok (.getfield 30, 3) := by decide +kernel
theorem dX2_layerAbove_9 : decode cX2_layerAbove 9 = .ok (.if_icmp .ge 30, 3) := by decide +kernel
theorem dX2_layerAbove_12 : decode cX2_layerAbove 12 = .ok (.iload_n 1, 1) := by decide +kernel
theorem dX2_layerAbove_13 : decode cX2_layerAbove 13 = .ok (.iload_n 3, 1) := by decide +kernel
theorem dX2_layerAbove_14 : decode cX2_layerAbove 14 = .ok (.invokestatic 58, 3) := by decide +kernel
theorem dX2_layerAbove_17 : decode cX2_layerAbove 17 = .ok (.ifCond .eq 16, 3) := by decide +kernel
theorem dX2_layerAbove_20 : decode cX2_layerAbove 20 = .ok (.iload_n 2, 1) := by decide +kernel
theorem dX2_layerAbove_21 : decode cX2_layerAbove 21 = .ok (.aload_n 0, 1) := by decide +kernel
theorem dX2_layerAbove_22 : decode cX2_layerAbove 22 = .ok (.getfield 21, 3) := by decide +kernel
theorem dX2_layerAbove_25 : decode cX2_layerAbove 25 = .ok (.iload_n 3, 1) := by decide +kernel
theorem dX2_layerAbove_26 : decode cX2_layerAbove 26 = .ok (.iaload, 1) := by decide +kernel
theorem dX2_layerAbove_27 : decode cX2_layerAbove 27 = .ok (.iconst 1, 1) := by decide +kernel
theorem dX2_layerAbove_28 : decode cX2_layerAbove 28 = .ok (.iadd, 1) := by decide +kernel
theorem dX2_layerAbove_29 : decode cX2_layerAbove 29 = .ok (.invokestatic 85, 3) := by decide +kernel
theorem dX2_layerAbove_32 : decode cX2_layerAbove 32 = .ok (.istore_n 2, 1) := by decide +kernel
theorem dX2_layerAbove_33 : decode cX2_layerAbove 33 = .ok (.iinc 3 1, 3) := by decide +kernel
theorem dX2_layerAbove_36 : decode cX2_layerAbove 36 = .ok (.goto (-32), 3) := by decide +kernel
theorem dX2_layerAbove_39 : decode cX2_layerAbove 39 = .ok (.iload_n 2, 1) := by decide +kernel
theorem dX2_layerAbove_40 : decode cX2_layerAbove 40 = .ok (.ireturn, 1) := by decide +kernel
set_option maxRecDepth 20000 in
theorem ggX2_hiddenBy_J6_bitCount_0f7a4 : GoodIn wsX2_hiddenBy wsJ6_bitCount_0f7a4 := goodIn_r _ [5, 6, 7, 8] (by decide +kernel) (by decide +kernel)
set_option maxRecDepth 20000 in
theorem gX2_hiddenBy_J6_bitCount_0f7a4 : GoodIn wsX2_hiddenBy (va_wsS RX2 91 yJ6_bitCount_0f7a4 wsJ6_bitCount_0f7a4) := goodIn_app (goodIn_of _ (by decide +kernel)) ggX2_hiddenBy_J6_bitCount_0f7a4
theorem dX2_hiddenBy_0 : decode cX2_hiddenBy 0 = .ok (.aload_n 0, 1) := by decide +kernel
theorem dX2_hiddenBy_1 : decode cX2_hiddenBy 1 = .ok (.getfield 9, 3) := by decide +kernel
theorem dX2_hiddenBy_4 : decode cX2_hiddenBy 4 = .ok (.iload_n 1, 1) := by decide +kernel
theorem dX2_hiddenBy_5 : decode cX2_hiddenBy 5 = .ok (.iaload, 1) := by decide +kernel
theorem dX2_hiddenBy_6 : decode cX2_hiddenBy 6 = .ok (.invokestatic 91, 3) := by decide +kernel
theorem dX2_hiddenBy_9 : decode cX2_hiddenBy 9 = .ok (.ireturn, 1) := by decide +kernel
set_option maxRecDepth 20000 in
theorem ggX2_hidersOf_X2_hasBit : GoodIn wsX2_hidersOf wsX2_hasBit := goodIn_r _ [6] (by decide +kernel) (by decide +kernel)
set_option maxRecDepth 20000 in
theorem gX2_hidersOf_X2_hasBit : GoodIn wsX2_hidersOf (va_wsS RX2 58 yX2_hasBit wsX2_hasBit) := goodIn_app (goodIn_of _ (by decide +kernel)) ggX2_hidersOf_X2_hasBit
theorem dX2_hidersOf_0 : decode cX2_hidersOf 0 = .ok (.iconst 0, 1) := by decide +kernel
theorem dX2_hidersOf_1 : decode cX2_hidersOf 1 = .ok (.istore_n 2, 1) := by decide +kernel
theorem dX2_hidersOf_2 : decode cX2_hidersOf 2 = .ok (.iconst 0, 1) := by decide +kernel
theorem dX2_hidersOf_3 : decode cX2_hidersOf 3 = .ok (.istore_n 3, 1) := by decide +kernel
theorem dX2_hidersOf_4 : decode cX2_hidersOf 4 = .ok (.iload_n 3, 1) := by decide +kernel
theorem dX2_hidersOf_5 : decode cX2_hidersOf 5 = .ok (.aload_n 0, 1) := by decide +kernel
theorem dX2_hidersOf_6 : decode cX2_hidersOf 6 = .ok (.getfield 30, 3) := by decide +kernel
theorem dX2_hidersOf_9 : decode cX2_hidersOf 9 = .ok (.if_icmp .ge 25, 3) := by decide +kernel
theorem dX2_hidersOf_12 : decode cX2_hidersOf 12 = .ok (.aload_n 0, 1) := by decide +kernel
theorem dX2_hidersOf_13 : decode cX2_hidersOf 13 = .ok (.getfield 9, 3) := by decide +kernel
theorem dX2_hidersOf_16 : decode cX2_hidersOf 16 = .ok (.iload_n 3, 1) := by decide +kernel
theorem dX2_hidersOf_17 : decode cX2_hidersOf 17 = .ok (.iaload, 1) := by decide +kernel
theorem dX2_hidersOf_18 : decode cX2_hidersOf 18 = .ok (.iload_n 1, 1) := by decide +kernel
theorem dX2_hidersOf_19 : decode cX2_hidersOf 19 = .ok (.invokestatic 58, 3) := by decide +kernel
theorem dX2_hidersOf_22 : decode cX2_hidersOf 22 = .ok (.ifCond .eq 6, 3) := by decide +kernel
theorem dX2_hidersOf_25 : decode cX2_hidersOf 25 = .ok (.iinc 2 1, 3) := by decide +kernel
theorem dX2_hidersOf_28 : decode cX2_hidersOf 28 = .ok (.iinc 3 1, 3) := by decide +kernel
theorem dX2_hidersOf_31 : decode cX2_hidersOf 31 = .ok (.goto (-27), 3) := by decide +kernel
theorem dX2_hidersOf_34 : decode cX2_hidersOf 34 = .ok (.iload_n 2, 1) := by decide +kernel
theorem dX2_hidersOf_35 : decode cX2_hidersOf 35 = .ok (.ireturn, 1) := by decide +kernel
set_option maxRecDepth 20000 in
theorem ggX2_hidings_X2_hiddenBy : GoodIn wsX2_hidings wsX2_hiddenBy := goodIn_r _ [6, 7, 8, 9, 10, 11, 12, 13, 14, 15, 16, 17, 18, 19, 20, 21] (by decide +kernel) (by decide +kernel)
set_option maxRecDepth 20000 in
theorem gX2_hidings_X2_hiddenBy : GoodIn wsX2_hidings (wsV RX2 96 RX2 yX2_hiddenBy wsX2_hiddenBy) := goodIn_app (goodIn_of _ (by decide +kernel)) ggX2_hidings_X2_hiddenBy
theorem dX2_hidings_0 : decode cX2_hidings 0 = .ok (.iconst 0, 1) := by decide +kernel
theorem dX2_hidings_1 : decode cX2_hidings 1 = .ok (.istore_n 1, 1) := by decide +kernel
theorem dX2_hidings_2 : decode cX2_hidings 2 = .ok (.iconst 0, 1) := by decide +kernel
theorem dX2_hidings_3 : decode cX2_hidings 3 = .ok (.istore_n 2, 1) := by decide +kernel
theorem dX2_hidings_4 : decode cX2_hidings 4 = .ok (.iload_n 2, 1) := by decide +kernel
theorem dX2_hidings_5 : decode cX2_hidings 5 = .ok (.aload_n 0, 1) := by decide +kernel
theorem dX2_hidings_6 : decode cX2_hidings 6 = .ok (.getfield 30, 3) := by decide +kernel
theorem dX2_hidings_9 : decode cX2_hidings 9 = .ok (.if_icmp .ge 17, 3) := by decide +kernel
theorem dX2_hidings_12 : decode cX2_hidings 12 = .ok (.iload_n 1, 1) := by decide +kernel
theorem dX2_hidings_13 : decode cX2_hidings 13 = .ok (.aload_n 0, 1) := by decide +kernel
theorem dX2_hidings_14 : decode cX2_hidings 14 = .ok (.iload_n 2, 1) := by decide +kernel
theorem dX2_hidings_15 : decode cX2_hidings 15 = .ok (.invokevirtual 96, 3) := by decide +kernel
theorem dX2_hidings_18 : decode cX2_hidings 18 = .ok (.iadd, 1) := by decide +kernel
theorem dX2_hidings_19 : decode cX2_hidings 19 = .ok (.istore_n 1, 1) := by decide +kernel
theorem dX2_hidings_20 : decode cX2_hidings 20 = .ok (.iinc 2 1, 3) := by decide +kernel
theorem dX2_hidings_23 : decode cX2_hidings 23 = .ok (.goto (-19), 3) := by decide +kernel
theorem dX2_hidings_26 : decode cX2_hidings 26 = .ok (.iload_n 1, 1) := by decide +kernel
theorem dX2_hidings_27 : decode cX2_hidings 27 = .ok (.ireturn, 1) := by decide +kernel
set_option maxRecDepth 20000 in
theorem ggX2_hidingsNotIn_J6_bitCount_0f7a4 : GoodIn wsX2_hidingsNotIn wsJ6_bitCount_0f7a4 := goodIn_r _ [6, 7, 8, 9] (by decide +kernel) (by decide +kernel)
set_option maxRecDepth 20000 in
theorem gX2_hidingsNotIn_J6_bitCount_0f7a4 : GoodIn wsX2_hidingsNotIn (va_wsS RX2 91 yJ6_bitCount_0f7a4 wsJ6_bitCount_0f7a4) := goodIn_app (goodIn_of _ (by decide +kernel)) ggX2_hidingsNotIn_J6_bitCount_0f7a4
theorem dX2_hidingsNotIn_0 : decode cX2_hidingsNotIn 0 = .ok (.iconst 0, 1) := by decide +kernel
theorem dX2_hidingsNotIn_1 : decode cX2_hidingsNotIn 1 = .ok (.istore_n 2, 1) := by decide +kernel
theorem dX2_hidingsNotIn_2 : decode cX2_hidingsNotIn 2 = .ok (.iconst 0, 1) := by decide +kernel
theorem dX2_hidingsNotIn_3 : decode cX2_hidingsNotIn 3 = .ok (.istore_n 3, 1) := by decide +kernel
theorem dX2_hidingsNotIn_4 : decode cX2_hidingsNotIn 4 = .ok (.iload_n 3, 1) := by decide +kernel
theorem dX2_hidingsNotIn_5 : decode cX2_hidingsNotIn 5 = .ok (.aload_n 0, 1) := by decide +kernel
theorem dX2_hidingsNotIn_6 : decode cX2_hidingsNotIn 6 = .ok (.getfield 30, 3) := by decide +kernel
theorem dX2_hidingsNotIn_9 : decode cX2_hidingsNotIn 9 = .ok (.if_icmp .ge 30, 3) := by decide +kernel
theorem dX2_hidingsNotIn_12 : decode cX2_hidingsNotIn 12 = .ok (.iload_n 2, 1) := by decide +kernel
theorem dX2_hidingsNotIn_13 : decode cX2_hidingsNotIn 13 = .ok (.aload_n 0, 1) := by decide +kernel
theorem dX2_hidingsNotIn_14 : decode cX2_hidingsNotIn 14 = .ok (.getfield 9, 3) := by decide +kernel
theorem dX2_hidingsNotIn_17 : decode cX2_hidingsNotIn 17 = .ok (.iload_n 3, 1) := by decide +kernel
theorem dX2_hidingsNotIn_18 : decode cX2_hidingsNotIn 18 = .ok (.iaload, 1) := by decide +kernel
theorem dX2_hidingsNotIn_19 : decode cX2_hidingsNotIn 19 = .ok (.aload_n 1, 1) := by decide +kernel
theorem dX2_hidingsNotIn_20 : decode cX2_hidingsNotIn 20 = .ok (.getfield 9, 3) := by decide +kernel
theorem dX2_hidingsNotIn_23 : decode cX2_hidingsNotIn 23 = .ok (.iload_n 3, 1) := by decide +kernel
theorem dX2_hidingsNotIn_24 : decode cX2_hidingsNotIn 24 = .ok (.iaload, 1) := by decide +kernel
theorem dX2_hidingsNotIn_25 : decode cX2_hidingsNotIn 25 = .ok (.iconst (-1), 1) := by decide +kernel
theorem dX2_hidingsNotIn_26 : decode cX2_hidingsNotIn 26 = .ok (.ixor, 1) := by decide +kernel
theorem dX2_hidingsNotIn_27 : decode cX2_hidingsNotIn 27 = .ok (.iand, 1) := by decide +kernel
theorem dX2_hidingsNotIn_28 : decode cX2_hidingsNotIn 28 = .ok (.invokestatic 91, 3) := by decide +kernel
theorem dX2_hidingsNotIn_31 : decode cX2_hidingsNotIn 31 = .ok (.iadd, 1) := by decide +kernel
theorem dX2_hidingsNotIn_32 : decode cX2_hidingsNotIn 32 = .ok (.istore_n 2, 1) := by decide +kernel
theorem dX2_hidingsNotIn_33 : decode cX2_hidingsNotIn 33 = .ok (.iinc 3 1, 3) := by decide +kernel
theorem dX2_hidingsNotIn_36 : decode cX2_hidingsNotIn 36 = .ok (.goto (-32), 3) := by decide +kernel
theorem dX2_hidingsNotIn_39 : decode cX2_hidingsNotIn 39 = .ok (.iload_n 2, 1) := by decide +kernel
theorem dX2_hidingsNotIn_40 : decode cX2_hidingsNotIn 40 = .ok (.ireturn, 1) := by decide +kernel
theorem dX2_slotDrawn_0 : decode cX2_slotDrawn 0 = .ok (.iload_n 1, 1) := by decide +kernel
theorem dX2_slotDrawn_1 : decode cX2_slotDrawn 1 = .ok (.ifCond .lt 20, 3) := by decide +kernel
theorem dX2_slotDrawn_4 : decode cX2_slotDrawn 4 = .ok (.iload_n 1, 1) := by decide +kernel
theorem dX2_slotDrawn_5 : decode cX2_slotDrawn 5 = .ok (.aload_n 0, 1) := by decide +kernel
theorem dX2_slotDrawn_6 : decode cX2_slotDrawn 6 = .ok (.getfield 71, 3) := by decide +kernel
theorem dX2_slotDrawn_9 : decode cX2_slotDrawn 9 = .ok (.if_icmp .ge 12, 3) := by decide +kernel
theorem dX2_slotDrawn_12 : decode cX2_slotDrawn 12 = .ok (.aload_n 0, 1) := by decide +kernel
theorem dX2_slotDrawn_13 : decode cX2_slotDrawn 13 = .ok (.getfield 18, 3) := by decide +kernel
theorem dX2_slotDrawn_16 : decode cX2_slotDrawn 16 = .ok (.iload_n 1, 1) := by decide +kernel
theorem dX2_slotDrawn_17 : decode cX2_slotDrawn 17 = .ok (.iaload, 1) := by decide +kernel
theorem dX2_slotDrawn_18 : decode cX2_slotDrawn 18 = .ok (.goto 4, 3) := by decide +kernel
theorem dX2_slotDrawn_21 : decode cX2_slotDrawn 21 = .ok (.iconst (-1), 1) := by decide +kernel
theorem dX2_slotDrawn_22 : decode cX2_slotDrawn 22 = .ok (.ireturn, 1) := by decide +kernel
theorem dX2_greatestLayer_0 : decode cX2_greatestLayer 0 = .ok (.bipush (-5), 2) := by decide +kernel
theorem dX2_greatestLayer_2 : decode cX2_greatestLayer 2 = .ok (.istore_n 1, 1) := by decide +kernel
theorem dX2_greatestLayer_3 : decode cX2_greatestLayer 3 = .ok (.iconst 0, 1) := by decide +kernel
theorem dX2_greatestLayer_4 : decode cX2_greatestLayer 4 = .ok (.istore_n 2, 1) := by decide +kernel
theorem dX2_greatestLayer_5 : decode cX2_greatestLayer 5 = .ok (.iload_n 2, 1) := by decide +kernel
theorem dX2_greatestLayer_6 : decode cX2_greatestLayer 6 = .ok (.aload_n 0, 1) := by decide +kernel
theorem dX2_greatestLayer_7 : decode cX2_greatestLayer 7 = .ok (.getfield 30, 3) := by decide +kernel
theorem dX2_greatestLayer_10 : decode cX2_greatestLayer 10 = .ok (.if_icmp .ge 20, 3) := by decide +kernel
theorem dX2_greatestLayer_13 : decode cX2_greatestLayer 13 = .ok (.iload_n 1, 1) := by decide +kernel
theorem dX2_greatestLayer_14 : decode cX2_greatestLayer 14 = .ok (.aload_n 0, 1) := by decide +kernel
theorem dX2_greatestLayer_15 : decode cX2_greatestLayer 15 = .ok (.getfield 21, 3) := by decide +kernel
theorem dX2_greatestLayer_18 : decode cX2_greatestLayer 18 = .ok (.iload_n 2, 1) := by decide +kernel
theorem dX2_greatestLayer_19 : decode cX2_greatestLayer 19 = .ok (.iaload, 1) := by decide +kernel
theorem dX2_greatestLayer_20 : decode cX2_greatestLayer 20 = .ok (.invokestatic 85, 3) := by decide +kernel
theorem dX2_greatestLayer_23 : decode cX2_greatestLayer 23 = .ok (.istore_n 1, 1) := by decide +kernel
theorem dX2_greatestLayer_24 : decode cX2_greatestLayer 24 = .ok (.iinc 2 1, 3) := by decide +kernel
theorem dX2_greatestLayer_27 : decode cX2_greatestLayer 27 = .ok (.goto (-22), 3) := by decide +kernel
theorem dX2_greatestLayer_30 : decode cX2_greatestLayer 30 = .ok (.iload_n 1, 1) := by decide +kernel
theorem dX2_greatestLayer_31 : decode cX2_greatestLayer 31 = .ok (.ireturn, 1) := by decide +kernel
set_option maxRecDepth 20000 in
theorem ggX2_firstNotDrawnUnder_X2_hasBit : GoodIn wsX2_firstNotDrawnUnder wsX2_hasBit := goodIn_r _ [7] (by decide +kernel) (by decide +kernel)
set_option maxRecDepth 20000 in
theorem gX2_firstNotDrawnUnder_X2_hasBit : GoodIn wsX2_firstNotDrawnUnder (va_wsS RX2 58 yX2_hasBit wsX2_hasBit) := goodIn_app (goodIn_of _ (by decide +kernel)) ggX2_firstNotDrawnUnder_X2_hasBit
theorem dX2_firstNotDrawnUnder_0 : decode cX2_firstNotDrawnUnder 0 = .ok (.iconst 0, 1) := by decide +kernel
theorem dX2_firstNotDrawnUnder_1 : decode cX2_firstNotDrawnUnder 1 = .ok (.istore_n 2, 1) := by decide +kernel
theorem dX2_firstNotDrawnUnder_2 : decode cX2_firstNotDrawnUnder 2 = .ok (.iload_n 2, 1) := by decide +kernel
theorem dX2_firstNotDrawnUnder_3 : decode cX2_firstNotDrawnUnder 3 = .ok (.aload_n 0, 1) := by decide +kernel
theorem dX2_firstNotDrawnUnder_4 : decode cX2_firstNotDrawnUnder 4 = .ok (.getfield 30, 3) := by decide +kernel
theorem dX2_firstNotDrawnUnder_7 : decode cX2_firstNotDrawnUnder 7 = .ok (.if_icmp .ge 35, 3) := by decide +kernel
theorem dX2_firstNotDrawnUnder_10 : decode cX2_firstNotDrawnUnder 10 = .ok (.aload_n 0, 1) := by decide +kernel
theorem dX2_firstNotDrawnUnder_11 : decode cX2_firstNotDrawnUnder 11 = .ok (.getfield 9, 3) := by decide +kernel
theorem dX2_firstNotDrawnUnder_14 : decode cX2_firstNotDrawnUnder 14 = .ok (.iload_n 1, 1) := by decide +kernel
theorem dX2_firstNotDrawnUnder_15 : decode cX2_firstNotDrawnUnder 15 = .ok (.iaload, 1) := by decide +kernel
theorem dX2_firstNotDrawnUnder_16 : decode cX2_firstNotDrawnUnder 16 = .ok (.iload_n 2, 1) := by decide +kernel
theorem dX2_firstNotDrawnUnder_17 : decode cX2_firstNotDrawnUnder 17 = .ok (.invokestatic 58, 3) := by decide +kernel
theorem dX2_firstNotDrawnUnder_20 : decode cX2_firstNotDrawnUnder 20 = .ok (.ifCond .eq 16, 3) := by decide +kernel
theorem dX2_firstNotDrawnUnder_23 : decode cX2_firstNotDrawnUnder 23 = .ok (.aload_n 0, 1) := by decide +kernel
theorem dX2_firstNotDrawnUnder_24 : decode cX2_firstNotDrawnUnder 24 = .ok (.getfield 68, 3) := by decide +kernel
theorem dX2_firstNotDrawnUnder_27 : decode cX2_firstNotDrawnUnder 27 = .ok (.iload_n 2, 1) := by decide +kernel
theorem dX2_firstNotDrawnUnder_28 : decode cX2_firstNotDrawnUnder 28 = .ok (.invokestatic 58, 3) := by decide +kernel
theorem dX2_firstNotDrawnUnder_31 : decode cX2_firstNotDrawnUnder 31 = .ok (.ifCond .ne 5, 3) := by decide +kernel
theorem dX2_firstNotDrawnUnder_34 : decode cX2_firstNotDrawnUnder 34 = .ok (.iload_n 2, 1) := by decide +kernel
theorem dX2_firstNotDrawnUnder_35 : decode cX2_firstNotDrawnUnder 35 = .ok (.ireturn, 1) := by decide +kernel
theorem dX2_firstNotDrawnUnder_36 : decode cX2_firstNotDrawnUnder 36 = .ok (.iinc 2 1, 3) := by decide +kernel
theorem dX2_firstNotDrawnUnder_39 : decode cX2_firstNotDrawnUnder 39 = .ok (.goto (-37), 3) := by decide +kernel
theorem dX2_firstNotDrawnUnder_42 : decode cX2_firstNotDrawnUnder 42 = .ok (.iconst (-1), 1) := by decide +kernel
theorem dX2_firstNotDrawnUnder_43 : decode cX2_firstNotDrawnUnder 43 = .ok (.ireturn, 1) := by decide +kernel
set_option maxRecDepth 20000 in
theorem ggX2_isInRing_X2_hasBit : GoodIn wsX2_isInRing wsX2_hasBit := goodIn_r _ [5] (by decide +kernel) (by decide +kernel)
set_option maxRecDepth 20000 in
theorem gX2_isInRing_X2_hasBit : GoodIn wsX2_isInRing (va_wsS RX2 58 yX2_hasBit wsX2_hasBit) := goodIn_app (goodIn_of _ (by decide +kernel)) ggX2_isInRing_X2_hasBit
theorem dX2_isInRing_0 : decode cX2_isInRing 0 = .ok (.aload_n 0, 1) := by decide +kernel
theorem dX2_isInRing_1 : decode cX2_isInRing 1 = .ok (.getfield 15, 3) := by decide +kernel
theorem dX2_isInRing_4 : decode cX2_isInRing 4 = .ok (.iload_n 1, 1) := by decide +kernel
theorem dX2_isInRing_5 : decode cX2_isInRing 5 = .ok (.iaload, 1) := by decide +kernel
theorem dX2_isInRing_6 : decode cX2_isInRing 6 = .ok (.iload_n 1, 1) := by decide +kernel
theorem dX2_isInRing_7 : decode cX2_isInRing 7 = .ok (.invokestatic 58, 3) := by decide +kernel
theorem dX2_isInRing_10 : decode cX2_isInRing 10 = .ok (.ireturn, 1) := by decide +kernel
set_option maxRecDepth 20000 in
theorem ggX2_boxesInRings_X2_isInRing : GoodIn wsX2_boxesInRings wsX2_isInRing := goodIn_r _ [6, 7, 8, 9, 5, 10, 11, 12, 13, 14, 15, 16, 17] (by decide +kernel) (by decide +kernel)
set_option maxRecDepth 20000 in
theorem gX2_boxesInRings_X2_isInRing : GoodIn wsX2_boxesInRings (wsV RX2 99 RX2 yX2_isInRing wsX2_isInRing) := goodIn_app (goodIn_of _ (by decide +kernel)) ggX2_boxesInRings_X2_isInRing
theorem dX2_boxesInRings_0 : decode cX2_boxesInRings 0 = .ok (.iconst 0, 1) := by decide +kernel
theorem dX2_boxesInRings_1 : decode cX2_boxesInRings 1 = .ok (.istore_n 1, 1) := by decide +kernel
theorem dX2_boxesInRings_2 : decode cX2_boxesInRings 2 = .ok (.iconst 0, 1) := by decide +kernel
theorem dX2_boxesInRings_3 : decode cX2_boxesInRings 3 = .ok (.istore_n 2, 1) := by decide +kernel
theorem dX2_boxesInRings_4 : decode cX2_boxesInRings 4 = .ok (.iload_n 2, 1) := by decide +kernel
theorem dX2_boxesInRings_5 : decode cX2_boxesInRings 5 = .ok (.aload_n 0, 1) := by decide +kernel
theorem dX2_boxesInRings_6 : decode cX2_boxesInRings 6 = .ok (.getfield 30, 3) := by decide +kernel
theorem dX2_boxesInRings_9 : decode cX2_boxesInRings 9 = .ok (.if_icmp .ge 20, 3) := by decide +kernel
theorem dX2_boxesInRings_12 : decode cX2_boxesInRings 12 = .ok (.aload_n 0, 1) := by decide +kernel
theorem dX2_boxesInRings_13 : decode cX2_boxesInRings 13 = .ok (.iload_n 2, 1) := by decide +kernel
theorem dX2_boxesInRings_14 : decode cX2_boxesInRings 14 = .ok (.invokevirtual 99, 3) := by decide +kernel
theorem dX2_boxesInRings_17 : decode cX2_boxesInRings 17 = .ok (.ifCond .eq 6, 3) := by decide +kernel
theorem dX2_boxesInRings_20 : decode cX2_boxesInRings 20 = .ok (.iinc 1 1, 3) := by decide +kernel
theorem dX2_boxesInRings_23 : decode cX2_boxesInRings 23 = .ok (.iinc 2 1, 3) := by decide +kernel
theorem dX2_boxesInRings_26 : decode cX2_boxesInRings 26 = .ok (.goto (-22), 3) := by decide +kernel
theorem dX2_boxesInRings_29 : decode cX2_boxesInRings 29 = .ok (.iload_n 1, 1) := by decide +kernel
theorem dX2_boxesInRings_30 : decode cX2_boxesInRings 30 = .ok (.ireturn, 1) := by decide +kernel
set_option maxRecDepth 20000 in
theorem ggX2_shortestRing_X2_shortestRingOf : GoodIn wsX2_shortestRing wsX2_shortestRingOf := goodIn_r _ [6, 7, 1, 8, 9, 5, 10, 11, 12, 13, 14, 15, 16, 17, 18, 19, 20, 21] (by decide +kernel) (by decide +kernel)
set_option maxRecDepth 20000 in
theorem gX2_shortestRing_X2_shortestRingOf : GoodIn wsX2_shortestRing (wsV RX2 103 RX2 yX2_shortestRingOf wsX2_shortestRingOf) := goodIn_app (goodIn_of _ (by decide +kernel)) ggX2_shortestRing_X2_shortestRingOf
theorem dX2_shortestRing_0 : decode cX2_shortestRing 0 = .ok (.bipush (-5), 2) := by decide +kernel
theorem dX2_shortestRing_2 : decode cX2_shortestRing 2 = .ok (.istore_n 1, 1) := by decide +kernel
theorem dX2_shortestRing_3 : decode cX2_shortestRing 3 = .ok (.iconst 0, 1) := by decide +kernel
theorem dX2_shortestRing_4 : decode cX2_shortestRing 4 = .ok (.istore_n 2, 1) := by decide +kernel
theorem dX2_shortestRing_5 : decode cX2_shortestRing 5 = .ok (.iload_n 2, 1) := by decide +kernel
theorem dX2_shortestRing_6 : decode cX2_shortestRing 6 = .ok (.aload_n 0, 1) := by decide +kernel
theorem dX2_shortestRing_7 : decode cX2_shortestRing 7 = .ok (.getfield 30, 3) := by decide +kernel
theorem dX2_shortestRing_10 : decode cX2_shortestRing 10 = .ok (.if_icmp .ge 34, 3) := by decide +kernel
theorem dX2_shortestRing_13 : decode cX2_shortestRing 13 = .ok (.aload_n 0, 1) := by decide +kernel
theorem dX2_shortestRing_14 : decode cX2_shortestRing 14 = .ok (.iload_n 2, 1) := by decide +kernel
theorem dX2_shortestRing_15 : decode cX2_shortestRing 15 = .ok (.invokevirtual 103, 3) := by decide +kernel
theorem dX2_shortestRing_18 : decode cX2_shortestRing 18 = .ok (.istore_n 3, 1) := by decide +kernel
theorem dX2_shortestRing_19 : decode cX2_shortestRing 19 = .ok (.iload_n 3, 1) := by decide +kernel
theorem dX2_shortestRing_20 : decode cX2_shortestRing 20 = .ok (.bipush (-5), 2) := by decide +kernel
theorem dX2_shortestRing_22 : decode cX2_shortestRing 22 = .ok (.if_icmp .eq 16, 3) := by decide +kernel
theorem dX2_shortestRing_25 : decode cX2_shortestRing 25 = .ok (.iload_n 1, 1) := by decide +kernel
theorem dX2_shortestRing_26 : decode cX2_shortestRing 26 = .ok (.bipush (-5), 2) := by decide +kernel
theorem dX2_shortestRing_28 : decode cX2_shortestRing 28 = .ok (.if_icmp .eq 8, 3) := by decide +kernel
theorem dX2_shortestRing_31 : decode cX2_shortestRing 31 = .ok (.iload_n 3, 1) := by decide +kernel
theorem dX2_shortestRing_32 : decode cX2_shortestRing 32 = .ok (.iload_n 1, 1) := by decide +kernel
theorem dX2_shortestRing_33 : decode cX2_shortestRing 33 = .ok (.if_icmp .ge 5, 3) := by decide +kernel
theorem dX2_shortestRing_36 : decode cX2_shortestRing 36 = .ok (.iload_n 3, 1) := by decide +kernel
theorem dX2_shortestRing_37 : decode cX2_shortestRing 37 = .ok (.istore_n 1, 1) := by decide +kernel
theorem dX2_shortestRing_38 : decode cX2_shortestRing 38 = .ok (.iinc 2 1, 3) := by decide +kernel
theorem dX2_shortestRing_41 : decode cX2_shortestRing 41 = .ok (.goto (-36), 3) := by decide +kernel
theorem dX2_shortestRing_44 : decode cX2_shortestRing 44 = .ok (.iload_n 1, 1) := by decide +kernel
theorem dX2_shortestRing_45 : decode cX2_shortestRing 45 = .ok (.ireturn, 1) := by decide +kernel
set_option maxRecDepth 20000 in
theorem ggX2_shortestRingOf_X2_hasBit : GoodIn wsX2_shortestRingOf wsX2_hasBit := goodIn_r _ [6] (by decide +kernel) (by decide +kernel)
set_option maxRecDepth 20000 in
theorem gX2_shortestRingOf_X2_hasBit : GoodIn wsX2_shortestRingOf (va_wsS RX2 58 yX2_hasBit wsX2_hasBit) := goodIn_app (goodIn_of _ (by decide +kernel)) ggX2_shortestRingOf_X2_hasBit
set_option maxRecDepth 20000 in
theorem ggX2_shortestRingOf_X2_bitsHiddenByAll : GoodIn wsX2_shortestRingOf wsX2_bitsHiddenByAll := goodIn_r _ [10, 2, 1, 3, 4, 5, 6, 11, 12, 13, 14, 15, 16, 17] (by decide +kernel) (by decide +kernel)
set_option maxRecDepth 20000 in
theorem gX2_shortestRingOf_X2_bitsHiddenByAll : GoodIn wsX2_shortestRingOf (wsV RX2 106 RX2 yX2_bitsHiddenByAll wsX2_bitsHiddenByAll) := goodIn_app (goodIn_of _ (by decide +kernel)) ggX2_shortestRingOf_X2_bitsHiddenByAll
theorem dX2_shortestRingOf_0 : decode cX2_shortestRingOf 0 = .ok (.aload_n 0, 1) := by decide +kernel
theorem dX2_shortestRingOf_1 : decode cX2_shortestRingOf 1 = .ok (.getfield 9, 3) := by decide +kernel
theorem dX2_shortestRingOf_4 : decode cX2_shortestRingOf 4 = .ok (.iload_n 1, 1) := by decide +kernel
theorem dX2_shortestRingOf_5 : decode cX2_shortestRingOf 5 = .ok (.iaload, 1) := by decide +kernel
theorem dX2_shortestRingOf_6 : decode cX2_shortestRingOf 6 = .ok (.istore_n 2, 1) := by decide +kernel
theorem dX2_shortestRingOf_7 : decode cX2_shortestRingOf 7 = .ok (.iconst 1, 1) := by decide +kernel
theorem dX2_shortestRingOf_8 : decode cX2_shortestRingOf 8 = .ok (.istore_n 3, 1) := by decide +kernel
theorem dX2_shortestRingOf_9 : decode cX2_shortestRingOf 9 = .ok (.iload_n 3, 1) := by decide +kernel
theorem dX2_shortestRingOf_10 : decode cX2_shortestRingOf 10 = .ok (.aload_n 0, 1) := by decide +kernel
theorem dX2_shortestRingOf_11 : decode cX2_shortestRingOf 11 = .ok (.getfield 30, 3) := by decide +kernel
theorem dX2_shortestRingOf_14 : decode cX2_shortestRingOf 14 = .ok (.if_icmp .gt 27, 3) := by decide +kernel
theorem dX2_shortestRingOf_17 : decode cX2_shortestRingOf 17 = .ok (.iload_n 2, 1) := by decide +kernel
theorem dX2_shortestRingOf_18 : decode cX2_shortestRingOf 18 = .ok (.iload_n 1, 1) := by decide +kernel
theorem dX2_shortestRingOf_19 : decode cX2_shortestRingOf 19 = .ok (.invokestatic 58, 3) := by decide +kernel
theorem dX2_shortestRingOf_22 : decode cX2_shortestRingOf 22 = .ok (.ifCond .eq 5, 3) := by decide +kernel
theorem dX2_shortestRingOf_25 : decode cX2_shortestRingOf 25 = .ok (.iload_n 3, 1) := by decide +kernel
theorem dX2_shortestRingOf_26 : decode cX2_shortestRingOf 26 = .ok (.ireturn, 1) := by decide +kernel
theorem dX2_shortestRingOf_27 : decode cX2_shortestRingOf 27 = .ok (.iload_n 2, 1) := by decide +kernel
theorem dX2_shortestRingOf_28 : decode cX2_shortestRingOf 28 = .ok (.aload_n 0, 1) := by decide +kernel
theorem dX2_shortestRingOf_29 : decode cX2_shortestRingOf 29 = .ok (.iload_n 2, 1) := by decide +kernel
theorem dX2_shortestRingOf_30 : decode cX2_shortestRingOf 30 = .ok (.invokevirtual 106, 3) := by decide +kernel
theorem dX2_shortestRingOf_33 : decode cX2_shortestRingOf 33 = .ok (.ior, 1) := by decide +kernel
theorem dX2_shortestRingOf_34 : decode cX2_shortestRingOf 34 = .ok (.istore_n 2, 1) := by decide +kernel
theorem dX2_shortestRingOf_35 : decode cX2_shortestRingOf 35 = .ok (.iinc 3 1, 3) := by decide +kernel
theorem dX2_shortestRingOf_38 : decode cX2_shortestRingOf 38 = .ok (.goto (-29), 3) := by decide +kernel
theorem dX2_shortestRingOf_41 : decode cX2_shortestRingOf 41 = .ok (.bipush (-5), 2) := by decide +kernel
theorem dX2_shortestRingOf_43 : decode cX2_shortestRingOf 43 = .ok (.ireturn, 1) := by decide +kernel
set_option maxRecDepth 20000 in
theorem ggX2_bitsHiddenByAll_X2_hasBit : GoodIn wsX2_bitsHiddenByAll wsX2_hasBit := goodIn_r _ [6] (by decide +kernel) (by decide +kernel)
set_option maxRecDepth 20000 in
theorem gX2_bitsHiddenByAll_X2_hasBit : GoodIn wsX2_bitsHiddenByAll (va_wsS RX2 58 yX2_hasBit wsX2_hasBit) := goodIn_app (goodIn_of _ (by decide +kernel)) ggX2_bitsHiddenByAll_X2_hasBit
theorem dX2_bitsHiddenByAll_0 : decode cX2_bitsHiddenByAll 0 = .ok (.iconst 0, 1) := by decide +kernel
theorem dX2_bitsHiddenByAll_1 : decode cX2_bitsHiddenByAll 1 = .ok (.istore_n 2, 1) := by decide +kernel
theorem dX2_bitsHiddenByAll_2 : decode cX2_bitsHiddenByAll 2 = .ok (.iconst 0, 1) := by decide +kernel
theorem dX2_bitsHiddenByAll_3 : decode cX2_bitsHiddenByAll 3 = .ok (.istore_n 3, 1) := by decide +kernel
theorem dX2_bitsHiddenByAll_4 : decode cX2_bitsHiddenByAll 4 = .ok (.iload_n 3, 1) := by decide +kernel
theorem dX2_bitsHiddenByAll_5 : decode cX2_bitsHiddenByAll 5 = .ok (.aload_n 0, 1) := by decide +kernel
theorem dX2_bitsHiddenByAll_6 : decode cX2_bitsHiddenByAll 6 = .ok (.getfield 30, 3) := by decide +kernel
theorem dX2_bitsHiddenByAll_9 : decode cX2_bitsHiddenByAll 9 = .ok (.if_icmp .ge 26, 3) := by decide +kernel
theorem dX2_bitsHiddenByAll_12 : decode cX2_bitsHiddenByAll 12 = .ok (.iload_n 1, 1) := by decide +kernel
theorem dX2_bitsHiddenByAll_13 : decode cX2_bitsHiddenByAll 13 = .ok (.iload_n 3, 1) := by decide +kernel
theorem dX2_bitsHiddenByAll_14 : decode cX2_bitsHiddenByAll 14 = .ok (.invokestatic 58, 3) := by decide +kernel
theorem dX2_bitsHiddenByAll_17 : decode cX2_bitsHiddenByAll 17 = .ok (.ifCond .eq 12, 3) := by decide +kernel
theorem dX2_bitsHiddenByAll_20 : decode cX2_bitsHiddenByAll 20 = .ok (.iload_n 2, 1) := by decide +kernel
theorem dX2_bitsHiddenByAll_21 : decode cX2_bitsHiddenByAll 21 = .ok (.aload_n 0, 1) := by decide +kernel
theorem dX2_bitsHiddenByAll_22 : decode cX2_bitsHiddenByAll 22 = .ok (.getfield 9, 3) := by decide +kernel
theorem dX2_bitsHiddenByAll_25 : decode cX2_bitsHiddenByAll 25 = .ok (.iload_n 3, 1) := by decide +kernel
theorem dX2_bitsHiddenByAll_26 : decode cX2_bitsHiddenByAll 26 = .ok (.iaload, 1) := by decide +kernel
theorem dX2_bitsHiddenByAll_27 : decode cX2_bitsHiddenByAll 27 = .ok (.ior, 1) := by decide +kernel
theorem dX2_bitsHiddenByAll_28 : decode cX2_bitsHiddenByAll 28 = .ok (.istore_n 2, 1) := by decide +kernel
theorem dX2_bitsHiddenByAll_29 : decode cX2_bitsHiddenByAll 29 = .ok (.iinc 3 1, 3) := by decide +kernel
theorem dX2_bitsHiddenByAll_32 : decode cX2_bitsHiddenByAll 32 = .ok (.goto (-28), 3) := by decide +kernel
theorem dX2_bitsHiddenByAll_35 : decode cX2_bitsHiddenByAll 35 = .ok (.iload_n 2, 1) := by decide +kernel
theorem dX2_bitsHiddenByAll_36 : decode cX2_bitsHiddenByAll 36 = .ok (.ireturn, 1) := by decide +kernel
set_option maxRecDepth 20000 in
theorem ggX2_greatestInRings_X2_isInRing : GoodIn wsX2_greatestInRings wsX2_isInRing := goodIn_r _ [7, 8, 9, 10, 6, 11, 23, 24, 25, 26, 27, 28, 29] (by decide +kernel) (by decide +kernel)
set_option maxRecDepth 20000 in
theorem gX2_greatestInRings_X2_isInRing : GoodIn wsX2_greatestInRings (wsV RX2 99 RX2 yX2_isInRing wsX2_isInRing) := goodIn_app (goodIn_of _ (by decide +kernel)) ggX2_greatestInRings_X2_isInRing
set_option maxRecDepth 20000 in
theorem ggX2_greatestInRings_X0_volume : GoodIn wsX2_greatestInRings wsX0_volume := goodIn_r _ [16, 17, 18, 19, 15, 20, 21, 22, 35, 36, 37] (by decide +kernel) (by decide +kernel)
set_option maxRecDepth 20000 in
theorem gX2_greatestInRings_X0_volume : GoodIn wsX2_greatestInRings (wsV RX2 109 RX0 yX0_volume wsX0_volume) := goodIn_app (goodIn_of _ (by decide +kernel)) ggX2_greatestInRings_X0_volume
theorem dX2_greatestInRings_0 : decode cX2_greatestInRings 0 = .ok (.iconst (-1), 1) := by decide +kernel
theorem dX2_greatestInRings_1 : decode cX2_greatestInRings 1 = .ok (.istore_n 2, 1) := by decide +kernel
theorem dX2_greatestInRings_2 : decode cX2_greatestInRings 2 = .ok (.iconst 0, 1) := by decide +kernel
theorem dX2_greatestInRings_3 : decode cX2_greatestInRings 3 = .ok (.istore_n 3, 1) := by decide +kernel
theorem dX2_greatestInRings_4 : decode cX2_greatestInRings 4 = .ok (.iload_n 3, 1) := by decide +kernel
theorem dX2_greatestInRings_5 : decode cX2_greatestInRings 5 = .ok (.aload_n 0, 1) := by decide +kernel
theorem dX2_greatestInRings_6 : decode cX2_greatestInRings 6 = .ok (.getfield 30, 3) := by decide +kernel
theorem dX2_greatestInRings_9 : decode cX2_greatestInRings 9 = .ok (.if_icmp .ge 45, 3) := by decide +kernel
theorem dX2_greatestInRings_12 : decode cX2_greatestInRings 12 = .ok (.aload_n 0, 1) := by decide +kernel
theorem dX2_greatestInRings_13 : decode cX2_greatestInRings 13 = .ok (.iload_n 3, 1) := by decide +kernel
theorem dX2_greatestInRings_14 : decode cX2_greatestInRings 14 = .ok (.invokevirtual 99, 3) := by decide +kernel
theorem dX2_greatestInRings_17 : decode cX2_greatestInRings 17 = .ok (.ifCond .eq 31, 3) := by decide +kernel
theorem dX2_greatestInRings_20 : decode cX2_greatestInRings 20 = .ok (.iload_n 2, 1) := by decide +kernel
theorem dX2_greatestInRings_21 : decode cX2_greatestInRings 21 = .ok (.iconst (-1), 1) := by decide +kernel
theorem dX2_greatestInRings_22 : decode cX2_greatestInRings 22 = .ok (.if_icmp .eq 24, 3) := by decide +kernel
theorem dX2_greatestInRings_25 : decode cX2_greatestInRings 25 = .ok (.aload_n 1, 1) := by decide +kernel
theorem dX2_greatestInRings_26 : decode cX2_greatestInRings 26 = .ok (.getfield 42, 3) := by decide +kernel
theorem dX2_greatestInRings_29 : decode cX2_greatestInRings 29 = .ok (.iload_n 3, 1) := by decide +kernel
theorem dX2_greatestInRings_30 : decode cX2_greatestInRings 30 = .ok (.aaload, 1) := by decide +kernel
theorem dX2_greatestInRings_31 : decode cX2_greatestInRings 31 = .ok (.invokevirtual 109, 3) := by decide +kernel
theorem dX2_greatestInRings_34 : decode cX2_greatestInRings 34 = .ok (.aload_n 1, 1) := by decide +kernel
theorem dX2_greatestInRings_35 : decode cX2_greatestInRings 35 = .ok (.getfield 42, 3) := by decide +kernel
theorem dX2_greatestInRings_38 : decode cX2_greatestInRings 38 = .ok (.iload_n 2, 1) := by decide +kernel
theorem dX2_greatestInRings_39 : decode cX2_greatestInRings 39 = .ok (.aaload, 1) := by decide +kernel
theorem dX2_greatestInRings_40 : decode cX2_greatestInRings 40 = .ok (.invokevirtual 109, 3) := by decide +kernel
theorem dX2_greatestInRings_43 : decode cX2_greatestInRings 43 = .ok (.if_icmp .le 5, 3) := by decide +kernel
theorem dX2_greatestInRings_46 : decode cX2_greatestInRings 46 = .ok (.iload_n 3, 1) := by decide +kernel
theorem dX2_greatestInRings_47 : decode cX2_greatestInRings 47 = .ok (.istore_n 2, 1) := by decide +kernel
theorem dX2_greatestInRings_48 : decode cX2_greatestInRings 48 = .ok (.iinc 3 1, 3) := by decide +kernel
theorem dX2_greatestInRings_51 : decode cX2_greatestInRings 51 = .ok (.goto (-47), 3) := by decide +kernel
theorem dX2_greatestInRings_54 : decode cX2_greatestInRings 54 = .ok (.iload_n 2, 1) := by decide +kernel
theorem dX2_greatestInRings_55 : decode cX2_greatestInRings 55 = .ok (.ireturn, 1) := by decide +kernel
set_option maxRecDepth 20000 in
theorem ggX3_init_X0_init : GoodIn wsX3_init wsX0_init := goodIn_r _ [9, 10, 2, 3, 11, 12, 13, 19, 20, 21] (by decide +kernel) (by decide +kernel)
set_option maxRecDepth 20000 in
theorem gX3_init_X0_init_n17 : GoodIn wsX3_init (wsX0_init) := ggX3_init_X0_init
theorem dX3_init_0 : decode cX3_init 0 = .ok (.aload_n 0, 1) := by decide +kernel
theorem dX3_init_1 : decode cX3_init 1 = .ok (.invokespecial 3, 3) := by decide +kernel
theorem dX3_init_4 : decode cX3_init 4 = .ok (.aload_n 0, 1) := by decide +kernel
theorem dX3_init_5 : decode cX3_init 5 = .ok (.bipush 16, 2) := by decide +kernel
theorem dX3_init_7 : decode cX3_init 7 = .ok (.anewarray 9, 3) := by decide +kernel
theorem dX3_init_10 : decode cX3_init 10 = .ok (.putfield 11, 3) := by decide +kernel
theorem dX3_init_13 : decode cX3_init 13 = .ok (.iconst 0, 1) := by decide +kernel
theorem dX3_init_14 : decode cX3_init 14 = .ok (.istore_n 1, 1) := by decide +kernel
theorem dX3_init_15 : decode cX3_init 15 = .ok (.iload_n 1, 1) := by decide +kernel
theorem dX3_init_16 : decode cX3_init 16 = .ok (.bipush 16, 2) := by decide +kernel
theorem dX3_init_18 : decode cX3_init 18 = .ok (.if_icmp .ge 22, 3) := by decide +kernel
theorem dX3_init_21 : decode cX3_init 21 = .ok (.aload_n 0, 1) := by decide +kernel
theorem dX3_init_22 : decode cX3_init 22 = .ok (.getfield 11, 3) := by decide +kernel
theorem dX3_init_25 : decode cX3_init 25 = .ok (.iload_n 1, 1) := by decide +kernel
theorem dX3_init_26 : decode cX3_init 26 = .ok (.new 9, 3) := by decide +kernel
theorem dX3_init_29 : decode cX3_init 29 = .ok (.dup, 1) := by decide +kernel
theorem dX3_init_30 : decode cX3_init 30 = .ok (.invokespecial 17, 3) := by decide +kernel
theorem dX3_init_33 : decode cX3_init 33 = .ok (.aastore, 1) := by decide +kernel
theorem dX3_init_34 : decode cX3_init 34 = .ok (.iinc 1 1, 3) := by decide +kernel
theorem dX3_init_37 : decode cX3_init 37 = .ok (.goto (-22), 3) := by decide +kernel
theorem dX3_init_40 : decode cX3_init 40 = .ok (.return_, 1) := by decide +kernel
set_option maxRecDepth 20000 in
theorem ggX3_copyFrom_X0_copyFrom : GoodIn wsX3_copyFrom wsX0_copyFrom := goodIn_r _ [10, 11, 12, 13, 14, 15, 16, 17, 23, 24, 25] (by decide +kernel) (by decide +kernel)
set_option maxRecDepth 20000 in
theorem gX3_copyFrom_X0_copyFrom : GoodIn wsX3_copyFrom (wsV RX3 31 RX0 yX0_copyFrom wsX0_copyFrom) := goodIn_app (goodIn_of _ (by decide +kernel)) ggX3_copyFrom_X0_copyFrom
theorem dX3_copyFrom_0 : decode cX3_copyFrom 0 = .ok (.aload_n 0, 1) := by decide +kernel
theorem dX3_copyFrom_1 : decode cX3_copyFrom 1 = .ok (.aload_n 1, 1) := by decide +kernel
theorem dX3_copyFrom_2 : decode cX3_copyFrom 2 = .ok (.getfield 18, 3) := by decide +kernel
theorem dX3_copyFrom_5 : decode cX3_copyFrom 5 = .ok (.putfield 18, 3) := by decide +kernel
theorem dX3_copyFrom_8 : decode cX3_copyFrom 8 = .ok (.aload_n 0, 1) := by decide +kernel
theorem dX3_copyFrom_9 : decode cX3_copyFrom 9 = .ok (.aload_n 1, 1) := by decide +kernel
theorem dX3_copyFrom_10 : decode cX3_copyFrom 10 = .ok (.getfield 22, 3) := by decide +kernel
theorem dX3_copyFrom_13 : decode cX3_copyFrom 13 = .ok (.putfield 22, 3) := by decide +kernel
theorem dX3_copyFrom_16 : decode cX3_copyFrom 16 = .ok (.aload_n 0, 1) := by decide +kernel
theorem dX3_copyFrom_17 : decode cX3_copyFrom 17 = .ok (.aload_n 1, 1) := by decide +kernel
theorem dX3_copyFrom_18 : decode cX3_copyFrom 18 = .ok (.getfield 25, 3) := by decide +kernel
theorem dX3_copyFrom_21 : decode cX3_copyFrom 21 = .ok (.putfield 25, 3) := by decide +kernel
theorem dX3_copyFrom_24 : decode cX3_copyFrom 24 = .ok (.aload_n 0, 1) := by decide +kernel
theorem dX3_copyFrom_25 : decode cX3_copyFrom 25 = .ok (.aload_n 1, 1) := by decide +kernel
theorem dX3_copyFrom_26 : decode cX3_copyFrom 26 = .ok (.getfield 28, 3) := by decide +kernel
theorem dX3_copyFrom_29 : decode cX3_copyFrom 29 = .ok (.putfield 28, 3) := by decide +kernel
theorem dX3_copyFrom_32 : decode cX3_copyFrom 32 = .ok (.iconst 0, 1) := by decide +kernel
theorem dX3_copyFrom_33 : decode cX3_copyFrom 33 = .ok (.istore_n 2, 1) := by decide +kernel
theorem dX3_copyFrom_34 : decode cX3_copyFrom 34 = .ok (.iload_n 2, 1) := by decide +kernel
theorem dX3_copyFrom_35 : decode cX3_copyFrom 35 = .ok (.aload_n 0, 1) := by decide +kernel
theorem dX3_copyFrom_36 : decode cX3_copyFrom 36 = .ok (.getfield 18, 3) := by decide +kernel
theorem dX3_copyFrom_39 : decode cX3_copyFrom 39 = .ok (.if_icmp .ge 24, 3) := by decide +kernel
theorem dX3_copyFrom_42 : decode cX3_copyFrom 42 = .ok (.aload_n 0, 1) := by decide +kernel
theorem dX3_copyFrom_43 : decode cX3_copyFrom 43 = .ok (.getfield 11, 3) := by decide +kernel
theorem dX3_copyFrom_46 : decode cX3_copyFrom 46 = .ok (.iload_n 2, 1) := by decide +kernel
theorem dX3_copyFrom_47 : decode cX3_copyFrom 47 = .ok (.aaload, 1) := by decide +kernel
theorem dX3_copyFrom_48 : decode cX3_copyFrom 48 = .ok (.aload_n 1, 1) := by decide +kernel
theorem dX3_copyFrom_49 : decode cX3_copyFrom 49 = .ok (.getfield 11, 3) := by decide +kernel
theorem dX3_copyFrom_52 : decode cX3_copyFrom 52 = .ok (.iload_n 2, 1) := by decide +kernel
theorem dX3_copyFrom_53 : decode cX3_copyFrom 53 = .ok (.aaload, 1) := by decide +kernel
theorem dX3_copyFrom_54 : decode cX3_copyFrom 54 = .ok (.invokevirtual 31, 3) := by decide +kernel
theorem dX3_copyFrom_57 : decode cX3_copyFrom 57 = .ok (.iinc 2 1, 3) := by decide +kernel
theorem dX3_copyFrom_60 : decode cX3_copyFrom 60 = .ok (.goto (-26), 3) := by decide +kernel
theorem dX3_copyFrom_63 : decode cX3_copyFrom 63 = .ok (.return_, 1) := by decide +kernel
theorem dX3_isFull_0 : decode cX3_isFull 0 = .ok (.aload_n 0, 1) := by decide +kernel
theorem dX3_isFull_1 : decode cX3_isFull 1 = .ok (.getfield 18, 3) := by decide +kernel
theorem dX3_isFull_4 : decode cX3_isFull 4 = .ok (.bipush 16, 2) := by decide +kernel
theorem dX3_isFull_6 : decode cX3_isFull 6 = .ok (.if_icmp .lt 7, 3) := by decide +kernel
theorem dX3_isFull_9 : decode cX3_isFull 9 = .ok (.iconst 1, 1) := by decide +kernel
theorem dX3_isFull_10 : decode cX3_isFull 10 = .ok (.goto 4, 3) := by decide +kernel
theorem dX3_isFull_13 : decode cX3_isFull 13 = .ok (.iconst 0, 1) := by decide +kernel
theorem dX3_isFull_14 : decode cX3_isFull 14 = .ok (.ireturn, 1) := by decide +kernel
theorem dX3_slotOf_0 : decode cX3_slotOf 0 = .ok (.iconst 0, 1) := by decide +kernel
theorem dX3_slotOf_1 : decode cX3_slotOf 1 = .ok (.istore_n 2, 1) := by decide +kernel
theorem dX3_slotOf_2 : decode cX3_slotOf 2 = .ok (.iload_n 2, 1) := by decide +kernel
theorem dX3_slotOf_3 : decode cX3_slotOf 3 = .ok (.aload_n 0, 1) := by decide +kernel
theorem dX3_slotOf_4 : decode cX3_slotOf 4 = .ok (.getfield 18, 3) := by decide +kernel
theorem dX3_slotOf_7 : decode cX3_slotOf 7 = .ok (.if_icmp .ge 24, 3) := by decide +kernel
theorem dX3_slotOf_10 : decode cX3_slotOf 10 = .ok (.aload_n 0, 1) := by decide +kernel
theorem dX3_slotOf_11 : decode cX3_slotOf 11 = .ok (.getfield 11, 3) := by decide +kernel
theorem dX3_slotOf_14 : decode cX3_slotOf 14 = .ok (.iload_n 2, 1) := by decide +kernel
theorem dX3_slotOf_15 : decode cX3_slotOf 15 = .ok (.aaload, 1) := by decide +kernel
theorem dX3_slotOf_16 : decode cX3_slotOf 16 = .ok (.getfield 35, 3) := by decide +kernel
theorem dX3_slotOf_19 : decode cX3_slotOf 19 = .ok (.iload_n 1, 1) := by decide +kernel
theorem dX3_slotOf_20 : decode cX3_slotOf 20 = .ok (.if_icmp .ne 5, 3) := by decide +kernel
theorem dX3_slotOf_23 : decode cX3_slotOf 23 = .ok (.iload_n 2, 1) := by decide +kernel
theorem dX3_slotOf_24 : decode cX3_slotOf 24 = .ok (.ireturn, 1) := by decide +kernel
theorem dX3_slotOf_25 : decode cX3_slotOf 25 = .ok (.iinc 2 1, 3) := by decide +kernel
theorem dX3_slotOf_28 : decode cX3_slotOf 28 = .ok (.goto (-26), 3) := by decide +kernel
theorem dX3_slotOf_31 : decode cX3_slotOf 31 = .ok (.iconst (-1), 1) := by decide +kernel
theorem dX3_slotOf_32 : decode cX3_slotOf 32 = .ok (.ireturn, 1) := by decide +kernel
set_option maxRecDepth 20000 in
theorem ggX3_isCutBy_X0_cuts : GoodIn wsX3_isCutBy wsX0_cuts := goodIn_r _ [7, 8, 9, 10, 6, 11, 12, 13, 19, 20, 21] (by decide +kernel) (by decide +kernel)
set_option maxRecDepth 20000 in
theorem gX3_isCutBy_X0_cuts : GoodIn wsX3_isCutBy (wsV RX3 38 RX0 yX0_cuts wsX0_cuts) := goodIn_app (goodIn_of _ (by decide +kernel)) ggX3_isCutBy_X0_cuts
theorem dX3_isCutBy_0 : decode cX3_isCutBy 0 = .ok (.iconst 0, 1) := by decide +kernel
theorem dX3_isCutBy_1 : decode cX3_isCutBy 1 = .ok (.istore_n 3, 1) := by decide +kernel
theorem dX3_isCutBy_2 : decode cX3_isCutBy 2 = .ok (.iload_n 3, 1) := by decide +kernel
theorem dX3_isCutBy_3 : decode cX3_isCutBy 3 = .ok (.aload_n 0, 1) := by decide +kernel
theorem dX3_isCutBy_4 : decode cX3_isCutBy 4 = .ok (.getfield 18, 3) := by decide +kernel
theorem dX3_isCutBy_7 : decode cX3_isCutBy 7 = .ok (.if_icmp .ge 29, 3) := by decide +kernel
theorem dX3_isCutBy_10 : decode cX3_isCutBy 10 = .ok (.iload_n 3, 1) := by decide +kernel
theorem dX3_isCutBy_11 : decode cX3_isCutBy 11 = .ok (.iload_n 2, 1) := by decide +kernel
theorem dX3_isCutBy_12 : decode cX3_isCutBy 12 = .ok (.if_icmp .eq 18, 3) := by decide +kernel
theorem dX3_isCutBy_15 : decode cX3_isCutBy 15 = .ok (.aload_n 0, 1) := by decide +kernel
theorem dX3_isCutBy_16 : decode cX3_isCutBy 16 = .ok (.getfield 11, 3) := by decide +kernel
theorem dX3_isCutBy_19 : decode cX3_isCutBy 19 = .ok (.iload_n 3, 1) := by decide +kernel
theorem dX3_isCutBy_20 : decode cX3_isCutBy 20 = .ok (.aaload, 1) := by decide +kernel
theorem dX3_isCutBy_21 : decode cX3_isCutBy 21 = .ok (.aload_n 1, 1) := by decide +kernel
theorem dX3_isCutBy_22 : decode cX3_isCutBy 22 = .ok (.invokevirtual 38, 3) := by decide +kernel
theorem dX3_isCutBy_25 : decode cX3_isCutBy 25 = .ok (.ifCond .eq 5, 3) := by decide +kernel
theorem dX3_isCutBy_28 : decode cX3_isCutBy 28 = .ok (.iconst 1, 1) := by decide +kernel
theorem dX3_isCutBy_29 : decode cX3_isCutBy 29 = .ok (.ireturn, 1) := by decide +kernel
theorem dX3_isCutBy_30 : decode cX3_isCutBy 30 = .ok (.iinc 3 1, 3) := by decide +kernel
theorem dX3_isCutBy_33 : decode cX3_isCutBy 33 = .ok (.goto (-31), 3) := by decide +kernel
theorem dX3_isCutBy_36 : decode cX3_isCutBy 36 = .ok (.iconst 0, 1) := by decide +kernel
theorem dX3_isCutBy_37 : decode cX3_isCutBy 37 = .ok (.ireturn, 1) := by decide +kernel
set_option maxRecDepth 20000 in
theorem ggX3_append_X3_isFull : GoodIn wsX3_append wsX3_isFull := goodIn_r _ [9, 2, 22, 23, 24, 25, 26] (by decide +kernel) (by decide +kernel)
set_option maxRecDepth 20000 in
theorem gX3_append_X3_isFull : GoodIn wsX3_append (wsV RX3 42 RX3 yX3_isFull wsX3_isFull) := goodIn_app (goodIn_of _ (by decide +kernel)) ggX3_append_X3_isFull
set_option maxRecDepth 20000 in
theorem ggX3_append_X0_copyFrom : GoodIn wsX3_append wsX0_copyFrom := goodIn_r _ [14, 15, 16, 17, 18, 19, 20, 21, 27, 28, 29] (by decide +kernel) (by decide +kernel)
set_option maxRecDepth 20000 in
theorem gX3_append_X0_copyFrom : GoodIn wsX3_append (wsV RX3 31 RX0 yX0_copyFrom wsX0_copyFrom) := goodIn_app (goodIn_of _ (by decide +kernel)) ggX3_append_X0_copyFrom
theorem dX3_append_0 : decode cX3_append 0 = .ok (.aload_n 0, 1) := by decide +kernel
theorem dX3_append_1 : decode cX3_append 1 = .ok (.invokevirtual 42, 3) := by decide +kernel
theorem dX3_append_4 : decode cX3_append 4 = .ok (.ifCond .eq 6, 3) := by decide +kernel
theorem dX3_append_7 : decode cX3_append 7 = .ok (.bipush (-3), 2) := by decide +kernel
theorem dX3_append_9 : decode cX3_append 9 = .ok (.ireturn, 1) := by decide +kernel
theorem dX3_append_10 : decode cX3_append 10 = .ok (.aload_n 0, 1) := by decide +kernel
theorem dX3_append_11 : decode cX3_append 11 = .ok (.getfield 11, 3) := by decide +kernel
theorem dX3_append_14 : decode cX3_append 14 = .ok (.aload_n 0, 1) := by decide +kernel
theorem dX3_append_15 : decode cX3_append 15 = .ok (.getfield 18, 3) := by decide +kernel
theorem dX3_append_18 : decode cX3_append 18 = .ok (.aaload, 1) := by decide +kernel
theorem dX3_append_19 : decode cX3_append 19 = .ok (.astore_n 2, 1) := by decide +kernel
theorem dX3_append_20 : decode cX3_append 20 = .ok (.aload_n 2, 1) := by decide +kernel
theorem dX3_append_21 : decode cX3_append 21 = .ok (.aload_n 1, 1) := by decide +kernel
theorem dX3_append_22 : decode cX3_append 22 = .ok (.invokevirtual 31, 3) := by decide +kernel
theorem dX3_append_25 : decode cX3_append 25 = .ok (.aload_n 2, 1) := by decide +kernel
theorem dX3_append_26 : decode cX3_append 26 = .ok (.aload_n 0, 1) := by decide +kernel
theorem dX3_append_27 : decode cX3_append 27 = .ok (.getfield 22, 3) := by decide +kernel
theorem dX3_append_30 : decode cX3_append 30 = .ok (.putfield 35, 3) := by decide +kernel
theorem dX3_append_33 : decode cX3_append 33 = .ok (.aload_n 0, 1) := by decide +kernel
theorem dX3_append_34 : decode cX3_append 34 = .ok (.dup, 1) := by decide +kernel
theorem dX3_append_35 : decode cX3_append 35 = .ok (.getfield 18, 3) := by decide +kernel
theorem dX3_append_38 : decode cX3_append 38 = .ok (.iconst 1, 1) := by decide +kernel
theorem dX3_append_39 : decode cX3_append 39 = .ok (.iadd, 1) := by decide +kernel
theorem dX3_append_40 : decode cX3_append 40 = .ok (.putfield 18, 3) := by decide +kernel
theorem dX3_append_43 : decode cX3_append 43 = .ok (.aload_n 0, 1) := by decide +kernel
theorem dX3_append_44 : decode cX3_append 44 = .ok (.dup, 1) := by decide +kernel
theorem dX3_append_45 : decode cX3_append 45 = .ok (.getfield 22, 3) := by decide +kernel
theorem dX3_append_48 : decode cX3_append 48 = .ok (.iconst 1, 1) := by decide +kernel
theorem dX3_append_49 : decode cX3_append 49 = .ok (.iadd, 1) := by decide +kernel
theorem dX3_append_50 : decode cX3_append 50 = .ok (.putfield 22, 3) := by decide +kernel
theorem dX3_append_53 : decode cX3_append 53 = .ok (.aload_n 2, 1) := by decide +kernel
theorem dX3_append_54 : decode cX3_append 54 = .ok (.getfield 35, 3) := by decide +kernel
theorem dX3_append_57 : decode cX3_append 57 = .ok (.ireturn, 1) := by decide +kernel
set_option maxRecDepth 20000 in
theorem ggX3_takeOut_X0_copyFrom : GoodIn wsX3_takeOut wsX0_copyFrom := goodIn_r _ [7, 8, 9, 10, 11, 12, 13, 14, 20, 21, 22] (by decide +kernel) (by decide +kernel)
set_option maxRecDepth 20000 in
theorem gX3_takeOut_X0_copyFrom : GoodIn wsX3_takeOut (wsV RX3 31 RX0 yX0_copyFrom wsX0_copyFrom) := goodIn_app (goodIn_of _ (by decide +kernel)) ggX3_takeOut_X0_copyFrom
theorem dX3_takeOut_0 : decode cX3_takeOut 0 = .ok (.iload_n 1, 1) := by decide +kernel
theorem dX3_takeOut_1 : decode cX3_takeOut 1 = .ok (.istore_n 2, 1) := by decide +kernel
theorem dX3_takeOut_2 : decode cX3_takeOut 2 = .ok (.iload_n 2, 1) := by decide +kernel
theorem dX3_takeOut_3 : decode cX3_takeOut 3 = .ok (.iconst 1, 1) := by decide +kernel
theorem dX3_takeOut_4 : decode cX3_takeOut 4 = .ok (.iadd, 1) := by decide +kernel
theorem dX3_takeOut_5 : decode cX3_takeOut 5 = .ok (.aload_n 0, 1) := by decide +kernel
theorem dX3_takeOut_6 : decode cX3_takeOut 6 = .ok (.getfield 18, 3) := by decide +kernel
theorem dX3_takeOut_9 : decode cX3_takeOut 9 = .ok (.if_icmp .ge 26, 3) := by decide +kernel
theorem dX3_takeOut_12 : decode cX3_takeOut 12 = .ok (.aload_n 0, 1) := by decide +kernel
theorem dX3_takeOut_13 : decode cX3_takeOut 13 = .ok (.getfield 11, 3) := by decide +kernel
theorem dX3_takeOut_16 : decode cX3_takeOut 16 = .ok (.iload_n 2, 1) := by decide +kernel
theorem dX3_takeOut_17 : decode cX3_takeOut 17 = .ok (.aaload, 1) := by decide +kernel
theorem dX3_takeOut_18 : decode cX3_takeOut 18 = .ok (.aload_n 0, 1) := by decide +kernel
theorem dX3_takeOut_19 : decode cX3_takeOut 19 = .ok (.getfield 11, 3) := by decide +kernel
theorem dX3_takeOut_22 : decode cX3_takeOut 22 = .ok (.iload_n 2, 1) := by decide +kernel
theorem dX3_takeOut_23 : decode cX3_takeOut 23 = .ok (.iconst 1, 1) := by decide +kernel
theorem dX3_takeOut_24 : decode cX3_takeOut 24 = .ok (.iadd, 1) := by decide +kernel
theorem dX3_takeOut_25 : decode cX3_takeOut 25 = .ok (.aaload, 1) := by decide +kernel
theorem dX3_takeOut_26 : decode cX3_takeOut 26 = .ok (.invokevirtual 31, 3) := by decide +kernel
theorem dX3_takeOut_29 : decode cX3_takeOut 29 = .ok (.iinc 2 1, 3) := by decide +kernel
theorem dX3_takeOut_32 : decode cX3_takeOut 32 = .ok (.goto (-30), 3) := by decide +kernel
theorem dX3_takeOut_35 : decode cX3_takeOut 35 = .ok (.aload_n 0, 1) := by decide +kernel
theorem dX3_takeOut_36 : decode cX3_takeOut 36 = .ok (.dup, 1) := by decide +kernel
theorem dX3_takeOut_37 : decode cX3_takeOut 37 = .ok (.getfield 18, 3) := by decide +kernel
theorem dX3_takeOut_40 : decode cX3_takeOut 40 = .ok (.iconst 1, 1) := by decide +kernel
theorem dX3_takeOut_41 : decode cX3_takeOut 41 = .ok (.isub, 1) := by decide +kernel
theorem dX3_takeOut_42 : decode cX3_takeOut 42 = .ok (.putfield 18, 3) := by decide +kernel
theorem dX3_takeOut_45 : decode cX3_takeOut 45 = .ok (.return_, 1) := by decide +kernel
set_option maxRecDepth 20000 in
theorem ggX3_cutInTwo_X3_append : GoodIn wsX3_cutInTwo wsX3_append := goodIn_r _ [10, 1, 2, 11, 12, 13, 14, 15, 9, 16, 17, 18, 19, 20, 21, 22, 23, 24, 25, 26, 27, 28, 29, 30, 31, 32, 33, 34, 35, 36] (by decide +kernel) (by decide +kernel)
set_option maxRecDepth 20000 in
theorem gX3_cutInTwo_X3_append : GoodIn wsX3_cutInTwo (wsV RX3 46 RX3 yX3_append wsX3_append) := goodIn_app (goodIn_of _ (by decide +kernel)) ggX3_cutInTwo_X3_append
theorem dX3_cutInTwo_0 : decode cX3_cutInTwo 0 = .ok (.aload_n 0, 1) := by decide +kernel
theorem dX3_cutInTwo_1 : decode cX3_cutInTwo 1 = .ok (.aload_n 0, 1) := by decide +kernel
theorem dX3_cutInTwo_2 : decode cX3_cutInTwo 2 = .ok (.getfield 11, 3) := by decide +kernel
theorem dX3_cutInTwo_5 : decode cX3_cutInTwo 5 = .ok (.iload_n 1, 1) := by decide +kernel
theorem dX3_cutInTwo_6 : decode cX3_cutInTwo 6 = .ok (.aaload, 1) := by decide +kernel
theorem dX3_cutInTwo_7 : decode cX3_cutInTwo 7 = .ok (.invokevirtual 46, 3) := by decide +kernel
theorem dX3_cutInTwo_10 : decode cX3_cutInTwo 10 = .ok (.istore 4, 2) := by decide +kernel
theorem dX3_cutInTwo_12 : decode cX3_cutInTwo 12 = .ok (.iload 4, 2) := by decide +kernel
theorem dX3_cutInTwo_14 : decode cX3_cutInTwo 14 = .ok (.ifCond .ge 6, 3) := by decide +kernel
theorem dX3_cutInTwo_17 : decode cX3_cutInTwo 17 = .ok (.iload 4, 2) := by decide +kernel
theorem dX3_cutInTwo_19 : decode cX3_cutInTwo 19 = .ok (.ireturn, 1) := by decide +kernel
theorem dX3_cutInTwo_20 : decode cX3_cutInTwo 20 = .ok (.aload_n 0, 1) := by decide +kernel
theorem dX3_cutInTwo_21 : decode cX3_cutInTwo 21 = .ok (.getfield 11, 3) := by decide +kernel
theorem dX3_cutInTwo_24 : decode cX3_cutInTwo 24 = .ok (.aload_n 0, 1) := by decide +kernel
theorem dX3_cutInTwo_25 : decode cX3_cutInTwo 25 = .ok (.getfield 18, 3) := by decide +kernel
theorem dX3_cutInTwo_28 : decode cX3_cutInTwo 28 = .ok (.iconst 1, 1) := by decide +kernel
theorem dX3_cutInTwo_29 : decode cX3_cutInTwo 29 = .ok (.isub, 1) := by decide +kernel
theorem dX3_cutInTwo_30 : decode cX3_cutInTwo 30 = .ok (.aaload, 1) := by decide +kernel
theorem dX3_cutInTwo_31 : decode cX3_cutInTwo 31 = .ok (.getfield 50, 3) := by decide +kernel
theorem dX3_cutInTwo_34 : decode cX3_cutInTwo 34 = .ok (.iload_n 2, 1) := by decide +kernel
theorem dX3_cutInTwo_35 : decode cX3_cutInTwo 35 = .ok (.iload_n 3, 1) := by decide +kernel
theorem dX3_cutInTwo_36 : decode cX3_cutInTwo 36 = .ok (.iastore, 1) := by decide +kernel
theorem dX3_cutInTwo_37 : decode cX3_cutInTwo 37 = .ok (.aload_n 0, 1) := by decide +kernel
end
section
theorem dX3_cutInTwo_38 : decode cX3_cutInTwo 38 = .ok (.getfield 11, 3) := by decide +kernel
theorem dX3_cutInTwo_41 : decode cX3_cutInTwo 41 = .ok (.iload_n 1, 1) := by decide +kernel
theorem dX3_cutInTwo_42 : decode cX3_cutInTwo 42 = .ok (.aaload, 1) := by decide +kernel
theorem dX3_cutInTwo_43 : decode cX3_cutInTwo 43 = .ok (.getfield 54, 3) := by decide +kernel
theorem dX3_cutInTwo_46 : decode cX3_cutInTwo 46 = .ok (.iload_n 2, 1) := by decide +kernel
theorem dX3_cutInTwo_47 : decode cX3_cutInTwo 47 = .ok (.iload_n 3, 1) := by decide +kernel
theorem dX3_cutInTwo_48 : decode cX3_cutInTwo 48 = .ok (.iastore, 1) := by decide +kernel
theorem dX3_cutInTwo_49 : decode cX3_cutInTwo 49 = .ok (.aload_n 0, 1) := by decide +kernel
theorem dX3_cutInTwo_50 : decode cX3_cutInTwo 50 = .ok (.dup, 1) := by decide +kernel
theorem dX3_cutInTwo_51 : decode cX3_cutInTwo 51 = .ok (.getfield 25, 3) := by decide +kernel
theorem dX3_cutInTwo_54 : decode cX3_cutInTwo 54 = .ok (.iconst 1, 1) := by decide +kernel
theorem dX3_cutInTwo_55 : decode cX3_cutInTwo 55 = .ok (.iadd, 1) := by decide +kernel
theorem dX3_cutInTwo_56 : decode cX3_cutInTwo 56 = .ok (.putfield 25, 3) := by decide +kernel
theorem dX3_cutInTwo_59 : decode cX3_cutInTwo 59 = .ok (.iload 4, 2) := by decide +kernel
theorem dX3_cutInTwo_61 : decode cX3_cutInTwo 61 = .ok (.ireturn, 1) := by decide +kernel
theorem dX3_quarterTurn_0 : decode cX3_quarterTurn 0 = .ok (.iconst 0, 1) := by decide +kernel
theorem dX3_quarterTurn_1 : decode cX3_quarterTurn 1 = .ok (.istore_n 1, 1) := by decide +kernel
theorem dX3_quarterTurn_2 : decode cX3_quarterTurn 2 = .ok (.iload_n 1, 1) := by decide +kernel
theorem dX3_quarterTurn_3 : decode cX3_quarterTurn 3 = .ok (.aload_n 0, 1) := by decide +kernel
theorem dX3_quarterTurn_4 : decode cX3_quarterTurn 4 = .ok (.getfield 18, 3) := by decide +kernel
theorem dX3_quarterTurn_7 : decode cX3_quarterTurn 7 = .ok (.if_icmp .ge 76, 3) := by decide +kernel
theorem dX3_quarterTurn_10 : decode cX3_quarterTurn 10 = .ok (.aload_n 0, 1) := by decide +kernel
theorem dX3_quarterTurn_11 : decode cX3_quarterTurn 11 = .ok (.getfield 11, 3) := by decide +kernel
theorem dX3_quarterTurn_14 : decode cX3_quarterTurn 14 = .ok (.iload_n 1, 1) := by decide +kernel
theorem dX3_quarterTurn_15 : decode cX3_quarterTurn 15 = .ok (.aaload, 1) := by decide +kernel
theorem dX3_quarterTurn_16 : decode cX3_quarterTurn 16 = .ok (.astore_n 2, 1) := by decide +kernel
theorem dX3_quarterTurn_17 : decode cX3_quarterTurn 17 = .ok (.aload_n 2, 1) := by decide +kernel
theorem dX3_quarterTurn_18 : decode cX3_quarterTurn 18 = .ok (.getfield 50, 3) := by decide +kernel
theorem dX3_quarterTurn_21 : decode cX3_quarterTurn 21 = .ok (.iconst 0, 1) := by decide +kernel
theorem dX3_quarterTurn_22 : decode cX3_quarterTurn 22 = .ok (.iaload, 1) := by decide +kernel
theorem dX3_quarterTurn_23 : decode cX3_quarterTurn 23 = .ok (.istore_n 3, 1) := by decide +kernel
theorem dX3_quarterTurn_24 : decode cX3_quarterTurn 24 = .ok (.aload_n 2, 1) := by decide +kernel
theorem dX3_quarterTurn_25 : decode cX3_quarterTurn 25 = .ok (.getfield 54, 3) := by decide +kernel
theorem dX3_quarterTurn_28 : decode cX3_quarterTurn 28 = .ok (.iconst 0, 1) := by decide +kernel
theorem dX3_quarterTurn_29 : decode cX3_quarterTurn 29 = .ok (.iaload, 1) := by decide +kernel
theorem dX3_quarterTurn_30 : decode cX3_quarterTurn 30 = .ok (.istore 4, 2) := by decide +kernel
theorem dX3_quarterTurn_32 : decode cX3_quarterTurn 32 = .ok (.aload_n 2, 1) := by decide +kernel
theorem dX3_quarterTurn_33 : decode cX3_quarterTurn 33 = .ok (.getfield 50, 3) := by decide +kernel
theorem dX3_quarterTurn_36 : decode cX3_quarterTurn 36 = .ok (.iconst 0, 1) := by decide +kernel
theorem dX3_quarterTurn_37 : decode cX3_quarterTurn 37 = .ok (.bipush 32, 2) := by decide +kernel
theorem dX3_quarterTurn_39 : decode cX3_quarterTurn 39 = .ok (.aload_n 2, 1) := by decide +kernel
theorem dX3_quarterTurn_40 : decode cX3_quarterTurn 40 = .ok (.getfield 54, 3) := by decide +kernel
theorem dX3_quarterTurn_43 : decode cX3_quarterTurn 43 = .ok (.iconst 1, 1) := by decide +kernel
theorem dX3_quarterTurn_44 : decode cX3_quarterTurn 44 = .ok (.iaload, 1) := by decide +kernel
theorem dX3_quarterTurn_45 : decode cX3_quarterTurn 45 = .ok (.isub, 1) := by decide +kernel
theorem dX3_quarterTurn_46 : decode cX3_quarterTurn 46 = .ok (.iastore, 1) := by decide +kernel
theorem dX3_quarterTurn_47 : decode cX3_quarterTurn 47 = .ok (.aload_n 2, 1) := by decide +kernel
theorem dX3_quarterTurn_48 : decode cX3_quarterTurn 48 = .ok (.getfield 54, 3) := by decide +kernel
theorem dX3_quarterTurn_51 : decode cX3_quarterTurn 51 = .ok (.iconst 0, 1) := by decide +kernel
theorem dX3_quarterTurn_52 : decode cX3_quarterTurn 52 = .ok (.bipush 32, 2) := by decide +kernel
theorem dX3_quarterTurn_54 : decode cX3_quarterTurn 54 = .ok (.aload_n 2, 1) := by decide +kernel
theorem dX3_quarterTurn_55 : decode cX3_quarterTurn 55 = .ok (.getfield 50, 3) := by decide +kernel
theorem dX3_quarterTurn_58 : decode cX3_quarterTurn 58 = .ok (.iconst 1, 1) := by decide +kernel
theorem dX3_quarterTurn_59 : decode cX3_quarterTurn 59 = .ok (.iaload, 1) := by decide +kernel
theorem dX3_quarterTurn_60 : decode cX3_quarterTurn 60 = .ok (.isub, 1) := by decide +kernel
theorem dX3_quarterTurn_61 : decode cX3_quarterTurn 61 = .ok (.iastore, 1) := by decide +kernel
theorem dX3_quarterTurn_62 : decode cX3_quarterTurn 62 = .ok (.aload_n 2, 1) := by decide +kernel
theorem dX3_quarterTurn_63 : decode cX3_quarterTurn 63 = .ok (.getfield 50, 3) := by decide +kernel
theorem dX3_quarterTurn_66 : decode cX3_quarterTurn 66 = .ok (.iconst 1, 1) := by decide +kernel
theorem dX3_quarterTurn_67 : decode cX3_quarterTurn 67 = .ok (.iload_n 3, 1) := by decide +kernel
theorem dX3_quarterTurn_68 : decode cX3_quarterTurn 68 = .ok (.iastore, 1) := by decide +kernel
theorem dX3_quarterTurn_69 : decode cX3_quarterTurn 69 = .ok (.aload_n 2, 1) := by decide +kernel
theorem dX3_quarterTurn_70 : decode cX3_quarterTurn 70 = .ok (.getfield 54, 3) := by decide +kernel
theorem dX3_quarterTurn_73 : decode cX3_quarterTurn 73 = .ok (.iconst 1, 1) := by decide +kernel
theorem dX3_quarterTurn_74 : decode cX3_quarterTurn 74 = .ok (.iload 4, 2) := by decide +kernel
theorem dX3_quarterTurn_76 : decode cX3_quarterTurn 76 = .ok (.iastore, 1) := by decide +kernel
theorem dX3_quarterTurn_77 : decode cX3_quarterTurn 77 = .ok (.iinc 1 1, 3) := by decide +kernel
theorem dX3_quarterTurn_80 : decode cX3_quarterTurn 80 = .ok (.goto (-78), 3) := by decide +kernel
theorem dX3_quarterTurn_83 : decode cX3_quarterTurn 83 = .ok (.return_, 1) := by decide +kernel
set_option maxRecDepth 20000 in
theorem ggX3_weightInDrawing_X0_sumOfCorner : GoodIn wsX3_weightInDrawing wsX0_sumOfCorner := goodIn_r _ [7, 8, 23, 24, 25] (by decide +kernel) (by decide +kernel)
set_option maxRecDepth 20000 in
theorem gX3_weightInDrawing_X0_sumOfCorner : GoodIn wsX3_weightInDrawing (wsV RX3 57 RX0 yX0_sumOfCorner wsX0_sumOfCorner) := goodIn_app (goodIn_of _ (by decide +kernel)) ggX3_weightInDrawing_X0_sumOfCorner
set_option maxRecDepth 20000 in
theorem ggX3_weightInDrawing_X0_volume : GoodIn wsX3_weightInDrawing wsX0_volume := goodIn_r _ [12, 13, 14, 15, 6, 16, 17, 8, 23, 24, 25] (by decide +kernel) (by decide +kernel)
set_option maxRecDepth 20000 in
theorem gX3_weightInDrawing_X0_volume : GoodIn wsX3_weightInDrawing (wsV RX3 61 RX0 yX0_volume wsX0_volume) := goodIn_app (goodIn_of _ (by decide +kernel)) ggX3_weightInDrawing_X0_volume
theorem dX3_weightInDrawing_0 : decode cX3_weightInDrawing 0 = .ok (.aload_n 0, 1) := by decide +kernel
theorem dX3_weightInDrawing_1 : decode cX3_weightInDrawing 1 = .ok (.getfield 28, 3) := by decide +kernel
theorem dX3_weightInDrawing_4 : decode cX3_weightInDrawing 4 = .ok (.lookupswitch 48 #[(1, 28), (2, 38)], 28) := by decide +kernel
theorem dX3_weightInDrawing_32 : decode cX3_weightInDrawing 32 = .ok (.aload_n 0, 1) := by decide +kernel
theorem dX3_weightInDrawing_33 : decode cX3_weightInDrawing 33 = .ok (.getfield 11, 3) := by decide +kernel
theorem dX3_weightInDrawing_36 : decode cX3_weightInDrawing 36 = .ok (.iload_n 1, 1) := by decide +kernel
theorem dX3_weightInDrawing_37 : decode cX3_weightInDrawing 37 = .ok (.aaload, 1) := by decide +kernel
theorem dX3_weightInDrawing_38 : decode cX3_weightInDrawing 38 = .ok (.invokevirtual 57, 3) := by decide +kernel
theorem dX3_weightInDrawing_41 : decode cX3_weightInDrawing 41 = .ok (.ireturn, 1) := by decide +kernel
theorem dX3_weightInDrawing_42 : decode cX3_weightInDrawing 42 = .ok (.aload_n 0, 1) := by decide +kernel
theorem dX3_weightInDrawing_43 : decode cX3_weightInDrawing 43 = .ok (.getfield 11, 3) := by decide +kernel
theorem dX3_weightInDrawing_46 : decode cX3_weightInDrawing 46 = .ok (.iload_n 1, 1) := by decide +kernel
theorem dX3_weightInDrawing_47 : decode cX3_weightInDrawing 47 = .ok (.aaload, 1) := by decide +kernel
theorem dX3_weightInDrawing_48 : decode cX3_weightInDrawing 48 = .ok (.invokevirtual 61, 3) := by decide +kernel
theorem dX3_weightInDrawing_51 : decode cX3_weightInDrawing 51 = .ok (.ireturn, 1) := by decide +kernel
theorem dX3_weightInDrawing_52 : decode cX3_weightInDrawing 52 = .ok (.iconst 0, 1) := by decide +kernel
theorem dX3_weightInDrawing_53 : decode cX3_weightInDrawing 53 = .ok (.ireturn, 1) := by decide +kernel
set_option maxRecDepth 20000 in
theorem ggX3_volume_X0_volume : GoodIn wsX3_volume wsX0_volume := goodIn_r _ [7, 8, 9, 10, 6, 11, 12, 13, 19, 20, 21] (by decide +kernel) (by decide +kernel)
set_option maxRecDepth 20000 in
theorem gX3_volume_X0_volume : GoodIn wsX3_volume (wsV RX3 61 RX0 yX0_volume wsX0_volume) := goodIn_app (goodIn_of _ (by decide +kernel)) ggX3_volume_X0_volume
theorem dX3_volume_0 : decode cX3_volume 0 = .ok (.iconst 0, 1) := by decide +kernel
theorem dX3_volume_1 : decode cX3_volume 1 = .ok (.istore_n 1, 1) := by decide +kernel
theorem dX3_volume_2 : decode cX3_volume 2 = .ok (.iconst 0, 1) := by decide +kernel
theorem dX3_volume_3 : decode cX3_volume 3 = .ok (.istore_n 2, 1) := by decide +kernel
theorem dX3_volume_4 : decode cX3_volume 4 = .ok (.iload_n 2, 1) := by decide +kernel
theorem dX3_volume_5 : decode cX3_volume 5 = .ok (.aload_n 0, 1) := by decide +kernel
theorem dX3_volume_6 : decode cX3_volume 6 = .ok (.getfield 18, 3) := by decide +kernel
theorem dX3_volume_9 : decode cX3_volume 9 = .ok (.if_icmp .ge 21, 3) := by decide +kernel
theorem dX3_volume_12 : decode cX3_volume 12 = .ok (.iload_n 1, 1) := by decide +kernel
theorem dX3_volume_13 : decode cX3_volume 13 = .ok (.aload_n 0, 1) := by decide +kernel
theorem dX3_volume_14 : decode cX3_volume 14 = .ok (.getfield 11, 3) := by decide +kernel
theorem dX3_volume_17 : decode cX3_volume 17 = .ok (.iload_n 2, 1) := by decide +kernel
theorem dX3_volume_18 : decode cX3_volume 18 = .ok (.aaload, 1) := by decide +kernel
theorem dX3_volume_19 : decode cX3_volume 19 = .ok (.invokevirtual 61, 3) := by decide +kernel
theorem dX3_volume_22 : decode cX3_volume 22 = .ok (.iadd, 1) := by decide +kernel
theorem dX3_volume_23 : decode cX3_volume 23 = .ok (.istore_n 1, 1) := by decide +kernel
theorem dX3_volume_24 : decode cX3_volume 24 = .ok (.iinc 2 1, 3) := by decide +kernel
theorem dX3_volume_27 : decode cX3_volume 27 = .ok (.goto (-23), 3) := by decide +kernel
theorem dX3_volume_30 : decode cX3_volume 30 = .ok (.iload_n 1, 1) := by decide +kernel
theorem dX3_volume_31 : decode cX3_volume 31 = .ok (.ireturn, 1) := by decide +kernel
set_option maxRecDepth 20000 in
theorem ggX3_groundUnder_X0_isBelow : GoodIn wsX3_groundUnder wsX0_isBelow := goodIn_r _ [12, 13, 14, 15, 16, 17, 11, 18, 24, 25, 26] (by decide +kernel) (by decide +kernel)
set_option maxRecDepth 20000 in
theorem gX3_groundUnder_X0_isBelow : GoodIn wsX3_groundUnder (wsV RX3 64 RX0 yX0_isBelow wsX0_isBelow) := goodIn_app (goodIn_of _ (by decide +kernel)) ggX3_groundUnder_X0_isBelow
theorem dX3_groundUnder_0 : decode cX3_groundUnder 0 = .ok (.iconst 0, 1) := by decide +kernel
theorem dX3_groundUnder_1 : decode cX3_groundUnder 1 = .ok (.istore_n 2, 1) := by decide +kernel
theorem dX3_groundUnder_2 : decode cX3_groundUnder 2 = .ok (.iconst 0, 1) := by decide +kernel
theorem dX3_groundUnder_3 : decode cX3_groundUnder 3 = .ok (.istore_n 3, 1) := by decide +kernel
theorem dX3_groundUnder_4 : decode cX3_groundUnder 4 = .ok (.iload_n 3, 1) := by decide +kernel
theorem dX3_groundUnder_5 : decode cX3_groundUnder 5 = .ok (.aload_n 0, 1) := by decide +kernel
theorem dX3_groundUnder_6 : decode cX3_groundUnder 6 = .ok (.getfield 18, 3) := by decide +kernel
theorem dX3_groundUnder_9 : decode cX3_groundUnder 9 = .ok (.if_icmp .ge 43, 3) := by decide +kernel
theorem dX3_groundUnder_12 : decode cX3_groundUnder 12 = .ok (.aload_n 0, 1) := by decide +kernel
theorem dX3_groundUnder_13 : decode cX3_groundUnder 13 = .ok (.getfield 11, 3) := by decide +kernel
theorem dX3_groundUnder_16 : decode cX3_groundUnder 16 = .ok (.iload_n 3, 1) := by decide +kernel
theorem dX3_groundUnder_17 : decode cX3_groundUnder 17 = .ok (.aaload, 1) := by decide +kernel
theorem dX3_groundUnder_18 : decode cX3_groundUnder 18 = .ok (.aload_n 0, 1) := by decide +kernel
theorem dX3_groundUnder_19 : decode cX3_groundUnder 19 = .ok (.getfield 11, 3) := by decide +kernel
theorem dX3_groundUnder_22 : decode cX3_groundUnder 22 = .ok (.iload_n 1, 1) := by decide +kernel
theorem dX3_groundUnder_23 : decode cX3_groundUnder 23 = .ok (.aaload, 1) := by decide +kernel
theorem dX3_groundUnder_24 : decode cX3_groundUnder 24 = .ok (.invokevirtual 64, 3) := by decide +kernel
theorem dX3_groundUnder_27 : decode cX3_groundUnder 27 = .ok (.ifCond .eq 19, 3) := by decide +kernel
theorem dX3_groundUnder_30 : decode cX3_groundUnder 30 = .ok (.iload_n 2, 1) := by decide +kernel
theorem dX3_groundUnder_31 : decode cX3_groundUnder 31 = .ok (.aload_n 0, 1) := by decide +kernel
theorem dX3_groundUnder_32 : decode cX3_groundUnder 32 = .ok (.getfield 11, 3) := by decide +kernel
theorem dX3_groundUnder_35 : decode cX3_groundUnder 35 = .ok (.iload_n 3, 1) := by decide +kernel
theorem dX3_groundUnder_36 : decode cX3_groundUnder 36 = .ok (.aaload, 1) := by decide +kernel
theorem dX3_groundUnder_37 : decode cX3_groundUnder 37 = .ok (.getfield 54, 3) := by decide +kernel
theorem dX3_groundUnder_40 : decode cX3_groundUnder 40 = .ok (.iconst 2, 1) := by decide +kernel
theorem dX3_groundUnder_41 : decode cX3_groundUnder 41 = .ok (.iaload, 1) := by decide +kernel
theorem dX3_groundUnder_42 : decode cX3_groundUnder 42 = .ok (.invokestatic 67, 3) := by decide +kernel
theorem dX3_groundUnder_45 : decode cX3_groundUnder 45 = .ok (.istore_n 2, 1) := by decide +kernel
theorem dX3_groundUnder_46 : decode cX3_groundUnder 46 = .ok (.iinc 3 1, 3) := by decide +kernel
theorem dX3_groundUnder_49 : decode cX3_groundUnder 49 = .ok (.goto (-45), 3) := by decide +kernel
theorem dX3_groundUnder_52 : decode cX3_groundUnder 52 = .ok (.iload_n 2, 1) := by decide +kernel
theorem dX3_groundUnder_53 : decode cX3_groundUnder 53 = .ok (.ireturn, 1) := by decide +kernel
set_option maxRecDepth 20000 in
theorem ggX3_boxesBelow_X0_isBelow : GoodIn wsX3_boxesBelow wsX0_isBelow := goodIn_r _ [7, 8, 9, 10, 11, 12, 6, 13, 19, 20, 21] (by decide +kernel) (by decide +kernel)
set_option maxRecDepth 20000 in
theorem gX3_boxesBelow_X0_isBelow : GoodIn wsX3_boxesBelow (wsV RX3 64 RX0 yX0_isBelow wsX0_isBelow) := goodIn_app (goodIn_of _ (by decide +kernel)) ggX3_boxesBelow_X0_isBelow
theorem dX3_boxesBelow_0 : decode cX3_boxesBelow 0 = .ok (.iconst 0, 1) := by decide +kernel
theorem dX3_boxesBelow_1 : decode cX3_boxesBelow 1 = .ok (.istore_n 2, 1) := by decide +kernel
theorem dX3_boxesBelow_2 : decode cX3_boxesBelow 2 = .ok (.iconst 0, 1) := by decide +kernel
theorem dX3_boxesBelow_3 : decode cX3_boxesBelow 3 = .ok (.istore_n 3, 1) := by decide +kernel
theorem dX3_boxesBelow_4 : decode cX3_boxesBelow 4 = .ok (.iload_n 3, 1) := by decide +kernel
theorem dX3_boxesBelow_5 : decode cX3_boxesBelow 5 = .ok (.aload_n 0, 1) := by decide +kernel
theorem dX3_boxesBelow_6 : decode cX3_boxesBelow 6 = .ok (.getfield 18, 3) := by decide +kernel
theorem dX3_boxesBelow_9 : decode cX3_boxesBelow 9 = .ok (.if_icmp .ge 30, 3) := by decide +kernel
theorem dX3_boxesBelow_12 : decode cX3_boxesBelow 12 = .ok (.aload_n 0, 1) := by decide +kernel
theorem dX3_boxesBelow_13 : decode cX3_boxesBelow 13 = .ok (.getfield 11, 3) := by decide +kernel
theorem dX3_boxesBelow_16 : decode cX3_boxesBelow 16 = .ok (.iload_n 3, 1) := by decide +kernel
theorem dX3_boxesBelow_17 : decode cX3_boxesBelow 17 = .ok (.aaload, 1) := by decide +kernel
theorem dX3_boxesBelow_18 : decode cX3_boxesBelow 18 = .ok (.aload_n 0, 1) := by decide +kernel
theorem dX3_boxesBelow_19 : decode cX3_boxesBelow 19 = .ok (.getfield 11, 3) := by decide +kernel
theorem dX3_boxesBelow_22 : decode cX3_boxesBelow 22 = .ok (.iload_n 1, 1) := by decide +kernel
theorem dX3_boxesBelow_23 : decode cX3_boxesBelow 23 = .ok (.aaload, 1) := by decide +kernel
theorem dX3_boxesBelow_24 : decode cX3_boxesBelow 24 = .ok (.invokevirtual 64, 3) := by decide +kernel
theorem dX3_boxesBelow_27 : decode cX3_boxesBelow 27 = .ok (.ifCond .eq 6, 3) := by decide +kernel
theorem dX3_boxesBelow_30 : decode cX3_boxesBelow 30 = .ok (.iinc 2 1, 3) := by decide +kernel
theorem dX3_boxesBelow_33 : decode cX3_boxesBelow 33 = .ok (.iinc 3 1, 3) := by decide +kernel
theorem dX3_boxesBelow_36 : decode cX3_boxesBelow 36 = .ok (.goto (-32), 3) := by decide +kernel
theorem dX3_boxesBelow_39 : decode cX3_boxesBelow 39 = .ok (.iload_n 2, 1) := by decide +kernel
theorem dX3_boxesBelow_40 : decode cX3_boxesBelow 40 = .ok (.ireturn, 1) := by decide +kernel
set_option maxRecDepth 20000 in
theorem ggX3_supportsOf_X0_isBelow : GoodIn wsX3_supportsOf wsX0_isBelow := goodIn_r _ [9, 10, 11, 12, 13, 14, 8, 15, 21, 22, 23] (by decide +kernel) (by decide +kernel)
set_option maxRecDepth 20000 in
theorem gX3_supportsOf_X0_isBelow : GoodIn wsX3_supportsOf (wsV RX3 64 RX0 yX0_isBelow wsX0_isBelow) := goodIn_app (goodIn_of _ (by decide +kernel)) ggX3_supportsOf_X0_isBelow
theorem dX3_supportsOf_0 : decode cX3_supportsOf 0 = .ok (.aload_n 0, 1) := by decide +kernel
theorem dX3_supportsOf_1 : decode cX3_supportsOf 1 = .ok (.getfield 11, 3) := by decide +kernel
theorem dX3_supportsOf_4 : decode cX3_supportsOf 4 = .ok (.iload_n 1, 1) := by decide +kernel
theorem dX3_supportsOf_5 : decode cX3_supportsOf 5 = .ok (.aaload, 1) := by decide +kernel
theorem dX3_supportsOf_6 : decode cX3_supportsOf 6 = .ok (.astore_n 2, 1) := by decide +kernel
theorem dX3_supportsOf_7 : decode cX3_supportsOf 7 = .ok (.iconst 0, 1) := by decide +kernel
theorem dX3_supportsOf_8 : decode cX3_supportsOf 8 = .ok (.istore_n 3, 1) := by decide +kernel
theorem dX3_supportsOf_9 : decode cX3_supportsOf 9 = .ok (.iconst 0, 1) := by decide +kernel
theorem dX3_supportsOf_10 : decode cX3_supportsOf 10 = .ok (.istore 4, 2) := by decide +kernel
theorem dX3_supportsOf_12 : decode cX3_supportsOf 12 = .ok (.iload 4, 2) := by decide +kernel
theorem dX3_supportsOf_14 : decode cX3_supportsOf 14 = .ok (.aload_n 0, 1) := by decide +kernel
theorem dX3_supportsOf_15 : decode cX3_supportsOf 15 = .ok (.getfield 18, 3) := by decide +kernel
theorem dX3_supportsOf_18 : decode cX3_supportsOf 18 = .ok (.if_icmp .ge 47, 3) := by decide +kernel
theorem dX3_supportsOf_21 : decode cX3_supportsOf 21 = .ok (.aload_n 0, 1) := by decide +kernel
theorem dX3_supportsOf_22 : decode cX3_supportsOf 22 = .ok (.getfield 11, 3) := by decide +kernel
theorem dX3_supportsOf_25 : decode cX3_supportsOf 25 = .ok (.iload 4, 2) := by decide +kernel
theorem dX3_supportsOf_27 : decode cX3_supportsOf 27 = .ok (.aaload, 1) := by decide +kernel
theorem dX3_supportsOf_28 : decode cX3_supportsOf 28 = .ok (.aload_n 2, 1) := by decide +kernel
theorem dX3_supportsOf_29 : decode cX3_supportsOf 29 = .ok (.invokevirtual 64, 3) := by decide +kernel
theorem dX3_supportsOf_32 : decode cX3_supportsOf 32 = .ok (.ifCond .eq 27, 3) := by decide +kernel
theorem dX3_supportsOf_35 : decode cX3_supportsOf 35 = .ok (.aload_n 0, 1) := by decide +kernel
theorem dX3_supportsOf_36 : decode cX3_supportsOf 36 = .ok (.getfield 11, 3) := by decide +kernel
theorem dX3_supportsOf_39 : decode cX3_supportsOf 39 = .ok (.iload 4, 2) := by decide +kernel
theorem dX3_supportsOf_41 : decode cX3_supportsOf 41 = .ok (.aaload, 1) := by decide +kernel
theorem dX3_supportsOf_42 : decode cX3_supportsOf 42 = .ok (.getfield 54, 3) := by decide +kernel
theorem dX3_supportsOf_45 : decode cX3_supportsOf 45 = .ok (.iconst 2, 1) := by decide +kernel
theorem dX3_supportsOf_46 : decode cX3_supportsOf 46 = .ok (.iaload, 1) := by decide +kernel
theorem dX3_supportsOf_47 : decode cX3_supportsOf 47 = .ok (.aload_n 2, 1) := by decide +kernel
theorem dX3_supportsOf_48 : decode cX3_supportsOf 48 = .ok (.getfield 50, 3) := by decide +kernel
theorem dX3_supportsOf_51 : decode cX3_supportsOf 51 = .ok (.iconst 2, 1) := by decide +kernel
theorem dX3_supportsOf_52 : decode cX3_supportsOf 52 = .ok (.iaload, 1) := by decide +kernel
theorem dX3_supportsOf_53 : decode cX3_supportsOf 53 = .ok (.if_icmp .ne 6, 3) := by decide +kernel
theorem dX3_supportsOf_56 : decode cX3_supportsOf 56 = .ok (.iinc 3 1, 3) := by decide +kernel
theorem dX3_supportsOf_59 : decode cX3_supportsOf 59 = .ok (.iinc 4 1, 3) := by decide +kernel
theorem dX3_supportsOf_62 : decode cX3_supportsOf 62 = .ok (.goto (-50), 3) := by decide +kernel
theorem dX3_supportsOf_65 : decode cX3_supportsOf 65 = .ok (.iload_n 3, 1) := by decide +kernel
theorem dX3_supportsOf_66 : decode cX3_supportsOf 66 = .ok (.ireturn, 1) := by decide +kernel
set_option maxRecDepth 20000 in
theorem ggX3_shadowOn_X0_isBelow : GoodIn wsX3_shadowOn wsX0_isBelow := goodIn_r _ [9, 10, 11, 12, 13, 14, 8, 15, 40, 41, 42] (by decide +kernel) (by decide +kernel)
set_option maxRecDepth 20000 in
theorem gX3_shadowOn_X0_isBelow : GoodIn wsX3_shadowOn (wsV RX3 64 RX0 yX0_isBelow wsX0_isBelow) := goodIn_app (goodIn_of _ (by decide +kernel)) ggX3_shadowOn_X0_isBelow
set_option maxRecDepth 20000 in
theorem ggX3_shadowOn_X0_coversRow : GoodIn wsX3_shadowOn wsX0_coversRow := goodIn_r _ [19, 11, 10, 40, 41, 42] (by decide +kernel) (by decide +kernel)
set_option maxRecDepth 20000 in
theorem gX3_shadowOn_X0_coversRow : GoodIn wsX3_shadowOn (wsV RX3 73 RX0 yX0_coversRow wsX0_coversRow) := goodIn_app (goodIn_of _ (by decide +kernel)) ggX3_shadowOn_X0_coversRow
set_option maxRecDepth 20000 in
theorem ggX3_shadowOn_X0_rowOfCells : GoodIn wsX3_shadowOn wsX0_rowOfCells := goodIn_r _ [23, 11, 24, 25, 26, 8, 27, 10, 40, 41, 42] (by decide +kernel) (by decide +kernel)
set_option maxRecDepth 20000 in
theorem gX3_shadowOn_X0_rowOfCells : GoodIn wsX3_shadowOn (wsV RX3 77 RX0 yX0_rowOfCells wsX0_rowOfCells) := goodIn_app (goodIn_of _ (by decide +kernel)) ggX3_shadowOn_X0_rowOfCells
set_option maxRecDepth 20000 in
theorem ggX3_shadowOn_J6_bitCount_0f7a4 : GoodIn wsX3_shadowOn wsJ6_bitCount_0f7a4 := goodIn_r _ [31, 32, 33, 34] (by decide +kernel) (by decide +kernel)
set_option maxRecDepth 20000 in
theorem gX3_shadowOn_J6_bitCount_0f7a4 : GoodIn wsX3_shadowOn (va_wsS RX3 80 yJ6_bitCount_0f7a4 wsJ6_bitCount_0f7a4) := goodIn_app (goodIn_of _ (by decide +kernel)) ggX3_shadowOn_J6_bitCount_0f7a4
theorem dX3_shadowOn_0 : decode cX3_shadowOn 0 = .ok (.aload_n 0, 1) := by decide +kernel
theorem dX3_shadowOn_1 : decode cX3_shadowOn 1 = .ok (.getfield 11, 3) := by decide +kernel
theorem dX3_shadowOn_4 : decode cX3_shadowOn 4 = .ok (.iload_n 1, 1) := by decide +kernel
theorem dX3_shadowOn_5 : decode cX3_shadowOn 5 = .ok (.aaload, 1) := by decide +kernel
theorem dX3_shadowOn_6 : decode cX3_shadowOn 6 = .ok (.astore_n 2, 1) := by decide +kernel
theorem dX3_shadowOn_7 : decode cX3_shadowOn 7 = .ok (.iconst 0, 1) := by decide +kernel
theorem dX3_shadowOn_8 : decode cX3_shadowOn 8 = .ok (.istore_n 3, 1) := by decide +kernel
theorem dX3_shadowOn_9 : decode cX3_shadowOn 9 = .ok (.aload_n 2, 1) := by decide +kernel
theorem dX3_shadowOn_10 : decode cX3_shadowOn 10 = .ok (.getfield 50, 3) := by decide +kernel
theorem dX3_shadowOn_13 : decode cX3_shadowOn 13 = .ok (.iconst 1, 1) := by decide +kernel
theorem dX3_shadowOn_14 : decode cX3_shadowOn 14 = .ok (.iaload, 1) := by decide +kernel
theorem dX3_shadowOn_15 : decode cX3_shadowOn 15 = .ok (.istore 4, 2) := by decide +kernel
theorem dX3_shadowOn_17 : decode cX3_shadowOn 17 = .ok (.iload 4, 2) := by decide +kernel
theorem dX3_shadowOn_19 : decode cX3_shadowOn 19 = .ok (.aload_n 2, 1) := by decide +kernel
theorem dX3_shadowOn_20 : decode cX3_shadowOn 20 = .ok (.getfield 54, 3) := by decide +kernel
theorem dX3_shadowOn_23 : decode cX3_shadowOn 23 = .ok (.iconst 1, 1) := by decide +kernel
theorem dX3_shadowOn_24 : decode cX3_shadowOn 24 = .ok (.iaload, 1) := by decide +kernel
theorem dX3_shadowOn_25 : decode cX3_shadowOn 25 = .ok (.if_icmp .ge 87, 3) := by decide +kernel
theorem dX3_shadowOn_28 : decode cX3_shadowOn 28 = .ok (.iconst 0, 1) := by decide +kernel
theorem dX3_shadowOn_29 : decode cX3_shadowOn 29 = .ok (.istore 5, 2) := by decide +kernel
theorem dX3_shadowOn_31 : decode cX3_shadowOn 31 = .ok (.iconst 0, 1) := by decide +kernel
theorem dX3_shadowOn_32 : decode cX3_shadowOn 32 = .ok (.istore 6, 2) := by decide +kernel
theorem dX3_shadowOn_34 : decode cX3_shadowOn 34 = .ok (.iload 6, 2) := by decide +kernel
theorem dX3_shadowOn_36 : decode cX3_shadowOn 36 = .ok (.aload_n 0, 1) := by decide +kernel
theorem dX3_shadowOn_37 : decode cX3_shadowOn 37 = .ok (.getfield 18, 3) := by decide +kernel
theorem dX3_shadowOn_40 : decode cX3_shadowOn 40 = .ok (.if_icmp .ge 53, 3) := by decide +kernel
theorem dX3_shadowOn_43 : decode cX3_shadowOn 43 = .ok (.aload_n 2, 1) := by decide +kernel
theorem dX3_shadowOn_44 : decode cX3_shadowOn 44 = .ok (.aload_n 0, 1) := by decide +kernel
theorem dX3_shadowOn_45 : decode cX3_shadowOn 45 = .ok (.getfield 11, 3) := by decide +kernel
theorem dX3_shadowOn_48 : decode cX3_shadowOn 48 = .ok (.iload 6, 2) := by decide +kernel
theorem dX3_shadowOn_50 : decode cX3_shadowOn 50 = .ok (.aaload, 1) := by decide +kernel
theorem dX3_shadowOn_51 : decode cX3_shadowOn 51 = .ok (.invokevirtual 64, 3) := by decide +kernel
theorem dX3_shadowOn_54 : decode cX3_shadowOn 54 = .ok (.ifCond .eq 33, 3) := by decide +kernel
theorem dX3_shadowOn_57 : decode cX3_shadowOn 57 = .ok (.aload_n 0, 1) := by decide +kernel
theorem dX3_shadowOn_58 : decode cX3_shadowOn 58 = .ok (.getfield 11, 3) := by decide +kernel
theorem dX3_shadowOn_61 : decode cX3_shadowOn 61 = .ok (.iload 6, 2) := by decide +kernel
theorem dX3_shadowOn_63 : decode cX3_shadowOn 63 = .ok (.aaload, 1) := by decide +kernel
theorem dX3_shadowOn_64 : decode cX3_shadowOn 64 = .ok (.iload 4, 2) := by decide +kernel
theorem dX3_shadowOn_66 : decode cX3_shadowOn 66 = .ok (.invokevirtual 73, 3) := by decide +kernel
theorem dX3_shadowOn_69 : decode cX3_shadowOn 69 = .ok (.ifCond .eq 18, 3) := by decide +kernel
theorem dX3_shadowOn_72 : decode cX3_shadowOn 72 = .ok (.iload 5, 2) := by decide +kernel
theorem dX3_shadowOn_74 : decode cX3_shadowOn 74 = .ok (.aload_n 0, 1) := by decide +kernel
theorem dX3_shadowOn_75 : decode cX3_shadowOn 75 = .ok (.getfield 11, 3) := by decide +kernel
theorem dX3_shadowOn_78 : decode cX3_shadowOn 78 = .ok (.iload 6, 2) := by decide +kernel
theorem dX3_shadowOn_80 : decode cX3_shadowOn 80 = .ok (.aaload, 1) := by decide +kernel
theorem dX3_shadowOn_81 : decode cX3_shadowOn 81 = .ok (.invokevirtual 77, 3) := by decide +kernel
theorem dX3_shadowOn_84 : decode cX3_shadowOn 84 = .ok (.ior, 1) := by decide +kernel
theorem dX3_shadowOn_85 : decode cX3_shadowOn 85 = .ok (.istore 5, 2) := by decide +kernel
theorem dX3_shadowOn_87 : decode cX3_shadowOn 87 = .ok (.iinc 6 1, 3) := by decide +kernel
theorem dX3_shadowOn_90 : decode cX3_shadowOn 90 = .ok (.goto (-56), 3) := by decide +kernel
theorem dX3_shadowOn_93 : decode cX3_shadowOn 93 = .ok (.iload_n 3, 1) := by decide +kernel
theorem dX3_shadowOn_94 : decode cX3_shadowOn 94 = .ok (.iload 5, 2) := by decide +kernel
theorem dX3_shadowOn_96 : decode cX3_shadowOn 96 = .ok (.aload_n 2, 1) := by decide +kernel
theorem dX3_shadowOn_97 : decode cX3_shadowOn 97 = .ok (.invokevirtual 77, 3) := by decide +kernel
theorem dX3_shadowOn_100 : decode cX3_shadowOn 100 = .ok (.iand, 1) := by decide +kernel
theorem dX3_shadowOn_101 : decode cX3_shadowOn 101 = .ok (.invokestatic 80, 3) := by decide +kernel
theorem dX3_shadowOn_104 : decode cX3_shadowOn 104 = .ok (.iadd, 1) := by decide +kernel
theorem dX3_shadowOn_105 : decode cX3_shadowOn 105 = .ok (.istore_n 3, 1) := by decide +kernel
theorem dX3_shadowOn_106 : decode cX3_shadowOn 106 = .ok (.iinc 4 1, 3) := by decide +kernel
theorem dX3_shadowOn_109 : decode cX3_shadowOn 109 = .ok (.goto (-92), 3) := by decide +kernel
theorem dX3_shadowOn_112 : decode cX3_shadowOn 112 = .ok (.iload_n 3, 1) := by decide +kernel
theorem dX3_shadowOn_113 : decode cX3_shadowOn 113 = .ok (.ireturn, 1) := by decide +kernel
set_option maxRecDepth 20000 in
theorem ggX3_shadow_X3_shadowOn : GoodIn wsX3_shadow wsX3_shadowOn := goodIn_r _ [6, 7, 8, 9, 1, 10, 11, 12, 13, 14, 15, 16, 17, 18, 19, 20, 21, 22, 23, 24, 25, 26, 27, 28, 29, 30, 31, 32, 33, 34, 35, 36, 37, 38, 39, 40, 41, 42, 43, 44, 45, 46, 47] (by decide +kernel) (by decide +kernel)
set_option maxRecDepth 20000 in
theorem gX3_shadow_X3_shadowOn : GoodIn wsX3_shadow (wsV RX3 86 RX3 yX3_shadowOn wsX3_shadowOn) := goodIn_app (goodIn_of _ (by decide +kernel)) ggX3_shadow_X3_shadowOn
theorem dX3_shadow_0 : decode cX3_shadow 0 = .ok (.iconst 0, 1) := by decide +kernel
theorem dX3_shadow_1 : decode cX3_shadow 1 = .ok (.istore_n 1, 1) := by decide +kernel
theorem dX3_shadow_2 : decode cX3_shadow 2 = .ok (.iconst 0, 1) := by decide +kernel
theorem dX3_shadow_3 : decode cX3_shadow 3 = .ok (.istore_n 2, 1) := by decide +kernel
theorem dX3_shadow_4 : decode cX3_shadow 4 = .ok (.iload_n 2, 1) := by decide +kernel
theorem dX3_shadow_5 : decode cX3_shadow 5 = .ok (.aload_n 0, 1) := by decide +kernel
theorem dX3_shadow_6 : decode cX3_shadow 6 = .ok (.getfield 18, 3) := by decide +kernel
theorem dX3_shadow_9 : decode cX3_shadow 9 = .ok (.if_icmp .ge 17, 3) := by decide +kernel
theorem dX3_shadow_12 : decode cX3_shadow 12 = .ok (.iload_n 1, 1) := by decide +kernel
theorem dX3_shadow_13 : decode cX3_shadow 13 = .ok (.aload_n 0, 1) := by decide +kernel
theorem dX3_shadow_14 : decode cX3_shadow 14 = .ok (.iload_n 2, 1) := by decide +kernel
theorem dX3_shadow_15 : decode cX3_shadow 15 = .ok (.invokevirtual 86, 3) := by decide +kernel
theorem dX3_shadow_18 : decode cX3_shadow 18 = .ok (.iadd, 1) := by decide +kernel
theorem dX3_shadow_19 : decode cX3_shadow 19 = .ok (.istore_n 1, 1) := by decide +kernel
theorem dX3_shadow_20 : decode cX3_shadow 20 = .ok (.iinc 2 1, 3) := by decide +kernel
theorem dX3_shadow_23 : decode cX3_shadow 23 = .ok (.goto (-19), 3) := by decide +kernel
theorem dX3_shadow_26 : decode cX3_shadow 26 = .ok (.iload_n 1, 1) := by decide +kernel
theorem dX3_shadow_27 : decode cX3_shadow 27 = .ok (.ireturn, 1) := by decide +kernel
theorem dX4_init_0 : decode cX4_init 0 = .ok (.aload_n 0, 1) := by decide +kernel
theorem dX4_init_1 : decode cX4_init 1 = .ok (.invokespecial 3, 3) := by decide +kernel
theorem dX4_init_4 : decode cX4_init 4 = .ok (.aload_n 0, 1) := by decide +kernel
theorem dX4_init_5 : decode cX4_init 5 = .ok (.bipush 80, 2) := by decide +kernel
theorem dX4_init_7 : decode cX4_init 7 = .ok (.newarray .char, 2) := by decide +kernel
theorem dX4_init_9 : decode cX4_init 9 = .ok (.putfield 9, 3) := by decide +kernel
theorem dX4_init_12 : decode cX4_init 12 = .ok (.aload_n 0, 1) := by decide +kernel
theorem dX4_init_13 : decode cX4_init 13 = .ok (.bipush 41, 2) := by decide +kernel
theorem dX4_init_15 : decode cX4_init 15 = .ok (.newarray .int, 2) := by decide +kernel
theorem dX4_init_17 : decode cX4_init 17 = .ok (.putfield 15, 3) := by decide +kernel
theorem dX4_init_20 : decode cX4_init 20 = .ok (.return_, 1) := by decide +kernel
set_option maxRecDepth 20000 in
theorem ggX5_init_X3_init : GoodIn wsX5_init wsX3_init := goodIn_r _ [30, 31, 2, 3, 32, 33, 24, 25, 34, 35, 36, 37, 38, 39, 60, 61, 62, 63, 64, 87, 88, 89] (by decide +kernel) (by decide +kernel)
set_option maxRecDepth 20000 in
theorem gX5_init_X3_init : GoodIn wsX5_init (wsX3_init) := ggX5_init_X3_init
set_option maxRecDepth 20000 in
theorem ggX5_init_X1_init : GoodIn wsX5_init wsX1_init := goodIn_r _ [42, 43, 2, 3, 44, 45, 5, 6, 46, 29, 30, 31, 32, 33, 24, 25, 34, 35, 36, 37, 38, 39, 74, 75, 60, 61, 62, 63, 64, 87, 88, 89] (by decide +kernel) (by decide +kernel)
set_option maxRecDepth 20000 in
theorem gX5_init_X1_init : GoodIn wsX5_init (wsX1_init) := ggX5_init_X1_init
set_option maxRecDepth 20000 in
theorem ggX5_init_X4_init : GoodIn wsX5_init wsX4_init := goodIn_r _ [48, 49, 2, 3, 50, 51, 37, 52, 76, 77, 78, 79] (by decide +kernel) (by decide +kernel)
set_option maxRecDepth 20000 in
theorem gX5_init_X4_init_n31 : GoodIn wsX5_init (wsX4_init) := ggX5_init_X4_init
set_option maxRecDepth 20000 in
theorem ggX5_init_X2_init : GoodIn wsX5_init wsX2_init := goodIn_r _ [54, 55, 2, 3, 37, 56, 57, 58, 59, 80, 81, 82, 83, 84, 85, 86] (by decide +kernel) (by decide +kernel)
set_option maxRecDepth 20000 in
theorem gX5_init_X2_init_n38 : GoodIn wsX5_init (wsX2_init) := ggX5_init_X2_init
set_option maxRecDepth 20000 in
theorem ggX5_init_X0_init : GoodIn wsX5_init wsX0_init := goodIn_r _ [35, 36, 2, 3, 37, 38, 39, 87, 88, 89] (by decide +kernel) (by decide +kernel)
set_option maxRecDepth 20000 in
theorem gX5_init_X0_init_n48 : GoodIn wsX5_init (wsX0_init) := ggX5_init_X0_init
theorem dX5_init_0 : decode cX5_init 0 = .ok (.aload_n 0, 1) := by decide +kernel
theorem dX5_init_1 : decode cX5_init 1 = .ok (.invokespecial 1, 3) := by decide +kernel
theorem dX5_init_4 : decode cX5_init 4 = .ok (.aload_n 0, 1) := by decide +kernel
theorem dX5_init_5 : decode cX5_init 5 = .ok (.new 7, 3) := by decide +kernel
theorem dX5_init_8 : decode cX5_init 8 = .ok (.dup, 1) := by decide +kernel
theorem dX5_init_9 : decode cX5_init 9 = .ok (.invokespecial 9, 3) := by decide +kernel
theorem dX5_init_12 : decode cX5_init 12 = .ok (.putfield 10, 3) := by decide +kernel
theorem dX5_init_15 : decode cX5_init 15 = .ok (.aload_n 0, 1) := by decide +kernel
theorem dX5_init_16 : decode cX5_init 16 = .ok (.new 7, 3) := by decide +kernel
theorem dX5_init_19 : decode cX5_init 19 = .ok (.dup, 1) := by decide +kernel
theorem dX5_init_20 : decode cX5_init 20 = .ok (.invokespecial 9, 3) := by decide +kernel
theorem dX5_init_23 : decode cX5_init 23 = .ok (.putfield 16, 3) := by decide +kernel
theorem dX5_init_26 : decode cX5_init 26 = .ok (.aload_n 0, 1) := by decide +kernel
theorem dX5_init_27 : decode cX5_init 27 = .ok (.new 7, 3) := by decide +kernel
theorem dX5_init_30 : decode cX5_init 30 = .ok (.dup, 1) := by decide +kernel
theorem dX5_init_31 : decode cX5_init 31 = .ok (.invokespecial 9, 3) := by decide +kernel
theorem dX5_init_34 : decode cX5_init 34 = .ok (.putfield 19, 3) := by decide +kernel
theorem dX5_init_37 : decode cX5_init 37 = .ok (.aload_n 0, 1) := by decide +kernel
theorem dX5_init_38 : decode cX5_init 38 = .ok (.new 22, 3) := by decide +kernel
theorem dX5_init_41 : decode cX5_init 41 = .ok (.dup, 1) := by decide +kernel
theorem dX5_init_42 : decode cX5_init 42 = .ok (.invokespecial 24, 3) := by decide +kernel
theorem dX5_init_45 : decode cX5_init 45 = .ok (.putfield 25, 3) := by decide +kernel
theorem dX5_init_48 : decode cX5_init 48 = .ok (.aload_n 0, 1) := by decide +kernel
theorem dX5_init_49 : decode cX5_init 49 = .ok (.new 29, 3) := by decide +kernel
theorem dX5_init_52 : decode cX5_init 52 = .ok (.dup, 1) := by decide +kernel
theorem dX5_init_53 : decode cX5_init 53 = .ok (.invokespecial 31, 3) := by decide +kernel
theorem dX5_init_56 : decode cX5_init 56 = .ok (.putfield 32, 3) := by decide +kernel
theorem dX5_init_59 : decode cX5_init 59 = .ok (.aload_n 0, 1) := by decide +kernel
theorem dX5_init_60 : decode cX5_init 60 = .ok (.new 36, 3) := by decide +kernel
theorem dX5_init_63 : decode cX5_init 63 = .ok (.dup, 1) := by decide +kernel
theorem dX5_init_64 : decode cX5_init 64 = .ok (.invokespecial 38, 3) := by decide +kernel
theorem dX5_init_67 : decode cX5_init 67 = .ok (.putfield 39, 3) := by decide +kernel
theorem dX5_init_70 : decode cX5_init 70 = .ok (.aload_n 0, 1) := by decide +kernel
theorem dX5_init_71 : decode cX5_init 71 = .ok (.new 36, 3) := by decide +kernel
theorem dX5_init_74 : decode cX5_init 74 = .ok (.dup, 1) := by decide +kernel
theorem dX5_init_75 : decode cX5_init 75 = .ok (.invokespecial 38, 3) := by decide +kernel
theorem dX5_init_78 : decode cX5_init 78 = .ok (.putfield 43, 3) := by decide +kernel
theorem dX5_init_81 : decode cX5_init 81 = .ok (.aload_n 0, 1) := by decide +kernel
theorem dX5_init_82 : decode cX5_init 82 = .ok (.new 46, 3) := by decide +kernel
theorem dX5_init_85 : decode cX5_init 85 = .ok (.dup, 1) := by decide +kernel
theorem dX5_init_86 : decode cX5_init 86 = .ok (.invokespecial 48, 3) := by decide +kernel
theorem dX5_init_89 : decode cX5_init 89 = .ok (.putfield 49, 3) := by decide +kernel
theorem dX5_init_92 : decode cX5_init 92 = .ok (.aload_n 0, 1) := by decide +kernel
theorem dX5_init_93 : decode cX5_init 93 = .ok (.iconst 0, 1) := by decide +kernel
theorem dX5_init_94 : decode cX5_init 94 = .ok (.putfield 53, 3) := by decide +kernel
theorem dX5_init_97 : decode cX5_init 97 = .ok (.return_, 1) := by decide +kernel
set_option maxRecDepth 20000 in
theorem ggX5_add_X3_copyFrom : GoodIn wsX5_add wsX3_copyFrom := goodIn_r _ [7, 8, 9, 10, 11, 12, 13, 14, 15, 16, 17, 18, 19, 20, 21, 22, 23, 24, 83, 84, 85, 86, 87, 88, 89, 90] (by decide +kernel) (by decide +kernel)
set_option maxRecDepth 20000 in
theorem gX5_add_X3_copyFrom : GoodIn wsX5_add (wsV RX5 57 RX3 yX3_copyFrom wsX3_copyFrom) := goodIn_app (goodIn_of _ (by decide +kernel)) ggX5_add_X3_copyFrom
set_option maxRecDepth 20000 in
theorem ggX5_add_X5_enter : GoodIn wsX5_add wsX5_enter := goodIn_r _ [29, 30, 31, 32, 33, 16, 34, 19, 24, 35, 36, 37, 6, 38, 8, 12, 39, 40, 41, 42, 43, 44, 45, 46, 47, 48, 49, 50, 51, 52, 53, 54, 9, 55, 56, 13, 14, 15, 17, 18, 20, 21, 22, 23, 74, 75, 76, 77, 78, 79, 80, 81, 82, 88, 89, 90, 83, 84, 85, 86, 87] (by decide +kernel) (by decide +kernel)
set_option maxRecDepth 20000 in
theorem gX5_add_X5_enter : GoodIn wsX5_add (wsV RX5 61 RX5 yX5_enter wsX5_enter) := goodIn_app (goodIn_of _ (by decide +kernel)) ggX5_add_X5_enter
set_option maxRecDepth 20000 in
theorem ggX5_add_X5_adoptTrial : GoodIn wsX5_add wsX5_adoptTrial := goodIn_r _ [60, 61, 2, 1, 62, 63, 64, 65, 66, 67, 68, 69, 70, 71, 72, 73, 4, 5, 6, 7, 8, 9, 10, 11, 12, 13, 14, 15, 16, 17, 18, 19, 20, 21, 22, 23, 24, 3, 74, 75, 76, 77, 78, 79, 80, 81, 82, 91, 92, 83, 84, 85, 86, 87, 88, 89, 90] (by decide +kernel) (by decide +kernel)
set_option maxRecDepth 20000 in
theorem gX5_add_X5_adoptTrial : GoodIn wsX5_add (wsV RX5 65 RX5 yX5_adoptTrial wsX5_adoptTrial) := goodIn_app (goodIn_of _ (by decide +kernel)) ggX5_add_X5_adoptTrial
theorem dX5_add_0 : decode cX5_add 0 = .ok (.aload_n 0, 1) := by decide +kernel
theorem dX5_add_1 : decode cX5_add 1 = .ok (.getfield 16, 3) := by decide +kernel
theorem dX5_add_4 : decode cX5_add 4 = .ok (.aload_n 0, 1) := by decide +kernel
theorem dX5_add_5 : decode cX5_add 5 = .ok (.getfield 10, 3) := by decide +kernel
theorem dX5_add_8 : decode cX5_add 8 = .ok (.invokevirtual 57, 3) := by decide +kernel
theorem dX5_add_11 : decode cX5_add 11 = .ok (.aload_n 0, 1) := by decide +kernel
theorem dX5_add_12 : decode cX5_add 12 = .ok (.aload_n 0, 1) := by decide +kernel
theorem dX5_add_13 : decode cX5_add 13 = .ok (.getfield 16, 3) := by decide +kernel
theorem dX5_add_16 : decode cX5_add 16 = .ok (.iload_n 1, 1) := by decide +kernel
theorem dX5_add_17 : decode cX5_add 17 = .ok (.iload_n 2, 1) := by decide +kernel
theorem dX5_add_18 : decode cX5_add 18 = .ok (.iload_n 3, 1) := by decide +kernel
theorem dX5_add_19 : decode cX5_add 19 = .ok (.iload 4, 2) := by decide +kernel
theorem dX5_add_21 : decode cX5_add 21 = .ok (.iload 5, 2) := by decide +kernel
theorem dX5_add_23 : decode cX5_add 23 = .ok (.iload 6, 2) := by decide +kernel
theorem dX5_add_25 : decode cX5_add 25 = .ok (.invokevirtual 61, 3) := by decide +kernel
theorem dX5_add_28 : decode cX5_add 28 = .ok (.istore 7, 2) := by decide +kernel
theorem dX5_add_30 : decode cX5_add 30 = .ok (.iload 7, 2) := by decide +kernel
theorem dX5_add_32 : decode cX5_add 32 = .ok (.ifCond .lt 7, 3) := by decide +kernel
theorem dX5_add_35 : decode cX5_add 35 = .ok (.aload_n 0, 1) := by decide +kernel
theorem dX5_add_36 : decode cX5_add 36 = .ok (.invokevirtual 65, 3) := by decide +kernel
theorem dX5_add_39 : decode cX5_add 39 = .ok (.iload 7, 2) := by decide +kernel
theorem dX5_add_41 : decode cX5_add 41 = .ok (.ireturn, 1) := by decide +kernel
set_option maxRecDepth 20000 in
theorem ggX5_remove_X3_slotOf : GoodIn wsX5_remove wsX3_slotOf := goodIn_r _ [8, 9, 10, 11, 70, 71, 72, 73, 74, 75, 76, 77] (by decide +kernel) (by decide +kernel)
set_option maxRecDepth 20000 in
theorem gX5_remove_X3_slotOf : GoodIn wsX5_remove (wsV RX5 68 RX3 yX3_slotOf wsX3_slotOf) := goodIn_app (goodIn_of _ (by decide +kernel)) ggX5_remove_X3_slotOf
set_option maxRecDepth 20000 in
theorem ggX5_remove_X0_volume : GoodIn wsX5_remove wsX0_volume := goodIn_r _ [16, 17, 18, 19, 15, 20, 21, 22, 75, 76, 77] (by decide +kernel) (by decide +kernel)
set_option maxRecDepth 20000 in
theorem gX5_remove_X0_volume : GoodIn wsX5_remove (wsV RX5 76 RX0 yX0_volume wsX0_volume) := goodIn_app (goodIn_of _ (by decide +kernel)) ggX5_remove_X0_volume
set_option maxRecDepth 20000 in
theorem ggX5_remove_X3_copyFrom : GoodIn wsX5_remove wsX3_copyFrom := goodIn_r _ [26, 9, 27, 28, 29, 10, 30, 31, 32, 15, 33, 34, 22, 35, 36, 37, 38, 21, 70, 71, 72, 73, 74, 75, 76, 77] (by decide +kernel) (by decide +kernel)
set_option maxRecDepth 20000 in
theorem gX5_remove_X3_copyFrom : GoodIn wsX5_remove (wsV RX5 57 RX3 yX3_copyFrom wsX3_copyFrom) := goodIn_app (goodIn_of _ (by decide +kernel)) ggX5_remove_X3_copyFrom
set_option maxRecDepth 20000 in
theorem ggX5_remove_X3_takeOut : GoodIn wsX5_remove wsX3_takeOut := goodIn_r _ [42, 9, 10, 30, 31, 32, 15, 33, 34, 22, 35, 36, 37, 38, 21, 70, 71, 72, 73, 74, 75, 76, 77] (by decide +kernel) (by decide +kernel)
set_option maxRecDepth 20000 in
theorem gX5_remove_X3_takeOut : GoodIn wsX5_remove (wsV RX5 80 RX3 yX3_takeOut wsX3_takeOut) := goodIn_app (goodIn_of _ (by decide +kernel)) ggX5_remove_X3_takeOut
set_option maxRecDepth 20000 in
theorem ggX5_remove_X5_adoptTrial : GoodIn wsX5_remove wsX5_adoptTrial := goodIn_r _ [47, 48, 1, 3, 49, 50, 51, 52, 53, 54, 55, 56, 57, 58, 59, 60, 24, 25, 7, 26, 9, 27, 28, 29, 10, 30, 31, 32, 15, 33, 34, 22, 35, 36, 37, 38, 21, 23, 61, 62, 63, 64, 65, 66, 67, 68, 69, 78, 79, 70, 71, 72, 73, 74, 75, 76, 77] (by decide +kernel) (by decide +kernel)
set_option maxRecDepth 20000 in
theorem gX5_remove_X5_adoptTrial : GoodIn wsX5_remove (wsV RX5 65 RX5 yX5_adoptTrial wsX5_adoptTrial) := goodIn_app (goodIn_of _ (by decide +kernel)) ggX5_remove_X5_adoptTrial
theorem dX5_remove_0 : decode cX5_remove 0 = .ok (.aload_n 0, 1) := by decide +kernel
theorem dX5_remove_1 : decode cX5_remove 1 = .ok (.getfield 10, 3) := by decide +kernel
theorem dX5_remove_4 : decode cX5_remove 4 = .ok (.iload_n 1, 1) := by decide +kernel
theorem dX5_remove_5 : decode cX5_remove 5 = .ok (.invokevirtual 68, 3) := by decide +kernel
theorem dX5_remove_8 : decode cX5_remove 8 = .ok (.istore_n 2, 1) := by decide +kernel
theorem dX5_remove_9 : decode cX5_remove 9 = .ok (.iload_n 2, 1) := by decide +kernel
theorem dX5_remove_10 : decode cX5_remove 10 = .ok (.iconst (-1), 1) := by decide +kernel
theorem dX5_remove_11 : decode cX5_remove 11 = .ok (.if_icmp .ne 5, 3) := by decide +kernel
theorem dX5_remove_14 : decode cX5_remove 14 = .ok (.iconst (-1), 1) := by decide +kernel
theorem dX5_remove_15 : decode cX5_remove 15 = .ok (.ireturn, 1) := by decide +kernel
theorem dX5_remove_16 : decode cX5_remove 16 = .ok (.aload_n 0, 1) := by decide +kernel
theorem dX5_remove_17 : decode cX5_remove 17 = .ok (.getfield 10, 3) := by decide +kernel
theorem dX5_remove_20 : decode cX5_remove 20 = .ok (.getfield 72, 3) := by decide +kernel
theorem dX5_remove_23 : decode cX5_remove 23 = .ok (.iload_n 2, 1) := by decide +kernel
theorem dX5_remove_24 : decode cX5_remove 24 = .ok (.aaload, 1) := by decide +kernel
theorem dX5_remove_25 : decode cX5_remove 25 = .ok (.invokevirtual 76, 3) := by decide +kernel
theorem dX5_remove_28 : decode cX5_remove 28 = .ok (.istore_n 3, 1) := by decide +kernel
theorem dX5_remove_29 : decode cX5_remove 29 = .ok (.aload_n 0, 1) := by decide +kernel
theorem dX5_remove_30 : decode cX5_remove 30 = .ok (.getfield 16, 3) := by decide +kernel
theorem dX5_remove_33 : decode cX5_remove 33 = .ok (.aload_n 0, 1) := by decide +kernel
theorem dX5_remove_34 : decode cX5_remove 34 = .ok (.getfield 10, 3) := by decide +kernel
theorem dX5_remove_37 : decode cX5_remove 37 = .ok (.invokevirtual 57, 3) := by decide +kernel
theorem dX5_remove_40 : decode cX5_remove 40 = .ok (.aload_n 0, 1) := by decide +kernel
theorem dX5_remove_41 : decode cX5_remove 41 = .ok (.getfield 16, 3) := by decide +kernel
theorem dX5_remove_44 : decode cX5_remove 44 = .ok (.iload_n 2, 1) := by decide +kernel
theorem dX5_remove_45 : decode cX5_remove 45 = .ok (.invokevirtual 80, 3) := by decide +kernel
theorem dX5_remove_48 : decode cX5_remove 48 = .ok (.aload_n 0, 1) := by decide +kernel
theorem dX5_remove_49 : decode cX5_remove 49 = .ok (.invokevirtual 65, 3) := by decide +kernel
theorem dX5_remove_52 : decode cX5_remove 52 = .ok (.iload_n 3, 1) := by decide +kernel
theorem dX5_remove_53 : decode cX5_remove 53 = .ok (.ireturn, 1) := by decide +kernel
set_option maxRecDepth 20000 in
theorem ggX5_move_X3_slotOf : GoodIn wsX5_move wsX3_slotOf := goodIn_r _ [10, 11, 12, 13, 79, 80, 81, 82, 83, 84, 85, 86] (by decide +kernel) (by decide +kernel)
set_option maxRecDepth 20000 in
theorem gX5_move_X3_slotOf : GoodIn wsX5_move (wsV RX5 68 RX3 yX3_slotOf wsX3_slotOf) := goodIn_app (goodIn_of _ (by decide +kernel)) ggX5_move_X3_slotOf
set_option maxRecDepth 20000 in
theorem ggX5_move_X5_isDirection : GoodIn wsX5_move wsX5_isDirection := goodIn_r _ [17] (by decide +kernel) (by decide +kernel)
set_option maxRecDepth 20000 in
theorem gX5_move_X5_isDirection : GoodIn wsX5_move (va_wsS RX5 84 yX5_isDirection wsX5_isDirection) := goodIn_app (goodIn_of _ (by decide +kernel)) ggX5_move_X5_isDirection
set_option maxRecDepth 20000 in
theorem ggX5_move_X3_copyFrom : GoodIn wsX5_move wsX3_copyFrom := goodIn_r _ [21, 11, 22, 23, 24, 12, 25, 26, 27, 28, 29, 30, 31, 32, 33, 34, 35, 36, 79, 80, 81, 82, 83, 84, 85, 86] (by decide +kernel) (by decide +kernel)
set_option maxRecDepth 20000 in
theorem gX5_move_X3_copyFrom : GoodIn wsX5_move (wsV RX5 57 RX3 yX3_copyFrom wsX3_copyFrom) := goodIn_app (goodIn_of _ (by decide +kernel)) ggX5_move_X3_copyFrom
set_option maxRecDepth 20000 in
theorem ggX5_move_X0_shift : GoodIn wsX5_move wsX0_shift := goodIn_r _ [40, 31, 36, 84, 85, 86] (by decide +kernel) (by decide +kernel)
set_option maxRecDepth 20000 in
theorem gX5_move_X0_shift : GoodIn wsX5_move (wsV RX5 95 RX0 yX0_shift wsX0_shift) := goodIn_app (goodIn_of _ (by decide +kernel)) ggX5_move_X0_shift
set_option maxRecDepth 20000 in
theorem ggX5_move_X3_isCutBy : GoodIn wsX5_move wsX3_isCutBy := goodIn_r _ [44, 11, 12, 45, 46, 47, 28, 48, 49, 50, 51, 52, 31, 36, 79, 80, 81, 82, 83, 84, 85, 86] (by decide +kernel) (by decide +kernel)
set_option maxRecDepth 20000 in
theorem gX5_move_X3_isCutBy : GoodIn wsX5_move (wsV RX5 99 RX3 yX3_isCutBy wsX3_isCutBy) := goodIn_app (goodIn_of _ (by decide +kernel)) ggX5_move_X3_isCutBy
set_option maxRecDepth 20000 in
theorem ggX5_move_X5_adoptTrial : GoodIn wsX5_move wsX5_adoptTrial := goodIn_r _ [56, 57, 1, 2, 58, 59, 60, 61, 62, 63, 64, 65, 66, 67, 68, 69, 19, 20, 9, 21, 11, 22, 23, 24, 12, 25, 26, 27, 28, 29, 30, 31, 32, 33, 34, 35, 36, 18, 70, 71, 72, 73, 74, 75, 76, 77, 78, 87, 88, 79, 80, 81, 82, 83, 84, 85, 86] (by decide +kernel) (by decide +kernel)
set_option maxRecDepth 20000 in
theorem gX5_move_X5_adoptTrial : GoodIn wsX5_move (wsV RX5 65 RX5 yX5_adoptTrial wsX5_adoptTrial) := goodIn_app (goodIn_of _ (by decide +kernel)) ggX5_move_X5_adoptTrial
theorem dX5_move_0 : decode cX5_move 0 = .ok (.aload_n 0, 1) := by decide +kernel
theorem dX5_move_1 : decode cX5_move 1 = .ok (.getfield 10, 3) := by decide +kernel
theorem dX5_move_4 : decode cX5_move 4 = .ok (.iload_n 1, 1) := by decide +kernel
theorem dX5_move_5 : decode cX5_move 5 = .ok (.invokevirtual 68, 3) := by decide +kernel
theorem dX5_move_8 : decode cX5_move 8 = .ok (.istore 4, 2) := by decide +kernel
theorem dX5_move_10 : decode cX5_move 10 = .ok (.iload 4, 2) := by decide +kernel
theorem dX5_move_12 : decode cX5_move 12 = .ok (.iconst (-1), 1) := by decide +kernel
theorem dX5_move_13 : decode cX5_move 13 = .ok (.if_icmp .eq 10, 3) := by decide +kernel
theorem dX5_move_16 : decode cX5_move 16 = .ok (.iload_n 2, 1) := by decide +kernel
theorem dX5_move_17 : decode cX5_move 17 = .ok (.invokestatic 84, 3) := by decide +kernel
theorem dX5_move_20 : decode cX5_move 20 = .ok (.ifCond .ne 5, 3) := by decide +kernel
theorem dX5_move_23 : decode cX5_move 23 = .ok (.iconst (-1), 1) := by decide +kernel
theorem dX5_move_24 : decode cX5_move 24 = .ok (.ireturn, 1) := by decide +kernel
theorem dX5_move_25 : decode cX5_move 25 = .ok (.aload_n 0, 1) := by decide +kernel
theorem dX5_move_26 : decode cX5_move 26 = .ok (.getfield 16, 3) := by decide +kernel
theorem dX5_move_29 : decode cX5_move 29 = .ok (.aload_n 0, 1) := by decide +kernel
theorem dX5_move_30 : decode cX5_move 30 = .ok (.getfield 10, 3) := by decide +kernel
theorem dX5_move_33 : decode cX5_move 33 = .ok (.invokevirtual 57, 3) := by decide +kernel
theorem dX5_move_36 : decode cX5_move 36 = .ok (.aload_n 0, 1) := by decide +kernel
theorem dX5_move_37 : decode cX5_move 37 = .ok (.getfield 16, 3) := by decide +kernel
theorem dX5_move_40 : decode cX5_move 40 = .ok (.getfield 72, 3) := by decide +kernel
theorem dX5_move_43 : decode cX5_move 43 = .ok (.iload 4, 2) := by decide +kernel
theorem dX5_move_45 : decode cX5_move 45 = .ok (.aaload, 1) := by decide +kernel
theorem dX5_move_46 : decode cX5_move 46 = .ok (.astore 5, 2) := by decide +kernel
theorem dX5_move_48 : decode cX5_move 48 = .ok (.iload_n 3, 1) := by decide +kernel
theorem dX5_move_49 : decode cX5_move 49 = .ok (.aload 5, 2) := by decide +kernel
theorem dX5_move_51 : decode cX5_move 51 = .ok (.getfield 88, 3) := by decide +kernel
theorem dX5_move_54 : decode cX5_move 54 = .ok (.iload_n 2, 1) := by decide +kernel
theorem dX5_move_55 : decode cX5_move 55 = .ok (.iaload, 1) := by decide +kernel
theorem dX5_move_56 : decode cX5_move 56 = .ok (.ineg, 1) := by decide +kernel
theorem dX5_move_57 : decode cX5_move 57 = .ok (.if_icmp .lt 17, 3) := by decide +kernel
theorem dX5_move_60 : decode cX5_move 60 = .ok (.iload_n 3, 1) := by decide +kernel
theorem dX5_move_61 : decode cX5_move 61 = .ok (.bipush 32, 2) := by decide +kernel
theorem dX5_move_63 : decode cX5_move 63 = .ok (.aload 5, 2) := by decide +kernel
theorem dX5_move_65 : decode cX5_move 65 = .ok (.getfield 92, 3) := by decide +kernel
theorem dX5_move_68 : decode cX5_move 68 = .ok (.iload_n 2, 1) := by decide +kernel
theorem dX5_move_69 : decode cX5_move 69 = .ok (.iaload, 1) := by decide +kernel
theorem dX5_move_70 : decode cX5_move 70 = .ok (.isub, 1) := by decide +kernel
theorem dX5_move_71 : decode cX5_move 71 = .ok (.if_icmp .le 6, 3) := by decide +kernel
theorem dX5_move_74 : decode cX5_move 74 = .ok (.bipush (-2), 2) := by decide +kernel
theorem dX5_move_76 : decode cX5_move 76 = .ok (.ireturn, 1) := by decide +kernel
theorem dX5_move_77 : decode cX5_move 77 = .ok (.aload 5, 2) := by decide +kernel
theorem dX5_move_79 : decode cX5_move 79 = .ok (.iload_n 2, 1) := by decide +kernel
theorem dX5_move_80 : decode cX5_move 80 = .ok (.iload_n 3, 1) := by decide +kernel
theorem dX5_move_81 : decode cX5_move 81 = .ok (.invokevirtual 95, 3) := by decide +kernel
theorem dX5_move_84 : decode cX5_move 84 = .ok (.aload_n 0, 1) := by decide +kernel
theorem dX5_move_85 : decode cX5_move 85 = .ok (.getfield 16, 3) := by decide +kernel
theorem dX5_move_88 : decode cX5_move 88 = .ok (.aload 5, 2) := by decide +kernel
theorem dX5_move_90 : decode cX5_move 90 = .ok (.iload 4, 2) := by decide +kernel
theorem dX5_move_92 : decode cX5_move 92 = .ok (.invokevirtual 99, 3) := by decide +kernel
theorem dX5_move_95 : decode cX5_move 95 = .ok (.ifCond .eq 6, 3) := by decide +kernel
theorem dX5_move_98 : decode cX5_move 98 = .ok (.bipush (-4), 2) := by decide +kernel
theorem dX5_move_100 : decode cX5_move 100 = .ok (.ireturn, 1) := by decide +kernel
theorem dX5_move_101 : decode cX5_move 101 = .ok (.iload_n 3, 1) := by decide +kernel
theorem dX5_move_102 : decode cX5_move 102 = .ok (.ifCond .ne 6, 3) := by decide +kernel
theorem dX5_move_105 : decode cX5_move 105 = .ok (.bipush (-5), 2) := by decide +kernel
theorem dX5_move_107 : decode cX5_move 107 = .ok (.ireturn, 1) := by decide +kernel
theorem dX5_move_108 : decode cX5_move 108 = .ok (.aload_n 0, 1) := by decide +kernel
theorem dX5_move_109 : decode cX5_move 109 = .ok (.invokevirtual 65, 3) := by decide +kernel
theorem dX5_move_112 : decode cX5_move 112 = .ok (.aload_n 0, 1) := by decide +kernel
theorem dX5_move_113 : decode cX5_move 113 = .ok (.getfield 10, 3) := by decide +kernel
theorem dX5_move_116 : decode cX5_move 116 = .ok (.getfield 72, 3) := by decide +kernel
theorem dX5_move_119 : decode cX5_move 119 = .ok (.iload 4, 2) := by decide +kernel
theorem dX5_move_121 : decode cX5_move 121 = .ok (.aaload, 1) := by decide +kernel
theorem dX5_move_122 : decode cX5_move 122 = .ok (.getfield 88, 3) := by decide +kernel
theorem dX5_move_125 : decode cX5_move 125 = .ok (.iload_n 2, 1) := by decide +kernel
theorem dX5_move_126 : decode cX5_move 126 = .ok (.iaload, 1) := by decide +kernel
theorem dX5_move_127 : decode cX5_move 127 = .ok (.ireturn, 1) := by decide +kernel
set_option maxRecDepth 20000 in
theorem ggX5_fall_X3_slotOf : GoodIn wsX5_fall wsX3_slotOf := goodIn_r _ [9, 10, 11, 12, 80, 81, 82, 83, 84, 85, 86, 87] (by decide +kernel) (by decide +kernel)
set_option maxRecDepth 20000 in
theorem gX5_fall_X3_slotOf : GoodIn wsX5_fall (wsV RX5 68 RX3 yX3_slotOf wsX3_slotOf) := goodIn_app (goodIn_of _ (by decide +kernel)) ggX5_fall_X3_slotOf
set_option maxRecDepth 20000 in
theorem ggX5_fall_X3_groundUnder : GoodIn wsX5_fall wsX3_groundUnder := goodIn_r _ [16, 10, 11, 17, 18, 19, 20, 21, 22, 23, 24, 25, 26, 27, 28, 29, 30, 31, 32, 80, 81, 82, 83, 84, 85, 86, 87] (by decide +kernel) (by decide +kernel)
set_option maxRecDepth 20000 in
theorem gX5_fall_X3_groundUnder : GoodIn wsX5_fall (wsV RX5 103 RX3 yX3_groundUnder wsX3_groundUnder) := goodIn_app (goodIn_of _ (by decide +kernel)) ggX5_fall_X3_groundUnder
set_option maxRecDepth 20000 in
theorem ggX5_fall_X3_copyFrom : GoodIn wsX5_fall wsX3_copyFrom := goodIn_r _ [36, 10, 37, 38, 39, 11, 40, 41, 42, 25, 43, 44, 28, 45, 46, 47, 48, 27, 80, 81, 82, 83, 84, 85, 86, 87] (by decide +kernel) (by decide +kernel)
set_option maxRecDepth 20000 in
theorem gX5_fall_X3_copyFrom : GoodIn wsX5_fall (wsV RX5 57 RX3 yX3_copyFrom wsX3_copyFrom) := goodIn_app (goodIn_of _ (by decide +kernel)) ggX5_fall_X3_copyFrom
set_option maxRecDepth 20000 in
theorem ggX5_fall_X0_shift : GoodIn wsX5_fall wsX0_shift := goodIn_r _ [52, 28, 27, 85, 86, 87] (by decide +kernel) (by decide +kernel)
set_option maxRecDepth 20000 in
theorem gX5_fall_X0_shift : GoodIn wsX5_fall (wsV RX5 95 RX0 yX0_shift wsX0_shift) := goodIn_app (goodIn_of _ (by decide +kernel)) ggX5_fall_X0_shift
set_option maxRecDepth 20000 in
theorem ggX5_fall_X5_adoptTrial : GoodIn wsX5_fall wsX5_adoptTrial := goodIn_r _ [57, 58, 1, 4, 59, 60, 61, 62, 63, 64, 65, 66, 67, 68, 69, 70, 34, 35, 8, 36, 10, 37, 38, 39, 11, 40, 41, 42, 25, 43, 44, 28, 45, 46, 47, 48, 27, 33, 71, 72, 73, 74, 75, 76, 77, 78, 79, 88, 89, 80, 81, 82, 83, 84, 85, 86, 87] (by decide +kernel) (by decide +kernel)
set_option maxRecDepth 20000 in
theorem gX5_fall_X5_adoptTrial : GoodIn wsX5_fall (wsV RX5 65 RX5 yX5_adoptTrial wsX5_adoptTrial) := goodIn_app (goodIn_of _ (by decide +kernel)) ggX5_fall_X5_adoptTrial
theorem dX5_fall_0 : decode cX5_fall 0 = .ok (.aload_n 0, 1) := by decide +kernel
theorem dX5_fall_1 : decode cX5_fall 1 = .ok (.getfield 10, 3) := by decide +kernel
theorem dX5_fall_4 : decode cX5_fall 4 = .ok (.iload_n 1, 1) := by decide +kernel
theorem dX5_fall_5 : decode cX5_fall 5 = .ok (.invokevirtual 68, 3) := by decide +kernel
theorem dX5_fall_8 : decode cX5_fall 8 = .ok (.istore_n 2, 1) := by decide +kernel
theorem dX5_fall_9 : decode cX5_fall 9 = .ok (.iload_n 2, 1) := by decide +kernel
theorem dX5_fall_10 : decode cX5_fall 10 = .ok (.iconst (-1), 1) := by decide +kernel
theorem dX5_fall_11 : decode cX5_fall 11 = .ok (.if_icmp .ne 5, 3) := by decide +kernel
theorem dX5_fall_14 : decode cX5_fall 14 = .ok (.iconst (-1), 1) := by decide +kernel
theorem dX5_fall_15 : decode cX5_fall 15 = .ok (.ireturn, 1) := by decide +kernel
theorem dX5_fall_16 : decode cX5_fall 16 = .ok (.aload_n 0, 1) := by decide +kernel
theorem dX5_fall_17 : decode cX5_fall 17 = .ok (.getfield 10, 3) := by decide +kernel
theorem dX5_fall_20 : decode cX5_fall 20 = .ok (.getfield 72, 3) := by decide +kernel
theorem dX5_fall_23 : decode cX5_fall 23 = .ok (.iload_n 2, 1) := by decide +kernel
theorem dX5_fall_24 : decode cX5_fall 24 = .ok (.aaload, 1) := by decide +kernel
theorem dX5_fall_25 : decode cX5_fall 25 = .ok (.getfield 88, 3) := by decide +kernel
theorem dX5_fall_28 : decode cX5_fall 28 = .ok (.iconst 2, 1) := by decide +kernel
theorem dX5_fall_29 : decode cX5_fall 29 = .ok (.iaload, 1) := by decide +kernel
theorem dX5_fall_30 : decode cX5_fall 30 = .ok (.aload_n 0, 1) := by decide +kernel
theorem dX5_fall_31 : decode cX5_fall 31 = .ok (.getfield 10, 3) := by decide +kernel
theorem dX5_fall_34 : decode cX5_fall 34 = .ok (.iload_n 2, 1) := by decide +kernel
theorem dX5_fall_35 : decode cX5_fall 35 = .ok (.invokevirtual 103, 3) := by decide +kernel
theorem dX5_fall_38 : decode cX5_fall 38 = .ok (.isub, 1) := by decide +kernel
theorem dX5_fall_39 : decode cX5_fall 39 = .ok (.istore_n 3, 1) := by decide +kernel
theorem dX5_fall_40 : decode cX5_fall 40 = .ok (.iload_n 3, 1) := by decide +kernel
theorem dX5_fall_41 : decode cX5_fall 41 = .ok (.ifCond .gt 6, 3) := by decide +kernel
theorem dX5_fall_44 : decode cX5_fall 44 = .ok (.bipush (-5), 2) := by decide +kernel
theorem dX5_fall_46 : decode cX5_fall 46 = .ok (.ireturn, 1) := by decide +kernel
theorem dX5_fall_47 : decode cX5_fall 47 = .ok (.aload_n 0, 1) := by decide +kernel
theorem dX5_fall_48 : decode cX5_fall 48 = .ok (.getfield 16, 3) := by decide +kernel
theorem dX5_fall_51 : decode cX5_fall 51 = .ok (.aload_n 0, 1) := by decide +kernel
theorem dX5_fall_52 : decode cX5_fall 52 = .ok (.getfield 10, 3) := by decide +kernel
theorem dX5_fall_55 : decode cX5_fall 55 = .ok (.invokevirtual 57, 3) := by decide +kernel
theorem dX5_fall_58 : decode cX5_fall 58 = .ok (.aload_n 0, 1) := by decide +kernel
theorem dX5_fall_59 : decode cX5_fall 59 = .ok (.getfield 16, 3) := by decide +kernel
theorem dX5_fall_62 : decode cX5_fall 62 = .ok (.getfield 72, 3) := by decide +kernel
theorem dX5_fall_65 : decode cX5_fall 65 = .ok (.iload_n 2, 1) := by decide +kernel
theorem dX5_fall_66 : decode cX5_fall 66 = .ok (.aaload, 1) := by decide +kernel
theorem dX5_fall_67 : decode cX5_fall 67 = .ok (.iconst 2, 1) := by decide +kernel
theorem dX5_fall_68 : decode cX5_fall 68 = .ok (.iload_n 3, 1) := by decide +kernel
theorem dX5_fall_69 : decode cX5_fall 69 = .ok (.ineg, 1) := by decide +kernel
theorem dX5_fall_70 : decode cX5_fall 70 = .ok (.invokevirtual 95, 3) := by decide +kernel
theorem dX5_fall_73 : decode cX5_fall 73 = .ok (.aload_n 0, 1) := by decide +kernel
theorem dX5_fall_74 : decode cX5_fall 74 = .ok (.invokevirtual 65, 3) := by decide +kernel
theorem dX5_fall_77 : decode cX5_fall 77 = .ok (.iload_n 3, 1) := by decide +kernel
theorem dX5_fall_78 : decode cX5_fall 78 = .ok (.ireturn, 1) := by decide +kernel
set_option maxRecDepth 20000 in
theorem ggX5_split_X3_slotOf : GoodIn wsX5_split wsX3_slotOf := goodIn_r _ [10, 11, 12, 13, 78, 79, 80, 81, 82, 83, 84, 85] (by decide +kernel) (by decide +kernel)
set_option maxRecDepth 20000 in
theorem gX5_split_X3_slotOf : GoodIn wsX5_split (wsV RX5 68 RX3 yX3_slotOf wsX3_slotOf) := goodIn_app (goodIn_of _ (by decide +kernel)) ggX5_split_X3_slotOf
set_option maxRecDepth 20000 in
theorem ggX5_split_X5_isDirection : GoodIn wsX5_split wsX5_isDirection := goodIn_r _ [17] (by decide +kernel) (by decide +kernel)
set_option maxRecDepth 20000 in
theorem gX5_split_X5_isDirection : GoodIn wsX5_split (va_wsS RX5 84 yX5_isDirection wsX5_isDirection) := goodIn_app (goodIn_of _ (by decide +kernel)) ggX5_split_X5_isDirection
set_option maxRecDepth 20000 in
theorem ggX5_split_X3_isFull : GoodIn wsX5_split wsX3_isFull := goodIn_r _ [21, 11, 78, 79, 80, 81, 82] (by decide +kernel) (by decide +kernel)
set_option maxRecDepth 20000 in
theorem gX5_split_X3_isFull : GoodIn wsX5_split (wsV RX5 106 RX3 yX3_isFull wsX3_isFull) := goodIn_app (goodIn_of _ (by decide +kernel)) ggX5_split_X3_isFull
set_option maxRecDepth 20000 in
theorem ggX5_split_X3_copyFrom : GoodIn wsX5_split wsX3_copyFrom := goodIn_r _ [25, 11, 26, 27, 28, 12, 29, 30, 31, 32, 33, 34, 35, 36, 37, 38, 39, 40, 78, 79, 80, 81, 82, 83, 84, 85] (by decide +kernel) (by decide +kernel)
set_option maxRecDepth 20000 in
theorem gX5_split_X3_copyFrom : GoodIn wsX5_split (wsV RX5 57 RX3 yX3_copyFrom wsX3_copyFrom) := goodIn_app (goodIn_of _ (by decide +kernel)) ggX5_split_X3_copyFrom
set_option maxRecDepth 20000 in
theorem ggX5_split_X3_cutInTwo : GoodIn wsX5_split wsX3_cutInTwo := goodIn_r _ [44, 12, 11, 45, 46, 27, 47, 48, 49, 9, 50, 26, 13, 51, 19, 20, 21, 29, 30, 31, 32, 33, 34, 35, 36, 37, 38, 39, 40, 78, 79, 80, 81, 82, 83, 84, 85] (by decide +kernel) (by decide +kernel)
set_option maxRecDepth 20000 in
theorem gX5_split_X3_cutInTwo : GoodIn wsX5_split (wsV RX5 110 RX3 yX3_cutInTwo wsX3_cutInTwo) := goodIn_app (goodIn_of _ (by decide +kernel)) ggX5_split_X3_cutInTwo
set_option maxRecDepth 20000 in
theorem ggX5_split_X5_adoptTrial : GoodIn wsX5_split wsX5_adoptTrial := goodIn_r _ [55, 56, 1, 5, 57, 58, 59, 60, 61, 62, 63, 64, 65, 66, 67, 68, 23, 24, 9, 25, 11, 26, 27, 28, 12, 29, 30, 31, 32, 33, 34, 35, 36, 37, 38, 39, 40, 22, 69, 70, 71, 72, 73, 74, 75, 76, 77, 86, 87, 78, 79, 80, 81, 82, 83, 84, 85] (by decide +kernel) (by decide +kernel)
set_option maxRecDepth 20000 in
theorem gX5_split_X5_adoptTrial : GoodIn wsX5_split (wsV RX5 65 RX5 yX5_adoptTrial wsX5_adoptTrial) := goodIn_app (goodIn_of _ (by decide +kernel)) ggX5_split_X5_adoptTrial
theorem dX5_split_0 : decode cX5_split 0 = .ok (.aload_n 0, 1) := by decide +kernel
theorem dX5_split_1 : decode cX5_split 1 = .ok (.getfield 10, 3) := by decide +kernel
theorem dX5_split_4 : decode cX5_split 4 = .ok (.iload_n 1, 1) := by decide +kernel
theorem dX5_split_5 : decode cX5_split 5 = .ok (.invokevirtual 68, 3) := by decide +kernel
theorem dX5_split_8 : decode cX5_split 8 = .ok (.istore 4, 2) := by decide +kernel
theorem dX5_split_10 : decode cX5_split 10 = .ok (.iload 4, 2) := by decide +kernel
theorem dX5_split_12 : decode cX5_split 12 = .ok (.iconst (-1), 1) := by decide +kernel
theorem dX5_split_13 : decode cX5_split 13 = .ok (.if_icmp .eq 10, 3) := by decide +kernel
theorem dX5_split_16 : decode cX5_split 16 = .ok (.iload_n 2, 1) := by decide +kernel
theorem dX5_split_17 : decode cX5_split 17 = .ok (.invokestatic 84, 3) := by decide +kernel
theorem dX5_split_20 : decode cX5_split 20 = .ok (.ifCond .ne 5, 3) := by decide +kernel
theorem dX5_split_23 : decode cX5_split 23 = .ok (.iconst (-1), 1) := by decide +kernel
theorem dX5_split_24 : decode cX5_split 24 = .ok (.ireturn, 1) := by decide +kernel
theorem dX5_split_25 : decode cX5_split 25 = .ok (.aload_n 0, 1) := by decide +kernel
theorem dX5_split_26 : decode cX5_split 26 = .ok (.getfield 10, 3) := by decide +kernel
theorem dX5_split_29 : decode cX5_split 29 = .ok (.getfield 72, 3) := by decide +kernel
theorem dX5_split_32 : decode cX5_split 32 = .ok (.iload 4, 2) := by decide +kernel
theorem dX5_split_34 : decode cX5_split 34 = .ok (.aaload, 1) := by decide +kernel
theorem dX5_split_35 : decode cX5_split 35 = .ok (.astore 5, 2) := by decide +kernel
theorem dX5_split_37 : decode cX5_split 37 = .ok (.iload_n 3, 1) := by decide +kernel
theorem dX5_split_38 : decode cX5_split 38 = .ok (.aload 5, 2) := by decide +kernel
theorem dX5_split_40 : decode cX5_split 40 = .ok (.getfield 88, 3) := by decide +kernel
theorem dX5_split_43 : decode cX5_split 43 = .ok (.iload_n 2, 1) := by decide +kernel
theorem dX5_split_44 : decode cX5_split 44 = .ok (.iaload, 1) := by decide +kernel
theorem dX5_split_45 : decode cX5_split 45 = .ok (.if_icmp .le 14, 3) := by decide +kernel
theorem dX5_split_48 : decode cX5_split 48 = .ok (.iload_n 3, 1) := by decide +kernel
theorem dX5_split_49 : decode cX5_split 49 = .ok (.aload 5, 2) := by decide +kernel
theorem dX5_split_51 : decode cX5_split 51 = .ok (.getfield 92, 3) := by decide +kernel
theorem dX5_split_54 : decode cX5_split 54 = .ok (.iload_n 2, 1) := by decide +kernel
theorem dX5_split_55 : decode cX5_split 55 = .ok (.iaload, 1) := by decide +kernel
theorem dX5_split_56 : decode cX5_split 56 = .ok (.if_icmp .lt 6, 3) := by decide +kernel
theorem dX5_split_59 : decode cX5_split 59 = .ok (.bipush (-2), 2) := by decide +kernel
theorem dX5_split_61 : decode cX5_split 61 = .ok (.ireturn, 1) := by decide +kernel
theorem dX5_split_62 : decode cX5_split 62 = .ok (.aload_n 0, 1) := by decide +kernel
theorem dX5_split_63 : decode cX5_split 63 = .ok (.getfield 10, 3) := by decide +kernel
theorem dX5_split_66 : decode cX5_split 66 = .ok (.invokevirtual 106, 3) := by decide +kernel
theorem dX5_split_69 : decode cX5_split 69 = .ok (.ifCond .eq 6, 3) := by decide +kernel
theorem dX5_split_72 : decode cX5_split 72 = .ok (.bipush (-3), 2) := by decide +kernel
theorem dX5_split_74 : decode cX5_split 74 = .ok (.ireturn, 1) := by decide +kernel
theorem dX5_split_75 : decode cX5_split 75 = .ok (.aload_n 0, 1) := by decide +kernel
theorem dX5_split_76 : decode cX5_split 76 = .ok (.getfield 16, 3) := by decide +kernel
theorem dX5_split_79 : decode cX5_split 79 = .ok (.aload_n 0, 1) := by decide +kernel
theorem dX5_split_80 : decode cX5_split 80 = .ok (.getfield 10, 3) := by decide +kernel
theorem dX5_split_83 : decode cX5_split 83 = .ok (.invokevirtual 57, 3) := by decide +kernel
theorem dX5_split_86 : decode cX5_split 86 = .ok (.aload_n 0, 1) := by decide +kernel
theorem dX5_split_87 : decode cX5_split 87 = .ok (.getfield 16, 3) := by decide +kernel
theorem dX5_split_90 : decode cX5_split 90 = .ok (.iload 4, 2) := by decide +kernel
theorem dX5_split_92 : decode cX5_split 92 = .ok (.iload_n 2, 1) := by decide +kernel
theorem dX5_split_93 : decode cX5_split 93 = .ok (.iload_n 3, 1) := by decide +kernel
theorem dX5_split_94 : decode cX5_split 94 = .ok (.invokevirtual 110, 3) := by decide +kernel
theorem dX5_split_97 : decode cX5_split 97 = .ok (.istore 6, 2) := by decide +kernel
theorem dX5_split_99 : decode cX5_split 99 = .ok (.aload_n 0, 1) := by decide +kernel
theorem dX5_split_100 : decode cX5_split 100 = .ok (.invokevirtual 65, 3) := by decide +kernel
theorem dX5_split_103 : decode cX5_split 103 = .ok (.iload 6, 2) := by decide +kernel
theorem dX5_split_105 : decode cX5_split 105 = .ok (.ireturn, 1) := by decide +kernel
set_option maxRecDepth 20000 in
theorem ggX5_breakRing_X3_copyFrom : GoodIn wsX5_breakRing wsX3_copyFrom := goodIn_r _ [7, 8, 9, 10, 11, 12, 13, 14, 15, 16, 17, 18, 19, 20, 21, 22, 23, 24, 162, 163, 164, 165, 166, 167, 168, 169] (by decide +kernel) (by decide +kernel)
set_option maxRecDepth 20000 in
theorem gX5_breakRing_X3_copyFrom : GoodIn wsX5_breakRing (wsV RX5 57 RX3 yX3_copyFrom wsX3_copyFrom) := goodIn_app (goodIn_of _ (by decide +kernel)) ggX5_breakRing_X3_copyFrom
set_option maxRecDepth 20000 in
theorem ggX5_breakRing_X5_breakOne : GoodIn wsX5_breakRing wsX5_breakOne := goodIn_r _ [29, 30, 31, 32, 33, 34, 35, 36, 37, 38, 39, 40, 41, 42, 43, 44, 45, 46, 47, 16, 48, 19, 24, 49, 50, 51, 52, 53, 54, 55, 56, 57, 58, 59, 60, 61, 62, 21, 22, 23, 63, 64, 65, 66, 67, 68, 69, 70, 71, 72, 73, 74, 75, 76, 77, 78, 79, 80, 81, 82, 83, 84, 6, 85, 11, 12, 86, 87, 88, 89, 90, 91, 92, 93, 94, 95, 96, 97, 98, 99, 100, 101, 102, 103, 104, 105, 106, 107, 108, 109, 110, 111, 112, 113, 114, 115, 116, 117, 118, 119, 120, 121, 122, 123, 8, 124, 125, 126, 127, 128, 129, 10, 130, 131, 132, 133, 9, 134, 135, 13, 14, 15, 17, 18, 20, 153, 154, 155, 156, 157, 158, 159, 160, 161, 162, 163, 164, 165, 166, 167, 168, 169, 170, 171, 172, 173, 174, 175, 176] (by decide +kernel) (by decide +kernel)
set_option maxRecDepth 20000 in
theorem gX5_breakRing_X5_breakOne : GoodIn wsX5_breakRing (wsV RX5 114 RX5 yX5_breakOne wsX5_breakOne) := goodIn_app (goodIn_of _ (by decide +kernel)) ggX5_breakRing_X5_breakOne
set_option maxRecDepth 20000 in
theorem ggX5_breakRing_X5_adoptTrial : GoodIn wsX5_breakRing wsX5_adoptTrial := goodIn_r _ [139, 140, 2, 1, 141, 142, 143, 144, 145, 146, 147, 148, 149, 150, 151, 152, 4, 5, 6, 7, 8, 9, 10, 11, 12, 13, 14, 15, 16, 17, 18, 19, 20, 21, 22, 23, 24, 3, 153, 154, 155, 156, 157, 158, 159, 160, 161, 177, 178, 162, 163, 164, 165, 166, 167, 168, 169] (by decide +kernel) (by decide +kernel)
set_option maxRecDepth 20000 in
theorem gX5_breakRing_X5_adoptTrial : GoodIn wsX5_breakRing (wsV RX5 65 RX5 yX5_adoptTrial wsX5_adoptTrial) := goodIn_app (goodIn_of _ (by decide +kernel)) ggX5_breakRing_X5_adoptTrial
theorem dX5_breakRing_0 : decode cX5_breakRing 0 = .ok (.aload_n 0, 1) := by decide +kernel
theorem dX5_breakRing_1 : decode cX5_breakRing 1 = .ok (.getfield 16, 3) := by decide +kernel
theorem dX5_breakRing_4 : decode cX5_breakRing 4 = .ok (.aload_n 0, 1) := by decide +kernel
theorem dX5_breakRing_5 : decode cX5_breakRing 5 = .ok (.getfield 10, 3) := by decide +kernel
theorem dX5_breakRing_8 : decode cX5_breakRing 8 = .ok (.invokevirtual 57, 3) := by decide +kernel
theorem dX5_breakRing_11 : decode cX5_breakRing 11 = .ok (.aload_n 0, 1) := by decide +kernel
theorem dX5_breakRing_12 : decode cX5_breakRing 12 = .ok (.aload_n 0, 1) := by decide +kernel
theorem dX5_breakRing_13 : decode cX5_breakRing 13 = .ok (.getfield 16, 3) := by decide +kernel
theorem dX5_breakRing_16 : decode cX5_breakRing 16 = .ok (.invokevirtual 114, 3) := by decide +kernel
theorem dX5_breakRing_19 : decode cX5_breakRing 19 = .ok (.istore_n 1, 1) := by decide +kernel
theorem dX5_breakRing_20 : decode cX5_breakRing 20 = .ok (.iload_n 1, 1) := by decide +kernel
theorem dX5_breakRing_21 : decode cX5_breakRing 21 = .ok (.ifCond .lt 7, 3) := by decide +kernel
theorem dX5_breakRing_24 : decode cX5_breakRing 24 = .ok (.aload_n 0, 1) := by decide +kernel
theorem dX5_breakRing_25 : decode cX5_breakRing 25 = .ok (.invokevirtual 65, 3) := by decide +kernel
theorem dX5_breakRing_28 : decode cX5_breakRing 28 = .ok (.iload_n 1, 1) := by decide +kernel
theorem dX5_breakRing_29 : decode cX5_breakRing 29 = .ok (.ireturn, 1) := by decide +kernel
set_option maxRecDepth 20000 in
theorem ggX5_turn_X3_copyFrom : GoodIn wsX5_turn wsX3_copyFrom := goodIn_r _ [10, 11, 12, 13, 14, 15, 16, 17, 18, 19, 20, 21, 22, 23, 24, 25, 26, 27, 145, 146, 147, 148, 149, 150, 151, 152] (by decide +kernel) (by decide +kernel)
set_option maxRecDepth 20000 in
theorem gX5_turn_X3_copyFrom : GoodIn wsX5_turn (wsV RX5 57 RX3 yX3_copyFrom wsX3_copyFrom) := goodIn_app (goodIn_of _ (by decide +kernel)) ggX5_turn_X3_copyFrom
set_option maxRecDepth 20000 in
theorem ggX5_turn_X3_quarterTurn : GoodIn wsX5_turn wsX3_quarterTurn := goodIn_r _ [31, 11, 15, 32, 33, 145, 146, 147, 148, 149, 150, 151, 152] (by decide +kernel) (by decide +kernel)
set_option maxRecDepth 20000 in
theorem gX5_turn_X3_quarterTurn : GoodIn wsX5_turn (wsV RX5 122 RX3 yX3_quarterTurn wsX3_quarterTurn) := goodIn_app (goodIn_of _ (by decide +kernel)) ggX5_turn_X3_quarterTurn
set_option maxRecDepth 20000 in
theorem ggX5_turn_X2_look : GoodIn wsX5_turn wsX2_look := goodIn_r _ [38, 39, 40, 41, 42, 43, 37, 44, 45, 46, 47, 48, 19, 49, 22, 27, 50, 51, 52, 53, 54, 55, 56, 57, 58, 59, 60, 61, 62, 63, 24, 25, 26, 64, 65, 66, 67, 68, 69, 70, 71, 72, 73, 74, 75, 76, 77, 78, 79, 80, 81, 82, 83, 84, 85, 9, 86, 14, 15, 87, 88, 89, 90, 91, 92, 93, 94, 95, 96, 97, 98, 99, 100, 101, 102, 103, 104, 105, 106, 145, 146, 147, 148, 149, 153, 154, 155, 156, 157, 158, 159, 150, 151, 152] (by decide +kernel) (by decide +kernel)
set_option maxRecDepth 20000 in
theorem gX5_turn_X2_look : GoodIn wsX5_turn (wsV RX5 125 RX2 yX2_look wsX2_look) := goodIn_app (goodIn_of _ (by decide +kernel)) ggX5_turn_X2_look
set_option maxRecDepth 20000 in
theorem ggX5_turn_X2_hidingsNotIn : GoodIn wsX5_turn wsX2_hidingsNotIn := goodIn_r _ [110, 40, 41, 111, 112, 113, 114, 115, 116, 117, 153, 154, 155, 156, 157, 158, 159] (by decide +kernel) (by decide +kernel)
set_option maxRecDepth 20000 in
theorem gX5_turn_X2_hidingsNotIn : GoodIn wsX5_turn (wsV RX5 128 RX2 yX2_hidingsNotIn wsX2_hidingsNotIn) := goodIn_app (goodIn_of _ (by decide +kernel)) ggX5_turn_X2_hidingsNotIn
set_option maxRecDepth 20000 in
theorem ggX5_turn_X5_adoptTrial : GoodIn wsX5_turn wsX5_adoptTrial := goodIn_r _ [122, 123, 1, 3, 124, 125, 126, 127, 128, 129, 130, 131, 132, 133, 134, 135, 7, 8, 9, 10, 11, 12, 13, 14, 15, 16, 17, 18, 19, 20, 21, 22, 23, 24, 25, 26, 27, 6, 136, 137, 138, 139, 140, 141, 142, 143, 144, 160, 161, 145, 146, 147, 148, 149, 150, 151, 152] (by decide +kernel) (by decide +kernel)
set_option maxRecDepth 20000 in
theorem gX5_turn_X5_adoptTrial : GoodIn wsX5_turn (wsV RX5 65 RX5 yX5_adoptTrial wsX5_adoptTrial) := goodIn_app (goodIn_of _ (by decide +kernel)) ggX5_turn_X5_adoptTrial
theorem dX5_turn_0 : decode cX5_turn 0 = .ok (.aload_n 0, 1) := by decide +kernel
theorem dX5_turn_1 : decode cX5_turn 1 = .ok (.getfield 10, 3) := by decide +kernel
theorem dX5_turn_4 : decode cX5_turn 4 = .ok (.getfield 118, 3) := by decide +kernel
theorem dX5_turn_7 : decode cX5_turn 7 = .ok (.ifCond .ne 6, 3) := by decide +kernel
theorem dX5_turn_10 : decode cX5_turn 10 = .ok (.bipush (-5), 2) := by decide +kernel
theorem dX5_turn_12 : decode cX5_turn 12 = .ok (.ireturn, 1) := by decide +kernel
theorem dX5_turn_13 : decode cX5_turn 13 = .ok (.aload_n 0, 1) := by decide +kernel
theorem dX5_turn_14 : decode cX5_turn 14 = .ok (.getfield 16, 3) := by decide +kernel
theorem dX5_turn_17 : decode cX5_turn 17 = .ok (.aload_n 0, 1) := by decide +kernel
theorem dX5_turn_18 : decode cX5_turn 18 = .ok (.getfield 10, 3) := by decide +kernel
theorem dX5_turn_21 : decode cX5_turn 21 = .ok (.invokevirtual 57, 3) := by decide +kernel
theorem dX5_turn_24 : decode cX5_turn 24 = .ok (.aload_n 0, 1) := by decide +kernel
end
section
theorem dX5_turn_25 : decode cX5_turn 25 = .ok (.getfield 16, 3) := by decide +kernel
theorem dX5_turn_28 : decode cX5_turn 28 = .ok (.invokevirtual 122, 3) := by decide +kernel
theorem dX5_turn_31 : decode cX5_turn 31 = .ok (.aload_n 0, 1) := by decide +kernel
theorem dX5_turn_32 : decode cX5_turn 32 = .ok (.getfield 39, 3) := by decide +kernel
theorem dX5_turn_35 : decode cX5_turn 35 = .ok (.aload_n 0, 1) := by decide +kernel
theorem dX5_turn_36 : decode cX5_turn 36 = .ok (.getfield 10, 3) := by decide +kernel
theorem dX5_turn_39 : decode cX5_turn 39 = .ok (.invokevirtual 125, 3) := by decide +kernel
theorem dX5_turn_42 : decode cX5_turn 42 = .ok (.aload_n 0, 1) := by decide +kernel
theorem dX5_turn_43 : decode cX5_turn 43 = .ok (.getfield 43, 3) := by decide +kernel
theorem dX5_turn_46 : decode cX5_turn 46 = .ok (.aload_n 0, 1) := by decide +kernel
theorem dX5_turn_47 : decode cX5_turn 47 = .ok (.getfield 16, 3) := by decide +kernel
theorem dX5_turn_50 : decode cX5_turn 50 = .ok (.invokevirtual 125, 3) := by decide +kernel
theorem dX5_turn_53 : decode cX5_turn 53 = .ok (.aload_n 0, 1) := by decide +kernel
theorem dX5_turn_54 : decode cX5_turn 54 = .ok (.getfield 39, 3) := by decide +kernel
theorem dX5_turn_57 : decode cX5_turn 57 = .ok (.aload_n 0, 1) := by decide +kernel
theorem dX5_turn_58 : decode cX5_turn 58 = .ok (.getfield 43, 3) := by decide +kernel
theorem dX5_turn_61 : decode cX5_turn 61 = .ok (.invokevirtual 128, 3) := by decide +kernel
theorem dX5_turn_64 : decode cX5_turn 64 = .ok (.istore_n 1, 1) := by decide +kernel
theorem dX5_turn_65 : decode cX5_turn 65 = .ok (.aload_n 0, 1) := by decide +kernel
theorem dX5_turn_66 : decode cX5_turn 66 = .ok (.invokevirtual 65, 3) := by decide +kernel
theorem dX5_turn_69 : decode cX5_turn 69 = .ok (.iload_n 1, 1) := by decide +kernel
theorem dX5_turn_70 : decode cX5_turn 70 = .ok (.ireturn, 1) := by decide +kernel
set_option maxRecDepth 20000 in
theorem ggX5_set_X3_copyFrom : GoodIn wsX5_set wsX3_copyFrom := goodIn_r _ [8, 9, 10, 11, 12, 13, 14, 15, 16, 17, 18, 19, 20, 21, 22, 23, 24, 25, 53, 54, 55, 56, 57, 58, 59, 60] (by decide +kernel) (by decide +kernel)
set_option maxRecDepth 20000 in
theorem gX5_set_X3_copyFrom : GoodIn wsX5_set (wsV RX5 57 RX3 yX3_copyFrom wsX3_copyFrom) := goodIn_app (goodIn_of _ (by decide +kernel)) ggX5_set_X3_copyFrom
set_option maxRecDepth 20000 in
theorem ggX5_set_X5_adoptTrial : GoodIn wsX5_set wsX5_adoptTrial := goodIn_r _ [30, 31, 1, 3, 32, 33, 34, 35, 36, 37, 38, 39, 40, 41, 42, 43, 5, 6, 7, 8, 9, 10, 11, 12, 13, 14, 15, 16, 17, 18, 19, 20, 21, 22, 23, 24, 25, 4, 44, 45, 46, 47, 48, 49, 50, 51, 52, 61, 62, 53, 54, 55, 56, 57, 58, 59, 60] (by decide +kernel) (by decide +kernel)
set_option maxRecDepth 20000 in
theorem gX5_set_X5_adoptTrial : GoodIn wsX5_set (wsV RX5 65 RX5 yX5_adoptTrial wsX5_adoptTrial) := goodIn_app (goodIn_of _ (by decide +kernel)) ggX5_set_X5_adoptTrial
theorem dX5_set_0 : decode cX5_set 0 = .ok (.iload_n 1, 1) := by decide +kernel
theorem dX5_set_1 : decode cX5_set 1 = .ok (.ifCond .eq 5, 3) := by decide +kernel
theorem dX5_set_4 : decode cX5_set 4 = .ok (.iconst (-1), 1) := by decide +kernel
theorem dX5_set_5 : decode cX5_set 5 = .ok (.ireturn, 1) := by decide +kernel
theorem dX5_set_6 : decode cX5_set 6 = .ok (.iload_n 2, 1) := by decide +kernel
theorem dX5_set_7 : decode cX5_set 7 = .ok (.ifCond .lt 8, 3) := by decide +kernel
theorem dX5_set_10 : decode cX5_set 10 = .ok (.iload_n 2, 1) := by decide +kernel
theorem dX5_set_11 : decode cX5_set 11 = .ok (.iconst 2, 1) := by decide +kernel
theorem dX5_set_12 : decode cX5_set 12 = .ok (.if_icmp .le 6, 3) := by decide +kernel
theorem dX5_set_15 : decode cX5_set 15 = .ok (.bipush (-2), 2) := by decide +kernel
theorem dX5_set_17 : decode cX5_set 17 = .ok (.ireturn, 1) := by decide +kernel
theorem dX5_set_18 : decode cX5_set 18 = .ok (.aload_n 0, 1) := by decide +kernel
theorem dX5_set_19 : decode cX5_set 19 = .ok (.getfield 10, 3) := by decide +kernel
theorem dX5_set_22 : decode cX5_set 22 = .ok (.getfield 132, 3) := by decide +kernel
theorem dX5_set_25 : decode cX5_set 25 = .ok (.istore_n 3, 1) := by decide +kernel
theorem dX5_set_26 : decode cX5_set 26 = .ok (.iload_n 2, 1) := by decide +kernel
theorem dX5_set_27 : decode cX5_set 27 = .ok (.iload_n 3, 1) := by decide +kernel
theorem dX5_set_28 : decode cX5_set 28 = .ok (.if_icmp .ne 6, 3) := by decide +kernel
theorem dX5_set_31 : decode cX5_set 31 = .ok (.bipush (-5), 2) := by decide +kernel
theorem dX5_set_33 : decode cX5_set 33 = .ok (.ireturn, 1) := by decide +kernel
theorem dX5_set_34 : decode cX5_set 34 = .ok (.aload_n 0, 1) := by decide +kernel
theorem dX5_set_35 : decode cX5_set 35 = .ok (.getfield 16, 3) := by decide +kernel
theorem dX5_set_38 : decode cX5_set 38 = .ok (.aload_n 0, 1) := by decide +kernel
theorem dX5_set_39 : decode cX5_set 39 = .ok (.getfield 10, 3) := by decide +kernel
theorem dX5_set_42 : decode cX5_set 42 = .ok (.invokevirtual 57, 3) := by decide +kernel
theorem dX5_set_45 : decode cX5_set 45 = .ok (.aload_n 0, 1) := by decide +kernel
theorem dX5_set_46 : decode cX5_set 46 = .ok (.getfield 16, 3) := by decide +kernel
theorem dX5_set_49 : decode cX5_set 49 = .ok (.iload_n 2, 1) := by decide +kernel
theorem dX5_set_50 : decode cX5_set 50 = .ok (.putfield 132, 3) := by decide +kernel
theorem dX5_set_53 : decode cX5_set 53 = .ok (.aload_n 0, 1) := by decide +kernel
theorem dX5_set_54 : decode cX5_set 54 = .ok (.invokevirtual 65, 3) := by decide +kernel
theorem dX5_set_57 : decode cX5_set 57 = .ok (.iload_n 3, 1) := by decide +kernel
theorem dX5_set_58 : decode cX5_set 58 = .ok (.ireturn, 1) := by decide +kernel
theorem dX5_box_0 : decode cX5_box 0 = .ok (.iload_n 1, 1) := by decide +kernel
theorem dX5_box_1 : decode cX5_box 1 = .ok (.ifCond .ge 6, 3) := by decide +kernel
theorem dX5_box_4 : decode cX5_box 4 = .ok (.bipush (-2), 2) := by decide +kernel
theorem dX5_box_6 : decode cX5_box 6 = .ok (.ireturn, 1) := by decide +kernel
theorem dX5_box_7 : decode cX5_box 7 = .ok (.iload_n 1, 1) := by decide +kernel
theorem dX5_box_8 : decode cX5_box 8 = .ok (.aload_n 0, 1) := by decide +kernel
theorem dX5_box_9 : decode cX5_box 9 = .ok (.getfield 10, 3) := by decide +kernel
theorem dX5_box_12 : decode cX5_box 12 = .ok (.getfield 118, 3) := by decide +kernel
theorem dX5_box_15 : decode cX5_box 15 = .ok (.if_icmp .ge 18, 3) := by decide +kernel
theorem dX5_box_18 : decode cX5_box 18 = .ok (.aload_n 0, 1) := by decide +kernel
theorem dX5_box_19 : decode cX5_box 19 = .ok (.getfield 10, 3) := by decide +kernel
theorem dX5_box_22 : decode cX5_box 22 = .ok (.getfield 72, 3) := by decide +kernel
theorem dX5_box_25 : decode cX5_box 25 = .ok (.iload_n 1, 1) := by decide +kernel
theorem dX5_box_26 : decode cX5_box 26 = .ok (.aaload, 1) := by decide +kernel
theorem dX5_box_27 : decode cX5_box 27 = .ok (.getfield 156, 3) := by decide +kernel
theorem dX5_box_30 : decode cX5_box 30 = .ok (.goto 5, 3) := by decide +kernel
theorem dX5_box_33 : decode cX5_box 33 = .ok (.bipush (-5), 2) := by decide +kernel
theorem dX5_box_35 : decode cX5_box 35 = .ok (.ireturn, 1) := by decide +kernel
set_option maxRecDepth 20000 in
theorem ggX5_end_X3_slotOf : GoodIn wsX5_end wsX3_slotOf := goodIn_r _ [9, 10, 11, 12, 26, 27, 28, 29, 30, 31, 32, 33] (by decide +kernel) (by decide +kernel)
set_option maxRecDepth 20000 in
theorem gX5_end_X3_slotOf : GoodIn wsX5_end (wsV RX5 68 RX3 yX3_slotOf wsX3_slotOf) := goodIn_app (goodIn_of _ (by decide +kernel)) ggX5_end_X3_slotOf
set_option maxRecDepth 20000 in
theorem ggX5_end_X5_isDirection : GoodIn wsX5_end wsX5_isDirection := goodIn_r _ [16] (by decide +kernel) (by decide +kernel)
set_option maxRecDepth 20000 in
theorem gX5_end_X5_isDirection : GoodIn wsX5_end (va_wsS RX5 84 yX5_isDirection wsX5_isDirection) := goodIn_app (goodIn_of _ (by decide +kernel)) ggX5_end_X5_isDirection
theorem dX5_end_0 : decode cX5_end 0 = .ok (.aload_n 0, 1) := by decide +kernel
theorem dX5_end_1 : decode cX5_end 1 = .ok (.getfield 10, 3) := by decide +kernel
theorem dX5_end_4 : decode cX5_end 4 = .ok (.iload_n 1, 1) := by decide +kernel
theorem dX5_end_5 : decode cX5_end 5 = .ok (.invokevirtual 68, 3) := by decide +kernel
theorem dX5_end_8 : decode cX5_end 8 = .ok (.istore 4, 2) := by decide +kernel
theorem dX5_end_10 : decode cX5_end 10 = .ok (.iload 4, 2) := by decide +kernel
theorem dX5_end_12 : decode cX5_end 12 = .ok (.iconst (-1), 1) := by decide +kernel
theorem dX5_end_13 : decode cX5_end 13 = .ok (.if_icmp .eq 10, 3) := by decide +kernel
theorem dX5_end_16 : decode cX5_end 16 = .ok (.iload_n 2, 1) := by decide +kernel
theorem dX5_end_17 : decode cX5_end 17 = .ok (.invokestatic 84, 3) := by decide +kernel
theorem dX5_end_20 : decode cX5_end 20 = .ok (.ifCond .ne 5, 3) := by decide +kernel
theorem dX5_end_23 : decode cX5_end 23 = .ok (.iconst (-1), 1) := by decide +kernel
theorem dX5_end_24 : decode cX5_end 24 = .ok (.ireturn, 1) := by decide +kernel
theorem dX5_end_25 : decode cX5_end 25 = .ok (.aload_n 0, 1) := by decide +kernel
theorem dX5_end_26 : decode cX5_end 26 = .ok (.getfield 10, 3) := by decide +kernel
theorem dX5_end_29 : decode cX5_end 29 = .ok (.getfield 72, 3) := by decide +kernel
theorem dX5_end_32 : decode cX5_end 32 = .ok (.iload 4, 2) := by decide +kernel
theorem dX5_end_34 : decode cX5_end 34 = .ok (.aaload, 1) := by decide +kernel
theorem dX5_end_35 : decode cX5_end 35 = .ok (.astore 5, 2) := by decide +kernel
theorem dX5_end_37 : decode cX5_end 37 = .ok (.iload_n 3, 1) := by decide +kernel
theorem dX5_end_38 : decode cX5_end 38 = .ok (.ifCond .eq 13, 3) := by decide +kernel
theorem dX5_end_41 : decode cX5_end 41 = .ok (.aload 5, 2) := by decide +kernel
theorem dX5_end_43 : decode cX5_end 43 = .ok (.getfield 92, 3) := by decide +kernel
theorem dX5_end_46 : decode cX5_end 46 = .ok (.iload_n 2, 1) := by decide +kernel
theorem dX5_end_47 : decode cX5_end 47 = .ok (.iaload, 1) := by decide +kernel
theorem dX5_end_48 : decode cX5_end 48 = .ok (.goto 10, 3) := by decide +kernel
theorem dX5_end_51 : decode cX5_end 51 = .ok (.aload 5, 2) := by decide +kernel
theorem dX5_end_53 : decode cX5_end 53 = .ok (.getfield 88, 3) := by decide +kernel
theorem dX5_end_56 : decode cX5_end 56 = .ok (.iload_n 2, 1) := by decide +kernel
theorem dX5_end_57 : decode cX5_end 57 = .ok (.iaload, 1) := by decide +kernel
theorem dX5_end_58 : decode cX5_end 58 = .ok (.ireturn, 1) := by decide +kernel
set_option maxRecDepth 20000 in
theorem ggX5_ofBox_X3_slotOf : GoodIn wsX5_ofBox wsX3_slotOf := goodIn_r _ [9, 10, 11, 12, 163, 164, 165, 166, 167, 175, 176, 177] (by decide +kernel) (by decide +kernel)
set_option maxRecDepth 20000 in
theorem gX5_ofBox_X3_slotOf : GoodIn wsX5_ofBox (wsV RX5 68 RX3 yX3_slotOf wsX3_slotOf) := goodIn_app (goodIn_of _ (by decide +kernel)) ggX5_ofBox_X3_slotOf
set_option maxRecDepth 20000 in
theorem ggX5_ofBox_X0_volume : GoodIn wsX5_ofBox wsX0_volume := goodIn_r _ [17, 18, 19, 20, 16, 21, 22, 23, 175, 176, 177] (by decide +kernel) (by decide +kernel)
set_option maxRecDepth 20000 in
theorem gX5_ofBox_X0_volume : GoodIn wsX5_ofBox (wsV RX5 76 RX0 yX0_volume wsX0_volume) := goodIn_app (goodIn_of _ (by decide +kernel)) ggX5_ofBox_X0_volume
set_option maxRecDepth 20000 in
theorem ggX5_ofBox_X5_look : GoodIn wsX5_ofBox wsX5_look := goodIn_r _ [28, 29, 1, 30, 31, 32, 33, 34, 35, 36, 37, 38, 39, 40, 41, 42, 43, 44, 16, 45, 23, 22, 46, 47, 48, 49, 50, 51, 52, 53, 54, 55, 56, 57, 58, 59, 60, 61, 62, 63, 64, 65, 66, 67, 68, 69, 70, 71, 72, 73, 74, 75, 76, 77, 78, 79, 80, 81, 82, 83, 84, 8, 85, 86, 11, 87, 88, 89, 90, 91, 14, 15, 17, 18, 19, 20, 21, 92, 93, 94, 95, 96, 97, 98, 99, 154, 155, 156, 157, 158, 159, 160, 161, 162, 163, 164, 165, 166, 167, 168, 169, 170, 171, 172, 173, 174, 175, 176, 177] (by decide +kernel) (by decide +kernel)
set_option maxRecDepth 20000 in
theorem gX5_ofBox_X5_look : GoodIn wsX5_ofBox (wsV RX5 159 RX5 yX5_look wsX5_look) := goodIn_app (goodIn_of _ (by decide +kernel)) ggX5_ofBox_X5_look
set_option maxRecDepth 20000 in
theorem ggX5_ofBox_X2_hiddenBy : GoodIn wsX5_ofBox wsX2_hiddenBy := goodIn_r _ [103, 37, 104, 105, 106, 107, 108, 109, 110, 168, 169, 170, 171, 172, 173, 174] (by decide +kernel) (by decide +kernel)
set_option maxRecDepth 20000 in
theorem gX5_ofBox_X2_hiddenBy : GoodIn wsX5_ofBox (wsV RX5 162 RX2 yX2_hiddenBy wsX2_hiddenBy) := goodIn_app (goodIn_of _ (by decide +kernel)) ggX5_ofBox_X2_hiddenBy
set_option maxRecDepth 20000 in
theorem ggX5_ofBox_X2_hidersOf : GoodIn wsX5_ofBox wsX2_hidersOf := goodIn_r _ [114, 36, 37, 63, 64, 33, 65, 168, 169, 170, 171, 172, 173, 174] (by decide +kernel) (by decide +kernel)
set_option maxRecDepth 20000 in
theorem gX5_ofBox_X2_hidersOf : GoodIn wsX5_ofBox (wsV RX5 165 RX2 yX2_hidersOf wsX2_hidersOf) := goodIn_app (goodIn_of _ (by decide +kernel)) ggX5_ofBox_X2_hidersOf
set_option maxRecDepth 20000 in
theorem ggX5_ofBox_X2_shortestRingOf : GoodIn wsX5_ofBox wsX2_shortestRingOf := goodIn_r _ [118, 37, 36, 63, 64, 33, 65, 119, 120, 121, 122, 168, 169, 170, 171, 172, 173, 174] (by decide +kernel) (by decide +kernel)
set_option maxRecDepth 20000 in
theorem gX5_ofBox_X2_shortestRingOf : GoodIn wsX5_ofBox (wsV RX5 171 RX2 yX2_shortestRingOf wsX2_shortestRingOf) := goodIn_app (goodIn_of _ (by decide +kernel)) ggX5_ofBox_X2_shortestRingOf
set_option maxRecDepth 20000 in
theorem ggX5_ofBox_X3_supportsOf : GoodIn wsX5_ofBox wsX3_supportsOf := goodIn_r _ [126, 11, 10, 127, 128, 129, 130, 131, 16, 132, 22, 23, 133, 134, 135, 136, 163, 164, 165, 166, 167, 175, 176, 177] (by decide +kernel) (by decide +kernel)
set_option maxRecDepth 20000 in
theorem gX5_ofBox_X3_supportsOf : GoodIn wsX5_ofBox (wsV RX5 174 RX3 yX3_supportsOf wsX3_supportsOf) := goodIn_app (goodIn_of _ (by decide +kernel)) ggX5_ofBox_X3_supportsOf
set_option maxRecDepth 20000 in
theorem ggX5_ofBox_X3_boxesBelow : GoodIn wsX5_ofBox wsX3_boxesBelow := goodIn_r _ [140, 10, 11, 129, 130, 131, 16, 132, 22, 23, 133, 134, 135, 136, 163, 164, 165, 166, 167, 175, 176, 177] (by decide +kernel) (by decide +kernel)
set_option maxRecDepth 20000 in
theorem gX5_ofBox_X3_boxesBelow : GoodIn wsX5_ofBox (wsV RX5 177 RX3 yX3_boxesBelow wsX3_boxesBelow) := goodIn_app (goodIn_of _ (by decide +kernel)) ggX5_ofBox_X3_boxesBelow
set_option maxRecDepth 20000 in
theorem ggX5_ofBox_X3_shadowOn : GoodIn wsX5_ofBox wsX3_shadowOn := goodIn_r _ [144, 11, 128, 127, 10, 129, 130, 131, 16, 132, 22, 23, 133, 134, 135, 136, 145, 146, 147, 148, 149, 150, 151, 152, 18, 19, 20, 21, 153, 105, 106, 107, 108, 109, 110, 163, 164, 165, 166, 167, 175, 176, 177] (by decide +kernel) (by decide +kernel)
set_option maxRecDepth 20000 in
theorem gX5_ofBox_X3_shadowOn : GoodIn wsX5_ofBox (wsV RX5 180 RX3 yX3_shadowOn wsX3_shadowOn) := goodIn_app (goodIn_of _ (by decide +kernel)) ggX5_ofBox_X3_shadowOn
theorem dX5_ofBox_0 : decode cX5_ofBox 0 = .ok (.aload_n 0, 1) := by decide +kernel
theorem dX5_ofBox_1 : decode cX5_ofBox 1 = .ok (.getfield 10, 3) := by decide +kernel
theorem dX5_ofBox_4 : decode cX5_ofBox 4 = .ok (.iload_n 1, 1) := by decide +kernel
theorem dX5_ofBox_5 : decode cX5_ofBox 5 = .ok (.invokevirtual 68, 3) := by decide +kernel
theorem dX5_ofBox_8 : decode cX5_ofBox 8 = .ok (.istore_n 3, 1) := by decide +kernel
theorem dX5_ofBox_9 : decode cX5_ofBox 9 = .ok (.iload_n 3, 1) := by decide +kernel
theorem dX5_ofBox_10 : decode cX5_ofBox 10 = .ok (.iconst (-1), 1) := by decide +kernel
theorem dX5_ofBox_11 : decode cX5_ofBox 11 = .ok (.if_icmp .ne 5, 3) := by decide +kernel
theorem dX5_ofBox_14 : decode cX5_ofBox 14 = .ok (.iconst (-1), 1) := by decide +kernel
theorem dX5_ofBox_15 : decode cX5_ofBox 15 = .ok (.ireturn, 1) := by decide +kernel
theorem dX5_ofBox_16 : decode cX5_ofBox 16 = .ok (.iload_n 2, 1) := by decide +kernel
theorem dX5_ofBox_17 : decode cX5_ofBox 17 = .ok (.tableswitch 162 0 8 #[51, 64, 73, 82, 92, 101, 110, 119, 128], 51) := by decide +kernel
theorem dX5_ofBox_68 : decode cX5_ofBox 68 = .ok (.aload_n 0, 1) := by decide +kernel
theorem dX5_ofBox_69 : decode cX5_ofBox 69 = .ok (.getfield 10, 3) := by decide +kernel
theorem dX5_ofBox_72 : decode cX5_ofBox 72 = .ok (.getfield 72, 3) := by decide +kernel
theorem dX5_ofBox_75 : decode cX5_ofBox 75 = .ok (.iload_n 3, 1) := by decide +kernel
theorem dX5_ofBox_76 : decode cX5_ofBox 76 = .ok (.aaload, 1) := by decide +kernel
theorem dX5_ofBox_77 : decode cX5_ofBox 77 = .ok (.invokevirtual 76, 3) := by decide +kernel
theorem dX5_ofBox_80 : decode cX5_ofBox 80 = .ok (.ireturn, 1) := by decide +kernel
theorem dX5_ofBox_81 : decode cX5_ofBox 81 = .ok (.aload_n 0, 1) := by decide +kernel
theorem dX5_ofBox_82 : decode cX5_ofBox 82 = .ok (.invokevirtual 159, 3) := by decide +kernel
theorem dX5_ofBox_85 : decode cX5_ofBox 85 = .ok (.iload_n 3, 1) := by decide +kernel
theorem dX5_ofBox_86 : decode cX5_ofBox 86 = .ok (.invokevirtual 162, 3) := by decide +kernel
theorem dX5_ofBox_89 : decode cX5_ofBox 89 = .ok (.ireturn, 1) := by decide +kernel
theorem dX5_ofBox_90 : decode cX5_ofBox 90 = .ok (.aload_n 0, 1) := by decide +kernel
theorem dX5_ofBox_91 : decode cX5_ofBox 91 = .ok (.invokevirtual 159, 3) := by decide +kernel
theorem dX5_ofBox_94 : decode cX5_ofBox 94 = .ok (.iload_n 3, 1) := by decide +kernel
theorem dX5_ofBox_95 : decode cX5_ofBox 95 = .ok (.invokevirtual 165, 3) := by decide +kernel
theorem dX5_ofBox_98 : decode cX5_ofBox 98 = .ok (.ireturn, 1) := by decide +kernel
theorem dX5_ofBox_99 : decode cX5_ofBox 99 = .ok (.aload_n 0, 1) := by decide +kernel
theorem dX5_ofBox_100 : decode cX5_ofBox 100 = .ok (.invokevirtual 159, 3) := by decide +kernel
theorem dX5_ofBox_103 : decode cX5_ofBox 103 = .ok (.getfield 168, 3) := by decide +kernel
theorem dX5_ofBox_106 : decode cX5_ofBox 106 = .ok (.iload_n 3, 1) := by decide +kernel
theorem dX5_ofBox_107 : decode cX5_ofBox 107 = .ok (.iaload, 1) := by decide +kernel
theorem dX5_ofBox_108 : decode cX5_ofBox 108 = .ok (.ireturn, 1) := by decide +kernel
theorem dX5_ofBox_109 : decode cX5_ofBox 109 = .ok (.aload_n 0, 1) := by decide +kernel
theorem dX5_ofBox_110 : decode cX5_ofBox 110 = .ok (.invokevirtual 159, 3) := by decide +kernel
theorem dX5_ofBox_113 : decode cX5_ofBox 113 = .ok (.iload_n 3, 1) := by decide +kernel
theorem dX5_ofBox_114 : decode cX5_ofBox 114 = .ok (.invokevirtual 171, 3) := by decide +kernel
theorem dX5_ofBox_117 : decode cX5_ofBox 117 = .ok (.ireturn, 1) := by decide +kernel
theorem dX5_ofBox_118 : decode cX5_ofBox 118 = .ok (.aload_n 0, 1) := by decide +kernel
theorem dX5_ofBox_119 : decode cX5_ofBox 119 = .ok (.getfield 10, 3) := by decide +kernel
theorem dX5_ofBox_122 : decode cX5_ofBox 122 = .ok (.iload_n 3, 1) := by decide +kernel
theorem dX5_ofBox_123 : decode cX5_ofBox 123 = .ok (.invokevirtual 174, 3) := by decide +kernel
theorem dX5_ofBox_126 : decode cX5_ofBox 126 = .ok (.ireturn, 1) := by decide +kernel
theorem dX5_ofBox_127 : decode cX5_ofBox 127 = .ok (.aload_n 0, 1) := by decide +kernel
theorem dX5_ofBox_128 : decode cX5_ofBox 128 = .ok (.getfield 10, 3) := by decide +kernel
theorem dX5_ofBox_131 : decode cX5_ofBox 131 = .ok (.iload_n 3, 1) := by decide +kernel
theorem dX5_ofBox_132 : decode cX5_ofBox 132 = .ok (.invokevirtual 177, 3) := by decide +kernel
theorem dX5_ofBox_135 : decode cX5_ofBox 135 = .ok (.ireturn, 1) := by decide +kernel
theorem dX5_ofBox_136 : decode cX5_ofBox 136 = .ok (.aload_n 0, 1) := by decide +kernel
theorem dX5_ofBox_137 : decode cX5_ofBox 137 = .ok (.getfield 10, 3) := by decide +kernel
theorem dX5_ofBox_140 : decode cX5_ofBox 140 = .ok (.iload_n 3, 1) := by decide +kernel
theorem dX5_ofBox_141 : decode cX5_ofBox 141 = .ok (.invokevirtual 180, 3) := by decide +kernel
theorem dX5_ofBox_144 : decode cX5_ofBox 144 = .ok (.ireturn, 1) := by decide +kernel
theorem dX5_ofBox_145 : decode cX5_ofBox 145 = .ok (.aload_n 0, 1) := by decide +kernel
theorem dX5_ofBox_146 : decode cX5_ofBox 146 = .ok (.getfield 10, 3) := by decide +kernel
theorem dX5_ofBox_149 : decode cX5_ofBox 149 = .ok (.getfield 72, 3) := by decide +kernel
theorem dX5_ofBox_152 : decode cX5_ofBox 152 = .ok (.iload_n 3, 1) := by decide +kernel
theorem dX5_ofBox_153 : decode cX5_ofBox 153 = .ok (.aaload, 1) := by decide +kernel
theorem dX5_ofBox_154 : decode cX5_ofBox 154 = .ok (.getfield 88, 3) := by decide +kernel
theorem dX5_ofBox_157 : decode cX5_ofBox 157 = .ok (.iconst 2, 1) := by decide +kernel
theorem dX5_ofBox_158 : decode cX5_ofBox 158 = .ok (.iaload, 1) := by decide +kernel
theorem dX5_ofBox_159 : decode cX5_ofBox 159 = .ok (.ifCond .eq 14, 3) := by decide +kernel
theorem dX5_ofBox_162 : decode cX5_ofBox 162 = .ok (.aload_n 0, 1) := by decide +kernel
theorem dX5_ofBox_163 : decode cX5_ofBox 163 = .ok (.getfield 10, 3) := by decide +kernel
theorem dX5_ofBox_166 : decode cX5_ofBox 166 = .ok (.iload_n 3, 1) := by decide +kernel
theorem dX5_ofBox_167 : decode cX5_ofBox 167 = .ok (.invokevirtual 174, 3) := by decide +kernel
theorem dX5_ofBox_170 : decode cX5_ofBox 170 = .ok (.ifCond .le 7, 3) := by decide +kernel
theorem dX5_ofBox_173 : decode cX5_ofBox 173 = .ok (.iconst 1, 1) := by decide +kernel
theorem dX5_ofBox_174 : decode cX5_ofBox 174 = .ok (.goto 4, 3) := by decide +kernel
theorem dX5_ofBox_177 : decode cX5_ofBox 177 = .ok (.iconst 0, 1) := by decide +kernel
theorem dX5_ofBox_178 : decode cX5_ofBox 178 = .ok (.ireturn, 1) := by decide +kernel
theorem dX5_ofBox_179 : decode cX5_ofBox 179 = .ok (.bipush (-2), 2) := by decide +kernel
theorem dX5_ofBox_181 : decode cX5_ofBox 181 = .ok (.ireturn, 1) := by decide +kernel
set_option maxRecDepth 20000 in
theorem ggX5_pair_X3_slotOf : GoodIn wsX5_pair wsX3_slotOf := goodIn_r _ [7, 8, 9, 10, 35, 36, 37, 38, 39, 40, 41, 42] (by decide +kernel) (by decide +kernel)
set_option maxRecDepth 20000 in
theorem gX5_pair_X3_slotOf : GoodIn wsX5_pair (wsV RX5 68 RX3 yX3_slotOf wsX3_slotOf) := goodIn_app (goodIn_of _ (by decide +kernel)) ggX5_pair_X3_slotOf
set_option maxRecDepth 20000 in
theorem ggX5_pair_X0_directionOfHiding : GoodIn wsX5_pair wsX0_directionOfHiding := goodIn_r _ [15, 16, 17, 18, 19, 20, 14, 21, 22, 23, 24, 25, 40, 41, 42] (by decide +kernel) (by decide +kernel)
set_option maxRecDepth 20000 in
theorem gX5_pair_X0_directionOfHiding : GoodIn wsX5_pair (wsV RX5 183 RX0 yX0_directionOfHiding wsX0_directionOfHiding) := goodIn_app (goodIn_of _ (by decide +kernel)) ggX5_pair_X0_directionOfHiding
theorem dX5_pair_0 : decode cX5_pair 0 = .ok (.aload_n 0, 1) := by decide +kernel
theorem dX5_pair_1 : decode cX5_pair 1 = .ok (.getfield 10, 3) := by decide +kernel
theorem dX5_pair_4 : decode cX5_pair 4 = .ok (.iload_n 1, 1) := by decide +kernel
theorem dX5_pair_5 : decode cX5_pair 5 = .ok (.invokevirtual 68, 3) := by decide +kernel
theorem dX5_pair_8 : decode cX5_pair 8 = .ok (.istore_n 3, 1) := by decide +kernel
theorem dX5_pair_9 : decode cX5_pair 9 = .ok (.aload_n 0, 1) := by decide +kernel
theorem dX5_pair_10 : decode cX5_pair 10 = .ok (.getfield 10, 3) := by decide +kernel
theorem dX5_pair_13 : decode cX5_pair 13 = .ok (.iload_n 2, 1) := by decide +kernel
theorem dX5_pair_14 : decode cX5_pair 14 = .ok (.invokevirtual 68, 3) := by decide +kernel
theorem dX5_pair_17 : decode cX5_pair 17 = .ok (.istore 4, 2) := by decide +kernel
theorem dX5_pair_19 : decode cX5_pair 19 = .ok (.iload_n 3, 1) := by decide +kernel
theorem dX5_pair_20 : decode cX5_pair 20 = .ok (.iconst (-1), 1) := by decide +kernel
theorem dX5_pair_21 : decode cX5_pair 21 = .ok (.if_icmp .eq 9, 3) := by decide +kernel
theorem dX5_pair_24 : decode cX5_pair 24 = .ok (.iload 4, 2) := by decide +kernel
theorem dX5_pair_26 : decode cX5_pair 26 = .ok (.iconst (-1), 1) := by decide +kernel
theorem dX5_pair_27 : decode cX5_pair 27 = .ok (.if_icmp .ne 5, 3) := by decide +kernel
theorem dX5_pair_30 : decode cX5_pair 30 = .ok (.iconst (-1), 1) := by decide +kernel
theorem dX5_pair_31 : decode cX5_pair 31 = .ok (.ireturn, 1) := by decide +kernel
theorem dX5_pair_32 : decode cX5_pair 32 = .ok (.iload_n 3, 1) := by decide +kernel
theorem dX5_pair_33 : decode cX5_pair 33 = .ok (.iload 4, 2) := by decide +kernel
theorem dX5_pair_35 : decode cX5_pair 35 = .ok (.if_icmp .ne 6, 3) := by decide +kernel
theorem dX5_pair_38 : decode cX5_pair 38 = .ok (.bipush (-2), 2) := by decide +kernel
theorem dX5_pair_40 : decode cX5_pair 40 = .ok (.ireturn, 1) := by decide +kernel
theorem dX5_pair_41 : decode cX5_pair 41 = .ok (.aload_n 0, 1) := by decide +kernel
theorem dX5_pair_42 : decode cX5_pair 42 = .ok (.getfield 10, 3) := by decide +kernel
theorem dX5_pair_45 : decode cX5_pair 45 = .ok (.getfield 72, 3) := by decide +kernel
theorem dX5_pair_48 : decode cX5_pair 48 = .ok (.iload_n 3, 1) := by decide +kernel
theorem dX5_pair_49 : decode cX5_pair 49 = .ok (.aaload, 1) := by decide +kernel
theorem dX5_pair_50 : decode cX5_pair 50 = .ok (.aload_n 0, 1) := by decide +kernel
theorem dX5_pair_51 : decode cX5_pair 51 = .ok (.getfield 10, 3) := by decide +kernel
theorem dX5_pair_54 : decode cX5_pair 54 = .ok (.getfield 72, 3) := by decide +kernel
theorem dX5_pair_57 : decode cX5_pair 57 = .ok (.iload 4, 2) := by decide +kernel
theorem dX5_pair_59 : decode cX5_pair 59 = .ok (.aaload, 1) := by decide +kernel
theorem dX5_pair_60 : decode cX5_pair 60 = .ok (.invokevirtual 183, 3) := by decide +kernel
theorem dX5_pair_63 : decode cX5_pair 63 = .ok (.istore 5, 2) := by decide +kernel
theorem dX5_pair_65 : decode cX5_pair 65 = .ok (.iload 5, 2) := by decide +kernel
theorem dX5_pair_67 : decode cX5_pair 67 = .ok (.iconst (-1), 1) := by decide +kernel
theorem dX5_pair_68 : decode cX5_pair 68 = .ok (.if_icmp .eq 8, 3) := by decide +kernel
theorem dX5_pair_71 : decode cX5_pair 71 = .ok (.iconst 1, 1) := by decide +kernel
theorem dX5_pair_72 : decode cX5_pair 72 = .ok (.iload 5, 2) := by decide +kernel
theorem dX5_pair_74 : decode cX5_pair 74 = .ok (.iadd, 1) := by decide +kernel
theorem dX5_pair_75 : decode cX5_pair 75 = .ok (.ireturn, 1) := by decide +kernel
theorem dX5_pair_76 : decode cX5_pair 76 = .ok (.aload_n 0, 1) := by decide +kernel
theorem dX5_pair_77 : decode cX5_pair 77 = .ok (.getfield 10, 3) := by decide +kernel
theorem dX5_pair_80 : decode cX5_pair 80 = .ok (.getfield 72, 3) := by decide +kernel
theorem dX5_pair_83 : decode cX5_pair 83 = .ok (.iload 4, 2) := by decide +kernel
theorem dX5_pair_85 : decode cX5_pair 85 = .ok (.aaload, 1) := by decide +kernel
theorem dX5_pair_86 : decode cX5_pair 86 = .ok (.aload_n 0, 1) := by decide +kernel
theorem dX5_pair_87 : decode cX5_pair 87 = .ok (.getfield 10, 3) := by decide +kernel
theorem dX5_pair_90 : decode cX5_pair 90 = .ok (.getfield 72, 3) := by decide +kernel
theorem dX5_pair_93 : decode cX5_pair 93 = .ok (.iload_n 3, 1) := by decide +kernel
theorem dX5_pair_94 : decode cX5_pair 94 = .ok (.aaload, 1) := by decide +kernel
theorem dX5_pair_95 : decode cX5_pair 95 = .ok (.invokevirtual 183, 3) := by decide +kernel
theorem dX5_pair_98 : decode cX5_pair 98 = .ok (.istore 6, 2) := by decide +kernel
theorem dX5_pair_100 : decode cX5_pair 100 = .ok (.iload 6, 2) := by decide +kernel
theorem dX5_pair_102 : decode cX5_pair 102 = .ok (.iconst (-1), 1) := by decide +kernel
theorem dX5_pair_103 : decode cX5_pair 103 = .ok (.if_icmp .eq 10, 3) := by decide +kernel
theorem dX5_pair_106 : decode cX5_pair 106 = .ok (.iconst 4, 1) := by decide +kernel
theorem dX5_pair_107 : decode cX5_pair 107 = .ok (.iload 6, 2) := by decide +kernel
theorem dX5_pair_109 : decode cX5_pair 109 = .ok (.iadd, 1) := by decide +kernel
theorem dX5_pair_110 : decode cX5_pair 110 = .ok (.goto 4, 3) := by decide +kernel
theorem dX5_pair_113 : decode cX5_pair 113 = .ok (.iconst 0, 1) := by decide +kernel
theorem dX5_pair_114 : decode cX5_pair 114 = .ok (.ireturn, 1) := by decide +kernel
set_option maxRecDepth 20000 in
theorem ggX5_drawn_X5_look : GoodIn wsX5_drawn wsX5_look := goodIn_r _ [8, 9, 1, 10, 11, 12, 13, 14, 15, 16, 17, 18, 19, 20, 21, 22, 23, 24, 25, 26, 27, 28, 29, 30, 31, 32, 33, 34, 35, 36, 37, 38, 39, 40, 41, 42, 43, 44, 45, 46, 47, 48, 49, 50, 51, 52, 53, 54, 55, 56, 57, 58, 59, 60, 61, 62, 63, 64, 65, 66, 67, 68, 69, 70, 71, 72, 73, 74, 75, 76, 77, 78, 79, 80, 81, 82, 83, 84, 85, 86, 87, 88, 89, 90, 91, 96, 97, 98, 99, 100, 101, 102, 103, 104, 105, 106, 107, 108, 109, 113, 114, 115, 116, 117, 118, 119, 110, 111, 112] (by decide +kernel) (by decide +kernel)
set_option maxRecDepth 20000 in
theorem gX5_drawn_X5_look : GoodIn wsX5_drawn (wsV RX5 159 RX5 yX5_look wsX5_look) := goodIn_app (goodIn_of _ (by decide +kernel)) ggX5_drawn_X5_look
set_option maxRecDepth 20000 in
theorem ggX5_drawn_X2_slotDrawn : GoodIn wsX5_drawn wsX2_slotDrawn := goodIn_r _ [95, 55, 56, 113, 114, 115, 116, 117, 118, 119] (by decide +kernel) (by decide +kernel)
set_option maxRecDepth 20000 in
theorem gX5_drawn_X2_slotDrawn : GoodIn wsX5_drawn (wsV RX5 187 RX2 yX2_slotDrawn wsX2_slotDrawn) := goodIn_app (goodIn_of _ (by decide +kernel)) ggX5_drawn_X2_slotDrawn
theorem dX5_drawn_0 : decode cX5_drawn 0 = .ok (.iload_n 1, 1) := by decide +kernel
theorem dX5_drawn_1 : decode cX5_drawn 1 = .ok (.ifCond .ge 6, 3) := by decide +kernel
theorem dX5_drawn_4 : decode cX5_drawn 4 = .ok (.bipush (-2), 2) := by decide +kernel
theorem dX5_drawn_6 : decode cX5_drawn 6 = .ok (.ireturn, 1) := by decide +kernel
theorem dX5_drawn_7 : decode cX5_drawn 7 = .ok (.aload_n 0, 1) := by decide +kernel
theorem dX5_drawn_8 : decode cX5_drawn 8 = .ok (.invokevirtual 159, 3) := by decide +kernel
theorem dX5_drawn_11 : decode cX5_drawn 11 = .ok (.iload_n 1, 1) := by decide +kernel
theorem dX5_drawn_12 : decode cX5_drawn 12 = .ok (.invokevirtual 187, 3) := by decide +kernel
theorem dX5_drawn_15 : decode cX5_drawn 15 = .ok (.istore_n 2, 1) := by decide +kernel
theorem dX5_drawn_16 : decode cX5_drawn 16 = .ok (.iload_n 2, 1) := by decide +kernel
theorem dX5_drawn_17 : decode cX5_drawn 17 = .ok (.iconst (-1), 1) := by decide +kernel
theorem dX5_drawn_18 : decode cX5_drawn 18 = .ok (.if_icmp .ne 8, 3) := by decide +kernel
theorem dX5_drawn_21 : decode cX5_drawn 21 = .ok (.bipush (-5), 2) := by decide +kernel
theorem dX5_drawn_23 : decode cX5_drawn 23 = .ok (.goto 15, 3) := by decide +kernel
theorem dX5_drawn_26 : decode cX5_drawn 26 = .ok (.aload_n 0, 1) := by decide +kernel
theorem dX5_drawn_27 : decode cX5_drawn 27 = .ok (.getfield 10, 3) := by decide +kernel
theorem dX5_drawn_30 : decode cX5_drawn 30 = .ok (.getfield 72, 3) := by decide +kernel
theorem dX5_drawn_33 : decode cX5_drawn 33 = .ok (.iload_n 2, 1) := by decide +kernel
theorem dX5_drawn_34 : decode cX5_drawn 34 = .ok (.aaload, 1) := by decide +kernel
theorem dX5_drawn_35 : decode cX5_drawn 35 = .ok (.getfield 156, 3) := by decide +kernel
theorem dX5_drawn_38 : decode cX5_drawn 38 = .ok (.ireturn, 1) := by decide +kernel
set_option maxRecDepth 20000 in
theorem ggX5_total_X5_look : GoodIn wsX5_total wsX5_look := goodIn_r _ [15, 16, 1, 17, 18, 19, 20, 21, 22, 23, 24, 25, 26, 27, 28, 29, 30, 31, 32, 33, 34, 35, 36, 37, 38, 39, 40, 41, 42, 43, 44, 45, 46, 47, 48, 49, 50, 51, 52, 53, 54, 55, 56, 57, 58, 59, 60, 61, 62, 63, 64, 65, 66, 67, 68, 69, 70, 71, 72, 73, 74, 75, 76, 77, 78, 79, 80, 81, 82, 83, 84, 85, 86, 87, 88, 89, 90, 91, 92, 93, 94, 95, 96, 97, 98, 170, 171, 172, 173, 174, 175, 176, 177, 178, 179, 180, 181, 182, 183, 184, 185, 186, 187, 188, 189, 190, 197, 198, 199] (by decide +kernel) (by decide +kernel)
set_option maxRecDepth 20000 in
theorem gX5_total_X5_look : GoodIn wsX5_total (wsV RX5 159 RX5 yX5_look wsX5_look) := goodIn_app (goodIn_of _ (by decide +kernel)) ggX5_total_X5_look
set_option maxRecDepth 20000 in
theorem ggX5_total_X2_hidings : GoodIn wsX5_total wsX2_hidings := goodIn_r _ [102, 23, 103, 104, 105, 20, 106, 24, 107, 108, 109, 110, 111, 112, 113, 184, 185, 186, 187, 188, 189, 190] (by decide +kernel) (by decide +kernel)
set_option maxRecDepth 20000 in
theorem gX5_total_X2_hidings : GoodIn wsX5_total (wsV RX5 193 RX2 yX2_hidings wsX2_hidings) := goodIn_app (goodIn_of _ (by decide +kernel)) ggX5_total_X2_hidings
set_option maxRecDepth 20000 in
theorem ggX5_total_X2_boxesInRings : GoodIn wsX5_total wsX2_boxesInRings := goodIn_r _ [117, 23, 118, 119, 120, 20, 121, 48, 53, 54, 55, 184, 185, 186, 187, 188, 189, 190] (by decide +kernel) (by decide +kernel)
set_option maxRecDepth 20000 in
theorem gX5_total_X2_boxesInRings : GoodIn wsX5_total (wsV RX5 199 RX2 yX2_boxesInRings wsX2_boxesInRings) := goodIn_app (goodIn_of _ (by decide +kernel)) ggX5_total_X2_boxesInRings
set_option maxRecDepth 20000 in
theorem ggX5_total_X2_shortestRing : GoodIn wsX5_total wsX2_shortestRing := goodIn_r _ [125, 23, 126, 127, 128, 20, 129, 24, 53, 54, 55, 130, 131, 132, 133, 184, 185, 186, 187, 188, 189, 190] (by decide +kernel) (by decide +kernel)
set_option maxRecDepth 20000 in
theorem gX5_total_X2_shortestRing : GoodIn wsX5_total (wsV RX5 202 RX2 yX2_shortestRing wsX2_shortestRing) := goodIn_app (goodIn_of _ (by decide +kernel)) ggX5_total_X2_shortestRing
set_option maxRecDepth 20000 in
theorem ggX5_total_X2_greatestLayer : GoodIn wsX5_total wsX2_greatestLayer := goodIn_r _ [137, 23, 60, 95, 96, 97, 98, 184, 185, 186, 187, 188, 189, 190] (by decide +kernel) (by decide +kernel)
set_option maxRecDepth 20000 in
theorem gX5_total_X2_greatestLayer : GoodIn wsX5_total (wsV RX5 205 RX2 yX2_greatestLayer wsX2_greatestLayer) := goodIn_app (goodIn_of _ (by decide +kernel)) ggX5_total_X2_greatestLayer
set_option maxRecDepth 20000 in
theorem ggX5_total_X3_volume : GoodIn wsX5_total wsX3_volume := goodIn_r _ [141, 142, 78, 83, 84, 85, 32, 86, 87, 88, 89, 90, 35, 34, 179, 180, 181, 182, 183, 197, 198, 199] (by decide +kernel) (by decide +kernel)
set_option maxRecDepth 20000 in
theorem gX5_total_X3_volume : GoodIn wsX5_total (wsV RX5 211 RX3 yX3_volume wsX3_volume) := goodIn_app (goodIn_of _ (by decide +kernel)) ggX5_total_X3_volume
set_option maxRecDepth 20000 in
theorem ggX5_total_X3_shadow : GoodIn wsX5_total wsX3_shadow := goodIn_r _ [146, 142, 147, 148, 149, 75, 150, 78, 151, 152, 153, 154, 155, 32, 156, 35, 34, 157, 158, 159, 160, 161, 162, 163, 164, 165, 166, 167, 168, 87, 88, 89, 90, 169, 108, 109, 110, 111, 112, 113, 179, 180, 181, 182, 183, 197, 198, 199] (by decide +kernel) (by decide +kernel)
set_option maxRecDepth 20000 in
theorem gX5_total_X3_shadow : GoodIn wsX5_total (wsV RX5 212 RX3 yX3_shadow wsX3_shadow) := goodIn_app (goodIn_of _ (by decide +kernel)) ggX5_total_X3_shadow
theorem dX5_total_0 : decode cX5_total 0 = .ok (.iload_n 1, 1) := by decide +kernel
theorem dX5_total_1 : decode cX5_total 1 = .ok (.tableswitch 171 0 12 #[67, 75, 83, 91, 99, 107, 115, 123, 131, 139, 147, 155, 163], 67) := by decide +kernel
theorem dX5_total_68 : decode cX5_total 68 = .ok (.aload_n 0, 1) := by decide +kernel
theorem dX5_total_69 : decode cX5_total 69 = .ok (.getfield 10, 3) := by decide +kernel
theorem dX5_total_72 : decode cX5_total 72 = .ok (.getfield 118, 3) := by decide +kernel
theorem dX5_total_75 : decode cX5_total 75 = .ok (.ireturn, 1) := by decide +kernel
theorem dX5_total_76 : decode cX5_total 76 = .ok (.aload_n 0, 1) := by decide +kernel
theorem dX5_total_77 : decode cX5_total 77 = .ok (.getfield 10, 3) := by decide +kernel
theorem dX5_total_80 : decode cX5_total 80 = .ok (.getfield 190, 3) := by decide +kernel
theorem dX5_total_83 : decode cX5_total 83 = .ok (.ireturn, 1) := by decide +kernel
theorem dX5_total_84 : decode cX5_total 84 = .ok (.aload_n 0, 1) := by decide +kernel
theorem dX5_total_85 : decode cX5_total 85 = .ok (.invokevirtual 159, 3) := by decide +kernel
theorem dX5_total_88 : decode cX5_total 88 = .ok (.invokevirtual 193, 3) := by decide +kernel
theorem dX5_total_91 : decode cX5_total 91 = .ok (.ireturn, 1) := by decide +kernel
theorem dX5_total_92 : decode cX5_total 92 = .ok (.aload_n 0, 1) := by decide +kernel
theorem dX5_total_93 : decode cX5_total 93 = .ok (.invokevirtual 159, 3) := by decide +kernel
theorem dX5_total_96 : decode cX5_total 96 = .ok (.getfield 196, 3) := by decide +kernel
theorem dX5_total_99 : decode cX5_total 99 = .ok (.ireturn, 1) := by decide +kernel
theorem dX5_total_100 : decode cX5_total 100 = .ok (.aload_n 0, 1) := by decide +kernel
theorem dX5_total_101 : decode cX5_total 101 = .ok (.invokevirtual 159, 3) := by decide +kernel
theorem dX5_total_104 : decode cX5_total 104 = .ok (.invokevirtual 199, 3) := by decide +kernel
theorem dX5_total_107 : decode cX5_total 107 = .ok (.ireturn, 1) := by decide +kernel
theorem dX5_total_108 : decode cX5_total 108 = .ok (.aload_n 0, 1) := by decide +kernel
theorem dX5_total_109 : decode cX5_total 109 = .ok (.invokevirtual 159, 3) := by decide +kernel
theorem dX5_total_112 : decode cX5_total 112 = .ok (.invokevirtual 202, 3) := by decide +kernel
theorem dX5_total_115 : decode cX5_total 115 = .ok (.ireturn, 1) := by decide +kernel
theorem dX5_total_116 : decode cX5_total 116 = .ok (.aload_n 0, 1) := by decide +kernel
theorem dX5_total_117 : decode cX5_total 117 = .ok (.invokevirtual 159, 3) := by decide +kernel
theorem dX5_total_120 : decode cX5_total 120 = .ok (.invokevirtual 205, 3) := by decide +kernel
theorem dX5_total_123 : decode cX5_total 123 = .ok (.ireturn, 1) := by decide +kernel
theorem dX5_total_124 : decode cX5_total 124 = .ok (.aload_n 0, 1) := by decide +kernel
theorem dX5_total_125 : decode cX5_total 125 = .ok (.getfield 10, 3) := by decide +kernel
theorem dX5_total_128 : decode cX5_total 128 = .ok (.getfield 208, 3) := by decide +kernel
theorem dX5_total_131 : decode cX5_total 131 = .ok (.ireturn, 1) := by decide +kernel
theorem dX5_total_132 : decode cX5_total 132 = .ok (.aload_n 0, 1) := by decide +kernel
theorem dX5_total_133 : decode cX5_total 133 = .ok (.getfield 10, 3) := by decide +kernel
theorem dX5_total_136 : decode cX5_total 136 = .ok (.invokevirtual 211, 3) := by decide +kernel
theorem dX5_total_139 : decode cX5_total 139 = .ok (.ireturn, 1) := by decide +kernel
theorem dX5_total_140 : decode cX5_total 140 = .ok (.aload_n 0, 1) := by decide +kernel
theorem dX5_total_141 : decode cX5_total 141 = .ok (.getfield 10, 3) := by decide +kernel
theorem dX5_total_144 : decode cX5_total 144 = .ok (.invokevirtual 212, 3) := by decide +kernel
theorem dX5_total_147 : decode cX5_total 147 = .ok (.ireturn, 1) := by decide +kernel
theorem dX5_total_148 : decode cX5_total 148 = .ok (.aload_n 0, 1) := by decide +kernel
theorem dX5_total_149 : decode cX5_total 149 = .ok (.getfield 10, 3) := by decide +kernel
theorem dX5_total_152 : decode cX5_total 152 = .ok (.getfield 132, 3) := by decide +kernel
theorem dX5_total_155 : decode cX5_total 155 = .ok (.ireturn, 1) := by decide +kernel
theorem dX5_total_156 : decode cX5_total 156 = .ok (.aload_n 0, 1) := by decide +kernel
theorem dX5_total_157 : decode cX5_total 157 = .ok (.getfield 25, 3) := by decide +kernel
theorem dX5_total_160 : decode cX5_total 160 = .ok (.getfield 152, 3) := by decide +kernel
theorem dX5_total_163 : decode cX5_total 163 = .ok (.ireturn, 1) := by decide +kernel
theorem dX5_total_164 : decode cX5_total 164 = .ok (.aload_n 0, 1) := by decide +kernel
theorem dX5_total_165 : decode cX5_total 165 = .ok (.getfield 32, 3) := by decide +kernel
theorem dX5_total_168 : decode cX5_total 168 = .ok (.getfield 139, 3) := by decide +kernel
theorem dX5_total_171 : decode cX5_total 171 = .ok (.ireturn, 1) := by decide +kernel
theorem dX5_total_172 : decode cX5_total 172 = .ok (.bipush (-2), 2) := by decide +kernel
theorem dX5_total_174 : decode cX5_total 174 = .ok (.ireturn, 1) := by decide +kernel
set_option maxRecDepth 20000 in
theorem ggX5_waitsFor_X3_slotOf : GoodIn wsX5_waitsFor wsX3_slotOf := goodIn_r _ [8, 9, 10, 11, 111, 112, 113, 114, 115, 116, 117, 118] (by decide +kernel) (by decide +kernel)
set_option maxRecDepth 20000 in
theorem gX5_waitsFor_X3_slotOf : GoodIn wsX5_waitsFor (wsV RX5 68 RX3 yX3_slotOf wsX3_slotOf) := goodIn_app (goodIn_of _ (by decide +kernel)) ggX5_waitsFor_X3_slotOf
set_option maxRecDepth 20000 in
theorem ggX5_waitsFor_X5_look : GoodIn wsX5_waitsFor wsX5_look := goodIn_r _ [16, 17, 1, 18, 19, 20, 21, 22, 23, 24, 25, 26, 27, 28, 29, 30, 31, 32, 33, 34, 35, 36, 37, 38, 39, 40, 41, 42, 43, 44, 45, 46, 47, 48, 49, 50, 51, 52, 53, 54, 55, 56, 57, 58, 59, 60, 61, 62, 63, 64, 65, 66, 67, 68, 69, 70, 71, 72, 73, 74, 75, 7, 76, 77, 10, 78, 79, 80, 81, 82, 83, 84, 85, 86, 87, 88, 89, 90, 91, 92, 93, 94, 95, 96, 97, 102, 103, 104, 105, 106, 107, 108, 109, 110, 111, 112, 113, 114, 115, 119, 120, 121, 122, 123, 124, 125, 116, 117, 118] (by decide +kernel) (by decide +kernel)
set_option maxRecDepth 20000 in
theorem gX5_waitsFor_X5_look : GoodIn wsX5_waitsFor (wsV RX5 159 RX5 yX5_look wsX5_look) := goodIn_app (goodIn_of _ (by decide +kernel)) ggX5_waitsFor_X5_look
set_option maxRecDepth 20000 in
theorem ggX5_waitsFor_X2_firstNotDrawnUnder : GoodIn wsX5_waitsFor wsX2_firstNotDrawnUnder := goodIn_r _ [101, 24, 25, 62, 54, 55, 21, 56, 119, 120, 121, 122, 123, 124, 125] (by decide +kernel) (by decide +kernel)
set_option maxRecDepth 20000 in
theorem gX5_waitsFor_X2_firstNotDrawnUnder : GoodIn wsX5_waitsFor (wsV RX5 215 RX2 yX2_firstNotDrawnUnder wsX2_firstNotDrawnUnder) := goodIn_app (goodIn_of _ (by decide +kernel)) ggX5_waitsFor_X2_firstNotDrawnUnder
theorem dX5_waitsFor_0 : decode cX5_waitsFor 0 = .ok (.aload_n 0, 1) := by decide +kernel
theorem dX5_waitsFor_1 : decode cX5_waitsFor 1 = .ok (.getfield 10, 3) := by decide +kernel
theorem dX5_waitsFor_4 : decode cX5_waitsFor 4 = .ok (.iload_n 1, 1) := by decide +kernel
theorem dX5_waitsFor_5 : decode cX5_waitsFor 5 = .ok (.invokevirtual 68, 3) := by decide +kernel
theorem dX5_waitsFor_8 : decode cX5_waitsFor 8 = .ok (.istore_n 2, 1) := by decide +kernel
theorem dX5_waitsFor_9 : decode cX5_waitsFor 9 = .ok (.iload_n 2, 1) := by decide +kernel
theorem dX5_waitsFor_10 : decode cX5_waitsFor 10 = .ok (.iconst (-1), 1) := by decide +kernel
theorem dX5_waitsFor_11 : decode cX5_waitsFor 11 = .ok (.if_icmp .ne 5, 3) := by decide +kernel
theorem dX5_waitsFor_14 : decode cX5_waitsFor 14 = .ok (.iconst (-1), 1) := by decide +kernel
theorem dX5_waitsFor_15 : decode cX5_waitsFor 15 = .ok (.ireturn, 1) := by decide +kernel
theorem dX5_waitsFor_16 : decode cX5_waitsFor 16 = .ok (.aload_n 0, 1) := by decide +kernel
theorem dX5_waitsFor_17 : decode cX5_waitsFor 17 = .ok (.invokevirtual 159, 3) := by decide +kernel
theorem dX5_waitsFor_20 : decode cX5_waitsFor 20 = .ok (.iload_n 2, 1) := by decide +kernel
theorem dX5_waitsFor_21 : decode cX5_waitsFor 21 = .ok (.invokevirtual 215, 3) := by decide +kernel
theorem dX5_waitsFor_24 : decode cX5_waitsFor 24 = .ok (.istore_n 3, 1) := by decide +kernel
theorem dX5_waitsFor_25 : decode cX5_waitsFor 25 = .ok (.iload_n 3, 1) := by decide +kernel
theorem dX5_waitsFor_26 : decode cX5_waitsFor 26 = .ok (.iconst (-1), 1) := by decide +kernel
theorem dX5_waitsFor_27 : decode cX5_waitsFor 27 = .ok (.if_icmp .ne 8, 3) := by decide +kernel
theorem dX5_waitsFor_30 : decode cX5_waitsFor 30 = .ok (.bipush (-5), 2) := by decide +kernel
theorem dX5_waitsFor_32 : decode cX5_waitsFor 32 = .ok (.goto 15, 3) := by decide +kernel
theorem dX5_waitsFor_35 : decode cX5_waitsFor 35 = .ok (.aload_n 0, 1) := by decide +kernel
theorem dX5_waitsFor_36 : decode cX5_waitsFor 36 = .ok (.getfield 10, 3) := by decide +kernel
theorem dX5_waitsFor_39 : decode cX5_waitsFor 39 = .ok (.getfield 72, 3) := by decide +kernel
theorem dX5_waitsFor_42 : decode cX5_waitsFor 42 = .ok (.iload_n 3, 1) := by decide +kernel
theorem dX5_waitsFor_43 : decode cX5_waitsFor 43 = .ok (.aaload, 1) := by decide +kernel
theorem dX5_waitsFor_44 : decode cX5_waitsFor 44 = .ok (.getfield 156, 3) := by decide +kernel
theorem dX5_waitsFor_47 : decode cX5_waitsFor 47 = .ok (.ireturn, 1) := by decide +kernel
set_option maxRecDepth 20000 in
theorem ggX5_breaks_X3_copyFrom : GoodIn wsX5_breaks wsX3_copyFrom := goodIn_r _ [7, 8, 9, 10, 11, 12, 13, 14, 15, 16, 17, 18, 19, 20, 21, 22, 23, 24, 145, 146, 147, 148, 149, 150, 151, 152] (by decide +kernel) (by decide +kernel)
set_option maxRecDepth 20000 in
theorem gX5_breaks_X3_copyFrom : GoodIn wsX5_breaks (wsV RX5 57 RX3 yX3_copyFrom wsX3_copyFrom) := goodIn_app (goodIn_of _ (by decide +kernel)) ggX5_breaks_X3_copyFrom
set_option maxRecDepth 20000 in
theorem ggX5_breaks_X5_breakOne : GoodIn wsX5_breaks wsX5_breakOne := goodIn_r _ [29, 30, 31, 32, 33, 34, 35, 36, 37, 38, 39, 40, 41, 42, 43, 44, 45, 46, 47, 16, 48, 19, 24, 49, 50, 51, 52, 53, 54, 55, 56, 57, 58, 59, 60, 61, 62, 21, 22, 23, 63, 64, 65, 66, 67, 68, 69, 70, 71, 72, 73, 74, 75, 76, 77, 78, 79, 80, 81, 82, 83, 84, 6, 85, 11, 12, 86, 87, 88, 89, 90, 91, 92, 93, 94, 95, 96, 97, 98, 99, 100, 101, 102, 103, 104, 105, 106, 107, 108, 109, 110, 111, 112, 113, 114, 115, 116, 117, 118, 119, 120, 121, 122, 123, 8, 124, 125, 126, 127, 128, 129, 10, 130, 131, 132, 133, 9, 134, 135, 13, 14, 15, 17, 18, 20, 136, 137, 138, 139, 140, 141, 142, 143, 144, 145, 146, 147, 148, 149, 150, 151, 152, 153, 154, 155, 156, 157, 158, 159] (by decide +kernel) (by decide +kernel)
set_option maxRecDepth 20000 in
theorem gX5_breaks_X5_breakOne : GoodIn wsX5_breaks (wsV RX5 114 RX5 yX5_breakOne wsX5_breakOne) := goodIn_app (goodIn_of _ (by decide +kernel)) ggX5_breaks_X5_breakOne
theorem dX5_breaks_0 : decode cX5_breaks 0 = .ok (.aload_n 0, 1) := by decide +kernel
theorem dX5_breaks_1 : decode cX5_breaks 1 = .ok (.getfield 16, 3) := by decide +kernel
theorem dX5_breaks_4 : decode cX5_breaks 4 = .ok (.aload_n 0, 1) := by decide +kernel
theorem dX5_breaks_5 : decode cX5_breaks 5 = .ok (.getfield 10, 3) := by decide +kernel
theorem dX5_breaks_8 : decode cX5_breaks 8 = .ok (.invokevirtual 57, 3) := by decide +kernel
theorem dX5_breaks_11 : decode cX5_breaks 11 = .ok (.iconst 0, 1) := by decide +kernel
theorem dX5_breaks_12 : decode cX5_breaks 12 = .ok (.istore_n 1, 1) := by decide +kernel
theorem dX5_breaks_13 : decode cX5_breaks 13 = .ok (.iload_n 1, 1) := by decide +kernel
theorem dX5_breaks_14 : decode cX5_breaks 14 = .ok (.bipush 16, 2) := by decide +kernel
theorem dX5_breaks_16 : decode cX5_breaks 16 = .ok (.if_icmp .gt 32, 3) := by decide +kernel
theorem dX5_breaks_19 : decode cX5_breaks 19 = .ok (.aload_n 0, 1) := by decide +kernel
theorem dX5_breaks_20 : decode cX5_breaks 20 = .ok (.aload_n 0, 1) := by decide +kernel
theorem dX5_breaks_21 : decode cX5_breaks 21 = .ok (.getfield 16, 3) := by decide +kernel
theorem dX5_breaks_24 : decode cX5_breaks 24 = .ok (.invokevirtual 114, 3) := by decide +kernel
theorem dX5_breaks_27 : decode cX5_breaks 27 = .ok (.istore_n 2, 1) := by decide +kernel
theorem dX5_breaks_28 : decode cX5_breaks 28 = .ok (.iload_n 2, 1) := by decide +kernel
theorem dX5_breaks_29 : decode cX5_breaks 29 = .ok (.bipush (-5), 2) := by decide +kernel
theorem dX5_breaks_31 : decode cX5_breaks 31 = .ok (.if_icmp .ne 5, 3) := by decide +kernel
theorem dX5_breaks_34 : decode cX5_breaks 34 = .ok (.iload_n 1, 1) := by decide +kernel
theorem dX5_breaks_35 : decode cX5_breaks 35 = .ok (.ireturn, 1) := by decide +kernel
theorem dX5_breaks_36 : decode cX5_breaks 36 = .ok (.iload_n 2, 1) := by decide +kernel
theorem dX5_breaks_37 : decode cX5_breaks 37 = .ok (.ifCond .ge 5, 3) := by decide +kernel
theorem dX5_breaks_40 : decode cX5_breaks 40 = .ok (.iload_n 2, 1) := by decide +kernel
theorem dX5_breaks_41 : decode cX5_breaks 41 = .ok (.ireturn, 1) := by decide +kernel
theorem dX5_breaks_42 : decode cX5_breaks 42 = .ok (.iinc 1 1, 3) := by decide +kernel
theorem dX5_breaks_45 : decode cX5_breaks 45 = .ok (.goto (-32), 3) := by decide +kernel
theorem dX5_breaks_48 : decode cX5_breaks 48 = .ok (.bipush (-3), 2) := by decide +kernel
theorem dX5_breaks_50 : decode cX5_breaks 50 = .ok (.ireturn, 1) := by decide +kernel
set_option maxRecDepth 20000 in
theorem ggX5_drawnWithout_X3_slotOf : GoodIn wsX5_drawnWithout wsX3_slotOf := goodIn_r _ [9, 10, 11, 12, 125, 126, 127, 128, 129, 130, 131, 132] (by decide +kernel) (by decide +kernel)
set_option maxRecDepth 20000 in
theorem gX5_drawnWithout_X3_slotOf : GoodIn wsX5_drawnWithout (wsV RX5 68 RX3 yX3_slotOf wsX3_slotOf) := goodIn_app (goodIn_of _ (by decide +kernel)) ggX5_drawnWithout_X3_slotOf
set_option maxRecDepth 20000 in
theorem ggX5_drawnWithout_X3_copyFrom : GoodIn wsX5_drawnWithout wsX3_copyFrom := goodIn_r _ [16, 10, 17, 18, 19, 11, 20, 21, 22, 23, 24, 25, 26, 27, 28, 29, 30, 31, 125, 126, 127, 128, 129, 130, 131, 132] (by decide +kernel) (by decide +kernel)
set_option maxRecDepth 20000 in
theorem gX5_drawnWithout_X3_copyFrom : GoodIn wsX5_drawnWithout (wsV RX5 57 RX3 yX3_copyFrom wsX3_copyFrom) := goodIn_app (goodIn_of _ (by decide +kernel)) ggX5_drawnWithout_X3_copyFrom
set_option maxRecDepth 20000 in
theorem ggX5_drawnWithout_X3_takeOut : GoodIn wsX5_drawnWithout wsX3_takeOut := goodIn_r _ [35, 10, 11, 20, 21, 22, 23, 24, 25, 26, 27, 28, 29, 30, 31, 125, 126, 127, 128, 129, 130, 131, 132] (by decide +kernel) (by decide +kernel)
set_option maxRecDepth 20000 in
theorem gX5_drawnWithout_X3_takeOut : GoodIn wsX5_drawnWithout (wsV RX5 80 RX3 yX3_takeOut wsX3_takeOut) := goodIn_app (goodIn_of _ (by decide +kernel)) ggX5_drawnWithout_X3_takeOut
set_option maxRecDepth 20000 in
theorem ggX5_drawnWithout_X2_look : GoodIn wsX5_drawnWithout wsX2_look := goodIn_r _ [40, 41, 42, 43, 44, 45, 39, 46, 47, 48, 49, 50, 23, 51, 26, 31, 52, 53, 54, 55, 56, 57, 58, 59, 60, 61, 62, 63, 64, 65, 28, 29, 30, 66, 67, 68, 69, 70, 71, 72, 73, 74, 75, 76, 77, 78, 79, 80, 81, 82, 83, 84, 85, 86, 87, 8, 88, 19, 11, 89, 90, 91, 92, 93, 94, 95, 96, 97, 98, 99, 100, 101, 102, 103, 104, 105, 106, 107, 108, 125, 126, 127, 128, 129, 118, 119, 120, 121, 122, 123, 124, 130, 131, 132] (by decide +kernel) (by decide +kernel)
set_option maxRecDepth 20000 in
theorem gX5_drawnWithout_X2_look : GoodIn wsX5_drawnWithout (wsV RX5 125 RX2 yX2_look wsX2_look) := goodIn_app (goodIn_of _ (by decide +kernel)) ggX5_drawnWithout_X2_look
theorem dX5_drawnWithout_0 : decode cX5_drawnWithout 0 = .ok (.aload_n 0, 1) := by decide +kernel
theorem dX5_drawnWithout_1 : decode cX5_drawnWithout 1 = .ok (.getfield 10, 3) := by decide +kernel
theorem dX5_drawnWithout_4 : decode cX5_drawnWithout 4 = .ok (.iload_n 1, 1) := by decide +kernel
theorem dX5_drawnWithout_5 : decode cX5_drawnWithout 5 = .ok (.invokevirtual 68, 3) := by decide +kernel
theorem dX5_drawnWithout_8 : decode cX5_drawnWithout 8 = .ok (.istore_n 2, 1) := by decide +kernel
theorem dX5_drawnWithout_9 : decode cX5_drawnWithout 9 = .ok (.iload_n 2, 1) := by decide +kernel
theorem dX5_drawnWithout_10 : decode cX5_drawnWithout 10 = .ok (.iconst (-1), 1) := by decide +kernel
theorem dX5_drawnWithout_11 : decode cX5_drawnWithout 11 = .ok (.if_icmp .ne 5, 3) := by decide +kernel
theorem dX5_drawnWithout_14 : decode cX5_drawnWithout 14 = .ok (.iconst (-1), 1) := by decide +kernel
theorem dX5_drawnWithout_15 : decode cX5_drawnWithout 15 = .ok (.ireturn, 1) := by decide +kernel
theorem dX5_drawnWithout_16 : decode cX5_drawnWithout 16 = .ok (.aload_n 0, 1) := by decide +kernel
theorem dX5_drawnWithout_17 : decode cX5_drawnWithout 17 = .ok (.getfield 16, 3) := by decide +kernel
theorem dX5_drawnWithout_20 : decode cX5_drawnWithout 20 = .ok (.aload_n 0, 1) := by decide +kernel
theorem dX5_drawnWithout_21 : decode cX5_drawnWithout 21 = .ok (.getfield 10, 3) := by decide +kernel
theorem dX5_drawnWithout_24 : decode cX5_drawnWithout 24 = .ok (.invokevirtual 57, 3) := by decide +kernel
theorem dX5_drawnWithout_27 : decode cX5_drawnWithout 27 = .ok (.aload_n 0, 1) := by decide +kernel
theorem dX5_drawnWithout_28 : decode cX5_drawnWithout 28 = .ok (.getfield 16, 3) := by decide +kernel
theorem dX5_drawnWithout_31 : decode cX5_drawnWithout 31 = .ok (.iload_n 2, 1) := by decide +kernel
theorem dX5_drawnWithout_32 : decode cX5_drawnWithout 32 = .ok (.invokevirtual 80, 3) := by decide +kernel
theorem dX5_drawnWithout_35 : decode cX5_drawnWithout 35 = .ok (.aload_n 0, 1) := by decide +kernel
theorem dX5_drawnWithout_36 : decode cX5_drawnWithout 36 = .ok (.getfield 39, 3) := by decide +kernel
theorem dX5_drawnWithout_39 : decode cX5_drawnWithout 39 = .ok (.aload_n 0, 1) := by decide +kernel
theorem dX5_drawnWithout_40 : decode cX5_drawnWithout 40 = .ok (.getfield 16, 3) := by decide +kernel
theorem dX5_drawnWithout_43 : decode cX5_drawnWithout 43 = .ok (.invokevirtual 125, 3) := by decide +kernel
theorem dX5_drawnWithout_46 : decode cX5_drawnWithout 46 = .ok (.aload_n 0, 1) := by decide +kernel
theorem dX5_drawnWithout_47 : decode cX5_drawnWithout 47 = .ok (.getfield 39, 3) := by decide +kernel
theorem dX5_drawnWithout_50 : decode cX5_drawnWithout 50 = .ok (.getfield 196, 3) := by decide +kernel
theorem dX5_drawnWithout_53 : decode cX5_drawnWithout 53 = .ok (.ireturn, 1) := by decide +kernel
theorem dX5_isDirection_0 : decode cX5_isDirection 0 = .ok (.iload_n 0, 1) := by decide +kernel
theorem dX5_isDirection_1 : decode cX5_isDirection 1 = .ok (.ifCond .lt 12, 3) := by decide +kernel
theorem dX5_isDirection_4 : decode cX5_isDirection 4 = .ok (.iload_n 0, 1) := by decide +kernel
theorem dX5_isDirection_5 : decode cX5_isDirection 5 = .ok (.iconst 3, 1) := by decide +kernel
theorem dX5_isDirection_6 : decode cX5_isDirection 6 = .ok (.if_icmp .ge 7, 3) := by decide +kernel
theorem dX5_isDirection_9 : decode cX5_isDirection 9 = .ok (.iconst 1, 1) := by decide +kernel
theorem dX5_isDirection_10 : decode cX5_isDirection 10 = .ok (.goto 4, 3) := by decide +kernel
theorem dX5_isDirection_13 : decode cX5_isDirection 13 = .ok (.iconst 0, 1) := by decide +kernel
theorem dX5_isDirection_14 : decode cX5_isDirection 14 = .ok (.ireturn, 1) := by decide +kernel
set_option maxRecDepth 20000 in
theorem ggX5_look_X2_look : GoodIn wsX5_look wsX2_look := goodIn_r _ [7, 8, 9, 10, 11, 12, 6, 13, 14, 15, 16, 17, 18, 19, 20, 21, 22, 23, 24, 25, 26, 27, 28, 29, 30, 31, 32, 33, 34, 35, 36, 37, 38, 39, 40, 41, 42, 43, 44, 45, 46, 47, 48, 49, 50, 51, 52, 53, 54, 55, 56, 57, 58, 59, 60, 61, 62, 63, 64, 65, 66, 67, 68, 69, 70, 71, 72, 73, 74, 75, 76, 77, 78, 79, 80, 81, 82, 83, 84, 94, 95, 96, 97, 98, 99, 100, 101, 102, 103, 104, 105, 106, 107, 108] (by decide +kernel) (by decide +kernel)
set_option maxRecDepth 20000 in
theorem gX5_look_X2_look : GoodIn wsX5_look (wsV RX5 125 RX2 yX2_look wsX2_look) := goodIn_app (goodIn_of _ (by decide +kernel)) ggX5_look_X2_look
theorem dX5_look_0 : decode cX5_look 0 = .ok (.aload_n 0, 1) := by decide +kernel
theorem dX5_look_1 : decode cX5_look 1 = .ok (.getfield 39, 3) := by decide +kernel
theorem dX5_look_4 : decode cX5_look 4 = .ok (.aload_n 0, 1) := by decide +kernel
theorem dX5_look_5 : decode cX5_look 5 = .ok (.getfield 10, 3) := by decide +kernel
theorem dX5_look_8 : decode cX5_look 8 = .ok (.invokevirtual 125, 3) := by decide +kernel
theorem dX5_look_11 : decode cX5_look 11 = .ok (.aload_n 0, 1) := by decide +kernel
theorem dX5_look_12 : decode cX5_look 12 = .ok (.getfield 39, 3) := by decide +kernel
theorem dX5_look_15 : decode cX5_look 15 = .ok (.areturn, 1) := by decide +kernel
set_option maxRecDepth 20000 in
theorem ggX5_adoptTrial_X1_remember : GoodIn wsX5_adoptTrial wsX1_remember := goodIn_r _ [8, 9, 10, 11, 12, 13, 7, 14, 15, 16, 17, 18, 19, 20, 21, 22, 23, 24, 25, 26, 27, 28, 29, 30, 31, 32, 33, 34, 35, 36, 47, 48, 49, 50, 51, 52, 53, 54, 55, 56] (by decide +kernel) (by decide +kernel)
set_option maxRecDepth 20000 in
theorem gX5_adoptTrial_X1_remember : GoodIn wsX5_adoptTrial (wsV RX5 218 RX1 yX1_remember wsX1_remember) := goodIn_app (goodIn_of _ (by decide +kernel)) ggX5_adoptTrial_X1_remember
set_option maxRecDepth 20000 in
theorem ggX5_adoptTrial_X3_copyFrom : GoodIn wsX5_adoptTrial wsX3_copyFrom := goodIn_r _ [19, 20, 21, 22, 23, 24, 25, 26, 27, 28, 29, 30, 31, 32, 33, 34, 35, 36, 49, 50, 51, 52, 53, 54, 55, 56] (by decide +kernel) (by decide +kernel)
set_option maxRecDepth 20000 in
theorem gX5_adoptTrial_X3_copyFrom : GoodIn wsX5_adoptTrial (wsV RX5 57 RX3 yX3_copyFrom wsX3_copyFrom) := goodIn_app (goodIn_of _ (by decide +kernel)) ggX5_adoptTrial_X3_copyFrom
theorem dX5_adoptTrial_0 : decode cX5_adoptTrial 0 = .ok (.aload_n 0, 1) := by decide +kernel
theorem dX5_adoptTrial_1 : decode cX5_adoptTrial 1 = .ok (.getfield 25, 3) := by decide +kernel
theorem dX5_adoptTrial_4 : decode cX5_adoptTrial 4 = .ok (.aload_n 0, 1) := by decide +kernel
theorem dX5_adoptTrial_5 : decode cX5_adoptTrial 5 = .ok (.getfield 10, 3) := by decide +kernel
theorem dX5_adoptTrial_8 : decode cX5_adoptTrial 8 = .ok (.invokevirtual 218, 3) := by decide +kernel
theorem dX5_adoptTrial_11 : decode cX5_adoptTrial 11 = .ok (.aload_n 0, 1) := by decide +kernel
theorem dX5_adoptTrial_12 : decode cX5_adoptTrial 12 = .ok (.getfield 10, 3) := by decide +kernel
theorem dX5_adoptTrial_15 : decode cX5_adoptTrial 15 = .ok (.aload_n 0, 1) := by decide +kernel
theorem dX5_adoptTrial_16 : decode cX5_adoptTrial 16 = .ok (.getfield 16, 3) := by decide +kernel
theorem dX5_adoptTrial_19 : decode cX5_adoptTrial 19 = .ok (.invokevirtual 57, 3) := by decide +kernel
theorem dX5_adoptTrial_22 : decode cX5_adoptTrial 22 = .ok (.return_, 1) := by decide +kernel
set_option maxRecDepth 20000 in
theorem ggX5_enter_X0_lay : GoodIn wsX5_enter wsX0_lay := goodIn_r _ [6, 7, 8, 53, 54, 55] (by decide +kernel) (by decide +kernel)
set_option maxRecDepth 20000 in
theorem gX5_enter_X0_lay : GoodIn wsX5_enter (wsV RX5 221 RX0 yX0_lay wsX0_lay) := goodIn_app (goodIn_of _ (by decide +kernel)) ggX5_enter_X0_lay
set_option maxRecDepth 20000 in
theorem ggX5_enter_X3_isCutBy : GoodIn wsX5_enter wsX3_isCutBy := goodIn_r _ [13, 14, 15, 16, 17, 18, 5, 19, 20, 21, 22, 23, 7, 8, 56, 57, 58, 59, 60, 53, 54, 55] (by decide +kernel) (by decide +kernel)
set_option maxRecDepth 20000 in
theorem gX5_enter_X3_isCutBy : GoodIn wsX5_enter (wsV RX5 99 RX3 yX3_isCutBy wsX3_isCutBy) := goodIn_app (goodIn_of _ (by decide +kernel)) ggX5_enter_X3_isCutBy
set_option maxRecDepth 20000 in
theorem ggX5_enter_X3_isFull : GoodIn wsX5_enter wsX3_isFull := goodIn_r _ [27, 14, 56, 57, 58, 59, 60] (by decide +kernel) (by decide +kernel)
set_option maxRecDepth 20000 in
theorem gX5_enter_X3_isFull : GoodIn wsX5_enter (wsV RX5 106 RX3 yX3_isFull wsX3_isFull) := goodIn_app (goodIn_of _ (by decide +kernel)) ggX5_enter_X3_isFull
set_option maxRecDepth 20000 in
theorem ggX5_enter_X3_append : GoodIn wsX5_enter wsX3_append := goodIn_r _ [31, 15, 14, 32, 33, 34, 25, 26, 12, 27, 35, 36, 37, 5, 38, 39, 7, 40, 41, 42, 43, 8, 56, 57, 58, 59, 60, 53, 54, 55] (by decide +kernel) (by decide +kernel)
set_option maxRecDepth 20000 in
theorem gX5_enter_X3_append : GoodIn wsX5_enter (wsV RX5 225 RX3 yX3_append wsX3_append) := goodIn_app (goodIn_of _ (by decide +kernel)) ggX5_enter_X3_append
theorem dX5_enter_0 : decode cX5_enter 0 = .ok (.aload_n 0, 1) := by decide +kernel
theorem dX5_enter_1 : decode cX5_enter 1 = .ok (.getfield 49, 3) := by decide +kernel
theorem dX5_enter_4 : decode cX5_enter 4 = .ok (.iconst 0, 1) := by decide +kernel
theorem dX5_enter_5 : decode cX5_enter 5 = .ok (.iload_n 2, 1) := by decide +kernel
theorem dX5_enter_6 : decode cX5_enter 6 = .ok (.iload 5, 2) := by decide +kernel
theorem dX5_enter_8 : decode cX5_enter 8 = .ok (.invokevirtual 221, 3) := by decide +kernel
theorem dX5_enter_11 : decode cX5_enter 11 = .ok (.ifCond .eq 36, 3) := by decide +kernel
theorem dX5_enter_14 : decode cX5_enter 14 = .ok (.aload_n 0, 1) := by decide +kernel
theorem dX5_enter_15 : decode cX5_enter 15 = .ok (.getfield 49, 3) := by decide +kernel
theorem dX5_enter_18 : decode cX5_enter 18 = .ok (.iconst 1, 1) := by decide +kernel
theorem dX5_enter_19 : decode cX5_enter 19 = .ok (.iload_n 3, 1) := by decide +kernel
theorem dX5_enter_20 : decode cX5_enter 20 = .ok (.iload 6, 2) := by decide +kernel
theorem dX5_enter_22 : decode cX5_enter 22 = .ok (.invokevirtual 221, 3) := by decide +kernel
theorem dX5_enter_25 : decode cX5_enter 25 = .ok (.ifCond .eq 22, 3) := by decide +kernel
theorem dX5_enter_28 : decode cX5_enter 28 = .ok (.aload_n 0, 1) := by decide +kernel
theorem dX5_enter_29 : decode cX5_enter 29 = .ok (.getfield 49, 3) := by decide +kernel
theorem dX5_enter_32 : decode cX5_enter 32 = .ok (.iconst 2, 1) := by decide +kernel
theorem dX5_enter_33 : decode cX5_enter 33 = .ok (.iload 4, 2) := by decide +kernel
theorem dX5_enter_35 : decode cX5_enter 35 = .ok (.iload 7, 2) := by decide +kernel
theorem dX5_enter_37 : decode cX5_enter 37 = .ok (.invokevirtual 221, 3) := by decide +kernel
theorem dX5_enter_40 : decode cX5_enter 40 = .ok (.ifCond .eq 7, 3) := by decide +kernel
theorem dX5_enter_43 : decode cX5_enter 43 = .ok (.iconst 1, 1) := by decide +kernel
theorem dX5_enter_44 : decode cX5_enter 44 = .ok (.goto 4, 3) := by decide +kernel
theorem dX5_enter_47 : decode cX5_enter 47 = .ok (.iconst 0, 1) := by decide +kernel
theorem dX5_enter_48 : decode cX5_enter 48 = .ok (.istore 8, 2) := by decide +kernel
theorem dX5_enter_50 : decode cX5_enter 50 = .ok (.iload 8, 2) := by decide +kernel
theorem dX5_enter_52 : decode cX5_enter 52 = .ok (.ifCond .ne 6, 3) := by decide +kernel
theorem dX5_enter_55 : decode cX5_enter 55 = .ok (.bipush (-2), 2) := by decide +kernel
theorem dX5_enter_57 : decode cX5_enter 57 = .ok (.ireturn, 1) := by decide +kernel
theorem dX5_enter_58 : decode cX5_enter 58 = .ok (.aload_n 1, 1) := by decide +kernel
theorem dX5_enter_59 : decode cX5_enter 59 = .ok (.aload_n 0, 1) := by decide +kernel
theorem dX5_enter_60 : decode cX5_enter 60 = .ok (.getfield 49, 3) := by decide +kernel
theorem dX5_enter_63 : decode cX5_enter 63 = .ok (.iconst (-1), 1) := by decide +kernel
theorem dX5_enter_64 : decode cX5_enter 64 = .ok (.invokevirtual 99, 3) := by decide +kernel
theorem dX5_enter_67 : decode cX5_enter 67 = .ok (.ifCond .eq 6, 3) := by decide +kernel
theorem dX5_enter_70 : decode cX5_enter 70 = .ok (.bipush (-4), 2) := by decide +kernel
theorem dX5_enter_72 : decode cX5_enter 72 = .ok (.ireturn, 1) := by decide +kernel
theorem dX5_enter_73 : decode cX5_enter 73 = .ok (.aload_n 1, 1) := by decide +kernel
theorem dX5_enter_74 : decode cX5_enter 74 = .ok (.invokevirtual 106, 3) := by decide +kernel
theorem dX5_enter_77 : decode cX5_enter 77 = .ok (.ifCond .eq 8, 3) := by decide +kernel
theorem dX5_enter_80 : decode cX5_enter 80 = .ok (.bipush (-3), 2) := by decide +kernel
theorem dX5_enter_82 : decode cX5_enter 82 = .ok (.goto 11, 3) := by decide +kernel
theorem dX5_enter_85 : decode cX5_enter 85 = .ok (.aload_n 1, 1) := by decide +kernel
theorem dX5_enter_86 : decode cX5_enter 86 = .ok (.aload_n 0, 1) := by decide +kernel
theorem dX5_enter_87 : decode cX5_enter 87 = .ok (.getfield 49, 3) := by decide +kernel
theorem dX5_enter_90 : decode cX5_enter 90 = .ok (.invokevirtual 225, 3) := by decide +kernel
theorem dX5_enter_93 : decode cX5_enter 93 = .ok (.ireturn, 1) := by decide +kernel
set_option maxRecDepth 20000 in
theorem ggX5_breakOne_X2_look : GoodIn wsX5_breakOne wsX2_look := goodIn_r _ [8, 9, 10, 11, 12, 13, 7, 14, 15, 16, 17, 18, 19, 20, 21, 22, 23, 24, 25, 26, 27, 28, 29, 30, 31, 32, 33, 34, 35, 36, 37, 38, 39, 40, 41, 42, 43, 44, 45, 46, 47, 48, 49, 50, 51, 52, 53, 54, 55, 56, 57, 58, 59, 60, 61, 62, 63, 64, 65, 66, 67, 68, 69, 70, 71, 72, 73, 74, 75, 76, 77, 78, 79, 80, 81, 82, 83, 84, 85, 134, 135, 136, 137, 138, 142, 143, 144, 145, 146, 147, 148, 139, 140, 141] (by decide +kernel) (by decide +kernel)
set_option maxRecDepth 20000 in
theorem gX5_breakOne_X2_look : GoodIn wsX5_breakOne (wsV RX5 125 RX2 yX2_look wsX2_look) := goodIn_app (goodIn_of _ (by decide +kernel)) ggX5_breakOne_X2_look
set_option maxRecDepth 20000 in
theorem ggX5_breakOne_X2_greatestInRings : GoodIn wsX5_breakOne wsX2_greatestInRings := goodIn_r _ [89, 10, 15, 90, 91, 92, 7, 93, 35, 40, 41, 42, 94, 71, 72, 19, 73, 74, 75, 76, 77, 22, 21, 142, 143, 144, 145, 146, 147, 148, 134, 135, 136, 137, 138, 139, 140, 141] (by decide +kernel) (by decide +kernel)
set_option maxRecDepth 20000 in
theorem gX5_breakOne_X2_greatestInRings : GoodIn wsX5_breakOne (wsV RX5 227 RX2 yX2_greatestInRings wsX2_greatestInRings) := goodIn_app (goodIn_of _ (by decide +kernel)) ggX5_breakOne_X2_greatestInRings
set_option maxRecDepth 20000 in
theorem ggX5_breakOne_X0_longestDirection : GoodIn wsX5_breakOne wsX0_longestDirection := goodIn_r _ [98, 74, 75, 76, 19, 77, 22, 21, 139, 140, 141] (by decide +kernel) (by decide +kernel)
set_option maxRecDepth 20000 in
theorem gX5_breakOne_X0_longestDirection : GoodIn wsX5_breakOne (wsV RX5 230 RX0 yX0_longestDirection wsX0_longestDirection) := goodIn_app (goodIn_of _ (by decide +kernel)) ggX5_breakOne_X0_longestDirection
set_option maxRecDepth 20000 in
theorem ggX5_breakOne_X0_size : GoodIn wsX5_breakOne wsX0_size := goodIn_r _ [77, 22, 21, 139, 140, 141] (by decide +kernel) (by decide +kernel)
set_option maxRecDepth 20000 in
theorem gX5_breakOne_X0_size : GoodIn wsX5_breakOne (wsV RX5 233 RX0 yX0_size wsX0_size) := goodIn_app (goodIn_of _ (by decide +kernel)) ggX5_breakOne_X0_size
set_option maxRecDepth 20000 in
theorem ggX5_breakOne_X3_isFull : GoodIn wsX5_breakOne wsX3_isFull := goodIn_r _ [103, 104, 134, 135, 136, 137, 138] (by decide +kernel) (by decide +kernel)
set_option maxRecDepth 20000 in
theorem gX5_breakOne_X3_isFull : GoodIn wsX5_breakOne (wsV RX5 106 RX3 yX3_isFull wsX3_isFull) := goodIn_app (goodIn_of _ (by decide +kernel)) ggX5_breakOne_X3_isFull
set_option maxRecDepth 20000 in
theorem ggX5_breakOne_X3_cutInTwo : GoodIn wsX5_breakOne wsX3_cutInTwo := goodIn_r _ [108, 65, 104, 109, 110, 111, 112, 113, 114, 62, 115, 116, 117, 118, 101, 102, 103, 119, 120, 121, 19, 122, 123, 21, 124, 37, 38, 39, 22, 134, 135, 136, 137, 138, 139, 140, 141] (by decide +kernel) (by decide +kernel)
set_option maxRecDepth 20000 in
theorem gX5_breakOne_X3_cutInTwo : GoodIn wsX5_breakOne (wsV RX5 110 RX3 yX3_cutInTwo wsX3_cutInTwo) := goodIn_app (goodIn_of _ (by decide +kernel)) ggX5_breakOne_X3_cutInTwo
theorem dX5_breakOne_0 : decode cX5_breakOne 0 = .ok (.aload_n 0, 1) := by decide +kernel
theorem dX5_breakOne_1 : decode cX5_breakOne 1 = .ok (.getfield 39, 3) := by decide +kernel
theorem dX5_breakOne_4 : decode cX5_breakOne 4 = .ok (.aload_n 1, 1) := by decide +kernel
theorem dX5_breakOne_5 : decode cX5_breakOne 5 = .ok (.invokevirtual 125, 3) := by decide +kernel
theorem dX5_breakOne_8 : decode cX5_breakOne 8 = .ok (.aload_n 0, 1) := by decide +kernel
theorem dX5_breakOne_9 : decode cX5_breakOne 9 = .ok (.getfield 39, 3) := by decide +kernel
theorem dX5_breakOne_12 : decode cX5_breakOne 12 = .ok (.aload_n 1, 1) := by decide +kernel
theorem dX5_breakOne_13 : decode cX5_breakOne 13 = .ok (.invokevirtual 227, 3) := by decide +kernel
theorem dX5_breakOne_16 : decode cX5_breakOne 16 = .ok (.istore_n 2, 1) := by decide +kernel
theorem dX5_breakOne_17 : decode cX5_breakOne 17 = .ok (.iload_n 2, 1) := by decide +kernel
theorem dX5_breakOne_18 : decode cX5_breakOne 18 = .ok (.iconst (-1), 1) := by decide +kernel
theorem dX5_breakOne_19 : decode cX5_breakOne 19 = .ok (.if_icmp .ne 6, 3) := by decide +kernel
theorem dX5_breakOne_22 : decode cX5_breakOne 22 = .ok (.bipush (-5), 2) := by decide +kernel
theorem dX5_breakOne_24 : decode cX5_breakOne 24 = .ok (.ireturn, 1) := by decide +kernel
theorem dX5_breakOne_25 : decode cX5_breakOne 25 = .ok (.aload_n 1, 1) := by decide +kernel
theorem dX5_breakOne_26 : decode cX5_breakOne 26 = .ok (.getfield 72, 3) := by decide +kernel
theorem dX5_breakOne_29 : decode cX5_breakOne 29 = .ok (.iload_n 2, 1) := by decide +kernel
theorem dX5_breakOne_30 : decode cX5_breakOne 30 = .ok (.aaload, 1) := by decide +kernel
theorem dX5_breakOne_31 : decode cX5_breakOne 31 = .ok (.astore_n 3, 1) := by decide +kernel
theorem dX5_breakOne_32 : decode cX5_breakOne 32 = .ok (.aload_n 3, 1) := by decide +kernel
theorem dX5_breakOne_33 : decode cX5_breakOne 33 = .ok (.invokevirtual 230, 3) := by decide +kernel
theorem dX5_breakOne_36 : decode cX5_breakOne 36 = .ok (.istore 4, 2) := by decide +kernel
theorem dX5_breakOne_38 : decode cX5_breakOne 38 = .ok (.aload_n 3, 1) := by decide +kernel
theorem dX5_breakOne_39 : decode cX5_breakOne 39 = .ok (.iload 4, 2) := by decide +kernel
theorem dX5_breakOne_41 : decode cX5_breakOne 41 = .ok (.invokevirtual 233, 3) := by decide +kernel
theorem dX5_breakOne_44 : decode cX5_breakOne 44 = .ok (.istore 5, 2) := by decide +kernel
theorem dX5_breakOne_46 : decode cX5_breakOne 46 = .ok (.iload 5, 2) := by decide +kernel
theorem dX5_breakOne_48 : decode cX5_breakOne 48 = .ok (.iconst 1, 1) := by decide +kernel
theorem dX5_breakOne_49 : decode cX5_breakOne 49 = .ok (.if_icmp .gt 6, 3) := by decide +kernel
theorem dX5_breakOne_52 : decode cX5_breakOne 52 = .ok (.bipush (-4), 2) := by decide +kernel
theorem dX5_breakOne_54 : decode cX5_breakOne 54 = .ok (.ireturn, 1) := by decide +kernel
theorem dX5_breakOne_55 : decode cX5_breakOne 55 = .ok (.aload_n 1, 1) := by decide +kernel
theorem dX5_breakOne_56 : decode cX5_breakOne 56 = .ok (.invokevirtual 106, 3) := by decide +kernel
theorem dX5_breakOne_59 : decode cX5_breakOne 59 = .ok (.ifCond .eq 6, 3) := by decide +kernel
theorem dX5_breakOne_62 : decode cX5_breakOne 62 = .ok (.bipush (-3), 2) := by decide +kernel
theorem dX5_breakOne_64 : decode cX5_breakOne 64 = .ok (.ireturn, 1) := by decide +kernel
theorem dX5_breakOne_65 : decode cX5_breakOne 65 = .ok (.aload_n 1, 1) := by decide +kernel
theorem dX5_breakOne_66 : decode cX5_breakOne 66 = .ok (.iload_n 2, 1) := by decide +kernel
theorem dX5_breakOne_67 : decode cX5_breakOne 67 = .ok (.iload 4, 2) := by decide +kernel
theorem dX5_breakOne_69 : decode cX5_breakOne 69 = .ok (.aload_n 3, 1) := by decide +kernel
theorem dX5_breakOne_70 : decode cX5_breakOne 70 = .ok (.getfield 88, 3) := by decide +kernel
theorem dX5_breakOne_73 : decode cX5_breakOne 73 = .ok (.iload 4, 2) := by decide +kernel
theorem dX5_breakOne_75 : decode cX5_breakOne 75 = .ok (.iaload, 1) := by decide +kernel
theorem dX5_breakOne_76 : decode cX5_breakOne 76 = .ok (.iload 5, 2) := by decide +kernel
theorem dX5_breakOne_78 : decode cX5_breakOne 78 = .ok (.iconst 2, 1) := by decide +kernel
theorem dX5_breakOne_79 : decode cX5_breakOne 79 = .ok (.idiv, 1) := by decide +kernel
theorem dX5_breakOne_80 : decode cX5_breakOne 80 = .ok (.iadd, 1) := by decide +kernel
theorem dX5_breakOne_81 : decode cX5_breakOne 81 = .ok (.invokevirtual 110, 3) := by decide +kernel
theorem dX5_breakOne_84 : decode cX5_breakOne 84 = .ok (.ireturn, 1) := by decide +kernel
theorem dJ6_bitCount_0f7a4_0 : decode cJ6_bitCount_0f7a4 0 = .ok (.iload_n 0, 1) := by decide +kernel
theorem dJ6_bitCount_0f7a4_1 : decode cJ6_bitCount_0f7a4 1 = .ok (.iload_n 0, 1) := by decide +kernel
theorem dJ6_bitCount_0f7a4_2 : decode cJ6_bitCount_0f7a4 2 = .ok (.iconst 1, 1) := by decide +kernel
theorem dJ6_bitCount_0f7a4_3 : decode cJ6_bitCount_0f7a4 3 = .ok (.iushr, 1) := by decide +kernel
theorem dJ6_bitCount_0f7a4_4 : decode cJ6_bitCount_0f7a4 4 = .ok (.ldc_w 265, 3) := by decide +kernel
theorem dJ6_bitCount_0f7a4_7 : decode cJ6_bitCount_0f7a4 7 = .ok (.iand, 1) := by decide +kernel
theorem dJ6_bitCount_0f7a4_8 : decode cJ6_bitCount_0f7a4 8 = .ok (.isub, 1) := by decide +kernel
theorem dJ6_bitCount_0f7a4_9 : decode cJ6_bitCount_0f7a4 9 = .ok (.istore_n 0, 1) := by decide +kernel
theorem dJ6_bitCount_0f7a4_10 : decode cJ6_bitCount_0f7a4 10 = .ok (.iload_n 0, 1) := by decide +kernel
theorem dJ6_bitCount_0f7a4_11 : decode cJ6_bitCount_0f7a4 11 = .ok (.ldc_w 266, 3) := by decide +kernel
theorem dJ6_bitCount_0f7a4_14 : decode cJ6_bitCount_0f7a4 14 = .ok (.iand, 1) := by decide +kernel
theorem dJ6_bitCount_0f7a4_15 : decode cJ6_bitCount_0f7a4 15 = .ok (.iload_n 0, 1) := by decide +kernel
theorem dJ6_bitCount_0f7a4_16 : decode cJ6_bitCount_0f7a4 16 = .ok (.iconst 2, 1) := by decide +kernel
theorem dJ6_bitCount_0f7a4_17 : decode cJ6_bitCount_0f7a4 17 = .ok (.iushr, 1) := by decide +kernel
theorem dJ6_bitCount_0f7a4_18 : decode cJ6_bitCount_0f7a4 18 = .ok (.ldc_w 266, 3) := by decide +kernel
theorem dJ6_bitCount_0f7a4_21 : decode cJ6_bitCount_0f7a4 21 = .ok (.iand, 1) := by decide +kernel
theorem dJ6_bitCount_0f7a4_22 : decode cJ6_bitCount_0f7a4 22 = .ok (.iadd, 1) := by decide +kernel
theorem dJ6_bitCount_0f7a4_23 : decode cJ6_bitCount_0f7a4 23 = .ok (.istore_n 0, 1) := by decide +kernel
theorem dJ6_bitCount_0f7a4_24 : decode cJ6_bitCount_0f7a4 24 = .ok (.iload_n 0, 1) := by decide +kernel
theorem dJ6_bitCount_0f7a4_25 : decode cJ6_bitCount_0f7a4 25 = .ok (.iload_n 0, 1) := by decide +kernel
theorem dJ6_bitCount_0f7a4_26 : decode cJ6_bitCount_0f7a4 26 = .ok (.iconst 4, 1) := by decide +kernel
theorem dJ6_bitCount_0f7a4_27 : decode cJ6_bitCount_0f7a4 27 = .ok (.iushr, 1) := by decide +kernel
theorem dJ6_bitCount_0f7a4_28 : decode cJ6_bitCount_0f7a4 28 = .ok (.iadd, 1) := by decide +kernel
theorem dJ6_bitCount_0f7a4_29 : decode cJ6_bitCount_0f7a4 29 = .ok (.ldc_w 267, 3) := by decide +kernel
theorem dJ6_bitCount_0f7a4_32 : decode cJ6_bitCount_0f7a4 32 = .ok (.iand, 1) := by decide +kernel
theorem dJ6_bitCount_0f7a4_33 : decode cJ6_bitCount_0f7a4 33 = .ok (.istore_n 0, 1) := by decide +kernel
theorem dJ6_bitCount_0f7a4_34 : decode cJ6_bitCount_0f7a4 34 = .ok (.iload_n 0, 1) := by decide +kernel
theorem dJ6_bitCount_0f7a4_35 : decode cJ6_bitCount_0f7a4 35 = .ok (.iload_n 0, 1) := by decide +kernel
theorem dJ6_bitCount_0f7a4_36 : decode cJ6_bitCount_0f7a4 36 = .ok (.bipush 8, 2) := by decide +kernel
theorem dJ6_bitCount_0f7a4_38 : decode cJ6_bitCount_0f7a4 38 = .ok (.iushr, 1) := by decide +kernel
theorem dJ6_bitCount_0f7a4_39 : decode cJ6_bitCount_0f7a4 39 = .ok (.iadd, 1) := by decide +kernel
theorem dJ6_bitCount_0f7a4_40 : decode cJ6_bitCount_0f7a4 40 = .ok (.istore_n 0, 1) := by decide +kernel
theorem dJ6_bitCount_0f7a4_41 : decode cJ6_bitCount_0f7a4 41 = .ok (.iload_n 0, 1) := by decide +kernel
theorem dJ6_bitCount_0f7a4_42 : decode cJ6_bitCount_0f7a4 42 = .ok (.iload_n 0, 1) := by decide +kernel
theorem dJ6_bitCount_0f7a4_43 : decode cJ6_bitCount_0f7a4 43 = .ok (.bipush 16, 2) := by decide +kernel
theorem dJ6_bitCount_0f7a4_45 : decode cJ6_bitCount_0f7a4 45 = .ok (.iushr, 1) := by decide +kernel
theorem dJ6_bitCount_0f7a4_46 : decode cJ6_bitCount_0f7a4 46 = .ok (.iadd, 1) := by decide +kernel
theorem dJ6_bitCount_0f7a4_47 : decode cJ6_bitCount_0f7a4 47 = .ok (.istore_n 0, 1) := by decide +kernel
theorem dJ6_bitCount_0f7a4_48 : decode cJ6_bitCount_0f7a4 48 = .ok (.iload_n 0, 1) := by decide +kernel
theorem dJ6_bitCount_0f7a4_49 : decode cJ6_bitCount_0f7a4 49 = .ok (.bipush 63, 2) := by decide +kernel
theorem dJ6_bitCount_0f7a4_51 : decode cJ6_bitCount_0f7a4 51 = .ok (.iand, 1) := by decide +kernel
theorem dJ6_bitCount_0f7a4_52 : decode cJ6_bitCount_0f7a4 52 = .ok (.ireturn, 1) := by decide +kernel
theorem dJ9_max_7cf53_0 : decode cJ9_max_7cf53 0 = .ok (.iload_n 0, 1) := by decide +kernel
theorem dJ9_max_7cf53_1 : decode cJ9_max_7cf53 1 = .ok (.iload_n 1, 1) := by decide +kernel
theorem dJ9_max_7cf53_2 : decode cJ9_max_7cf53 2 = .ok (.if_icmp .lt 7, 3) := by decide +kernel
theorem dJ9_max_7cf53_5 : decode cJ9_max_7cf53 5 = .ok (.iload_n 0, 1) := by decide +kernel
theorem dJ9_max_7cf53_6 : decode cJ9_max_7cf53 6 = .ok (.goto 4, 3) := by decide +kernel
theorem dJ9_max_7cf53_9 : decode cJ9_max_7cf53 9 = .ok (.iload_n 1, 1) := by decide +kernel
theorem dJ9_max_7cf53_10 : decode cJ9_max_7cf53 10 = .ok (.ireturn, 1) := by decide +kernel
theorem dJ7_fill_53178_0 : decode cJ7_fill_53178 0 = .ok (.iconst 0, 1) := by decide +kernel
theorem dJ7_fill_53178_1 : decode cJ7_fill_53178 1 = .ok (.istore_n 2, 1) := by decide +kernel
theorem dJ7_fill_53178_2 : decode cJ7_fill_53178 2 = .ok (.aload_n 0, 1) := by decide +kernel
theorem dJ7_fill_53178_3 : decode cJ7_fill_53178 3 = .ok (.arraylength, 1) := by decide +kernel
theorem dJ7_fill_53178_4 : decode cJ7_fill_53178 4 = .ok (.istore_n 3, 1) := by decide +kernel
theorem dJ7_fill_53178_5 : decode cJ7_fill_53178 5 = .ok (.iload_n 2, 1) := by decide +kernel
theorem dJ7_fill_53178_6 : decode cJ7_fill_53178 6 = .ok (.iload_n 3, 1) := by decide +kernel
theorem dJ7_fill_53178_7 : decode cJ7_fill_53178 7 = .ok (.if_icmp .ge 13, 3) := by decide +kernel
theorem dJ7_fill_53178_10 : decode cJ7_fill_53178 10 = .ok (.aload_n 0, 1) := by decide +kernel
theorem dJ7_fill_53178_11 : decode cJ7_fill_53178 11 = .ok (.iload_n 2, 1) := by decide +kernel
theorem dJ7_fill_53178_12 : decode cJ7_fill_53178 12 = .ok (.iload_n 1, 1) := by decide +kernel
theorem dJ7_fill_53178_13 : decode cJ7_fill_53178 13 = .ok (.iastore, 1) := by decide +kernel
theorem dJ7_fill_53178_14 : decode cJ7_fill_53178 14 = .ok (.iinc 2 1, 3) := by decide +kernel
theorem dJ7_fill_53178_17 : decode cJ7_fill_53178 17 = .ok (.goto (-12), 3) := by decide +kernel
theorem dJ7_fill_53178_20 : decode cJ7_fill_53178 20 = .ok (.return_, 1) := by decide +kernel
end
section
/-! LINKS: for each method its data (m..), the words of its fields (j.., l..) and calls (k..); a row for each field and array -/
def rmD (d : Nat) : Room := { frames := d, cells := 0, slots := 0, locals := 40 * d }
abbrev mX0_copyFrom : MI := (cX0_copyFrom, RX0, wsX0_copyFrom, 2, rmD 1, none)
theorem jX0_copyFrom_X0 : ∀ w ∈ wsX00, w ∈ mW mX0_copyFrom := by decide +kernel
theorem lX0_copyFrom_9 : Cond.fieldLink (mO mX0_copyFrom) 9 (TX0 1).1 (TX0 1).2.1 (TX0 1).2.2.1 ∈ mW mX0_copyFrom := by decide +kernel
theorem lX0_copyFrom_15 : Cond.fieldLink (mO mX0_copyFrom) 15 (TX0 2).1 (TX0 2).2.1 (TX0 2).2.2.1 ∈ mW mX0_copyFrom := by decide +kernel
theorem lX0_copyFrom_18 : Cond.fieldLink (mO mX0_copyFrom) 18 (TX0 0).1 (TX0 0).2.1 (TX0 0).2.2.1 ∈ mW mX0_copyFrom := by decide +kernel
abbrev mX0_lay : MI := (cX0_lay, RX0, wsX0_lay, 4, rmD 0, (some .boolean))
theorem jX0_lay_X0 : ∀ w ∈ wsX00, w ∈ mW mX0_lay := by decide +kernel
theorem lX0_lay_9 : Cond.fieldLink (mO mX0_lay) 9 (TX0 1).1 (TX0 1).2.1 (TX0 1).2.2.1 ∈ mW mX0_lay := by decide +kernel
theorem lX0_lay_15 : Cond.fieldLink (mO mX0_lay) 15 (TX0 2).1 (TX0 2).2.1 (TX0 2).2.2.1 ∈ mW mX0_lay := by decide +kernel
abbrev mX0_shift : MI := (cX0_shift, RX0, wsX0_shift, 3, rmD 0, none)
theorem jX0_shift_X0 : ∀ w ∈ wsX00, w ∈ mW mX0_shift := by decide +kernel
theorem lX0_shift_9 : Cond.fieldLink (mO mX0_shift) 9 (TX0 1).1 (TX0 1).2.1 (TX0 1).2.2.1 ∈ mW mX0_shift := by decide +kernel
theorem lX0_shift_15 : Cond.fieldLink (mO mX0_shift) 15 (TX0 2).1 (TX0 2).2.1 (TX0 2).2.2.1 ∈ mW mX0_shift := by decide +kernel
abbrev mX0_size : MI := (cX0_size, RX0, wsX0_size, 2, rmD 0, (some .int))
theorem jX0_size_X0 : ∀ w ∈ wsX00, w ∈ mW mX0_size := by decide +kernel
theorem lX0_size_9 : Cond.fieldLink (mO mX0_size) 9 (TX0 1).1 (TX0 1).2.1 (TX0 1).2.2.1 ∈ mW mX0_size := by decide +kernel
theorem lX0_size_15 : Cond.fieldLink (mO mX0_size) 15 (TX0 2).1 (TX0 2).2.1 (TX0 2).2.2.1 ∈ mW mX0_size := by decide +kernel
abbrev mX0_volume : MI := (cX0_volume, RX0, wsX0_volume, 1, rmD 1, (some .int))
theorem kX0_volume_28 : CoV mX0_volume 28 RX0 yX0_size wsX0_size (rmD 0) 1 := ⟨_, _, _, _, gX0_volume_X0_size, rfl, by decide +kernel, ⟨Nat.le_of_ble_eq_true rfl, Nat.le_of_ble_eq_true rfl⟩, rfl, rfl⟩
abbrev mX0_sumOfCorner : MI := (cX0_sumOfCorner, RX0, wsX0_sumOfCorner, 1, rmD 0, (some .int))
theorem jX0_sumOfCorner_X0 : ∀ w ∈ wsX00, w ∈ mW mX0_sumOfCorner := by decide +kernel
theorem lX0_sumOfCorner_9 : Cond.fieldLink (mO mX0_sumOfCorner) 9 (TX0 1).1 (TX0 1).2.1 (TX0 1).2.2.1 ∈ mW mX0_sumOfCorner := by decide +kernel
abbrev mX0_longestDirection : MI := (cX0_longestDirection, RX0, wsX0_longestDirection, 3, rmD 1, (some .int))
theorem kX0_longestDirection_28 : CoV mX0_longestDirection 28 RX0 yX0_size wsX0_size (rmD 0) 1 := ⟨_, _, _, _, gX0_longestDirection_X0_size, rfl, by decide +kernel, ⟨Nat.le_of_ble_eq_true rfl, Nat.le_of_ble_eq_true rfl⟩, rfl, rfl⟩
abbrev mX0_meets : MI := (cX0_meets, RX0, wsX0_meets, 3, rmD 0, (some .boolean))
theorem jX0_meets_X0 : ∀ w ∈ wsX00, w ∈ mW mX0_meets := by decide +kernel
theorem lX0_meets_9 : Cond.fieldLink (mO mX0_meets) 9 (TX0 1).1 (TX0 1).2.1 (TX0 1).2.2.1 ∈ mW mX0_meets := by decide +kernel
theorem lX0_meets_15 : Cond.fieldLink (mO mX0_meets) 15 (TX0 2).1 (TX0 2).2.1 (TX0 2).2.2.1 ∈ mW mX0_meets := by decide +kernel
abbrev mX0_cuts : MI := (cX0_cuts, RX0, wsX0_cuts, 2, rmD 1, (some .boolean))
theorem kX0_cuts_32 : CoV mX0_cuts 32 RX0 yX0_meets wsX0_meets (rmD 0) 2 := ⟨_, _, _, _, gX0_cuts_X0_meets, rfl, by decide +kernel, ⟨Nat.le_of_ble_eq_true rfl, Nat.le_of_ble_eq_true rfl⟩, rfl, rfl⟩
abbrev mX0_meetsInDifference : MI := (cX0_meetsInDifference, RX0, wsX0_meetsInDifference, 4, rmD 0, (some .boolean))
theorem jX0_meetsInDifference_X0 : ∀ w ∈ wsX00, w ∈ mW mX0_meetsInDifference := by decide +kernel
theorem lX0_meetsInDifference_9 : Cond.fieldLink (mO mX0_meetsInDifference) 9 (TX0 1).1 (TX0 1).2.1 (TX0 1).2.2.1 ∈ mW mX0_meetsInDifference := by decide +kernel
theorem lX0_meetsInDifference_15 : Cond.fieldLink (mO mX0_meetsInDifference) 15 (TX0 2).1 (TX0 2).2.1 (TX0 2).2.2.1 ∈ mW mX0_meetsInDifference := by decide +kernel
abbrev mX0_overlapsOutlineOf : MI := (cX0_overlapsOutlineOf, RX0, wsX0_overlapsOutlineOf, 2, rmD 1, (some .boolean))
theorem kX0_overlapsOutlineOf_36 : CoV mX0_overlapsOutlineOf 36 RX0 yX0_meetsInDifference wsX0_meetsInDifference (rmD 0) 3 := ⟨_, _, _, _, gX0_overlapsOutlineOf_X0_meetsInDifference, rfl, by decide +kernel, ⟨Nat.le_of_ble_eq_true rfl, Nat.le_of_ble_eq_true rfl⟩, rfl, rfl⟩
abbrev mX0_directionOfHiding : MI := (cX0_directionOfHiding, RX0, wsX0_directionOfHiding, 3, rmD 2, (some .int))
theorem jX0_directionOfHiding_X0 : ∀ w ∈ wsX00, w ∈ mW mX0_directionOfHiding := by decide +kernel
theorem lX0_directionOfHiding_9 : Cond.fieldLink (mO mX0_directionOfHiding) 9 (TX0 1).1 (TX0 1).2.1 (TX0 1).2.2.1 ∈ mW mX0_directionOfHiding := by decide +kernel
theorem lX0_directionOfHiding_15 : Cond.fieldLink (mO mX0_directionOfHiding) 15 (TX0 2).1 (TX0 2).2.1 (TX0 2).2.2.1 ∈ mW mX0_directionOfHiding := by decide +kernel
theorem kX0_directionOfHiding_40 : CoV mX0_directionOfHiding 40 RX0 yX0_overlapsOutlineOf wsX0_overlapsOutlineOf (rmD 1) 1 := ⟨_, _, _, _, gX0_directionOfHiding_X0_overlapsOutlineOf, rfl, by decide +kernel, ⟨Nat.le_of_ble_eq_true rfl, Nat.le_of_ble_eq_true rfl⟩, rfl, rfl⟩
abbrev mX0_isBelow : MI := (cX0_isBelow, RX0, wsX0_isBelow, 2, rmD 1, (some .boolean))
theorem jX0_isBelow_X0 : ∀ w ∈ wsX00, w ∈ mW mX0_isBelow := by decide +kernel
theorem lX0_isBelow_9 : Cond.fieldLink (mO mX0_isBelow) 9 (TX0 1).1 (TX0 1).2.1 (TX0 1).2.2.1 ∈ mW mX0_isBelow := by decide +kernel
theorem lX0_isBelow_15 : Cond.fieldLink (mO mX0_isBelow) 15 (TX0 2).1 (TX0 2).2.1 (TX0 2).2.2.1 ∈ mW mX0_isBelow := by decide +kernel
theorem kX0_isBelow_32 : CoV mX0_isBelow 32 RX0 yX0_meets wsX0_meets (rmD 0) 2 := ⟨_, _, _, _, gX0_isBelow_X0_meets, rfl, by decide +kernel, ⟨Nat.le_of_ble_eq_true rfl, Nat.le_of_ble_eq_true rfl⟩, rfl, rfl⟩
abbrev mX0_coversRow : MI := (cX0_coversRow, RX0, wsX0_coversRow, 2, rmD 0, (some .boolean))
theorem jX0_coversRow_X0 : ∀ w ∈ wsX00, w ∈ mW mX0_coversRow := by decide +kernel
theorem lX0_coversRow_9 : Cond.fieldLink (mO mX0_coversRow) 9 (TX0 1).1 (TX0 1).2.1 (TX0 1).2.2.1 ∈ mW mX0_coversRow := by decide +kernel
theorem lX0_coversRow_15 : Cond.fieldLink (mO mX0_coversRow) 15 (TX0 2).1 (TX0 2).2.1 (TX0 2).2.2.1 ∈ mW mX0_coversRow := by decide +kernel
abbrev mX0_rowOfCells : MI := (cX0_rowOfCells, RX0, wsX0_rowOfCells, 1, rmD 1, (some .int))
theorem jX0_rowOfCells_X0 : ∀ w ∈ wsX00, w ∈ mW mX0_rowOfCells := by decide +kernel
theorem lX0_rowOfCells_9 : Cond.fieldLink (mO mX0_rowOfCells) 9 (TX0 1).1 (TX0 1).2.1 (TX0 1).2.2.1 ∈ mW mX0_rowOfCells := by decide +kernel
theorem kX0_rowOfCells_28 : CoV mX0_rowOfCells 28 RX0 yX0_size wsX0_size (rmD 0) 1 := ⟨_, _, _, _, gX0_rowOfCells_X0_size, rfl, by decide +kernel, ⟨Nat.le_of_ble_eq_true rfl, Nat.le_of_ble_eq_true rfl⟩, rfl, rfl⟩
abbrev mX1_remember : MI := (cX1_remember, RX1, wsX1_remember, 2, rmD 3, none)
theorem jX1_remember_X1 : ∀ w ∈ wsX10, w ∈ mW mX1_remember := by decide +kernel
theorem lX1_remember_11 : Cond.fieldLink (mO mX1_remember) 11 (TX1 0).1 (TX1 0).2.1 (TX1 0).2.2.1 ∈ mW mX1_remember := by decide +kernel
theorem lX1_remember_18 : Cond.fieldLink (mO mX1_remember) 18 (TX1 1).1 (TX1 1).2.1 (TX1 1).2.2.1 ∈ mW mX1_remember := by decide +kernel
theorem kX1_remember_22 : CoV mX1_remember 22 RX1 yX1_dropOldest wsX1_dropOldest (rmD 0) 0 := ⟨_, _, _, _, gX1_remember_X1_dropOldest, rfl, by decide +kernel, ⟨Nat.le_of_ble_eq_true rfl, Nat.le_of_ble_eq_true rfl⟩, rfl, rfl⟩
theorem kX1_remember_25 : CoV mX1_remember 25 RX3 yX3_copyFrom wsX3_copyFrom (rmD 2) 1 := ⟨_, _, _, _, gX1_remember_X3_copyFrom, rfl, by decide +kernel, ⟨Nat.le_of_ble_eq_true rfl, Nat.le_of_ble_eq_true rfl⟩, rfl, rfl⟩
abbrev mX1_dropOldest : MI := (cX1_dropOldest, RX1, wsX1_dropOldest, 3, rmD 0, none)
theorem jX1_dropOldest_X1 : ∀ w ∈ wsX10, w ∈ mW mX1_dropOldest := by decide +kernel
theorem lX1_dropOldest_11 : Cond.fieldLink (mO mX1_dropOldest) 11 (TX1 0).1 (TX1 0).2.1 (TX1 0).2.2.1 ∈ mW mX1_dropOldest := by decide +kernel
theorem lX1_dropOldest_18 : Cond.fieldLink (mO mX1_dropOldest) 18 (TX1 1).1 (TX1 1).2.1 (TX1 1).2.2.1 ∈ mW mX1_dropOldest := by decide +kernel
abbrev mX2_look : MI := (cX2_look, RX2, wsX2_look, 3, rmD 5, none)
theorem jX2_look_X2 : ∀ w ∈ wsX20, w ∈ mW mX2_look := by decide +kernel
theorem jX2_look_X3 : ∀ w ∈ wsX30, w ∈ mW mX2_look := by decide +kernel
theorem lX2_look_9 : Cond.fieldLink (mO mX2_look) 9 (TX2 1).1 (TX2 1).2.1 (TX2 1).2.2.1 ∈ mW mX2_look := by decide +kernel
theorem lX2_look_24 : Cond.fieldLink (mO mX2_look) 24 (TX3 1).1 (TX3 1).2.1 (TX3 1).2.2.1 ∈ mW mX2_look := by decide +kernel
theorem lX2_look_30 : Cond.fieldLink (mO mX2_look) 30 (TX2 0).1 (TX2 0).2.1 (TX2 0).2.2.1 ∈ mW mX2_look := by decide +kernel
theorem kX2_look_31 : CoS mX2_look 31 yX2_bitsHiddenBy wsX2_bitsHiddenBy (rmD 3) 2 := ⟨_, _, _, _, gX2_look_X2_bitsHiddenBy, rfl, by decide +kernel, ⟨Nat.le_of_ble_eq_true rfl, Nat.le_of_ble_eq_true rfl⟩, rfl, rfl⟩
theorem kX2_look_35 : CoV mX2_look 35 RX2 yX2_followChains wsX2_followChains (rmD 1) 0 := ⟨_, _, _, _, gX2_look_X2_followChains, rfl, by decide +kernel, ⟨Nat.le_of_ble_eq_true rfl, Nat.le_of_ble_eq_true rfl⟩, rfl, rfl⟩
theorem kX2_look_38 : CoV mX2_look 38 RX2 yX2_draw wsX2_draw (rmD 4) 1 := ⟨_, _, _, _, gX2_look_X2_draw, rfl, by decide +kernel, ⟨Nat.le_of_ble_eq_true rfl, Nat.le_of_ble_eq_true rfl⟩, rfl, rfl⟩
abbrev mX2_bitsHiddenBy : MI := (cX2_bitsHiddenBy, RX2, wsX2_bitsHiddenBy, 4, rmD 3, (some .int))
theorem jX2_bitsHiddenBy_X3 : ∀ w ∈ wsX30, w ∈ mW mX2_bitsHiddenBy := by decide +kernel
theorem lX2_bitsHiddenBy_24 : Cond.fieldLink (mO mX2_bitsHiddenBy) 24 (TX3 1).1 (TX3 1).2.1 (TX3 1).2.2.1 ∈ mW mX2_bitsHiddenBy := by decide +kernel
theorem lX2_bitsHiddenBy_42 : Cond.fieldLink (mO mX2_bitsHiddenBy) 42 (TX3 0).1 (TX3 0).2.1 (TX3 0).2.2.1 ∈ mW mX2_bitsHiddenBy := by decide +kernel
theorem kX2_bitsHiddenBy_46 : CoV mX2_bitsHiddenBy 46 RX0 yX0_directionOfHiding wsX0_directionOfHiding (rmD 2) 1 := ⟨_, _, _, _, gX2_bitsHiddenBy_X0_directionOfHiding, rfl, by decide +kernel, ⟨Nat.le_of_ble_eq_true rfl, Nat.le_of_ble_eq_true rfl⟩, rfl, rfl⟩
abbrev mX2_hasBit : MI := (cX2_hasBit, RX2, wsX2_hasBit, 2, rmD 0, (some .boolean))
abbrev mX2_followChains : MI := (cX2_followChains, RX2, wsX2_followChains, 3, rmD 1, none)
theorem jX2_followChains_X2 : ∀ w ∈ wsX20, w ∈ mW mX2_followChains := by decide +kernel
theorem lX2_followChains_9 : Cond.fieldLink (mO mX2_followChains) 9 (TX2 1).1 (TX2 1).2.1 (TX2 1).2.2.1 ∈ mW mX2_followChains := by decide +kernel
theorem lX2_followChains_15 : Cond.fieldLink (mO mX2_followChains) 15 (TX2 2).1 (TX2 2).2.1 (TX2 2).2.2.1 ∈ mW mX2_followChains := by decide +kernel
theorem lX2_followChains_30 : Cond.fieldLink (mO mX2_followChains) 30 (TX2 0).1 (TX2 0).2.1 (TX2 0).2.2.1 ∈ mW mX2_followChains := by decide +kernel
theorem kX2_followChains_58 : CoS mX2_followChains 58 yX2_hasBit wsX2_hasBit (rmD 0) 2 := ⟨_, _, _, _, gX2_followChains_X2_hasBit, rfl, by decide +kernel, ⟨Nat.le_of_ble_eq_true rfl, Nat.le_of_ble_eq_true rfl⟩, rfl, rfl⟩
abbrev mX2_draw : MI := (cX2_draw, RX2, wsX2_draw, 4, rmD 4, none)
theorem jX2_draw_X2 : ∀ w ∈ wsX20, w ∈ mW mX2_draw := by decide +kernel
theorem lX2_draw_9 : Cond.fieldLink (mO mX2_draw) 9 (TX2 1).1 (TX2 1).2.1 (TX2 1).2.2.1 ∈ mW mX2_draw := by decide +kernel
theorem lX2_draw_18 : Cond.fieldLink (mO mX2_draw) 18 (TX2 3).1 (TX2 3).2.1 (TX2 3).2.2.1 ∈ mW mX2_draw := by decide +kernel
theorem lX2_draw_21 : Cond.fieldLink (mO mX2_draw) 21 (TX2 6).1 (TX2 6).2.1 (TX2 6).2.2.1 ∈ mW mX2_draw := by decide +kernel
theorem lX2_draw_30 : Cond.fieldLink (mO mX2_draw) 30 (TX2 0).1 (TX2 0).2.1 (TX2 0).2.2.1 ∈ mW mX2_draw := by decide +kernel
theorem lX2_draw_68 : Cond.fieldLink (mO mX2_draw) 68 (TX2 4).1 (TX2 4).2.1 (TX2 4).2.2.1 ∈ mW mX2_draw := by decide +kernel
theorem lX2_draw_71 : Cond.fieldLink (mO mX2_draw) 71 (TX2 5).1 (TX2 5).2.1 (TX2 5).2.2.1 ∈ mW mX2_draw := by decide +kernel
theorem kX2_draw_62 : CoS mX2_draw 62 yJ7_fill_53178 wsJ7_fill_53178 (rmD 0) 2 := ⟨_, _, _, _, gX2_draw_J7_fill_53178, rfl, by decide +kernel, ⟨Nat.le_of_ble_eq_true rfl, Nat.le_of_ble_eq_true rfl⟩, rfl, rfl⟩
theorem kX2_draw_74 : CoV mX2_draw 74 RX2 yX2_nextToDraw wsX2_nextToDraw (rmD 3) 1 := ⟨_, _, _, _, gX2_draw_X2_nextToDraw, rfl, by decide +kernel, ⟨Nat.le_of_ble_eq_true rfl, Nat.le_of_ble_eq_true rfl⟩, rfl, rfl⟩
theorem kX2_draw_78 : CoV mX2_draw 78 RX2 yX2_layerAbove wsX2_layerAbove (rmD 1) 1 := ⟨_, _, _, _, gX2_draw_X2_layerAbove, rfl, by decide +kernel, ⟨Nat.le_of_ble_eq_true rfl, Nat.le_of_ble_eq_true rfl⟩, rfl, rfl⟩
abbrev mX2_nextToDraw : MI := (cX2_nextToDraw, RX2, wsX2_nextToDraw, 5, rmD 3, (some .int))
theorem jX2_nextToDraw_X2 : ∀ w ∈ wsX20, w ∈ mW mX2_nextToDraw := by decide +kernel
theorem lX2_nextToDraw_9 : Cond.fieldLink (mO mX2_nextToDraw) 9 (TX2 1).1 (TX2 1).2.1 (TX2 1).2.2.1 ∈ mW mX2_nextToDraw := by decide +kernel
theorem lX2_nextToDraw_30 : Cond.fieldLink (mO mX2_nextToDraw) 30 (TX2 0).1 (TX2 0).2.1 (TX2 0).2.2.1 ∈ mW mX2_nextToDraw := by decide +kernel
theorem lX2_nextToDraw_68 : Cond.fieldLink (mO mX2_nextToDraw) 68 (TX2 4).1 (TX2 4).2.1 (TX2 4).2.2.1 ∈ mW mX2_nextToDraw := by decide +kernel
theorem kX2_nextToDraw_58 : CoS mX2_nextToDraw 58 yX2_hasBit wsX2_hasBit (rmD 0) 2 := ⟨_, _, _, _, gX2_nextToDraw_X2_hasBit, rfl, by decide +kernel, ⟨Nat.le_of_ble_eq_true rfl, Nat.le_of_ble_eq_true rfl⟩, rfl, rfl⟩
theorem kX2_nextToDraw_82 : CoV mX2_nextToDraw 82 RX3 yX3_weightInDrawing wsX3_weightInDrawing (rmD 2) 1 := ⟨_, _, _, _, gX2_nextToDraw_X3_weightInDrawing, rfl, by decide +kernel, ⟨Nat.le_of_ble_eq_true rfl, Nat.le_of_ble_eq_true rfl⟩, rfl, rfl⟩
abbrev mX2_layerAbove : MI := (cX2_layerAbove, RX2, wsX2_layerAbove, 4, rmD 1, (some .int))
theorem jX2_layerAbove_X2 : ∀ w ∈ wsX20, w ∈ mW mX2_layerAbove := by decide +kernel
theorem lX2_layerAbove_21 : Cond.fieldLink (mO mX2_layerAbove) 21 (TX2 6).1 (TX2 6).2.1 (TX2 6).2.2.1 ∈ mW mX2_layerAbove := by decide +kernel
theorem lX2_layerAbove_30 : Cond.fieldLink (mO mX2_layerAbove) 30 (TX2 0).1 (TX2 0).2.1 (TX2 0).2.2.1 ∈ mW mX2_layerAbove := by decide +kernel
theorem kX2_layerAbove_58 : CoS mX2_layerAbove 58 yX2_hasBit wsX2_hasBit (rmD 0) 2 := ⟨_, _, _, _, gX2_layerAbove_X2_hasBit, rfl, by decide +kernel, ⟨Nat.le_of_ble_eq_true rfl, Nat.le_of_ble_eq_true rfl⟩, rfl, rfl⟩
abbrev mX2_hiddenBy : MI := (cX2_hiddenBy, RX2, wsX2_hiddenBy, 2, rmD 1, (some .int))
theorem jX2_hiddenBy_X2 : ∀ w ∈ wsX20, w ∈ mW mX2_hiddenBy := by decide +kernel
theorem lX2_hiddenBy_9 : Cond.fieldLink (mO mX2_hiddenBy) 9 (TX2 1).1 (TX2 1).2.1 (TX2 1).2.2.1 ∈ mW mX2_hiddenBy := by decide +kernel
theorem kX2_hiddenBy_91 : CoS mX2_hiddenBy 91 yJ6_bitCount_0f7a4 wsJ6_bitCount_0f7a4 (rmD 0) 1 := ⟨_, _, _, _, gX2_hiddenBy_J6_bitCount_0f7a4, rfl, by decide +kernel, ⟨Nat.le_of_ble_eq_true rfl, Nat.le_of_ble_eq_true rfl⟩, rfl, rfl⟩
abbrev mX2_hidersOf : MI := (cX2_hidersOf, RX2, wsX2_hidersOf, 4, rmD 1, (some .int))
theorem jX2_hidersOf_X2 : ∀ w ∈ wsX20, w ∈ mW mX2_hidersOf := by decide +kernel
theorem lX2_hidersOf_9 : Cond.fieldLink (mO mX2_hidersOf) 9 (TX2 1).1 (TX2 1).2.1 (TX2 1).2.2.1 ∈ mW mX2_hidersOf := by decide +kernel
theorem lX2_hidersOf_30 : Cond.fieldLink (mO mX2_hidersOf) 30 (TX2 0).1 (TX2 0).2.1 (TX2 0).2.2.1 ∈ mW mX2_hidersOf := by decide +kernel
theorem kX2_hidersOf_58 : CoS mX2_hidersOf 58 yX2_hasBit wsX2_hasBit (rmD 0) 2 := ⟨_, _, _, _, gX2_hidersOf_X2_hasBit, rfl, by decide +kernel, ⟨Nat.le_of_ble_eq_true rfl, Nat.le_of_ble_eq_true rfl⟩, rfl, rfl⟩
abbrev mX2_hidings : MI := (cX2_hidings, RX2, wsX2_hidings, 3, rmD 2, (some .int))
theorem jX2_hidings_X2 : ∀ w ∈ wsX20, w ∈ mW mX2_hidings := by decide +kernel
theorem lX2_hidings_30 : Cond.fieldLink (mO mX2_hidings) 30 (TX2 0).1 (TX2 0).2.1 (TX2 0).2.2.1 ∈ mW mX2_hidings := by decide +kernel
theorem kX2_hidings_96 : CoV mX2_hidings 96 RX2 yX2_hiddenBy wsX2_hiddenBy (rmD 1) 1 := ⟨_, _, _, _, gX2_hidings_X2_hiddenBy, rfl, by decide +kernel, ⟨Nat.le_of_ble_eq_true rfl, Nat.le_of_ble_eq_true rfl⟩, rfl, rfl⟩
abbrev mX2_hidingsNotIn : MI := (cX2_hidingsNotIn, RX2, wsX2_hidingsNotIn, 4, rmD 1, (some .int))
theorem jX2_hidingsNotIn_X2 : ∀ w ∈ wsX20, w ∈ mW mX2_hidingsNotIn := by decide +kernel
theorem lX2_hidingsNotIn_9 : Cond.fieldLink (mO mX2_hidingsNotIn) 9 (TX2 1).1 (TX2 1).2.1 (TX2 1).2.2.1 ∈ mW mX2_hidingsNotIn := by decide +kernel
theorem lX2_hidingsNotIn_30 : Cond.fieldLink (mO mX2_hidingsNotIn) 30 (TX2 0).1 (TX2 0).2.1 (TX2 0).2.2.1 ∈ mW mX2_hidingsNotIn := by decide +kernel
theorem kX2_hidingsNotIn_91 : CoS mX2_hidingsNotIn 91 yJ6_bitCount_0f7a4 wsJ6_bitCount_0f7a4 (rmD 0) 1 := ⟨_, _, _, _, gX2_hidingsNotIn_J6_bitCount_0f7a4, rfl, by decide +kernel, ⟨Nat.le_of_ble_eq_true rfl, Nat.le_of_ble_eq_true rfl⟩, rfl, rfl⟩
abbrev mX2_slotDrawn : MI := (cX2_slotDrawn, RX2, wsX2_slotDrawn, 2, rmD 0, (some .int))
theorem jX2_slotDrawn_X2 : ∀ w ∈ wsX20, w ∈ mW mX2_slotDrawn := by decide +kernel
theorem lX2_slotDrawn_18 : Cond.fieldLink (mO mX2_slotDrawn) 18 (TX2 3).1 (TX2 3).2.1 (TX2 3).2.2.1 ∈ mW mX2_slotDrawn := by decide +kernel
theorem lX2_slotDrawn_71 : Cond.fieldLink (mO mX2_slotDrawn) 71 (TX2 5).1 (TX2 5).2.1 (TX2 5).2.2.1 ∈ mW mX2_slotDrawn := by decide +kernel
abbrev mX2_greatestLayer : MI := (cX2_greatestLayer, RX2, wsX2_greatestLayer, 3, rmD 1, (some .int))
theorem jX2_greatestLayer_X2 : ∀ w ∈ wsX20, w ∈ mW mX2_greatestLayer := by decide +kernel
theorem lX2_greatestLayer_21 : Cond.fieldLink (mO mX2_greatestLayer) 21 (TX2 6).1 (TX2 6).2.1 (TX2 6).2.2.1 ∈ mW mX2_greatestLayer := by decide +kernel
theorem lX2_greatestLayer_30 : Cond.fieldLink (mO mX2_greatestLayer) 30 (TX2 0).1 (TX2 0).2.1 (TX2 0).2.2.1 ∈ mW mX2_greatestLayer := by decide +kernel
abbrev mX2_firstNotDrawnUnder : MI := (cX2_firstNotDrawnUnder, RX2, wsX2_firstNotDrawnUnder, 3, rmD 1, (some .int))
theorem jX2_firstNotDrawnUnder_X2 : ∀ w ∈ wsX20, w ∈ mW mX2_firstNotDrawnUnder := by decide +kernel
theorem lX2_firstNotDrawnUnder_9 : Cond.fieldLink (mO mX2_firstNotDrawnUnder) 9 (TX2 1).1 (TX2 1).2.1 (TX2 1).2.2.1 ∈ mW mX2_firstNotDrawnUnder := by decide +kernel
theorem lX2_firstNotDrawnUnder_30 : Cond.fieldLink (mO mX2_firstNotDrawnUnder) 30 (TX2 0).1 (TX2 0).2.1 (TX2 0).2.2.1 ∈ mW mX2_firstNotDrawnUnder := by decide +kernel
theorem lX2_firstNotDrawnUnder_68 : Cond.fieldLink (mO mX2_firstNotDrawnUnder) 68 (TX2 4).1 (TX2 4).2.1 (TX2 4).2.2.1 ∈ mW mX2_firstNotDrawnUnder := by decide +kernel
theorem kX2_firstNotDrawnUnder_58 : CoS mX2_firstNotDrawnUnder 58 yX2_hasBit wsX2_hasBit (rmD 0) 2 := ⟨_, _, _, _, gX2_firstNotDrawnUnder_X2_hasBit, rfl, by decide +kernel, ⟨Nat.le_of_ble_eq_true rfl, Nat.le_of_ble_eq_true rfl⟩, rfl, rfl⟩
abbrev mX2_isInRing : MI := (cX2_isInRing, RX2, wsX2_isInRing, 2, rmD 1, (some .boolean))
theorem jX2_isInRing_X2 : ∀ w ∈ wsX20, w ∈ mW mX2_isInRing := by decide +kernel
theorem lX2_isInRing_15 : Cond.fieldLink (mO mX2_isInRing) 15 (TX2 2).1 (TX2 2).2.1 (TX2 2).2.2.1 ∈ mW mX2_isInRing := by decide +kernel
theorem kX2_isInRing_58 : CoS mX2_isInRing 58 yX2_hasBit wsX2_hasBit (rmD 0) 2 := ⟨_, _, _, _, gX2_isInRing_X2_hasBit, rfl, by decide +kernel, ⟨Nat.le_of_ble_eq_true rfl, Nat.le_of_ble_eq_true rfl⟩, rfl, rfl⟩
abbrev mX2_boxesInRings : MI := (cX2_boxesInRings, RX2, wsX2_boxesInRings, 3, rmD 2, (some .int))
theorem jX2_boxesInRings_X2 : ∀ w ∈ wsX20, w ∈ mW mX2_boxesInRings := by decide +kernel
theorem lX2_boxesInRings_30 : Cond.fieldLink (mO mX2_boxesInRings) 30 (TX2 0).1 (TX2 0).2.1 (TX2 0).2.2.1 ∈ mW mX2_boxesInRings := by decide +kernel
theorem kX2_boxesInRings_99 : CoV mX2_boxesInRings 99 RX2 yX2_isInRing wsX2_isInRing (rmD 1) 1 := ⟨_, _, _, _, gX2_boxesInRings_X2_isInRing, rfl, by decide +kernel, ⟨Nat.le_of_ble_eq_true rfl, Nat.le_of_ble_eq_true rfl⟩, rfl, rfl⟩
abbrev mX2_shortestRing : MI := (cX2_shortestRing, RX2, wsX2_shortestRing, 4, rmD 3, (some .int))
theorem jX2_shortestRing_X2 : ∀ w ∈ wsX20, w ∈ mW mX2_shortestRing := by decide +kernel
theorem lX2_shortestRing_30 : Cond.fieldLink (mO mX2_shortestRing) 30 (TX2 0).1 (TX2 0).2.1 (TX2 0).2.2.1 ∈ mW mX2_shortestRing := by decide +kernel
theorem kX2_shortestRing_103 : CoV mX2_shortestRing 103 RX2 yX2_shortestRingOf wsX2_shortestRingOf (rmD 2) 1 := ⟨_, _, _, _, gX2_shortestRing_X2_shortestRingOf, rfl, by decide +kernel, ⟨Nat.le_of_ble_eq_true rfl, Nat.le_of_ble_eq_true rfl⟩, rfl, rfl⟩
abbrev mX2_shortestRingOf : MI := (cX2_shortestRingOf, RX2, wsX2_shortestRingOf, 4, rmD 2, (some .int))
theorem jX2_shortestRingOf_X2 : ∀ w ∈ wsX20, w ∈ mW mX2_shortestRingOf := by decide +kernel
theorem lX2_shortestRingOf_9 : Cond.fieldLink (mO mX2_shortestRingOf) 9 (TX2 1).1 (TX2 1).2.1 (TX2 1).2.2.1 ∈ mW mX2_shortestRingOf := by decide +kernel
theorem lX2_shortestRingOf_30 : Cond.fieldLink (mO mX2_shortestRingOf) 30 (TX2 0).1 (TX2 0).2.1 (TX2 0).2.2.1 ∈ mW mX2_shortestRingOf := by decide +kernel
theorem kX2_shortestRingOf_58 : CoS mX2_shortestRingOf 58 yX2_hasBit wsX2_hasBit (rmD 0) 2 := ⟨_, _, _, _, gX2_shortestRingOf_X2_hasBit, rfl, by decide +kernel, ⟨Nat.le_of_ble_eq_true rfl, Nat.le_of_ble_eq_true rfl⟩, rfl, rfl⟩
theorem kX2_shortestRingOf_106 : CoV mX2_shortestRingOf 106 RX2 yX2_bitsHiddenByAll wsX2_bitsHiddenByAll (rmD 1) 1 := ⟨_, _, _, _, gX2_shortestRingOf_X2_bitsHiddenByAll, rfl, by decide +kernel, ⟨Nat.le_of_ble_eq_true rfl, Nat.le_of_ble_eq_true rfl⟩, rfl, rfl⟩
abbrev mX2_bitsHiddenByAll : MI := (cX2_bitsHiddenByAll, RX2, wsX2_bitsHiddenByAll, 4, rmD 1, (some .int))
theorem jX2_bitsHiddenByAll_X2 : ∀ w ∈ wsX20, w ∈ mW mX2_bitsHiddenByAll := by decide +kernel
theorem lX2_bitsHiddenByAll_9 : Cond.fieldLink (mO mX2_bitsHiddenByAll) 9 (TX2 1).1 (TX2 1).2.1 (TX2 1).2.2.1 ∈ mW mX2_bitsHiddenByAll := by decide +kernel
theorem lX2_bitsHiddenByAll_30 : Cond.fieldLink (mO mX2_bitsHiddenByAll) 30 (TX2 0).1 (TX2 0).2.1 (TX2 0).2.2.1 ∈ mW mX2_bitsHiddenByAll := by decide +kernel
theorem kX2_bitsHiddenByAll_58 : CoS mX2_bitsHiddenByAll 58 yX2_hasBit wsX2_hasBit (rmD 0) 2 := ⟨_, _, _, _, gX2_bitsHiddenByAll_X2_hasBit, rfl, by decide +kernel, ⟨Nat.le_of_ble_eq_true rfl, Nat.le_of_ble_eq_true rfl⟩, rfl, rfl⟩
abbrev mX2_greatestInRings : MI := (cX2_greatestInRings, RX2, wsX2_greatestInRings, 4, rmD 2, (some .int))
theorem jX2_greatestInRings_X2 : ∀ w ∈ wsX20, w ∈ mW mX2_greatestInRings := by decide +kernel
theorem jX2_greatestInRings_X3 : ∀ w ∈ wsX30, w ∈ mW mX2_greatestInRings := by decide +kernel
theorem lX2_greatestInRings_30 : Cond.fieldLink (mO mX2_greatestInRings) 30 (TX2 0).1 (TX2 0).2.1 (TX2 0).2.2.1 ∈ mW mX2_greatestInRings := by decide +kernel
theorem lX2_greatestInRings_42 : Cond.fieldLink (mO mX2_greatestInRings) 42 (TX3 0).1 (TX3 0).2.1 (TX3 0).2.2.1 ∈ mW mX2_greatestInRings := by decide +kernel
theorem kX2_greatestInRings_99 : CoV mX2_greatestInRings 99 RX2 yX2_isInRing wsX2_isInRing (rmD 1) 1 := ⟨_, _, _, _, gX2_greatestInRings_X2_isInRing, rfl, by decide +kernel, ⟨Nat.le_of_ble_eq_true rfl, Nat.le_of_ble_eq_true rfl⟩, rfl, rfl⟩
theorem kX2_greatestInRings_109 : CoV mX2_greatestInRings 109 RX0 yX0_volume wsX0_volume (rmD 1) 0 := ⟨_, _, _, _, gX2_greatestInRings_X0_volume, rfl, by decide +kernel, ⟨Nat.le_of_ble_eq_true rfl, Nat.le_of_ble_eq_true rfl⟩, rfl, rfl⟩
abbrev mX3_copyFrom : MI := (cX3_copyFrom, RX3, wsX3_copyFrom, 3, rmD 2, none)
theorem jX3_copyFrom_X3 : ∀ w ∈ wsX30, w ∈ mW mX3_copyFrom := by decide +kernel
theorem lX3_copyFrom_11 : Cond.fieldLink (mO mX3_copyFrom) 11 (TX3 0).1 (TX3 0).2.1 (TX3 0).2.2.1 ∈ mW mX3_copyFrom := by decide +kernel
theorem lX3_copyFrom_18 : Cond.fieldLink (mO mX3_copyFrom) 18 (TX3 1).1 (TX3 1).2.1 (TX3 1).2.2.1 ∈ mW mX3_copyFrom := by decide +kernel
theorem lX3_copyFrom_22 : Cond.fieldLink (mO mX3_copyFrom) 22 (TX3 2).1 (TX3 2).2.1 (TX3 2).2.2.1 ∈ mW mX3_copyFrom := by decide +kernel
theorem lX3_copyFrom_25 : Cond.fieldLink (mO mX3_copyFrom) 25 (TX3 3).1 (TX3 3).2.1 (TX3 3).2.2.1 ∈ mW mX3_copyFrom := by decide +kernel
theorem lX3_copyFrom_28 : Cond.fieldLink (mO mX3_copyFrom) 28 (TX3 4).1 (TX3 4).2.1 (TX3 4).2.2.1 ∈ mW mX3_copyFrom := by decide +kernel
theorem kX3_copyFrom_31 : CoV mX3_copyFrom 31 RX0 yX0_copyFrom wsX0_copyFrom (rmD 1) 1 := ⟨_, _, _, _, gX3_copyFrom_X0_copyFrom, rfl, by decide +kernel, ⟨Nat.le_of_ble_eq_true rfl, Nat.le_of_ble_eq_true rfl⟩, rfl, rfl⟩
abbrev mX3_isFull : MI := (cX3_isFull, RX3, wsX3_isFull, 1, rmD 0, (some .boolean))
theorem jX3_isFull_X3 : ∀ w ∈ wsX30, w ∈ mW mX3_isFull := by decide +kernel
theorem lX3_isFull_18 : Cond.fieldLink (mO mX3_isFull) 18 (TX3 1).1 (TX3 1).2.1 (TX3 1).2.2.1 ∈ mW mX3_isFull := by decide +kernel
abbrev mX3_slotOf : MI := (cX3_slotOf, RX3, wsX3_slotOf, 3, rmD 0, (some .int))
theorem jX3_slotOf_X0 : ∀ w ∈ wsX00, w ∈ mW mX3_slotOf := by decide +kernel
theorem jX3_slotOf_X3 : ∀ w ∈ wsX30, w ∈ mW mX3_slotOf := by decide +kernel
theorem lX3_slotOf_11 : Cond.fieldLink (mO mX3_slotOf) 11 (TX3 0).1 (TX3 0).2.1 (TX3 0).2.2.1 ∈ mW mX3_slotOf := by decide +kernel
theorem lX3_slotOf_18 : Cond.fieldLink (mO mX3_slotOf) 18 (TX3 1).1 (TX3 1).2.1 (TX3 1).2.2.1 ∈ mW mX3_slotOf := by decide +kernel
theorem lX3_slotOf_35 : Cond.fieldLink (mO mX3_slotOf) 35 (TX0 0).1 (TX0 0).2.1 (TX0 0).2.2.1 ∈ mW mX3_slotOf := by decide +kernel
abbrev mX3_isCutBy : MI := (cX3_isCutBy, RX3, wsX3_isCutBy, 4, rmD 2, (some .boolean))
theorem jX3_isCutBy_X3 : ∀ w ∈ wsX30, w ∈ mW mX3_isCutBy := by decide +kernel
theorem lX3_isCutBy_11 : Cond.fieldLink (mO mX3_isCutBy) 11 (TX3 0).1 (TX3 0).2.1 (TX3 0).2.2.1 ∈ mW mX3_isCutBy := by decide +kernel
theorem lX3_isCutBy_18 : Cond.fieldLink (mO mX3_isCutBy) 18 (TX3 1).1 (TX3 1).2.1 (TX3 1).2.2.1 ∈ mW mX3_isCutBy := by decide +kernel
theorem kX3_isCutBy_38 : CoV mX3_isCutBy 38 RX0 yX0_cuts wsX0_cuts (rmD 1) 1 := ⟨_, _, _, _, gX3_isCutBy_X0_cuts, rfl, by decide +kernel, ⟨Nat.le_of_ble_eq_true rfl, Nat.le_of_ble_eq_true rfl⟩, rfl, rfl⟩
abbrev mX3_append : MI := (cX3_append, RX3, wsX3_append, 3, rmD 2, (some .int))
theorem jX3_append_X0 : ∀ w ∈ wsX00, w ∈ mW mX3_append := by decide +kernel
theorem jX3_append_X3 : ∀ w ∈ wsX30, w ∈ mW mX3_append := by decide +kernel
theorem lX3_append_11 : Cond.fieldLink (mO mX3_append) 11 (TX3 0).1 (TX3 0).2.1 (TX3 0).2.2.1 ∈ mW mX3_append := by decide +kernel
theorem lX3_append_18 : Cond.fieldLink (mO mX3_append) 18 (TX3 1).1 (TX3 1).2.1 (TX3 1).2.2.1 ∈ mW mX3_append := by decide +kernel
theorem lX3_append_22 : Cond.fieldLink (mO mX3_append) 22 (TX3 2).1 (TX3 2).2.1 (TX3 2).2.2.1 ∈ mW mX3_append := by decide +kernel
theorem lX3_append_35 : Cond.fieldLink (mO mX3_append) 35 (TX0 0).1 (TX0 0).2.1 (TX0 0).2.2.1 ∈ mW mX3_append := by decide +kernel
theorem kX3_append_31 : CoV mX3_append 31 RX0 yX0_copyFrom wsX0_copyFrom (rmD 1) 1 := ⟨_, _, _, _, gX3_append_X0_copyFrom, rfl, by decide +kernel, ⟨Nat.le_of_ble_eq_true rfl, Nat.le_of_ble_eq_true rfl⟩, rfl, rfl⟩
theorem kX3_append_42 : CoV mX3_append 42 RX3 yX3_isFull wsX3_isFull (rmD 0) 0 := ⟨_, _, _, _, gX3_append_X3_isFull, rfl, by decide +kernel, ⟨Nat.le_of_ble_eq_true rfl, Nat.le_of_ble_eq_true rfl⟩, rfl, rfl⟩
abbrev mX3_takeOut : MI := (cX3_takeOut, RX3, wsX3_takeOut, 3, rmD 2, none)
theorem jX3_takeOut_X3 : ∀ w ∈ wsX30, w ∈ mW mX3_takeOut := by decide +kernel
theorem lX3_takeOut_11 : Cond.fieldLink (mO mX3_takeOut) 11 (TX3 0).1 (TX3 0).2.1 (TX3 0).2.2.1 ∈ mW mX3_takeOut := by decide +kernel
theorem lX3_takeOut_18 : Cond.fieldLink (mO mX3_takeOut) 18 (TX3 1).1 (TX3 1).2.1 (TX3 1).2.2.1 ∈ mW mX3_takeOut := by decide +kernel
theorem kX3_takeOut_31 : CoV mX3_takeOut 31 RX0 yX0_copyFrom wsX0_copyFrom (rmD 1) 1 := ⟨_, _, _, _, gX3_takeOut_X0_copyFrom, rfl, by decide +kernel, ⟨Nat.le_of_ble_eq_true rfl, Nat.le_of_ble_eq_true rfl⟩, rfl, rfl⟩
abbrev mX3_cutInTwo : MI := (cX3_cutInTwo, RX3, wsX3_cutInTwo, 5, rmD 3, (some .int))
theorem jX3_cutInTwo_X0 : ∀ w ∈ wsX00, w ∈ mW mX3_cutInTwo := by decide +kernel
theorem jX3_cutInTwo_X3 : ∀ w ∈ wsX30, w ∈ mW mX3_cutInTwo := by decide +kernel
theorem lX3_cutInTwo_11 : Cond.fieldLink (mO mX3_cutInTwo) 11 (TX3 0).1 (TX3 0).2.1 (TX3 0).2.2.1 ∈ mW mX3_cutInTwo := by decide +kernel
theorem lX3_cutInTwo_18 : Cond.fieldLink (mO mX3_cutInTwo) 18 (TX3 1).1 (TX3 1).2.1 (TX3 1).2.2.1 ∈ mW mX3_cutInTwo := by decide +kernel
theorem lX3_cutInTwo_25 : Cond.fieldLink (mO mX3_cutInTwo) 25 (TX3 3).1 (TX3 3).2.1 (TX3 3).2.2.1 ∈ mW mX3_cutInTwo := by decide +kernel
theorem lX3_cutInTwo_50 : Cond.fieldLink (mO mX3_cutInTwo) 50 (TX0 1).1 (TX0 1).2.1 (TX0 1).2.2.1 ∈ mW mX3_cutInTwo := by decide +kernel
theorem lX3_cutInTwo_54 : Cond.fieldLink (mO mX3_cutInTwo) 54 (TX0 2).1 (TX0 2).2.1 (TX0 2).2.2.1 ∈ mW mX3_cutInTwo := by decide +kernel
theorem kX3_cutInTwo_46 : CoV mX3_cutInTwo 46 RX3 yX3_append wsX3_append (rmD 2) 1 := ⟨_, _, _, _, gX3_cutInTwo_X3_append, rfl, by decide +kernel, ⟨Nat.le_of_ble_eq_true rfl, Nat.le_of_ble_eq_true rfl⟩, rfl, rfl⟩
abbrev mX3_quarterTurn : MI := (cX3_quarterTurn, RX3, wsX3_quarterTurn, 5, rmD 0, none)
theorem jX3_quarterTurn_X0 : ∀ w ∈ wsX00, w ∈ mW mX3_quarterTurn := by decide +kernel
theorem jX3_quarterTurn_X3 : ∀ w ∈ wsX30, w ∈ mW mX3_quarterTurn := by decide +kernel
theorem lX3_quarterTurn_11 : Cond.fieldLink (mO mX3_quarterTurn) 11 (TX3 0).1 (TX3 0).2.1 (TX3 0).2.2.1 ∈ mW mX3_quarterTurn := by decide +kernel
theorem lX3_quarterTurn_18 : Cond.fieldLink (mO mX3_quarterTurn) 18 (TX3 1).1 (TX3 1).2.1 (TX3 1).2.2.1 ∈ mW mX3_quarterTurn := by decide +kernel
theorem lX3_quarterTurn_50 : Cond.fieldLink (mO mX3_quarterTurn) 50 (TX0 1).1 (TX0 1).2.1 (TX0 1).2.2.1 ∈ mW mX3_quarterTurn := by decide +kernel
theorem lX3_quarterTurn_54 : Cond.fieldLink (mO mX3_quarterTurn) 54 (TX0 2).1 (TX0 2).2.1 (TX0 2).2.2.1 ∈ mW mX3_quarterTurn := by decide +kernel
abbrev mX3_weightInDrawing : MI := (cX3_weightInDrawing, RX3, wsX3_weightInDrawing, 2, rmD 2, (some .int))
theorem jX3_weightInDrawing_X3 : ∀ w ∈ wsX30, w ∈ mW mX3_weightInDrawing := by decide +kernel
theorem lX3_weightInDrawing_11 : Cond.fieldLink (mO mX3_weightInDrawing) 11 (TX3 0).1 (TX3 0).2.1 (TX3 0).2.2.1 ∈ mW mX3_weightInDrawing := by decide +kernel
theorem lX3_weightInDrawing_28 : Cond.fieldLink (mO mX3_weightInDrawing) 28 (TX3 4).1 (TX3 4).2.1 (TX3 4).2.2.1 ∈ mW mX3_weightInDrawing := by decide +kernel
theorem kX3_weightInDrawing_57 : CoV mX3_weightInDrawing 57 RX0 yX0_sumOfCorner wsX0_sumOfCorner (rmD 0) 0 := ⟨_, _, _, _, gX3_weightInDrawing_X0_sumOfCorner, rfl, by decide +kernel, ⟨Nat.le_of_ble_eq_true rfl, Nat.le_of_ble_eq_true rfl⟩, rfl, rfl⟩
theorem kX3_weightInDrawing_61 : CoV mX3_weightInDrawing 61 RX0 yX0_volume wsX0_volume (rmD 1) 0 := ⟨_, _, _, _, gX3_weightInDrawing_X0_volume, rfl, by decide +kernel, ⟨Nat.le_of_ble_eq_true rfl, Nat.le_of_ble_eq_true rfl⟩, rfl, rfl⟩
abbrev mX3_volume : MI := (cX3_volume, RX3, wsX3_volume, 3, rmD 2, (some .int))
theorem jX3_volume_X3 : ∀ w ∈ wsX30, w ∈ mW mX3_volume := by decide +kernel
theorem lX3_volume_11 : Cond.fieldLink (mO mX3_volume) 11 (TX3 0).1 (TX3 0).2.1 (TX3 0).2.2.1 ∈ mW mX3_volume := by decide +kernel
theorem lX3_volume_18 : Cond.fieldLink (mO mX3_volume) 18 (TX3 1).1 (TX3 1).2.1 (TX3 1).2.2.1 ∈ mW mX3_volume := by decide +kernel
theorem kX3_volume_61 : CoV mX3_volume 61 RX0 yX0_volume wsX0_volume (rmD 1) 0 := ⟨_, _, _, _, gX3_volume_X0_volume, rfl, by decide +kernel, ⟨Nat.le_of_ble_eq_true rfl, Nat.le_of_ble_eq_true rfl⟩, rfl, rfl⟩
abbrev mX3_groundUnder : MI := (cX3_groundUnder, RX3, wsX3_groundUnder, 4, rmD 2, (some .int))
theorem jX3_groundUnder_X0 : ∀ w ∈ wsX00, w ∈ mW mX3_groundUnder := by decide +kernel
theorem jX3_groundUnder_X3 : ∀ w ∈ wsX30, w ∈ mW mX3_groundUnder := by decide +kernel
theorem lX3_groundUnder_11 : Cond.fieldLink (mO mX3_groundUnder) 11 (TX3 0).1 (TX3 0).2.1 (TX3 0).2.2.1 ∈ mW mX3_groundUnder := by decide +kernel
theorem lX3_groundUnder_18 : Cond.fieldLink (mO mX3_groundUnder) 18 (TX3 1).1 (TX3 1).2.1 (TX3 1).2.2.1 ∈ mW mX3_groundUnder := by decide +kernel
theorem lX3_groundUnder_54 : Cond.fieldLink (mO mX3_groundUnder) 54 (TX0 2).1 (TX0 2).2.1 (TX0 2).2.2.1 ∈ mW mX3_groundUnder := by decide +kernel
theorem kX3_groundUnder_64 : CoV mX3_groundUnder 64 RX0 yX0_isBelow wsX0_isBelow (rmD 1) 1 := ⟨_, _, _, _, gX3_groundUnder_X0_isBelow, rfl, by decide +kernel, ⟨Nat.le_of_ble_eq_true rfl, Nat.le_of_ble_eq_true rfl⟩, rfl, rfl⟩
abbrev mX3_boxesBelow : MI := (cX3_boxesBelow, RX3, wsX3_boxesBelow, 4, rmD 2, (some .int))
theorem jX3_boxesBelow_X3 : ∀ w ∈ wsX30, w ∈ mW mX3_boxesBelow := by decide +kernel
theorem lX3_boxesBelow_11 : Cond.fieldLink (mO mX3_boxesBelow) 11 (TX3 0).1 (TX3 0).2.1 (TX3 0).2.2.1 ∈ mW mX3_boxesBelow := by decide +kernel
theorem lX3_boxesBelow_18 : Cond.fieldLink (mO mX3_boxesBelow) 18 (TX3 1).1 (TX3 1).2.1 (TX3 1).2.2.1 ∈ mW mX3_boxesBelow := by decide +kernel
theorem kX3_boxesBelow_64 : CoV mX3_boxesBelow 64 RX0 yX0_isBelow wsX0_isBelow (rmD 1) 1 := ⟨_, _, _, _, gX3_boxesBelow_X0_isBelow, rfl, by decide +kernel, ⟨Nat.le_of_ble_eq_true rfl, Nat.le_of_ble_eq_true rfl⟩, rfl, rfl⟩
abbrev mX3_supportsOf : MI := (cX3_supportsOf, RX3, wsX3_supportsOf, 5, rmD 2, (some .int))
theorem jX3_supportsOf_X0 : ∀ w ∈ wsX00, w ∈ mW mX3_supportsOf := by decide +kernel
theorem jX3_supportsOf_X3 : ∀ w ∈ wsX30, w ∈ mW mX3_supportsOf := by decide +kernel
theorem lX3_supportsOf_11 : Cond.fieldLink (mO mX3_supportsOf) 11 (TX3 0).1 (TX3 0).2.1 (TX3 0).2.2.1 ∈ mW mX3_supportsOf := by decide +kernel
theorem lX3_supportsOf_18 : Cond.fieldLink (mO mX3_supportsOf) 18 (TX3 1).1 (TX3 1).2.1 (TX3 1).2.2.1 ∈ mW mX3_supportsOf := by decide +kernel
theorem lX3_supportsOf_50 : Cond.fieldLink (mO mX3_supportsOf) 50 (TX0 1).1 (TX0 1).2.1 (TX0 1).2.2.1 ∈ mW mX3_supportsOf := by decide +kernel
theorem lX3_supportsOf_54 : Cond.fieldLink (mO mX3_supportsOf) 54 (TX0 2).1 (TX0 2).2.1 (TX0 2).2.2.1 ∈ mW mX3_supportsOf := by decide +kernel
theorem kX3_supportsOf_64 : CoV mX3_supportsOf 64 RX0 yX0_isBelow wsX0_isBelow (rmD 1) 1 := ⟨_, _, _, _, gX3_supportsOf_X0_isBelow, rfl, by decide +kernel, ⟨Nat.le_of_ble_eq_true rfl, Nat.le_of_ble_eq_true rfl⟩, rfl, rfl⟩
abbrev mX3_shadowOn : MI := (cX3_shadowOn, RX3, wsX3_shadowOn, 7, rmD 2, (some .int))
theorem jX3_shadowOn_X0 : ∀ w ∈ wsX00, w ∈ mW mX3_shadowOn := by decide +kernel
theorem jX3_shadowOn_X3 : ∀ w ∈ wsX30, w ∈ mW mX3_shadowOn := by decide +kernel
theorem lX3_shadowOn_11 : Cond.fieldLink (mO mX3_shadowOn) 11 (TX3 0).1 (TX3 0).2.1 (TX3 0).2.2.1 ∈ mW mX3_shadowOn := by decide +kernel
theorem lX3_shadowOn_18 : Cond.fieldLink (mO mX3_shadowOn) 18 (TX3 1).1 (TX3 1).2.1 (TX3 1).2.2.1 ∈ mW mX3_shadowOn := by decide +kernel
theorem lX3_shadowOn_50 : Cond.fieldLink (mO mX3_shadowOn) 50 (TX0 1).1 (TX0 1).2.1 (TX0 1).2.2.1 ∈ mW mX3_shadowOn := by decide +kernel
theorem lX3_shadowOn_54 : Cond.fieldLink (mO mX3_shadowOn) 54 (TX0 2).1 (TX0 2).2.1 (TX0 2).2.2.1 ∈ mW mX3_shadowOn := by decide +kernel
theorem kX3_shadowOn_64 : CoV mX3_shadowOn 64 RX0 yX0_isBelow wsX0_isBelow (rmD 1) 1 := ⟨_, _, _, _, gX3_shadowOn_X0_isBelow, rfl, by decide +kernel, ⟨Nat.le_of_ble_eq_true rfl, Nat.le_of_ble_eq_true rfl⟩, rfl, rfl⟩
theorem kX3_shadowOn_73 : CoV mX3_shadowOn 73 RX0 yX0_coversRow wsX0_coversRow (rmD 0) 1 := ⟨_, _, _, _, gX3_shadowOn_X0_coversRow, rfl, by decide +kernel, ⟨Nat.le_of_ble_eq_true rfl, Nat.le_of_ble_eq_true rfl⟩, rfl, rfl⟩
theorem kX3_shadowOn_77 : CoV mX3_shadowOn 77 RX0 yX0_rowOfCells wsX0_rowOfCells (rmD 1) 0 := ⟨_, _, _, _, gX3_shadowOn_X0_rowOfCells, rfl, by decide +kernel, ⟨Nat.le_of_ble_eq_true rfl, Nat.le_of_ble_eq_true rfl⟩, rfl, rfl⟩
theorem kX3_shadowOn_80 : CoS mX3_shadowOn 80 yJ6_bitCount_0f7a4 wsJ6_bitCount_0f7a4 (rmD 0) 1 := ⟨_, _, _, _, gX3_shadowOn_J6_bitCount_0f7a4, rfl, by decide +kernel, ⟨Nat.le_of_ble_eq_true rfl, Nat.le_of_ble_eq_true rfl⟩, rfl, rfl⟩
abbrev mX3_shadow : MI := (cX3_shadow, RX3, wsX3_shadow, 3, rmD 3, (some .int))
theorem jX3_shadow_X3 : ∀ w ∈ wsX30, w ∈ mW mX3_shadow := by decide +kernel
theorem lX3_shadow_18 : Cond.fieldLink (mO mX3_shadow) 18 (TX3 1).1 (TX3 1).2.1 (TX3 1).2.2.1 ∈ mW mX3_shadow := by decide +kernel
theorem kX3_shadow_86 : CoV mX3_shadow 86 RX3 yX3_shadowOn wsX3_shadowOn (rmD 2) 1 := ⟨_, _, _, _, gX3_shadow_X3_shadowOn, rfl, by decide +kernel, ⟨Nat.le_of_ble_eq_true rfl, Nat.le_of_ble_eq_true rfl⟩, rfl, rfl⟩
abbrev mX5_add : MI := (cX5_add, RX5, wsX5_add, 8, rmD 5, (some .int))
theorem jX5_add_X5 : ∀ w ∈ wsX50, w ∈ mW mX5_add := by decide +kernel
theorem lX5_add_10 : Cond.fieldLink (mO mX5_add) 10 (TX5 0).1 (TX5 0).2.1 (TX5 0).2.2.1 ∈ mW mX5_add := by decide +kernel
theorem lX5_add_16 : Cond.fieldLink (mO mX5_add) 16 (TX5 1).1 (TX5 1).2.1 (TX5 1).2.2.1 ∈ mW mX5_add := by decide +kernel
theorem kX5_add_57 : CoV mX5_add 57 RX3 yX3_copyFrom wsX3_copyFrom (rmD 2) 1 := ⟨_, _, _, _, gX5_add_X3_copyFrom, rfl, by decide +kernel, ⟨Nat.le_of_ble_eq_true rfl, Nat.le_of_ble_eq_true rfl⟩, rfl, rfl⟩
theorem kX5_add_61 : CoV mX5_add 61 RX5 yX5_enter wsX5_enter (rmD 3) 7 := ⟨_, _, _, _, gX5_add_X5_enter, rfl, by decide +kernel, ⟨Nat.le_of_ble_eq_true rfl, Nat.le_of_ble_eq_true rfl⟩, rfl, rfl⟩
theorem kX5_add_65 : CoV mX5_add 65 RX5 yX5_adoptTrial wsX5_adoptTrial (rmD 4) 0 := ⟨_, _, _, _, gX5_add_X5_adoptTrial, rfl, by decide +kernel, ⟨Nat.le_of_ble_eq_true rfl, Nat.le_of_ble_eq_true rfl⟩, rfl, rfl⟩
abbrev mX5_remove : MI := (cX5_remove, RX5, wsX5_remove, 4, rmD 5, (some .int))
theorem jX5_remove_X3 : ∀ w ∈ wsX30, w ∈ mW mX5_remove := by decide +kernel
theorem jX5_remove_X5 : ∀ w ∈ wsX50, w ∈ mW mX5_remove := by decide +kernel
theorem lX5_remove_10 : Cond.fieldLink (mO mX5_remove) 10 (TX5 0).1 (TX5 0).2.1 (TX5 0).2.2.1 ∈ mW mX5_remove := by decide +kernel
theorem lX5_remove_16 : Cond.fieldLink (mO mX5_remove) 16 (TX5 1).1 (TX5 1).2.1 (TX5 1).2.2.1 ∈ mW mX5_remove := by decide +kernel
theorem lX5_remove_72 : Cond.fieldLink (mO mX5_remove) 72 (TX3 0).1 (TX3 0).2.1 (TX3 0).2.2.1 ∈ mW mX5_remove := by decide +kernel
theorem kX5_remove_57 : CoV mX5_remove 57 RX3 yX3_copyFrom wsX3_copyFrom (rmD 2) 1 := ⟨_, _, _, _, gX5_remove_X3_copyFrom, rfl, by decide +kernel, ⟨Nat.le_of_ble_eq_true rfl, Nat.le_of_ble_eq_true rfl⟩, rfl, rfl⟩
theorem kX5_remove_65 : CoV mX5_remove 65 RX5 yX5_adoptTrial wsX5_adoptTrial (rmD 4) 0 := ⟨_, _, _, _, gX5_remove_X5_adoptTrial, rfl, by decide +kernel, ⟨Nat.le_of_ble_eq_true rfl, Nat.le_of_ble_eq_true rfl⟩, rfl, rfl⟩
theorem kX5_remove_68 : CoV mX5_remove 68 RX3 yX3_slotOf wsX3_slotOf (rmD 0) 1 := ⟨_, _, _, _, gX5_remove_X3_slotOf, rfl, by decide +kernel, ⟨Nat.le_of_ble_eq_true rfl, Nat.le_of_ble_eq_true rfl⟩, rfl, rfl⟩
theorem kX5_remove_76 : CoV mX5_remove 76 RX0 yX0_volume wsX0_volume (rmD 1) 0 := ⟨_, _, _, _, gX5_remove_X0_volume, rfl, by decide +kernel, ⟨Nat.le_of_ble_eq_true rfl, Nat.le_of_ble_eq_true rfl⟩, rfl, rfl⟩
theorem kX5_remove_80 : CoV mX5_remove 80 RX3 yX3_takeOut wsX3_takeOut (rmD 2) 1 := ⟨_, _, _, _, gX5_remove_X3_takeOut, rfl, by decide +kernel, ⟨Nat.le_of_ble_eq_true rfl, Nat.le_of_ble_eq_true rfl⟩, rfl, rfl⟩
abbrev mX5_move : MI := (cX5_move, RX5, wsX5_move, 6, rmD 5, (some .int))
theorem jX5_move_X0 : ∀ w ∈ wsX00, w ∈ mW mX5_move := by decide +kernel
theorem jX5_move_X3 : ∀ w ∈ wsX30, w ∈ mW mX5_move := by decide +kernel
theorem jX5_move_X5 : ∀ w ∈ wsX50, w ∈ mW mX5_move := by decide +kernel
theorem lX5_move_10 : Cond.fieldLink (mO mX5_move) 10 (TX5 0).1 (TX5 0).2.1 (TX5 0).2.2.1 ∈ mW mX5_move := by decide +kernel
theorem lX5_move_16 : Cond.fieldLink (mO mX5_move) 16 (TX5 1).1 (TX5 1).2.1 (TX5 1).2.2.1 ∈ mW mX5_move := by decide +kernel
theorem lX5_move_72 : Cond.fieldLink (mO mX5_move) 72 (TX3 0).1 (TX3 0).2.1 (TX3 0).2.2.1 ∈ mW mX5_move := by decide +kernel
theorem lX5_move_88 : Cond.fieldLink (mO mX5_move) 88 (TX0 1).1 (TX0 1).2.1 (TX0 1).2.2.1 ∈ mW mX5_move := by decide +kernel
theorem lX5_move_92 : Cond.fieldLink (mO mX5_move) 92 (TX0 2).1 (TX0 2).2.1 (TX0 2).2.2.1 ∈ mW mX5_move := by decide +kernel
theorem kX5_move_57 : CoV mX5_move 57 RX3 yX3_copyFrom wsX3_copyFrom (rmD 2) 1 := ⟨_, _, _, _, gX5_move_X3_copyFrom, rfl, by decide +kernel, ⟨Nat.le_of_ble_eq_true rfl, Nat.le_of_ble_eq_true rfl⟩, rfl, rfl⟩
theorem kX5_move_65 : CoV mX5_move 65 RX5 yX5_adoptTrial wsX5_adoptTrial (rmD 4) 0 := ⟨_, _, _, _, gX5_move_X5_adoptTrial, rfl, by decide +kernel, ⟨Nat.le_of_ble_eq_true rfl, Nat.le_of_ble_eq_true rfl⟩, rfl, rfl⟩
theorem kX5_move_68 : CoV mX5_move 68 RX3 yX3_slotOf wsX3_slotOf (rmD 0) 1 := ⟨_, _, _, _, gX5_move_X3_slotOf, rfl, by decide +kernel, ⟨Nat.le_of_ble_eq_true rfl, Nat.le_of_ble_eq_true rfl⟩, rfl, rfl⟩
theorem kX5_move_84 : CoS mX5_move 84 yX5_isDirection wsX5_isDirection (rmD 0) 1 := ⟨_, _, _, _, gX5_move_X5_isDirection, rfl, by decide +kernel, ⟨Nat.le_of_ble_eq_true rfl, Nat.le_of_ble_eq_true rfl⟩, rfl, rfl⟩
theorem kX5_move_95 : CoV mX5_move 95 RX0 yX0_shift wsX0_shift (rmD 0) 2 := ⟨_, _, _, _, gX5_move_X0_shift, rfl, by decide +kernel, ⟨Nat.le_of_ble_eq_true rfl, Nat.le_of_ble_eq_true rfl⟩, rfl, rfl⟩
theorem kX5_move_99 : CoV mX5_move 99 RX3 yX3_isCutBy wsX3_isCutBy (rmD 2) 2 := ⟨_, _, _, _, gX5_move_X3_isCutBy, rfl, by decide +kernel, ⟨Nat.le_of_ble_eq_true rfl, Nat.le_of_ble_eq_true rfl⟩, rfl, rfl⟩
abbrev mX5_fall : MI := (cX5_fall, RX5, wsX5_fall, 4, rmD 5, (some .int))
theorem jX5_fall_X0 : ∀ w ∈ wsX00, w ∈ mW mX5_fall := by decide +kernel
theorem jX5_fall_X3 : ∀ w ∈ wsX30, w ∈ mW mX5_fall := by decide +kernel
theorem jX5_fall_X5 : ∀ w ∈ wsX50, w ∈ mW mX5_fall := by decide +kernel
theorem lX5_fall_10 : Cond.fieldLink (mO mX5_fall) 10 (TX5 0).1 (TX5 0).2.1 (TX5 0).2.2.1 ∈ mW mX5_fall := by decide +kernel
theorem lX5_fall_16 : Cond.fieldLink (mO mX5_fall) 16 (TX5 1).1 (TX5 1).2.1 (TX5 1).2.2.1 ∈ mW mX5_fall := by decide +kernel
theorem lX5_fall_72 : Cond.fieldLink (mO mX5_fall) 72 (TX3 0).1 (TX3 0).2.1 (TX3 0).2.2.1 ∈ mW mX5_fall := by decide +kernel
theorem lX5_fall_88 : Cond.fieldLink (mO mX5_fall) 88 (TX0 1).1 (TX0 1).2.1 (TX0 1).2.2.1 ∈ mW mX5_fall := by decide +kernel
theorem kX5_fall_57 : CoV mX5_fall 57 RX3 yX3_copyFrom wsX3_copyFrom (rmD 2) 1 := ⟨_, _, _, _, gX5_fall_X3_copyFrom, rfl, by decide +kernel, ⟨Nat.le_of_ble_eq_true rfl, Nat.le_of_ble_eq_true rfl⟩, rfl, rfl⟩
theorem kX5_fall_65 : CoV mX5_fall 65 RX5 yX5_adoptTrial wsX5_adoptTrial (rmD 4) 0 := ⟨_, _, _, _, gX5_fall_X5_adoptTrial, rfl, by decide +kernel, ⟨Nat.le_of_ble_eq_true rfl, Nat.le_of_ble_eq_true rfl⟩, rfl, rfl⟩
theorem kX5_fall_68 : CoV mX5_fall 68 RX3 yX3_slotOf wsX3_slotOf (rmD 0) 1 := ⟨_, _, _, _, gX5_fall_X3_slotOf, rfl, by decide +kernel, ⟨Nat.le_of_ble_eq_true rfl, Nat.le_of_ble_eq_true rfl⟩, rfl, rfl⟩
theorem kX5_fall_95 : CoV mX5_fall 95 RX0 yX0_shift wsX0_shift (rmD 0) 2 := ⟨_, _, _, _, gX5_fall_X0_shift, rfl, by decide +kernel, ⟨Nat.le_of_ble_eq_true rfl, Nat.le_of_ble_eq_true rfl⟩, rfl, rfl⟩
theorem kX5_fall_103 : CoV mX5_fall 103 RX3 yX3_groundUnder wsX3_groundUnder (rmD 2) 1 := ⟨_, _, _, _, gX5_fall_X3_groundUnder, rfl, by decide +kernel, ⟨Nat.le_of_ble_eq_true rfl, Nat.le_of_ble_eq_true rfl⟩, rfl, rfl⟩
abbrev mX5_split : MI := (cX5_split, RX5, wsX5_split, 7, rmD 5, (some .int))
theorem jX5_split_X0 : ∀ w ∈ wsX00, w ∈ mW mX5_split := by decide +kernel
theorem jX5_split_X3 : ∀ w ∈ wsX30, w ∈ mW mX5_split := by decide +kernel
theorem jX5_split_X5 : ∀ w ∈ wsX50, w ∈ mW mX5_split := by decide +kernel
theorem lX5_split_10 : Cond.fieldLink (mO mX5_split) 10 (TX5 0).1 (TX5 0).2.1 (TX5 0).2.2.1 ∈ mW mX5_split := by decide +kernel
theorem lX5_split_16 : Cond.fieldLink (mO mX5_split) 16 (TX5 1).1 (TX5 1).2.1 (TX5 1).2.2.1 ∈ mW mX5_split := by decide +kernel
theorem lX5_split_72 : Cond.fieldLink (mO mX5_split) 72 (TX3 0).1 (TX3 0).2.1 (TX3 0).2.2.1 ∈ mW mX5_split := by decide +kernel
theorem lX5_split_88 : Cond.fieldLink (mO mX5_split) 88 (TX0 1).1 (TX0 1).2.1 (TX0 1).2.2.1 ∈ mW mX5_split := by decide +kernel
theorem lX5_split_92 : Cond.fieldLink (mO mX5_split) 92 (TX0 2).1 (TX0 2).2.1 (TX0 2).2.2.1 ∈ mW mX5_split := by decide +kernel
theorem kX5_split_57 : CoV mX5_split 57 RX3 yX3_copyFrom wsX3_copyFrom (rmD 2) 1 := ⟨_, _, _, _, gX5_split_X3_copyFrom, rfl, by decide +kernel, ⟨Nat.le_of_ble_eq_true rfl, Nat.le_of_ble_eq_true rfl⟩, rfl, rfl⟩
theorem kX5_split_65 : CoV mX5_split 65 RX5 yX5_adoptTrial wsX5_adoptTrial (rmD 4) 0 := ⟨_, _, _, _, gX5_split_X5_adoptTrial, rfl, by decide +kernel, ⟨Nat.le_of_ble_eq_true rfl, Nat.le_of_ble_eq_true rfl⟩, rfl, rfl⟩
theorem kX5_split_68 : CoV mX5_split 68 RX3 yX3_slotOf wsX3_slotOf (rmD 0) 1 := ⟨_, _, _, _, gX5_split_X3_slotOf, rfl, by decide +kernel, ⟨Nat.le_of_ble_eq_true rfl, Nat.le_of_ble_eq_true rfl⟩, rfl, rfl⟩
theorem kX5_split_84 : CoS mX5_split 84 yX5_isDirection wsX5_isDirection (rmD 0) 1 := ⟨_, _, _, _, gX5_split_X5_isDirection, rfl, by decide +kernel, ⟨Nat.le_of_ble_eq_true rfl, Nat.le_of_ble_eq_true rfl⟩, rfl, rfl⟩
theorem kX5_split_106 : CoV mX5_split 106 RX3 yX3_isFull wsX3_isFull (rmD 0) 0 := ⟨_, _, _, _, gX5_split_X3_isFull, rfl, by decide +kernel, ⟨Nat.le_of_ble_eq_true rfl, Nat.le_of_ble_eq_true rfl⟩, rfl, rfl⟩
theorem kX5_split_110 : CoV mX5_split 110 RX3 yX3_cutInTwo wsX3_cutInTwo (rmD 3) 3 := ⟨_, _, _, _, gX5_split_X3_cutInTwo, rfl, by decide +kernel, ⟨Nat.le_of_ble_eq_true rfl, Nat.le_of_ble_eq_true rfl⟩, rfl, rfl⟩
abbrev mX5_breakRing : MI := (cX5_breakRing, RX5, wsX5_breakRing, 2, rmD 7, (some .int))
theorem jX5_breakRing_X5 : ∀ w ∈ wsX50, w ∈ mW mX5_breakRing := by decide +kernel
theorem lX5_breakRing_10 : Cond.fieldLink (mO mX5_breakRing) 10 (TX5 0).1 (TX5 0).2.1 (TX5 0).2.2.1 ∈ mW mX5_breakRing := by decide +kernel
theorem lX5_breakRing_16 : Cond.fieldLink (mO mX5_breakRing) 16 (TX5 1).1 (TX5 1).2.1 (TX5 1).2.2.1 ∈ mW mX5_breakRing := by decide +kernel
theorem kX5_breakRing_57 : CoV mX5_breakRing 57 RX3 yX3_copyFrom wsX3_copyFrom (rmD 2) 1 := ⟨_, _, _, _, gX5_breakRing_X3_copyFrom, rfl, by decide +kernel, ⟨Nat.le_of_ble_eq_true rfl, Nat.le_of_ble_eq_true rfl⟩, rfl, rfl⟩
theorem kX5_breakRing_65 : CoV mX5_breakRing 65 RX5 yX5_adoptTrial wsX5_adoptTrial (rmD 4) 0 := ⟨_, _, _, _, gX5_breakRing_X5_adoptTrial, rfl, by decide +kernel, ⟨Nat.le_of_ble_eq_true rfl, Nat.le_of_ble_eq_true rfl⟩, rfl, rfl⟩
theorem kX5_breakRing_114 : CoV mX5_breakRing 114 RX5 yX5_breakOne wsX5_breakOne (rmD 6) 1 := ⟨_, _, _, _, gX5_breakRing_X5_breakOne, rfl, by decide +kernel, ⟨Nat.le_of_ble_eq_true rfl, Nat.le_of_ble_eq_true rfl⟩, rfl, rfl⟩
abbrev mX5_turn : MI := (cX5_turn, RX5, wsX5_turn, 2, rmD 6, (some .int))
theorem jX5_turn_X3 : ∀ w ∈ wsX30, w ∈ mW mX5_turn := by decide +kernel
theorem jX5_turn_X5 : ∀ w ∈ wsX50, w ∈ mW mX5_turn := by decide +kernel
theorem lX5_turn_10 : Cond.fieldLink (mO mX5_turn) 10 (TX5 0).1 (TX5 0).2.1 (TX5 0).2.2.1 ∈ mW mX5_turn := by decide +kernel
theorem lX5_turn_16 : Cond.fieldLink (mO mX5_turn) 16 (TX5 1).1 (TX5 1).2.1 (TX5 1).2.2.1 ∈ mW mX5_turn := by decide +kernel
theorem lX5_turn_39 : Cond.fieldLink (mO mX5_turn) 39 (TX5 6).1 (TX5 6).2.1 (TX5 6).2.2.1 ∈ mW mX5_turn := by decide +kernel
theorem lX5_turn_43 : Cond.fieldLink (mO mX5_turn) 43 (TX5 7).1 (TX5 7).2.1 (TX5 7).2.2.1 ∈ mW mX5_turn := by decide +kernel
theorem lX5_turn_118 : Cond.fieldLink (mO mX5_turn) 118 (TX3 1).1 (TX3 1).2.1 (TX3 1).2.2.1 ∈ mW mX5_turn := by decide +kernel
theorem kX5_turn_57 : CoV mX5_turn 57 RX3 yX3_copyFrom wsX3_copyFrom (rmD 2) 1 := ⟨_, _, _, _, gX5_turn_X3_copyFrom, rfl, by decide +kernel, ⟨Nat.le_of_ble_eq_true rfl, Nat.le_of_ble_eq_true rfl⟩, rfl, rfl⟩
theorem kX5_turn_65 : CoV mX5_turn 65 RX5 yX5_adoptTrial wsX5_adoptTrial (rmD 4) 0 := ⟨_, _, _, _, gX5_turn_X5_adoptTrial, rfl, by decide +kernel, ⟨Nat.le_of_ble_eq_true rfl, Nat.le_of_ble_eq_true rfl⟩, rfl, rfl⟩
theorem kX5_turn_122 : CoV mX5_turn 122 RX3 yX3_quarterTurn wsX3_quarterTurn (rmD 0) 0 := ⟨_, _, _, _, gX5_turn_X3_quarterTurn, rfl, by decide +kernel, ⟨Nat.le_of_ble_eq_true rfl, Nat.le_of_ble_eq_true rfl⟩, rfl, rfl⟩
theorem kX5_turn_125 : CoV mX5_turn 125 RX2 yX2_look wsX2_look (rmD 5) 1 := ⟨_, _, _, _, gX5_turn_X2_look, rfl, by decide +kernel, ⟨Nat.le_of_ble_eq_true rfl, Nat.le_of_ble_eq_true rfl⟩, rfl, rfl⟩
theorem kX5_turn_128 : CoV mX5_turn 128 RX2 yX2_hidingsNotIn wsX2_hidingsNotIn (rmD 1) 1 := ⟨_, _, _, _, gX5_turn_X2_hidingsNotIn, rfl, by decide +kernel, ⟨Nat.le_of_ble_eq_true rfl, Nat.le_of_ble_eq_true rfl⟩, rfl, rfl⟩
abbrev mX5_set : MI := (cX5_set, RX5, wsX5_set, 4, rmD 5, (some .int))
theorem jX5_set_X3 : ∀ w ∈ wsX30, w ∈ mW mX5_set := by decide +kernel
theorem jX5_set_X5 : ∀ w ∈ wsX50, w ∈ mW mX5_set := by decide +kernel
theorem lX5_set_10 : Cond.fieldLink (mO mX5_set) 10 (TX5 0).1 (TX5 0).2.1 (TX5 0).2.2.1 ∈ mW mX5_set := by decide +kernel
theorem lX5_set_16 : Cond.fieldLink (mO mX5_set) 16 (TX5 1).1 (TX5 1).2.1 (TX5 1).2.2.1 ∈ mW mX5_set := by decide +kernel
theorem lX5_set_132 : Cond.fieldLink (mO mX5_set) 132 (TX3 4).1 (TX3 4).2.1 (TX3 4).2.2.1 ∈ mW mX5_set := by decide +kernel
theorem kX5_set_57 : CoV mX5_set 57 RX3 yX3_copyFrom wsX3_copyFrom (rmD 2) 1 := ⟨_, _, _, _, gX5_set_X3_copyFrom, rfl, by decide +kernel, ⟨Nat.le_of_ble_eq_true rfl, Nat.le_of_ble_eq_true rfl⟩, rfl, rfl⟩
theorem kX5_set_65 : CoV mX5_set 65 RX5 yX5_adoptTrial wsX5_adoptTrial (rmD 4) 0 := ⟨_, _, _, _, gX5_set_X5_adoptTrial, rfl, by decide +kernel, ⟨Nat.le_of_ble_eq_true rfl, Nat.le_of_ble_eq_true rfl⟩, rfl, rfl⟩
abbrev mX5_box : MI := (cX5_box, RX5, wsX5_box, 2, rmD 0, (some .int))
theorem jX5_box_X0 : ∀ w ∈ wsX00, w ∈ mW mX5_box := by decide +kernel
theorem jX5_box_X3 : ∀ w ∈ wsX30, w ∈ mW mX5_box := by decide +kernel
theorem jX5_box_X5 : ∀ w ∈ wsX50, w ∈ mW mX5_box := by decide +kernel
theorem lX5_box_10 : Cond.fieldLink (mO mX5_box) 10 (TX5 0).1 (TX5 0).2.1 (TX5 0).2.2.1 ∈ mW mX5_box := by decide +kernel
theorem lX5_box_72 : Cond.fieldLink (mO mX5_box) 72 (TX3 0).1 (TX3 0).2.1 (TX3 0).2.2.1 ∈ mW mX5_box := by decide +kernel
theorem lX5_box_118 : Cond.fieldLink (mO mX5_box) 118 (TX3 1).1 (TX3 1).2.1 (TX3 1).2.2.1 ∈ mW mX5_box := by decide +kernel
theorem lX5_box_156 : Cond.fieldLink (mO mX5_box) 156 (TX0 0).1 (TX0 0).2.1 (TX0 0).2.2.1 ∈ mW mX5_box := by decide +kernel
abbrev mX5_end : MI := (cX5_end, RX5, wsX5_end, 6, rmD 1, (some .int))
theorem jX5_end_X0 : ∀ w ∈ wsX00, w ∈ mW mX5_end := by decide +kernel
theorem jX5_end_X3 : ∀ w ∈ wsX30, w ∈ mW mX5_end := by decide +kernel
theorem jX5_end_X5 : ∀ w ∈ wsX50, w ∈ mW mX5_end := by decide +kernel
theorem lX5_end_10 : Cond.fieldLink (mO mX5_end) 10 (TX5 0).1 (TX5 0).2.1 (TX5 0).2.2.1 ∈ mW mX5_end := by decide +kernel
theorem lX5_end_72 : Cond.fieldLink (mO mX5_end) 72 (TX3 0).1 (TX3 0).2.1 (TX3 0).2.2.1 ∈ mW mX5_end := by decide +kernel
theorem lX5_end_88 : Cond.fieldLink (mO mX5_end) 88 (TX0 1).1 (TX0 1).2.1 (TX0 1).2.2.1 ∈ mW mX5_end := by decide +kernel
theorem lX5_end_92 : Cond.fieldLink (mO mX5_end) 92 (TX0 2).1 (TX0 2).2.1 (TX0 2).2.2.1 ∈ mW mX5_end := by decide +kernel
theorem kX5_end_68 : CoV mX5_end 68 RX3 yX3_slotOf wsX3_slotOf (rmD 0) 1 := ⟨_, _, _, _, gX5_end_X3_slotOf, rfl, by decide +kernel, ⟨Nat.le_of_ble_eq_true rfl, Nat.le_of_ble_eq_true rfl⟩, rfl, rfl⟩
theorem kX5_end_84 : CoS mX5_end 84 yX5_isDirection wsX5_isDirection (rmD 0) 1 := ⟨_, _, _, _, gX5_end_X5_isDirection, rfl, by decide +kernel, ⟨Nat.le_of_ble_eq_true rfl, Nat.le_of_ble_eq_true rfl⟩, rfl, rfl⟩
abbrev mX5_ofBox : MI := (cX5_ofBox, RX5, wsX5_ofBox, 4, rmD 7, (some .int))
theorem jX5_ofBox_X0 : ∀ w ∈ wsX00, w ∈ mW mX5_ofBox := by decide +kernel
theorem jX5_ofBox_X2 : ∀ w ∈ wsX20, w ∈ mW mX5_ofBox := by decide +kernel
theorem jX5_ofBox_X3 : ∀ w ∈ wsX30, w ∈ mW mX5_ofBox := by decide +kernel
theorem jX5_ofBox_X5 : ∀ w ∈ wsX50, w ∈ mW mX5_ofBox := by decide +kernel
theorem lX5_ofBox_10 : Cond.fieldLink (mO mX5_ofBox) 10 (TX5 0).1 (TX5 0).2.1 (TX5 0).2.2.1 ∈ mW mX5_ofBox := by decide +kernel
theorem lX5_ofBox_72 : Cond.fieldLink (mO mX5_ofBox) 72 (TX3 0).1 (TX3 0).2.1 (TX3 0).2.2.1 ∈ mW mX5_ofBox := by decide +kernel
theorem lX5_ofBox_88 : Cond.fieldLink (mO mX5_ofBox) 88 (TX0 1).1 (TX0 1).2.1 (TX0 1).2.2.1 ∈ mW mX5_ofBox := by decide +kernel
theorem lX5_ofBox_168 : Cond.fieldLink (mO mX5_ofBox) 168 (TX2 6).1 (TX2 6).2.1 (TX2 6).2.2.1 ∈ mW mX5_ofBox := by decide +kernel
theorem kX5_ofBox_68 : CoV mX5_ofBox 68 RX3 yX3_slotOf wsX3_slotOf (rmD 0) 1 := ⟨_, _, _, _, gX5_ofBox_X3_slotOf, rfl, by decide +kernel, ⟨Nat.le_of_ble_eq_true rfl, Nat.le_of_ble_eq_true rfl⟩, rfl, rfl⟩
theorem kX5_ofBox_76 : CoV mX5_ofBox 76 RX0 yX0_volume wsX0_volume (rmD 1) 0 := ⟨_, _, _, _, gX5_ofBox_X0_volume, rfl, by decide +kernel, ⟨Nat.le_of_ble_eq_true rfl, Nat.le_of_ble_eq_true rfl⟩, rfl, rfl⟩
theorem kX5_ofBox_159 : CoV mX5_ofBox 159 RX5 yX5_look wsX5_look (rmD 6) 0 := ⟨_, _, _, _, gX5_ofBox_X5_look, rfl, by decide +kernel, ⟨Nat.le_of_ble_eq_true rfl, Nat.le_of_ble_eq_true rfl⟩, rfl, rfl⟩
theorem kX5_ofBox_162 : CoV mX5_ofBox 162 RX2 yX2_hiddenBy wsX2_hiddenBy (rmD 1) 1 := ⟨_, _, _, _, gX5_ofBox_X2_hiddenBy, rfl, by decide +kernel, ⟨Nat.le_of_ble_eq_true rfl, Nat.le_of_ble_eq_true rfl⟩, rfl, rfl⟩
theorem kX5_ofBox_165 : CoV mX5_ofBox 165 RX2 yX2_hidersOf wsX2_hidersOf (rmD 1) 1 := ⟨_, _, _, _, gX5_ofBox_X2_hidersOf, rfl, by decide +kernel, ⟨Nat.le_of_ble_eq_true rfl, Nat.le_of_ble_eq_true rfl⟩, rfl, rfl⟩
theorem kX5_ofBox_171 : CoV mX5_ofBox 171 RX2 yX2_shortestRingOf wsX2_shortestRingOf (rmD 2) 1 := ⟨_, _, _, _, gX5_ofBox_X2_shortestRingOf, rfl, by decide +kernel, ⟨Nat.le_of_ble_eq_true rfl, Nat.le_of_ble_eq_true rfl⟩, rfl, rfl⟩
theorem kX5_ofBox_174 : CoV mX5_ofBox 174 RX3 yX3_supportsOf wsX3_supportsOf (rmD 2) 1 := ⟨_, _, _, _, gX5_ofBox_X3_supportsOf, rfl, by decide +kernel, ⟨Nat.le_of_ble_eq_true rfl, Nat.le_of_ble_eq_true rfl⟩, rfl, rfl⟩
theorem kX5_ofBox_177 : CoV mX5_ofBox 177 RX3 yX3_boxesBelow wsX3_boxesBelow (rmD 2) 1 := ⟨_, _, _, _, gX5_ofBox_X3_boxesBelow, rfl, by decide +kernel, ⟨Nat.le_of_ble_eq_true rfl, Nat.le_of_ble_eq_true rfl⟩, rfl, rfl⟩
theorem kX5_ofBox_180 : CoV mX5_ofBox 180 RX3 yX3_shadowOn wsX3_shadowOn (rmD 2) 1 := ⟨_, _, _, _, gX5_ofBox_X3_shadowOn, rfl, by decide +kernel, ⟨Nat.le_of_ble_eq_true rfl, Nat.le_of_ble_eq_true rfl⟩, rfl, rfl⟩
abbrev mX5_pair : MI := (cX5_pair, RX5, wsX5_pair, 7, rmD 3, (some .int))
theorem jX5_pair_X3 : ∀ w ∈ wsX30, w ∈ mW mX5_pair := by decide +kernel
theorem jX5_pair_X5 : ∀ w ∈ wsX50, w ∈ mW mX5_pair := by decide +kernel
theorem lX5_pair_10 : Cond.fieldLink (mO mX5_pair) 10 (TX5 0).1 (TX5 0).2.1 (TX5 0).2.2.1 ∈ mW mX5_pair := by decide +kernel
theorem lX5_pair_72 : Cond.fieldLink (mO mX5_pair) 72 (TX3 0).1 (TX3 0).2.1 (TX3 0).2.2.1 ∈ mW mX5_pair := by decide +kernel
theorem kX5_pair_68 : CoV mX5_pair 68 RX3 yX3_slotOf wsX3_slotOf (rmD 0) 1 := ⟨_, _, _, _, gX5_pair_X3_slotOf, rfl, by decide +kernel, ⟨Nat.le_of_ble_eq_true rfl, Nat.le_of_ble_eq_true rfl⟩, rfl, rfl⟩
theorem kX5_pair_183 : CoV mX5_pair 183 RX0 yX0_directionOfHiding wsX0_directionOfHiding (rmD 2) 1 := ⟨_, _, _, _, gX5_pair_X0_directionOfHiding, rfl, by decide +kernel, ⟨Nat.le_of_ble_eq_true rfl, Nat.le_of_ble_eq_true rfl⟩, rfl, rfl⟩
abbrev mX5_drawn : MI := (cX5_drawn, RX5, wsX5_drawn, 3, rmD 7, (some .int))
theorem jX5_drawn_X0 : ∀ w ∈ wsX00, w ∈ mW mX5_drawn := by decide +kernel
theorem jX5_drawn_X3 : ∀ w ∈ wsX30, w ∈ mW mX5_drawn := by decide +kernel
theorem jX5_drawn_X5 : ∀ w ∈ wsX50, w ∈ mW mX5_drawn := by decide +kernel
theorem lX5_drawn_10 : Cond.fieldLink (mO mX5_drawn) 10 (TX5 0).1 (TX5 0).2.1 (TX5 0).2.2.1 ∈ mW mX5_drawn := by decide +kernel
theorem lX5_drawn_72 : Cond.fieldLink (mO mX5_drawn) 72 (TX3 0).1 (TX3 0).2.1 (TX3 0).2.2.1 ∈ mW mX5_drawn := by decide +kernel
theorem lX5_drawn_156 : Cond.fieldLink (mO mX5_drawn) 156 (TX0 0).1 (TX0 0).2.1 (TX0 0).2.2.1 ∈ mW mX5_drawn := by decide +kernel
theorem kX5_drawn_159 : CoV mX5_drawn 159 RX5 yX5_look wsX5_look (rmD 6) 0 := ⟨_, _, _, _, gX5_drawn_X5_look, rfl, by decide +kernel, ⟨Nat.le_of_ble_eq_true rfl, Nat.le_of_ble_eq_true rfl⟩, rfl, rfl⟩
theorem kX5_drawn_187 : CoV mX5_drawn 187 RX2 yX2_slotDrawn wsX2_slotDrawn (rmD 0) 1 := ⟨_, _, _, _, gX5_drawn_X2_slotDrawn, rfl, by decide +kernel, ⟨Nat.le_of_ble_eq_true rfl, Nat.le_of_ble_eq_true rfl⟩, rfl, rfl⟩
abbrev mX5_total : MI := (cX5_total, RX5, wsX5_total, 2, rmD 7, (some .int))
theorem jX5_total_X1 : ∀ w ∈ wsX10, w ∈ mW mX5_total := by decide +kernel
theorem jX5_total_X2 : ∀ w ∈ wsX20, w ∈ mW mX5_total := by decide +kernel
theorem jX5_total_X3 : ∀ w ∈ wsX30, w ∈ mW mX5_total := by decide +kernel
theorem jX5_total_X4 : ∀ w ∈ wsX40, w ∈ mW mX5_total := by decide +kernel
theorem jX5_total_X5 : ∀ w ∈ wsX50, w ∈ mW mX5_total := by decide +kernel
theorem lX5_total_10 : Cond.fieldLink (mO mX5_total) 10 (TX5 0).1 (TX5 0).2.1 (TX5 0).2.2.1 ∈ mW mX5_total := by decide +kernel
theorem lX5_total_25 : Cond.fieldLink (mO mX5_total) 25 (TX5 4).1 (TX5 4).2.1 (TX5 4).2.2.1 ∈ mW mX5_total := by decide +kernel
theorem lX5_total_32 : Cond.fieldLink (mO mX5_total) 32 (TX5 5).1 (TX5 5).2.1 (TX5 5).2.2.1 ∈ mW mX5_total := by decide +kernel
theorem lX5_total_118 : Cond.fieldLink (mO mX5_total) 118 (TX3 1).1 (TX3 1).2.1 (TX3 1).2.2.1 ∈ mW mX5_total := by decide +kernel
theorem lX5_total_132 : Cond.fieldLink (mO mX5_total) 132 (TX3 4).1 (TX3 4).2.1 (TX3 4).2.2.1 ∈ mW mX5_total := by decide +kernel
theorem lX5_total_139 : Cond.fieldLink (mO mX5_total) 139 (TX4 1).1 (TX4 1).2.1 (TX4 1).2.2.1 ∈ mW mX5_total := by decide +kernel
theorem lX5_total_152 : Cond.fieldLink (mO mX5_total) 152 (TX1 1).1 (TX1 1).2.1 (TX1 1).2.2.1 ∈ mW mX5_total := by decide +kernel
theorem lX5_total_190 : Cond.fieldLink (mO mX5_total) 190 (TX3 2).1 (TX3 2).2.1 (TX3 2).2.2.1 ∈ mW mX5_total := by decide +kernel
theorem lX5_total_196 : Cond.fieldLink (mO mX5_total) 196 (TX2 5).1 (TX2 5).2.1 (TX2 5).2.2.1 ∈ mW mX5_total := by decide +kernel
theorem lX5_total_208 : Cond.fieldLink (mO mX5_total) 208 (TX3 3).1 (TX3 3).2.1 (TX3 3).2.2.1 ∈ mW mX5_total := by decide +kernel
theorem kX5_total_159 : CoV mX5_total 159 RX5 yX5_look wsX5_look (rmD 6) 0 := ⟨_, _, _, _, gX5_total_X5_look, rfl, by decide +kernel, ⟨Nat.le_of_ble_eq_true rfl, Nat.le_of_ble_eq_true rfl⟩, rfl, rfl⟩
theorem kX5_total_193 : CoV mX5_total 193 RX2 yX2_hidings wsX2_hidings (rmD 2) 0 := ⟨_, _, _, _, gX5_total_X2_hidings, rfl, by decide +kernel, ⟨Nat.le_of_ble_eq_true rfl, Nat.le_of_ble_eq_true rfl⟩, rfl, rfl⟩
theorem kX5_total_199 : CoV mX5_total 199 RX2 yX2_boxesInRings wsX2_boxesInRings (rmD 2) 0 := ⟨_, _, _, _, gX5_total_X2_boxesInRings, rfl, by decide +kernel, ⟨Nat.le_of_ble_eq_true rfl, Nat.le_of_ble_eq_true rfl⟩, rfl, rfl⟩
theorem kX5_total_202 : CoV mX5_total 202 RX2 yX2_shortestRing wsX2_shortestRing (rmD 3) 0 := ⟨_, _, _, _, gX5_total_X2_shortestRing, rfl, by decide +kernel, ⟨Nat.le_of_ble_eq_true rfl, Nat.le_of_ble_eq_true rfl⟩, rfl, rfl⟩
theorem kX5_total_205 : CoV mX5_total 205 RX2 yX2_greatestLayer wsX2_greatestLayer (rmD 1) 0 := ⟨_, _, _, _, gX5_total_X2_greatestLayer, rfl, by decide +kernel, ⟨Nat.le_of_ble_eq_true rfl, Nat.le_of_ble_eq_true rfl⟩, rfl, rfl⟩
theorem kX5_total_211 : CoV mX5_total 211 RX3 yX3_volume wsX3_volume (rmD 2) 0 := ⟨_, _, _, _, gX5_total_X3_volume, rfl, by decide +kernel, ⟨Nat.le_of_ble_eq_true rfl, Nat.le_of_ble_eq_true rfl⟩, rfl, rfl⟩
theorem kX5_total_212 : CoV mX5_total 212 RX3 yX3_shadow wsX3_shadow (rmD 3) 0 := ⟨_, _, _, _, gX5_total_X3_shadow, rfl, by decide +kernel, ⟨Nat.le_of_ble_eq_true rfl, Nat.le_of_ble_eq_true rfl⟩, rfl, rfl⟩
abbrev mX5_waitsFor : MI := (cX5_waitsFor, RX5, wsX5_waitsFor, 4, rmD 7, (some .int))
theorem jX5_waitsFor_X0 : ∀ w ∈ wsX00, w ∈ mW mX5_waitsFor := by decide +kernel
theorem jX5_waitsFor_X3 : ∀ w ∈ wsX30, w ∈ mW mX5_waitsFor := by decide +kernel
theorem jX5_waitsFor_X5 : ∀ w ∈ wsX50, w ∈ mW mX5_waitsFor := by decide +kernel
theorem lX5_waitsFor_10 : Cond.fieldLink (mO mX5_waitsFor) 10 (TX5 0).1 (TX5 0).2.1 (TX5 0).2.2.1 ∈ mW mX5_waitsFor := by decide +kernel
theorem lX5_waitsFor_72 : Cond.fieldLink (mO mX5_waitsFor) 72 (TX3 0).1 (TX3 0).2.1 (TX3 0).2.2.1 ∈ mW mX5_waitsFor := by decide +kernel
theorem lX5_waitsFor_156 : Cond.fieldLink (mO mX5_waitsFor) 156 (TX0 0).1 (TX0 0).2.1 (TX0 0).2.2.1 ∈ mW mX5_waitsFor := by decide +kernel
theorem kX5_waitsFor_68 : CoV mX5_waitsFor 68 RX3 yX3_slotOf wsX3_slotOf (rmD 0) 1 := ⟨_, _, _, _, gX5_waitsFor_X3_slotOf, rfl, by decide +kernel, ⟨Nat.le_of_ble_eq_true rfl, Nat.le_of_ble_eq_true rfl⟩, rfl, rfl⟩
theorem kX5_waitsFor_159 : CoV mX5_waitsFor 159 RX5 yX5_look wsX5_look (rmD 6) 0 := ⟨_, _, _, _, gX5_waitsFor_X5_look, rfl, by decide +kernel, ⟨Nat.le_of_ble_eq_true rfl, Nat.le_of_ble_eq_true rfl⟩, rfl, rfl⟩
theorem kX5_waitsFor_215 : CoV mX5_waitsFor 215 RX2 yX2_firstNotDrawnUnder wsX2_firstNotDrawnUnder (rmD 1) 1 := ⟨_, _, _, _, gX5_waitsFor_X2_firstNotDrawnUnder, rfl, by decide +kernel, ⟨Nat.le_of_ble_eq_true rfl, Nat.le_of_ble_eq_true rfl⟩, rfl, rfl⟩
abbrev mX5_breaks : MI := (cX5_breaks, RX5, wsX5_breaks, 3, rmD 7, (some .int))
theorem jX5_breaks_X5 : ∀ w ∈ wsX50, w ∈ mW mX5_breaks := by decide +kernel
theorem lX5_breaks_10 : Cond.fieldLink (mO mX5_breaks) 10 (TX5 0).1 (TX5 0).2.1 (TX5 0).2.2.1 ∈ mW mX5_breaks := by decide +kernel
theorem lX5_breaks_16 : Cond.fieldLink (mO mX5_breaks) 16 (TX5 1).1 (TX5 1).2.1 (TX5 1).2.2.1 ∈ mW mX5_breaks := by decide +kernel
theorem kX5_breaks_57 : CoV mX5_breaks 57 RX3 yX3_copyFrom wsX3_copyFrom (rmD 2) 1 := ⟨_, _, _, _, gX5_breaks_X3_copyFrom, rfl, by decide +kernel, ⟨Nat.le_of_ble_eq_true rfl, Nat.le_of_ble_eq_true rfl⟩, rfl, rfl⟩
theorem kX5_breaks_114 : CoV mX5_breaks 114 RX5 yX5_breakOne wsX5_breakOne (rmD 6) 1 := ⟨_, _, _, _, gX5_breaks_X5_breakOne, rfl, by decide +kernel, ⟨Nat.le_of_ble_eq_true rfl, Nat.le_of_ble_eq_true rfl⟩, rfl, rfl⟩
abbrev mX5_drawnWithout : MI := (cX5_drawnWithout, RX5, wsX5_drawnWithout, 3, rmD 6, (some .int))
theorem jX5_drawnWithout_X2 : ∀ w ∈ wsX20, w ∈ mW mX5_drawnWithout := by decide +kernel
theorem jX5_drawnWithout_X5 : ∀ w ∈ wsX50, w ∈ mW mX5_drawnWithout := by decide +kernel
theorem lX5_drawnWithout_10 : Cond.fieldLink (mO mX5_drawnWithout) 10 (TX5 0).1 (TX5 0).2.1 (TX5 0).2.2.1 ∈ mW mX5_drawnWithout := by decide +kernel
theorem lX5_drawnWithout_16 : Cond.fieldLink (mO mX5_drawnWithout) 16 (TX5 1).1 (TX5 1).2.1 (TX5 1).2.2.1 ∈ mW mX5_drawnWithout := by decide +kernel
theorem lX5_drawnWithout_39 : Cond.fieldLink (mO mX5_drawnWithout) 39 (TX5 6).1 (TX5 6).2.1 (TX5 6).2.2.1 ∈ mW mX5_drawnWithout := by decide +kernel
theorem lX5_drawnWithout_196 : Cond.fieldLink (mO mX5_drawnWithout) 196 (TX2 5).1 (TX2 5).2.1 (TX2 5).2.2.1 ∈ mW mX5_drawnWithout := by decide +kernel
theorem kX5_drawnWithout_57 : CoV mX5_drawnWithout 57 RX3 yX3_copyFrom wsX3_copyFrom (rmD 2) 1 := ⟨_, _, _, _, gX5_drawnWithout_X3_copyFrom, rfl, by decide +kernel, ⟨Nat.le_of_ble_eq_true rfl, Nat.le_of_ble_eq_true rfl⟩, rfl, rfl⟩
theorem kX5_drawnWithout_68 : CoV mX5_drawnWithout 68 RX3 yX3_slotOf wsX3_slotOf (rmD 0) 1 := ⟨_, _, _, _, gX5_drawnWithout_X3_slotOf, rfl, by decide +kernel, ⟨Nat.le_of_ble_eq_true rfl, Nat.le_of_ble_eq_true rfl⟩, rfl, rfl⟩
theorem kX5_drawnWithout_80 : CoV mX5_drawnWithout 80 RX3 yX3_takeOut wsX3_takeOut (rmD 2) 1 := ⟨_, _, _, _, gX5_drawnWithout_X3_takeOut, rfl, by decide +kernel, ⟨Nat.le_of_ble_eq_true rfl, Nat.le_of_ble_eq_true rfl⟩, rfl, rfl⟩
theorem kX5_drawnWithout_125 : CoV mX5_drawnWithout 125 RX2 yX2_look wsX2_look (rmD 5) 1 := ⟨_, _, _, _, gX5_drawnWithout_X2_look, rfl, by decide +kernel, ⟨Nat.le_of_ble_eq_true rfl, Nat.le_of_ble_eq_true rfl⟩, rfl, rfl⟩
abbrev mX5_isDirection : MI := (cX5_isDirection, RX5, wsX5_isDirection, 1, rmD 0, (some .boolean))
abbrev mX5_look : MI := (cX5_look, RX5, wsX5_look, 1, rmD 6, (some (.object "HidingBoxes$Picture")))
theorem jX5_look_X5 : ∀ w ∈ wsX50, w ∈ mW mX5_look := by decide +kernel
theorem lX5_look_10 : Cond.fieldLink (mO mX5_look) 10 (TX5 0).1 (TX5 0).2.1 (TX5 0).2.2.1 ∈ mW mX5_look := by decide +kernel
theorem lX5_look_39 : Cond.fieldLink (mO mX5_look) 39 (TX5 6).1 (TX5 6).2.1 (TX5 6).2.2.1 ∈ mW mX5_look := by decide +kernel
theorem kX5_look_125 : CoV mX5_look 125 RX2 yX2_look wsX2_look (rmD 5) 1 := ⟨_, _, _, _, gX5_look_X2_look, rfl, by decide +kernel, ⟨Nat.le_of_ble_eq_true rfl, Nat.le_of_ble_eq_true rfl⟩, rfl, rfl⟩
abbrev mX5_adoptTrial : MI := (cX5_adoptTrial, RX5, wsX5_adoptTrial, 1, rmD 4, none)
theorem jX5_adoptTrial_X5 : ∀ w ∈ wsX50, w ∈ mW mX5_adoptTrial := by decide +kernel
theorem lX5_adoptTrial_10 : Cond.fieldLink (mO mX5_adoptTrial) 10 (TX5 0).1 (TX5 0).2.1 (TX5 0).2.2.1 ∈ mW mX5_adoptTrial := by decide +kernel
theorem lX5_adoptTrial_16 : Cond.fieldLink (mO mX5_adoptTrial) 16 (TX5 1).1 (TX5 1).2.1 (TX5 1).2.2.1 ∈ mW mX5_adoptTrial := by decide +kernel
theorem lX5_adoptTrial_25 : Cond.fieldLink (mO mX5_adoptTrial) 25 (TX5 4).1 (TX5 4).2.1 (TX5 4).2.2.1 ∈ mW mX5_adoptTrial := by decide +kernel
theorem kX5_adoptTrial_57 : CoV mX5_adoptTrial 57 RX3 yX3_copyFrom wsX3_copyFrom (rmD 2) 1 := ⟨_, _, _, _, gX5_adoptTrial_X3_copyFrom, rfl, by decide +kernel, ⟨Nat.le_of_ble_eq_true rfl, Nat.le_of_ble_eq_true rfl⟩, rfl, rfl⟩
theorem kX5_adoptTrial_218 : CoV mX5_adoptTrial 218 RX1 yX1_remember wsX1_remember (rmD 3) 1 := ⟨_, _, _, _, gX5_adoptTrial_X1_remember, rfl, by decide +kernel, ⟨Nat.le_of_ble_eq_true rfl, Nat.le_of_ble_eq_true rfl⟩, rfl, rfl⟩
abbrev mX5_enter : MI := (cX5_enter, RX5, wsX5_enter, 9, rmD 3, (some .int))
theorem jX5_enter_X5 : ∀ w ∈ wsX50, w ∈ mW mX5_enter := by decide +kernel
theorem lX5_enter_49 : Cond.fieldLink (mO mX5_enter) 49 (TX5 8).1 (TX5 8).2.1 (TX5 8).2.2.1 ∈ mW mX5_enter := by decide +kernel
theorem kX5_enter_99 : CoV mX5_enter 99 RX3 yX3_isCutBy wsX3_isCutBy (rmD 2) 2 := ⟨_, _, _, _, gX5_enter_X3_isCutBy, rfl, by decide +kernel, ⟨Nat.le_of_ble_eq_true rfl, Nat.le_of_ble_eq_true rfl⟩, rfl, rfl⟩
theorem kX5_enter_106 : CoV mX5_enter 106 RX3 yX3_isFull wsX3_isFull (rmD 0) 0 := ⟨_, _, _, _, gX5_enter_X3_isFull, rfl, by decide +kernel, ⟨Nat.le_of_ble_eq_true rfl, Nat.le_of_ble_eq_true rfl⟩, rfl, rfl⟩
theorem kX5_enter_221 : CoV mX5_enter 221 RX0 yX0_lay wsX0_lay (rmD 0) 3 := ⟨_, _, _, _, gX5_enter_X0_lay, rfl, by decide +kernel, ⟨Nat.le_of_ble_eq_true rfl, Nat.le_of_ble_eq_true rfl⟩, rfl, rfl⟩
theorem kX5_enter_225 : CoV mX5_enter 225 RX3 yX3_append wsX3_append (rmD 2) 1 := ⟨_, _, _, _, gX5_enter_X3_append, rfl, by decide +kernel, ⟨Nat.le_of_ble_eq_true rfl, Nat.le_of_ble_eq_true rfl⟩, rfl, rfl⟩
abbrev mX5_breakOne : MI := (cX5_breakOne, RX5, wsX5_breakOne, 6, rmD 6, (some .int))
theorem jX5_breakOne_X0 : ∀ w ∈ wsX00, w ∈ mW mX5_breakOne := by decide +kernel
theorem jX5_breakOne_X3 : ∀ w ∈ wsX30, w ∈ mW mX5_breakOne := by decide +kernel
theorem jX5_breakOne_X5 : ∀ w ∈ wsX50, w ∈ mW mX5_breakOne := by decide +kernel
theorem lX5_breakOne_39 : Cond.fieldLink (mO mX5_breakOne) 39 (TX5 6).1 (TX5 6).2.1 (TX5 6).2.2.1 ∈ mW mX5_breakOne := by decide +kernel
theorem lX5_breakOne_72 : Cond.fieldLink (mO mX5_breakOne) 72 (TX3 0).1 (TX3 0).2.1 (TX3 0).2.2.1 ∈ mW mX5_breakOne := by decide +kernel
theorem lX5_breakOne_88 : Cond.fieldLink (mO mX5_breakOne) 88 (TX0 1).1 (TX0 1).2.1 (TX0 1).2.2.1 ∈ mW mX5_breakOne := by decide +kernel
theorem kX5_breakOne_106 : CoV mX5_breakOne 106 RX3 yX3_isFull wsX3_isFull (rmD 0) 0 := ⟨_, _, _, _, gX5_breakOne_X3_isFull, rfl, by decide +kernel, ⟨Nat.le_of_ble_eq_true rfl, Nat.le_of_ble_eq_true rfl⟩, rfl, rfl⟩
theorem kX5_breakOne_110 : CoV mX5_breakOne 110 RX3 yX3_cutInTwo wsX3_cutInTwo (rmD 3) 3 := ⟨_, _, _, _, gX5_breakOne_X3_cutInTwo, rfl, by decide +kernel, ⟨Nat.le_of_ble_eq_true rfl, Nat.le_of_ble_eq_true rfl⟩, rfl, rfl⟩
theorem kX5_breakOne_125 : CoV mX5_breakOne 125 RX2 yX2_look wsX2_look (rmD 5) 1 := ⟨_, _, _, _, gX5_breakOne_X2_look, rfl, by decide +kernel, ⟨Nat.le_of_ble_eq_true rfl, Nat.le_of_ble_eq_true rfl⟩, rfl, rfl⟩
theorem kX5_breakOne_227 : CoV mX5_breakOne 227 RX2 yX2_greatestInRings wsX2_greatestInRings (rmD 2) 1 := ⟨_, _, _, _, gX5_breakOne_X2_greatestInRings, rfl, by decide +kernel, ⟨Nat.le_of_ble_eq_true rfl, Nat.le_of_ble_eq_true rfl⟩, rfl, rfl⟩
theorem kX5_breakOne_230 : CoV mX5_breakOne 230 RX0 yX0_longestDirection wsX0_longestDirection (rmD 1) 0 := ⟨_, _, _, _, gX5_breakOne_X0_longestDirection, rfl, by decide +kernel, ⟨Nat.le_of_ble_eq_true rfl, Nat.le_of_ble_eq_true rfl⟩, rfl, rfl⟩
theorem kX5_breakOne_233 : CoV mX5_breakOne 233 RX0 yX0_size wsX0_size (rmD 0) 1 := ⟨_, _, _, _, gX5_breakOne_X0_size, rfl, by decide +kernel, ⟨Nat.le_of_ble_eq_true rfl, Nat.le_of_ble_eq_true rfl⟩, rfl, rfl⟩
abbrev mJ6_bitCount_0f7a4 : MI := (cJ6_bitCount_0f7a4, RJ6, wsJ6_bitCount_0f7a4, 1, rmD 0, (some .int))
abbrev mJ7_fill_53178 : MI := (cJ7_fill_53178, RJ7, wsJ7_fill_53178, 4, rmD 0, none)
section FIELDS
variable {M : MI} {Γ : GmW} {Ω : Om} {σ : Sg} {pc : Nat} {lv : List (Option Value)} {st : List Value} {index : Nat}
theorem fX0_0 (b : Nat) (hb : b < 113) (hin : ∀ w ∈ wsX00, w ∈ mW M) (hlink : Cond.fieldLink (mO M) index (TX0 0).1 (TX0 0).2.1 (TX0 0).2.2.1 ∈ mW M) (hd : decode (mB M) pc = .ok (.getfield index, 3))
    (kk : AtW M Γ Ω σ (pc + 3) lv (.int (σ (iBo b) 0) :: st)) : AtW M Γ Ω σ pc lv (.ref (ad Ω (iBo b)) :: st) := r_get (iBo b) (by unfold iBo; omega) (cel_box hb) rfl 0 (by decide) hin hlink rfl hd kk
theorem pX0_0 (b : Nat) (hb : b < 113) {x : Int32} (hin : ∀ w ∈ wsX00, w ∈ mW M) (hlink : Cond.fieldLink (mO M) index (TX0 0).1 (TX0 0).2.1 (TX0 0).2.2.1 ∈ mW M) (hd : decode (mB M) pc = .ok (.putfield index, 3))
    (kk : AtW M Γ Ω (upS σ (iBo b) 0 x) (pc + 3) lv st) : AtW M Γ Ω σ pc lv (.int x :: .ref (ad Ω (iBo b)) :: st) := r_put (iBo b) (by unfold iBo; omega) (cel_box hb) rfl 0 (by decide) hin hlink tyX0 tyX0_ok nmX0 rfl (ty := .int) (by decide +kernel) rfl rfl (Nat.le_of_ble_eq_true rfl) (by rw [cel_box hb]; simp [up_at, upd]) hd kk
theorem fX0_1 (b : Nat) (hb : b < 113) (hin : ∀ w ∈ wsX00, w ∈ mW M) (hlink : Cond.fieldLink (mO M) index (TX0 1).1 (TX0 1).2.1 (TX0 1).2.2.1 ∈ mW M) (hd : decode (mB M) pc = .ok (.getfield index, 3))
    (kk : AtW M Γ Ω σ (pc + 3) lv (.ref (ad Ω (iL b)) :: st)) : AtW M Γ Ω σ pc lv (.ref (ad Ω (iBo b)) :: st) := r_get (iBo b) (by unfold iBo; omega) (cel_box hb) rfl 1 (by decide) hin hlink rfl hd kk
theorem fX0_2 (b : Nat) (hb : b < 113) (hin : ∀ w ∈ wsX00, w ∈ mW M) (hlink : Cond.fieldLink (mO M) index (TX0 2).1 (TX0 2).2.1 (TX0 2).2.2.1 ∈ mW M) (hd : decode (mB M) pc = .ok (.getfield index, 3))
    (kk : AtW M Γ Ω σ (pc + 3) lv (.ref (ad Ω (iH b)) :: st)) : AtW M Γ Ω σ pc lv (.ref (ad Ω (iBo b)) :: st) := r_get (iBo b) (by unfold iBo; omega) (cel_box hb) rfl 2 (by decide) hin hlink rfl hd kk
theorem fX1_0  (hin : ∀ w ∈ wsX10, w ∈ mW M) (hlink : Cond.fieldLink (mO M) index (TX1 0).1 (TX1 0).2.1 (TX1 0).2.2.1 ∈ mW M) (hd : decode (mB M) pc = .ok (.getfield index, 3))
    (kk : AtW M Γ Ω σ (pc + 3) lv (.ref (ad Ω 364) :: st)) : AtW M Γ Ω σ pc lv (.ref (ad Ω (363)) :: st) := r_get (363) (by omega) (rfl) rfl 0 (by decide) hin hlink rfl hd kk
theorem fX1_1  (hin : ∀ w ∈ wsX10, w ∈ mW M) (hlink : Cond.fieldLink (mO M) index (TX1 1).1 (TX1 1).2.1 (TX1 1).2.2.1 ∈ mW M) (hd : decode (mB M) pc = .ok (.getfield index, 3))
    (kk : AtW M Γ Ω σ (pc + 3) lv (.int (σ 363 1) :: st)) : AtW M Γ Ω σ pc lv (.ref (ad Ω (363)) :: st) := r_get (363) (by omega) (rfl) rfl 1 (by decide) hin hlink rfl hd kk
theorem pX1_1  {x : Int32} (hin : ∀ w ∈ wsX10, w ∈ mW M) (hlink : Cond.fieldLink (mO M) index (TX1 1).1 (TX1 1).2.1 (TX1 1).2.2.1 ∈ mW M) (hd : decode (mB M) pc = .ok (.putfield index, 3))
    (kk : AtW M Γ Ω (upS σ (363) 1 x) (pc + 3) lv st) : AtW M Γ Ω σ pc lv (.int x :: .ref (ad Ω (363)) :: st) := r_put (363) (by omega) (rfl) rfl 1 (by decide) hin hlink tyX1 tyX1_ok nmX1 rfl (ty := .int) (by decide +kernel) rfl rfl (Nat.le_of_ble_eq_true rfl) (by show Sum.inr _ = _; simp [up_at, upd]) hd kk
theorem fX2_0 (p : Nat) (hp : p < 2) (hin : ∀ w ∈ wsX20, w ∈ mW M) (hlink : Cond.fieldLink (mO M) index (TX2 0).1 (TX2 0).2.1 (TX2 0).2.2.1 ∈ mW M) (hd : decode (mB M) pc = .ok (.getfield index, 3))
    (kk : AtW M Γ Ω σ (pc + 3) lv (.int (σ (iP p) 0) :: st)) : AtW M Γ Ω σ pc lv (.ref (ad Ω (iP p)) :: st) := r_get (iP p) (by unfold iP; omega) (cel_pic hp) rfl 0 (by decide) hin hlink rfl hd kk
theorem pX2_0 (p : Nat) (hp : p < 2) {x : Int32} (hin : ∀ w ∈ wsX20, w ∈ mW M) (hlink : Cond.fieldLink (mO M) index (TX2 0).1 (TX2 0).2.1 (TX2 0).2.2.1 ∈ mW M) (hd : decode (mB M) pc = .ok (.putfield index, 3))
    (kk : AtW M Γ Ω (upS σ (iP p) 0 x) (pc + 3) lv st) : AtW M Γ Ω σ pc lv (.int x :: .ref (ad Ω (iP p)) :: st) := r_put (iP p) (by unfold iP; omega) (cel_pic hp) rfl 0 (by decide) hin hlink tyX2 tyX2_ok nmX2 rfl (ty := .int) (by decide +kernel) rfl rfl (Nat.le_of_ble_eq_true rfl) (by rw [cel_pic hp]; simp [up_at, upd]) hd kk
theorem fX2_1 (p : Nat) (hp : p < 2) (hin : ∀ w ∈ wsX20, w ∈ mW M) (hlink : Cond.fieldLink (mO M) index (TX2 1).1 (TX2 1).2.1 (TX2 1).2.2.1 ∈ mW M) (hd : decode (mB M) pc = .ok (.getfield index, 3))
    (kk : AtW M Γ Ω σ (pc + 3) lv (.ref (ad Ω (iP p + 1)) :: st)) : AtW M Γ Ω σ pc lv (.ref (ad Ω (iP p)) :: st) := r_get (iP p) (by unfold iP; omega) (cel_pic hp) rfl 1 (by decide) hin hlink rfl hd kk
theorem fX2_2 (p : Nat) (hp : p < 2) (hin : ∀ w ∈ wsX20, w ∈ mW M) (hlink : Cond.fieldLink (mO M) index (TX2 2).1 (TX2 2).2.1 (TX2 2).2.2.1 ∈ mW M) (hd : decode (mB M) pc = .ok (.getfield index, 3))
    (kk : AtW M Γ Ω σ (pc + 3) lv (.ref (ad Ω (iP p + 2)) :: st)) : AtW M Γ Ω σ pc lv (.ref (ad Ω (iP p)) :: st) := r_get (iP p) (by unfold iP; omega) (cel_pic hp) rfl 2 (by decide) hin hlink rfl hd kk
theorem fX2_3 (p : Nat) (hp : p < 2) (hin : ∀ w ∈ wsX20, w ∈ mW M) (hlink : Cond.fieldLink (mO M) index (TX2 3).1 (TX2 3).2.1 (TX2 3).2.2.1 ∈ mW M) (hd : decode (mB M) pc = .ok (.getfield index, 3))
    (kk : AtW M Γ Ω σ (pc + 3) lv (.ref (ad Ω (iP p + 3)) :: st)) : AtW M Γ Ω σ pc lv (.ref (ad Ω (iP p)) :: st) := r_get (iP p) (by unfold iP; omega) (cel_pic hp) rfl 3 (by decide) hin hlink rfl hd kk
theorem fX2_4 (p : Nat) (hp : p < 2) (hin : ∀ w ∈ wsX20, w ∈ mW M) (hlink : Cond.fieldLink (mO M) index (TX2 4).1 (TX2 4).2.1 (TX2 4).2.2.1 ∈ mW M) (hd : decode (mB M) pc = .ok (.getfield index, 3))
    (kk : AtW M Γ Ω σ (pc + 3) lv (.int (σ (iP p) 4) :: st)) : AtW M Γ Ω σ pc lv (.ref (ad Ω (iP p)) :: st) := r_get (iP p) (by unfold iP; omega) (cel_pic hp) rfl 4 (by decide) hin hlink rfl hd kk
theorem pX2_4 (p : Nat) (hp : p < 2) {x : Int32} (hin : ∀ w ∈ wsX20, w ∈ mW M) (hlink : Cond.fieldLink (mO M) index (TX2 4).1 (TX2 4).2.1 (TX2 4).2.2.1 ∈ mW M) (hd : decode (mB M) pc = .ok (.putfield index, 3))
    (kk : AtW M Γ Ω (upS σ (iP p) 4 x) (pc + 3) lv st) : AtW M Γ Ω σ pc lv (.int x :: .ref (ad Ω (iP p)) :: st) := r_put (iP p) (by unfold iP; omega) (cel_pic hp) rfl 4 (by decide) hin hlink tyX2 tyX2_ok nmX2 rfl (ty := .int) (by decide +kernel) rfl rfl (Nat.le_of_ble_eq_true rfl) (by rw [cel_pic hp]; simp [up_at, upd]) hd kk
theorem fX2_5 (p : Nat) (hp : p < 2) (hin : ∀ w ∈ wsX20, w ∈ mW M) (hlink : Cond.fieldLink (mO M) index (TX2 5).1 (TX2 5).2.1 (TX2 5).2.2.1 ∈ mW M) (hd : decode (mB M) pc = .ok (.getfield index, 3))
    (kk : AtW M Γ Ω σ (pc + 3) lv (.int (σ (iP p) 5) :: st)) : AtW M Γ Ω σ pc lv (.ref (ad Ω (iP p)) :: st) := r_get (iP p) (by unfold iP; omega) (cel_pic hp) rfl 5 (by decide) hin hlink rfl hd kk
theorem pX2_5 (p : Nat) (hp : p < 2) {x : Int32} (hin : ∀ w ∈ wsX20, w ∈ mW M) (hlink : Cond.fieldLink (mO M) index (TX2 5).1 (TX2 5).2.1 (TX2 5).2.2.1 ∈ mW M) (hd : decode (mB M) pc = .ok (.putfield index, 3))
    (kk : AtW M Γ Ω (upS σ (iP p) 5 x) (pc + 3) lv st) : AtW M Γ Ω σ pc lv (.int x :: .ref (ad Ω (iP p)) :: st) := r_put (iP p) (by unfold iP; omega) (cel_pic hp) rfl 5 (by decide) hin hlink tyX2 tyX2_ok nmX2 rfl (ty := .int) (by decide +kernel) rfl rfl (Nat.le_of_ble_eq_true rfl) (by rw [cel_pic hp]; simp [up_at, upd]) hd kk
theorem fX2_6 (p : Nat) (hp : p < 2) (hin : ∀ w ∈ wsX20, w ∈ mW M) (hlink : Cond.fieldLink (mO M) index (TX2 6).1 (TX2 6).2.1 (TX2 6).2.2.1 ∈ mW M) (hd : decode (mB M) pc = .ok (.getfield index, 3))
    (kk : AtW M Γ Ω σ (pc + 3) lv (.ref (ad Ω (iP p + 4)) :: st)) : AtW M Γ Ω σ pc lv (.ref (ad Ω (iP p)) :: st) := r_get (iP p) (by unfold iP; omega) (cel_pic hp) rfl 6 (by decide) hin hlink rfl hd kk
theorem fX3_0 (s : Nat) (hs : s < 7) (hin : ∀ w ∈ wsX30, w ∈ mW M) (hlink : Cond.fieldLink (mO M) index (TX3 0).1 (TX3 0).2.1 (TX3 0).2.2.1 ∈ mW M) (hd : decode (mB M) pc = .ok (.getfield index, 3))
    (kk : AtW M Γ Ω σ (pc + 3) lv (.ref (ad Ω (iA s)) :: st)) : AtW M Γ Ω σ pc lv (.ref (ad Ω (iS s)) :: st) := r_get (iS s) (by unfold iS; omega) (cel_sp hs) rfl 0 (by decide) hin hlink rfl hd kk
theorem fX3_1 (s : Nat) (hs : s < 7) (hin : ∀ w ∈ wsX30, w ∈ mW M) (hlink : Cond.fieldLink (mO M) index (TX3 1).1 (TX3 1).2.1 (TX3 1).2.2.1 ∈ mW M) (hd : decode (mB M) pc = .ok (.getfield index, 3))
    (kk : AtW M Γ Ω σ (pc + 3) lv (.int (σ (iS s) 1) :: st)) : AtW M Γ Ω σ pc lv (.ref (ad Ω (iS s)) :: st) := r_get (iS s) (by unfold iS; omega) (cel_sp hs) rfl 1 (by decide) hin hlink rfl hd kk
theorem pX3_1 (s : Nat) (hs : s < 7) {x : Int32} (hin : ∀ w ∈ wsX30, w ∈ mW M) (hlink : Cond.fieldLink (mO M) index (TX3 1).1 (TX3 1).2.1 (TX3 1).2.2.1 ∈ mW M) (hd : decode (mB M) pc = .ok (.putfield index, 3))
    (kk : AtW M Γ Ω (upS σ (iS s) 1 x) (pc + 3) lv st) : AtW M Γ Ω σ pc lv (.int x :: .ref (ad Ω (iS s)) :: st) := r_put (iS s) (by unfold iS; omega) (cel_sp hs) rfl 1 (by decide) hin hlink tyX3 tyX3_ok nmX3 rfl (ty := .int) (by decide +kernel) rfl rfl (Nat.le_of_ble_eq_true rfl) (by rw [cel_sp hs]; simp [up_at, upd]) hd kk
theorem fX3_2 (s : Nat) (hs : s < 7) (hin : ∀ w ∈ wsX30, w ∈ mW M) (hlink : Cond.fieldLink (mO M) index (TX3 2).1 (TX3 2).2.1 (TX3 2).2.2.1 ∈ mW M) (hd : decode (mB M) pc = .ok (.getfield index, 3))
    (kk : AtW M Γ Ω σ (pc + 3) lv (.int (σ (iS s) 2) :: st)) : AtW M Γ Ω σ pc lv (.ref (ad Ω (iS s)) :: st) := r_get (iS s) (by unfold iS; omega) (cel_sp hs) rfl 2 (by decide) hin hlink rfl hd kk
theorem pX3_2 (s : Nat) (hs : s < 7) {x : Int32} (hin : ∀ w ∈ wsX30, w ∈ mW M) (hlink : Cond.fieldLink (mO M) index (TX3 2).1 (TX3 2).2.1 (TX3 2).2.2.1 ∈ mW M) (hd : decode (mB M) pc = .ok (.putfield index, 3))
    (kk : AtW M Γ Ω (upS σ (iS s) 2 x) (pc + 3) lv st) : AtW M Γ Ω σ pc lv (.int x :: .ref (ad Ω (iS s)) :: st) := r_put (iS s) (by unfold iS; omega) (cel_sp hs) rfl 2 (by decide) hin hlink tyX3 tyX3_ok nmX3 rfl (ty := .int) (by decide +kernel) rfl rfl (Nat.le_of_ble_eq_true rfl) (by rw [cel_sp hs]; simp [up_at, upd]) hd kk
theorem fX3_3 (s : Nat) (hs : s < 7) (hin : ∀ w ∈ wsX30, w ∈ mW M) (hlink : Cond.fieldLink (mO M) index (TX3 3).1 (TX3 3).2.1 (TX3 3).2.2.1 ∈ mW M) (hd : decode (mB M) pc = .ok (.getfield index, 3))
    (kk : AtW M Γ Ω σ (pc + 3) lv (.int (σ (iS s) 3) :: st)) : AtW M Γ Ω σ pc lv (.ref (ad Ω (iS s)) :: st) := r_get (iS s) (by unfold iS; omega) (cel_sp hs) rfl 3 (by decide) hin hlink rfl hd kk
theorem pX3_3 (s : Nat) (hs : s < 7) {x : Int32} (hin : ∀ w ∈ wsX30, w ∈ mW M) (hlink : Cond.fieldLink (mO M) index (TX3 3).1 (TX3 3).2.1 (TX3 3).2.2.1 ∈ mW M) (hd : decode (mB M) pc = .ok (.putfield index, 3))
    (kk : AtW M Γ Ω (upS σ (iS s) 3 x) (pc + 3) lv st) : AtW M Γ Ω σ pc lv (.int x :: .ref (ad Ω (iS s)) :: st) := r_put (iS s) (by unfold iS; omega) (cel_sp hs) rfl 3 (by decide) hin hlink tyX3 tyX3_ok nmX3 rfl (ty := .int) (by decide +kernel) rfl rfl (Nat.le_of_ble_eq_true rfl) (by rw [cel_sp hs]; simp [up_at, upd]) hd kk
theorem fX3_4 (s : Nat) (hs : s < 7) (hin : ∀ w ∈ wsX30, w ∈ mW M) (hlink : Cond.fieldLink (mO M) index (TX3 4).1 (TX3 4).2.1 (TX3 4).2.2.1 ∈ mW M) (hd : decode (mB M) pc = .ok (.getfield index, 3))
    (kk : AtW M Γ Ω σ (pc + 3) lv (.int (σ (iS s) 4) :: st)) : AtW M Γ Ω σ pc lv (.ref (ad Ω (iS s)) :: st) := r_get (iS s) (by unfold iS; omega) (cel_sp hs) rfl 4 (by decide) hin hlink rfl hd kk
theorem pX3_4 (s : Nat) (hs : s < 7) {x : Int32} (hin : ∀ w ∈ wsX30, w ∈ mW M) (hlink : Cond.fieldLink (mO M) index (TX3 4).1 (TX3 4).2.1 (TX3 4).2.2.1 ∈ mW M) (hd : decode (mB M) pc = .ok (.putfield index, 3))
    (kk : AtW M Γ Ω (upS σ (iS s) 4 x) (pc + 3) lv st) : AtW M Γ Ω σ pc lv (.int x :: .ref (ad Ω (iS s)) :: st) := r_put (iS s) (by unfold iS; omega) (cel_sp hs) rfl 4 (by decide) hin hlink tyX3 tyX3_ok nmX3 rfl (ty := .int) (by decide +kernel) rfl rfl (Nat.le_of_ble_eq_true rfl) (by rw [cel_sp hs]; simp [up_at, upd]) hd kk
theorem fX4_0  (hin : ∀ w ∈ wsX40, w ∈ mW M) (hlink : Cond.fieldLink (mO M) index (TX4 0).1 (TX4 0).2.1 (TX4 0).2.2.1 ∈ mW M) (hd : decode (mB M) pc = .ok (.getfield index, 3))
    (kk : AtW M Γ Ω σ (pc + 3) lv (.ref (ad Ω 366) :: st)) : AtW M Γ Ω σ pc lv (.ref (ad Ω (365)) :: st) := r_get (365) (by omega) (rfl) rfl 0 (by decide) hin hlink rfl hd kk
theorem fX4_1  (hin : ∀ w ∈ wsX40, w ∈ mW M) (hlink : Cond.fieldLink (mO M) index (TX4 1).1 (TX4 1).2.1 (TX4 1).2.2.1 ∈ mW M) (hd : decode (mB M) pc = .ok (.getfield index, 3))
    (kk : AtW M Γ Ω σ (pc + 3) lv (.int (σ 365 1) :: st)) : AtW M Γ Ω σ pc lv (.ref (ad Ω (365)) :: st) := r_get (365) (by omega) (rfl) rfl 1 (by decide) hin hlink rfl hd kk
theorem pX4_1  {x : Int32} (hin : ∀ w ∈ wsX40, w ∈ mW M) (hlink : Cond.fieldLink (mO M) index (TX4 1).1 (TX4 1).2.1 (TX4 1).2.2.1 ∈ mW M) (hd : decode (mB M) pc = .ok (.putfield index, 3))
    (kk : AtW M Γ Ω (upS σ (365) 1 x) (pc + 3) lv st) : AtW M Γ Ω σ pc lv (.int x :: .ref (ad Ω (365)) :: st) := r_put (365) (by omega) (rfl) rfl 1 (by decide) hin hlink tyX4 tyX4_ok nmX4 rfl (ty := .int) (by decide +kernel) rfl rfl (Nat.le_of_ble_eq_true rfl) (by show Sum.inr _ = _; simp [up_at, upd]) hd kk
theorem fX4_2  (hin : ∀ w ∈ wsX40, w ∈ mW M) (hlink : Cond.fieldLink (mO M) index (TX4 2).1 (TX4 2).2.1 (TX4 2).2.2.1 ∈ mW M) (hd : decode (mB M) pc = .ok (.getfield index, 3))
    (kk : AtW M Γ Ω σ (pc + 3) lv (.ref (ad Ω 367) :: st)) : AtW M Γ Ω σ pc lv (.ref (ad Ω (365)) :: st) := r_get (365) (by omega) (rfl) rfl 2 (by decide) hin hlink rfl hd kk
theorem fX4_3  (hin : ∀ w ∈ wsX40, w ∈ mW M) (hlink : Cond.fieldLink (mO M) index (TX4 3).1 (TX4 3).2.1 (TX4 3).2.2.1 ∈ mW M) (hd : decode (mB M) pc = .ok (.getfield index, 3))
    (kk : AtW M Γ Ω σ (pc + 3) lv (.int (σ 365 3) :: st)) : AtW M Γ Ω σ pc lv (.ref (ad Ω (365)) :: st) := r_get (365) (by omega) (rfl) rfl 3 (by decide) hin hlink rfl hd kk
theorem pX4_3  {x : Int32} (hin : ∀ w ∈ wsX40, w ∈ mW M) (hlink : Cond.fieldLink (mO M) index (TX4 3).1 (TX4 3).2.1 (TX4 3).2.2.1 ∈ mW M) (hd : decode (mB M) pc = .ok (.putfield index, 3))
    (kk : AtW M Γ Ω (upS σ (365) 3 x) (pc + 3) lv st) : AtW M Γ Ω σ pc lv (.int x :: .ref (ad Ω (365)) :: st) := r_put (365) (by omega) (rfl) rfl 3 (by decide) hin hlink tyX4 tyX4_ok nmX4 rfl (ty := .int) (by decide +kernel) rfl rfl (Nat.le_of_ble_eq_true rfl) (by show Sum.inr _ = _; simp [up_at, upd]) hd kk
theorem fX5_0  (hin : ∀ w ∈ wsX50, w ∈ mW M) (hlink : Cond.fieldLink (mO M) index (TX5 0).1 (TX5 0).2.1 (TX5 0).2.2.1 ∈ mW M) (hd : decode (mB M) pc = .ok (.getfield index, 3))
    (kk : AtW M Γ Ω σ (pc + 3) lv (.ref (ad Ω (iS 0)) :: st)) : AtW M Γ Ω σ pc lv (.ref (ad Ω (368)) :: st) := r_get (368) (by omega) (rfl) rfl 0 (by decide) hin hlink rfl hd kk
theorem fX5_1  (hin : ∀ w ∈ wsX50, w ∈ mW M) (hlink : Cond.fieldLink (mO M) index (TX5 1).1 (TX5 1).2.1 (TX5 1).2.2.1 ∈ mW M) (hd : decode (mB M) pc = .ok (.getfield index, 3))
    (kk : AtW M Γ Ω σ (pc + 3) lv (.ref (ad Ω (iS 1)) :: st)) : AtW M Γ Ω σ pc lv (.ref (ad Ω (368)) :: st) := r_get (368) (by omega) (rfl) rfl 1 (by decide) hin hlink rfl hd kk
theorem fX5_2  (hin : ∀ w ∈ wsX50, w ∈ mW M) (hlink : Cond.fieldLink (mO M) index (TX5 2).1 (TX5 2).2.1 (TX5 2).2.2.1 ∈ mW M) (hd : decode (mB M) pc = .ok (.getfield index, 3))
    (kk : AtW M Γ Ω σ (pc + 3) lv (.ref (ad Ω (iS 2)) :: st)) : AtW M Γ Ω σ pc lv (.ref (ad Ω (368)) :: st) := r_get (368) (by omega) (rfl) rfl 2 (by decide) hin hlink rfl hd kk
theorem fX5_3  (hin : ∀ w ∈ wsX50, w ∈ mW M) (hlink : Cond.fieldLink (mO M) index (TX5 3).1 (TX5 3).2.1 (TX5 3).2.2.1 ∈ mW M) (hd : decode (mB M) pc = .ok (.getfield index, 3))
    (kk : AtW M Γ Ω σ (pc + 3) lv (.int (σ 368 3) :: st)) : AtW M Γ Ω σ pc lv (.ref (ad Ω (368)) :: st) := r_get (368) (by omega) (rfl) rfl 3 (by decide) hin hlink rfl hd kk
theorem pX5_3  {x : Int32} (hx : x = 0 ∨ x = 1) (hin : ∀ w ∈ wsX50, w ∈ mW M) (hlink : Cond.fieldLink (mO M) index (TX5 3).1 (TX5 3).2.1 (TX5 3).2.2.1 ∈ mW M) (hd : decode (mB M) pc = .ok (.putfield index, 3))
    (kk : AtW M Γ Ω (upS σ (368) 3 x) (pc + 3) lv st) : AtW M Γ Ω σ pc lv (.int x :: .ref (ad Ω (368)) :: st) := r_put (368) (by omega) (rfl) rfl 3 (by decide) hin hlink tyX5 tyX5_ok nmX5 rfl (ty := .boolean) (by decide +kernel) (by rcases hx with rfl | rfl <;> rfl) (by rcases hx with rfl | rfl <;> rfl) (Nat.le_of_ble_eq_true rfl) (by show Sum.inr _ = _; simp [up_at, upd]) hd kk
theorem fX5_4  (hin : ∀ w ∈ wsX50, w ∈ mW M) (hlink : Cond.fieldLink (mO M) index (TX5 4).1 (TX5 4).2.1 (TX5 4).2.2.1 ∈ mW M) (hd : decode (mB M) pc = .ok (.getfield index, 3))
    (kk : AtW M Γ Ω σ (pc + 3) lv (.ref (ad Ω 363) :: st)) : AtW M Γ Ω σ pc lv (.ref (ad Ω (368)) :: st) := r_get (368) (by omega) (rfl) rfl 4 (by decide) hin hlink rfl hd kk
theorem fX5_5  (hin : ∀ w ∈ wsX50, w ∈ mW M) (hlink : Cond.fieldLink (mO M) index (TX5 5).1 (TX5 5).2.1 (TX5 5).2.2.1 ∈ mW M) (hd : decode (mB M) pc = .ok (.getfield index, 3))
    (kk : AtW M Γ Ω σ (pc + 3) lv (.ref (ad Ω 365) :: st)) : AtW M Γ Ω σ pc lv (.ref (ad Ω (368)) :: st) := r_get (368) (by omega) (rfl) rfl 5 (by decide) hin hlink rfl hd kk
theorem fX5_6  (hin : ∀ w ∈ wsX50, w ∈ mW M) (hlink : Cond.fieldLink (mO M) index (TX5 6).1 (TX5 6).2.1 (TX5 6).2.2.1 ∈ mW M) (hd : decode (mB M) pc = .ok (.getfield index, 3))
    (kk : AtW M Γ Ω σ (pc + 3) lv (.ref (ad Ω (iP 0)) :: st)) : AtW M Γ Ω σ pc lv (.ref (ad Ω (368)) :: st) := r_get (368) (by omega) (rfl) rfl 6 (by decide) hin hlink rfl hd kk
theorem fX5_7  (hin : ∀ w ∈ wsX50, w ∈ mW M) (hlink : Cond.fieldLink (mO M) index (TX5 7).1 (TX5 7).2.1 (TX5 7).2.2.1 ∈ mW M) (hd : decode (mB M) pc = .ok (.getfield index, 3))
    (kk : AtW M Γ Ω σ (pc + 3) lv (.ref (ad Ω (iP 1)) :: st)) : AtW M Γ Ω σ pc lv (.ref (ad Ω (368)) :: st) := r_get (368) (by omega) (rfl) rfl 7 (by decide) hin hlink rfl hd kk
theorem fX5_8  (hin : ∀ w ∈ wsX50, w ∈ mW M) (hlink : Cond.fieldLink (mO M) index (TX5 8).1 (TX5 8).2.1 (TX5 8).2.2.1 ∈ mW M) (hd : decode (mB M) pc = .ok (.getfield index, 3))
    (kk : AtW M Γ Ω σ (pc + 3) lv (.ref (ad Ω (iBo 112)) :: st)) : AtW M Γ Ω σ pc lv (.ref (ad Ω (368)) :: st) := r_get (368) (by omega) (rfl) rfl 8 (by decide) hin hlink rfl hd kk
theorem ldL (b : Nat) (hb : b < 113) {i : Int32} (j : Nat) (hi : i = nI j) (hj : j < 3) (hd : decode (mB M) pc = .ok (.iaload, 1))
    (kk : AtW M Γ Ω σ (pc + 1) lv (.int (σ (iL b) j) :: st)) : AtW M Γ Ω σ pc lv (.int i :: .ref (ad Ω (iL b)) :: st) := r_iald (iL b) (n := 3) (f := σ (iL b)) (by unfold iL; omega) (cel_low hb) j hi hj (by omega) hd kk
theorem stL (b : Nat) (hb : b < 113) {i x : Int32} (j : Nat) (hi : i = nI j) (hj : j < 3) (hd : decode (mB M) pc = .ok (.iastore, 1))
    (kk : AtW M Γ Ω (upS σ (iL b) j x) (pc + 1) lv st) : AtW M Γ Ω σ pc lv (.int x :: .int i :: .ref (ad Ω (iL b)) :: st) := r_iast (iL b) (n := 3) (by unfold iL; omega) (fun _ => cel_low hb) j hi hj (by omega) hd kk
theorem ldH (b : Nat) (hb : b < 113) {i : Int32} (j : Nat) (hi : i = nI j) (hj : j < 3) (hd : decode (mB M) pc = .ok (.iaload, 1))
    (kk : AtW M Γ Ω σ (pc + 1) lv (.int (σ (iH b) j) :: st)) : AtW M Γ Ω σ pc lv (.int i :: .ref (ad Ω (iH b)) :: st) := r_iald (iH b) (n := 3) (f := σ (iH b)) (by unfold iH; omega) (cel_high hb) j hi hj (by omega) hd kk
theorem stH (b : Nat) (hb : b < 113) {i x : Int32} (j : Nat) (hi : i = nI j) (hj : j < 3) (hd : decode (mB M) pc = .ok (.iastore, 1))
    (kk : AtW M Γ Ω (upS σ (iH b) j x) (pc + 1) lv st) : AtW M Γ Ω σ pc lv (.int x :: .int i :: .ref (ad Ω (iH b)) :: st) := r_iast (iH b) (n := 3) (by unfold iH; omega) (fun _ => cel_high hb) j hi hj (by omega) hd kk
theorem ldVA  {i : Int32} (j : Nat) (hi : i = nI j) (hj : j < 41) (hd : decode (mB M) pc = .ok (.iaload, 1))
    (kk : AtW M Γ Ω σ (pc + 1) lv (.int (σ (367) j) :: st)) : AtW M Γ Ω σ pc lv (.int i :: .ref (ad Ω (367)) :: st) := r_iald (367) (n := 41) (f := σ (367)) (by omega) (rfl) j hi hj (by omega) hd kk
theorem stVA  {i x : Int32} (j : Nat) (hi : i = nI j) (hj : j < 41) (hd : decode (mB M) pc = .ok (.iastore, 1))
    (kk : AtW M Γ Ω (upS σ (367) j x) (pc + 1) lv st) : AtW M Γ Ω σ pc lv (.int x :: .int i :: .ref (ad Ω (367)) :: st) := r_iast (367) (n := 41) (by omega) (fun _ => rfl) j hi hj (by omega) hd kk
theorem ldP1 (p : Nat) (hp : p < 2) {i : Int32} (j : Nat) (hi : i = nI j) (hj : j < 16) (hd : decode (mB M) pc = .ok (.iaload, 1))
    (kk : AtW M Γ Ω σ (pc + 1) lv (.int (σ (iP p + 1) j) :: st)) : AtW M Γ Ω σ pc lv (.int i :: .ref (ad Ω (iP p + 1)) :: st) := r_iald (iP p + 1) (n := 16) (f := σ (iP p + 1)) (by unfold iP; omega) (cel_picA hp (by decide) (by decide)) j hi hj (by omega) hd kk
theorem stP1 (p : Nat) (hp : p < 2) {i x : Int32} (j : Nat) (hi : i = nI j) (hj : j < 16) (hd : decode (mB M) pc = .ok (.iastore, 1))
    (kk : AtW M Γ Ω (upS σ (iP p + 1) j x) (pc + 1) lv st) : AtW M Γ Ω σ pc lv (.int x :: .int i :: .ref (ad Ω (iP p + 1)) :: st) := r_iast (iP p + 1) (n := 16) (by unfold iP; omega) (fun _ => cel_picA hp (by decide) (by decide)) j hi hj (by omega) hd kk
theorem ldP2 (p : Nat) (hp : p < 2) {i : Int32} (j : Nat) (hi : i = nI j) (hj : j < 16) (hd : decode (mB M) pc = .ok (.iaload, 1))
    (kk : AtW M Γ Ω σ (pc + 1) lv (.int (σ (iP p + 2) j) :: st)) : AtW M Γ Ω σ pc lv (.int i :: .ref (ad Ω (iP p + 2)) :: st) := r_iald (iP p + 2) (n := 16) (f := σ (iP p + 2)) (by unfold iP; omega) (cel_picA hp (by decide) (by decide)) j hi hj (by omega) hd kk
theorem stP2 (p : Nat) (hp : p < 2) {i x : Int32} (j : Nat) (hi : i = nI j) (hj : j < 16) (hd : decode (mB M) pc = .ok (.iastore, 1))
    (kk : AtW M Γ Ω (upS σ (iP p + 2) j x) (pc + 1) lv st) : AtW M Γ Ω σ pc lv (.int x :: .int i :: .ref (ad Ω (iP p + 2)) :: st) := r_iast (iP p + 2) (n := 16) (by unfold iP; omega) (fun _ => cel_picA hp (by decide) (by decide)) j hi hj (by omega) hd kk
theorem ldP3 (p : Nat) (hp : p < 2) {i : Int32} (j : Nat) (hi : i = nI j) (hj : j < 16) (hd : decode (mB M) pc = .ok (.iaload, 1))
    (kk : AtW M Γ Ω σ (pc + 1) lv (.int (σ (iP p + 3) j) :: st)) : AtW M Γ Ω σ pc lv (.int i :: .ref (ad Ω (iP p + 3)) :: st) := r_iald (iP p + 3) (n := 16) (f := σ (iP p + 3)) (by unfold iP; omega) (cel_picA hp (by decide) (by decide)) j hi hj (by omega) hd kk
theorem stP3 (p : Nat) (hp : p < 2) {i x : Int32} (j : Nat) (hi : i = nI j) (hj : j < 16) (hd : decode (mB M) pc = .ok (.iastore, 1))
    (kk : AtW M Γ Ω (upS σ (iP p + 3) j x) (pc + 1) lv st) : AtW M Γ Ω σ pc lv (.int x :: .int i :: .ref (ad Ω (iP p + 3)) :: st) := r_iast (iP p + 3) (n := 16) (by unfold iP; omega) (fun _ => cel_picA hp (by decide) (by decide)) j hi hj (by omega) hd kk
theorem ldP4 (p : Nat) (hp : p < 2) {i : Int32} (j : Nat) (hi : i = nI j) (hj : j < 16) (hd : decode (mB M) pc = .ok (.iaload, 1))
    (kk : AtW M Γ Ω σ (pc + 1) lv (.int (σ (iP p + 4) j) :: st)) : AtW M Γ Ω σ pc lv (.int i :: .ref (ad Ω (iP p + 4)) :: st) := r_iald (iP p + 4) (n := 16) (f := σ (iP p + 4)) (by unfold iP; omega) (cel_picA hp (by decide) (by decide)) j hi hj (by omega) hd kk
theorem stP4 (p : Nat) (hp : p < 2) {i x : Int32} (j : Nat) (hi : i = nI j) (hj : j < 16) (hd : decode (mB M) pc = .ok (.iastore, 1))
    (kk : AtW M Γ Ω (upS σ (iP p + 4) j x) (pc + 1) lv st) : AtW M Γ Ω σ pc lv (.int x :: .int i :: .ref (ad Ω (iP p + 4)) :: st) := r_iast (iP p + 4) (n := 16) (by unfold iP; omega) (fun _ => cel_picA hp (by decide) (by decide)) j hi hj (by omega) hd kk
theorem ldM369  {i : Int32} (j : Nat) (hi : i = nI j) (hj : j < 60) (hd : decode (mB M) pc = .ok (.iaload, 1))
    (kk : AtW M Γ Ω σ (pc + 1) lv (.int (σ (369) j) :: st)) : AtW M Γ Ω σ pc lv (.int i :: .ref (ad Ω (369)) :: st) := r_iald (369) (n := 60) (f := σ (369)) (by omega) (cel_marr (k := 369) (by omega)) j hi hj (by omega) hd kk
theorem stM369  {i x : Int32} (j : Nat) (hi : i = nI j) (hj : j < 60) (hd : decode (mB M) pc = .ok (.iastore, 1))
    (kk : AtW M Γ Ω (upS σ (369) j x) (pc + 1) lv st) : AtW M Γ Ω σ pc lv (.int x :: .int i :: .ref (ad Ω (369)) :: st) := r_iast (369) (n := 60) (by omega) (fun _ => cel_marr (k := 369) (by omega)) j hi hj (by omega) hd kk
theorem ldM370  {i : Int32} (j : Nat) (hi : i = nI j) (hj : j < 10) (hd : decode (mB M) pc = .ok (.iaload, 1))
    (kk : AtW M Γ Ω σ (pc + 1) lv (.int (σ (370) j) :: st)) : AtW M Γ Ω σ pc lv (.int i :: .ref (ad Ω (370)) :: st) := r_iald (370) (n := 10) (f := σ (370)) (by omega) (cel_marr (k := 370) (by omega)) j hi hj (by omega) hd kk
theorem stM370  {i x : Int32} (j : Nat) (hi : i = nI j) (hj : j < 10) (hd : decode (mB M) pc = .ok (.iastore, 1))
    (kk : AtW M Γ Ω (upS σ (370) j x) (pc + 1) lv st) : AtW M Γ Ω σ pc lv (.int x :: .int i :: .ref (ad Ω (370)) :: st) := r_iast (370) (n := 10) (by omega) (fun _ => cel_marr (k := 370) (by omega)) j hi hj (by omega) hd kk
end FIELDS
end
section
/-! the history: which space holds which state -/
def hOk (σ : Sg) (c : Nat) (pm : Nat → Nat) : Prop := σ 363 1 = nI c ∧ c ≤ 4 ∧ (∀ i, i < 4 → σ 364 i = nI (pm i) ∧ 3 ≤ pm i ∧ pm i < 7) ∧ ∀ i j, i < 4 → j < 4 → pm i = pm j → i = j
theorem hOk_cl {σ : Sg} {c : Nat} {pm : Nat → Nat} (h : hOk σ c pm) {i : Nat} (hi : i < 4) : (σ 364 i).toNatClampNeg = pm i := by
  have := h.2.2.1 i hi
  rw [this.1, nI_clamp (by omega)]
theorem hOk_eq {σ τ : Sg} {c : Nat} {pm : Nat → Nat} (h : hOk σ c pm) (h1 : τ 363 = σ 363) (h2 : τ 364 = σ 364) : hOk τ c pm := by
  unfold hOk
  rw [h1, h2]
  exact h
def drI (σ : Sg) (pm : Nat → Nat) (k : Nat) (τ : Sg) : Prop := (∀ i, i < 4 → τ 364 i = nI (if i < k then pm (i + 1) else pm i)) ∧ ∀ q, q ≠ 364 → τ q = σ q
theorem drI_cl {σ τ : Sg} {c k : Nat} {pm : Nat → Nat} (h0 : hOk σ c pm) (h : drI σ pm k τ) (hk : k + 1 < 4) : (τ 364 (k + 1)).toNatClampNeg = pm (k + 1) := by
  have e := h.1 (k + 1) hk
  rw [if_neg (by omega)] at e
  have := h0.2.2.1 (k + 1) hk
  rw [e, nI_clamp (by omega)]
theorem drI_step {σ τ : Sg} {k : Nat} {pm : Nat → Nat} (h : drI σ pm k τ) : drI σ pm (k + 1) (upS τ 364 k (nI (pm (k + 1)))) := by
  refine ⟨fun i hi => ?_, fun q hq => by rw [up_ne hq]; exact h.2 q hq⟩
  rw [up_get]
  by_cases e : i = k
  · subst e
    simp
  · have := h.1 i hi
    simp only [e, and_false, if_false]
    rw [this]
    by_cases e2 : i < k
    · rw [if_pos e2, if_pos (by omega)]
    · rw [if_neg e2, if_neg (by omega)]
theorem dr_end {σ τ : Sg} {c : Nat} {pm : Nat → Nat} (h0 : hOk σ c pm) (h : drI σ pm 3 τ) : hOk (upS (upS τ 364 3 (nI (pm 0))) 363 1 3) 3 (fun i => if i < 3 then pm (i + 1) else pm 0) ∧ ∀ q, q ≠ 363 → q ≠ 364 → upS (upS τ 364 3 (nI (pm 0))) 363 1 3 q = σ q := by
  refine ⟨⟨by simp [up_get]; rfl, by omega, fun i hi => ?_, fun i j hi hj e => ?_⟩, fun q a b => by rw [up_ne a, up_ne b]; exact h.2 q b⟩
  · rw [up_ne (by omega), up_get]
    by_cases e : i = 3
    · subst e
      have := h0.2.2.1 0 (by omega)
      simp [this.2.1, this.2.2]
    · have h1 := h.1 i hi
      have := h0.2.2.1 (i + 1) (by omega)
      simp only [e, and_false, if_false, show i < 3 by omega, if_true]
      rw [h1, if_pos (by omega)]
      exact ⟨rfl, this.2.1, this.2.2⟩
  · have inj := h0.2.2.2
    dsimp only at e
    by_cases a : i < 3 <;> by_cases b : j < 3
    · rw [if_pos a, if_pos b] at e
      have := inj _ _ (by omega) (by omega) e
      omega
    · rw [if_pos a, if_neg b] at e
      have := inj _ _ (by omega) (by omega) e
      omega
    · rw [if_neg a, if_pos b] at e
      have := inj _ _ (by omega) (by omega) e
      omega
    · omega
/-- a state is put behind the others -/
def rmJ (τ : Sg) (s n c : Nat) (pm : Nat → Nat) (σ1 : Sg) : Prop := hOk σ1 (c + 1) pm ∧ spC σ1 (pm c) τ s n ∧ ∀ q, q ≠ 363 → q ≠ iS (pm c) → outB (pm c) q → σ1 q = τ q
def rmI (σ : Sg) (s n c : Nat) (pm : Nat → Nat) (σ1 : Sg) : Prop := ∃ (pm' : Nat → Nat) (τ : Sg) (c' : Nat), hOk τ c' pm' ∧ (∀ q, q ≠ 363 → q ≠ 364 → τ q = σ q) ∧ ((c < 4 ∧ c' = c ∧ pm' = pm ∧ τ = σ) ∨ (c = 4 ∧ c' = 3 ∧ pm' = fun i => if i < 3 then pm (i + 1) else pm 0)) ∧ rmJ τ s n c' pm' σ1
theorem o363 {s : Nat} (hs : s < 7) : outB s 363 := by
  intro j hj
  have := bx_lt hs hj
  refine ⟨?_, ?_, ?_⟩
  · unfold iBo; omega
  · unfold iL; omega
  · unfold iH; omega
theorem o364 {s : Nat} (hs : s < 7) : outB s 364 := by
  intro j hj
  have := bx_lt hs hj
  refine ⟨?_, ?_, ?_⟩
  · unfold iBo; omega
  · unfold iL; omega
  · unfold iH; omega
theorem rmJ_ok {τ σ1 : Sg} {s n c : Nat} {pm : Nat → Nat} (hn : n ≤ 16) (hc4 : c < 4) (h0 : hOk τ c pm) (h1 : spC σ1 (pm c) τ s n) (h2 : frS (pm c) τ σ1) : rmJ τ s n c pm (upS σ1 363 1 (σ1 363 1 + 1)) := by
  obtain ⟨hp1, hp2, hp3⟩ := h0.2.2.1 c hc4
  have e3 : σ1 363 = τ 363 := h2 363 (by unfold iS; omega) (o363 hp3)
  have e4 : σ1 364 = τ 364 := h2 364 (by unfold iS; omega) (o364 hp3)
  refine ⟨⟨?_, by omega, ?_, h0.2.2.2⟩, ⟨fun i a b => ?_, fun j hj => ?_⟩, fun q a b c => ?_⟩
  · rw [up_get, if_pos ⟨rfl, rfl⟩, e3, h0.1, nI_1]
  · rw [up_ne (by omega), e4]
    exact h0.2.2.1
  · rw [up_ne (by unfold iS; omega)]
    exact h1.1 i a b
  · have := h1.2 j hj
    refine bxC_keep this (up_ne ?_) (up_ne ?_) (up_ne ?_)
    · unfold iBo bx; omega
    · unfold iL bx; omega
    · unfold iH bx; omega
  · rw [up_ne a]
    exact h2 q b c
def rcI (σ : Sg) (s n c : Nat) (pm : Nat → Nat) (σ1 : Sg) : Prop := hOk σ1 c pm ∧ spC σ1 s σ (pm c) n ∧ ∀ q, q ≠ 363 → q ≠ iS s → outB s q → σ1 q = σ q
theorem rcI_ok {σ σ1 : Sg} {s n c : Nat} {pm : Nat → Nat} (hs : s < 3) (hn : n ≤ 16) (hc4 : c < 4) (h0 : hOk σ (c + 1) pm) (h1 : spC σ1 s (upS σ 363 1 (nI c)) (pm c) n) (h2 : frS s (upS σ 363 1 (nI c)) σ1) : rcI σ s n c pm σ1 := by
  obtain ⟨hp1, hp2, hp3⟩ := h0.2.2.1 c hc4
  have e3 : σ1 363 = (upS σ 363 1 (nI c)) 363 := h2 363 (by unfold iS; omega) (o363 (by omega))
  have e4 : σ1 364 = σ 364 := (h2 364 (by unfold iS; omega) (o364 (by omega))).trans (up_ne (by omega))
  refine ⟨⟨?_, by omega, ?_, h0.2.2.2⟩, ⟨fun i a b => ?_, fun j hj => ?_⟩, fun q a b c => ?_⟩
  · rw [e3, up_get, if_pos ⟨rfl, rfl⟩]
  · rw [e4]
    exact h0.2.2.1
  · rw [h1.1 i a b, up_ne (by unfold iS; omega)]
  · have := h1.2 j hj
    refine bxC_in (up_ne ?_) (up_ne ?_) (up_ne ?_) this
    · unfold iBo bx; omega
    · unfold iL bx; omega
    · unfold iH bx; omega
  · rw [h2 q b c, up_ne a]
theorem canD_t {h : Nat → Int32} {db : Int32} {k : Nat} (a : hasB db k = false) (b : h k &&& (db ^^^ -1) = 0) : canD h db k = true := by
  unfold canD
  rw [a, decide_eq_true b]
  rfl
theorem canD_f1 {h : Nat → Int32} {db : Int32} {k : Nat} (a : hasB db k = true) : canD h db k = false := by
  unfold canD
  rw [a]
  rfl
theorem canD_f2 {h : Nat → Int32} {db : Int32} {k : Nat} (b : ¬ h k &&& (db ^^^ -1) = 0) : canD h db k = false := by
  unfold canD
  rw [decide_eq_false b, Bool.and_false]
end
section
/-! a picture of a value -/
def HV (v : SpV) : Nat → Int32 := hmG (vLo v) (vHi v) (vN v)
def CVv (v : SpV) : Nat → Int32 := wsO (HV v) (vN v) (vN v)
def WVv (v : SpV) : Nat → Int32 := wtG (vRu v) (vLo v) (vHi v)
def DV (v : SpV) : Nat → Int32 × (Nat → Int32) × (Nat → Int32) := drS (vN v) (HV v) (WVv v) (fun _ => 0) (fun _ => -5)
def DCv (v : SpV) : Nat := drC (vN v) (HV v) (WVv v) (fun _ => 0) (fun _ => -5)
def BV (v : SpV) : Int32 := (DV v (vN v)).1
def OV (v : SpV) : Nat → Int32 := (DV v (vN v)).2.1
def LV (v : SpV) : Nat → Int32 := (DV v (vN v)).2.2
def pcV (v : SpV) (p : Nat) (σ1 : Sg) : Prop := σ1 (iP p) 0 = nI (vN v) ∧ (∀ k, k < vN v → σ1 (iP p + 1) k = HV v k ∧ σ1 (iP p + 2) k = CVv v k ∧ σ1 (iP p + 4) k = LV v k) ∧ σ1 (iP p) 4 = BV v ∧ σ1 (iP p) 5 = nI (DCv v) ∧ ∀ j, j < DCv v → σ1 (iP p + 3) j = OV v j
theorem layA_c {lay lay' : Nat → Int32} {x y : Int32} (hxy : x = y) : ∀ {n : Nat}, (∀ k, k < n → lay k = lay' k) → layA lay x n = layA lay' y n
  | 0, _ => rfl
  | n + 1, h => by
    have e := layA_c hxy (n := n) (fun k hk => h k (Nat.lt_succ_of_lt hk))
    rw [layA, layA, e, h n (Nat.lt_succ_self n), hxy]
/-- the drawing looks at the first n masks and weights; what it leaves of order and layers doesn't show -/
theorem drS_c {n : Nat} {h h' wt wt' o0 o0' l0 l0' : Nat → Int32} (h1 : ∀ k, k < n → h k = h' k) (h2 : ∀ k, k < n → wt k = wt' k) (h3 : ∀ k, k < n → l0 k = l0' k) : ∀ j, (drS n h wt o0 l0 j).1 = (drS n h' wt' o0' l0' j).1 ∧ (∀ k, k < n → (drS n h wt o0 l0 j).2.2 k = (drS n h' wt' o0' l0' j).2.2 k) ∧ ((∀ i, i < j → (nxO n h wt (drS n h wt o0 l0 i).1).isNone = false) → ∀ i, i < j → (drS n h wt o0 l0 j).2.1 i = (drS n h' wt' o0' l0' j).2.1 i)
  | 0 => ⟨rfl, h3, fun _ i hi => absurd hi (Nat.not_lt_zero i)⟩
  | j + 1 => by
    obtain ⟨e1, e2, e3⟩ := drS_c (o0 := o0) (o0' := o0') h1 h2 h3 j
    have en : nxO n h wt (drS n h wt o0 l0 j).1 = nxO n h' wt' (drS n h' wt' o0' l0' j).1 := by
      rw [e1]
      exact nxO_congr h1 h2
    cases hb : nxO n h' wt' (drS n h' wt' o0' l0' j).1 with
    | none =>
      have ha : nxO n h wt (drS n h wt o0 l0 j).1 = none := en.trans hb
      have x1 : drS n h wt o0 l0 (j + 1) = drS n h wt o0 l0 j := by rw [drS, ha]
      have x2 : drS n h' wt' o0' l0' (j + 1) = drS n h' wt' o0' l0' j := by rw [drS, hb]
      rw [x1, x2]
      refine ⟨e1, e2, fun hq => ?_⟩
      have := hq j (Nat.lt_succ_self j)
      rw [ha] at this
      cases this
    | some b =>
      have ha : nxO n h wt (drS n h wt o0 l0 j).1 = some b := en.trans hb
      have hbn : b < n := bestO_lt ha
      have x1 : drS n h wt o0 l0 (j + 1) = ((drS n h wt o0 l0 j).1 ||| bitI b, upd (drS n h wt o0 l0 j).2.1 j (nI b), upd (drS n h wt o0 l0 j).2.2 b (layA (drS n h wt o0 l0 j).2.2 (h b) n)) := by rw [drS, ha]
      have x2 : drS n h' wt' o0' l0' (j + 1) = ((drS n h' wt' o0' l0' j).1 ||| bitI b, upd (drS n h' wt' o0' l0' j).2.1 j (nI b), upd (drS n h' wt' o0' l0' j).2.2 b (layA (drS n h' wt' o0' l0' j).2.2 (h' b) n)) := by rw [drS, hb]
      rw [x1, x2]
      refine ⟨by rw [e1], fun k hk => ?_, fun hq i hi => ?_⟩
      · simp only [upd]
        rw [layA_c (h1 b hbn) e2, e2 k hk]
      · simp only [upd]
        by_cases e : i = j
        · rw [if_pos e, if_pos e]
        · rw [if_neg e, if_neg e]
          exact e3 (fun i hi => hq i (Nat.lt_succ_of_lt hi)) i (by omega)
theorem drC_c {n : Nat} {h h' wt wt' o0 o0' l0 l0' : Nat → Int32} (h1 : ∀ k, k < n → h k = h' k) (h2 : ∀ k, k < n → wt k = wt' k) (h3 : ∀ k, k < n → l0 k = l0' k) : drC n h wt o0 l0 = drC n h' wt' o0' l0' :=
  ffi_c (fun j hj => by rw [(drS_c (o0 := o0) (o0' := o0') h1 h2 h3 j).1, nxO_congr h1 h2])
theorem ffi_le (p : Nat → Bool) : ∀ n, ffi p n ≤ n
  | 0 => Nat.le_refl _
  | n + 1 => by
    have := ffi_le p n
    rw [ffi]
    split
    · omega
    · split <;> omega
theorem ffi_no {p : Nat → Bool} : ∀ {n k : Nat}, k < ffi p n → p k = false
  | 0, k, h => absurd h (Nat.not_lt_zero k)
  | n + 1, k, h => by
    have hl := ffi_le p n
    rw [ffi] at h
    by_cases c : ffi p n < n
    · rw [if_pos c] at h
      exact ffi_no h
    · rw [if_neg c] at h
      have hn : ffi p n = n := by omega
      by_cases d : p n = true
      · rw [if_pos d] at h
        exact ffi_no (n := n) (by omega)
      · rw [if_neg d] at h
        by_cases e : k = n
        · subst e
          simpa using d
        · exact ffi_no (n := n) (by omega)
/-- up to its end the drawing keeps the order that it has -/
theorem drS_ord {n : Nat} {h wt o0 l0 : Nat → Int32} : ∀ {m j i : Nat}, j ≤ m → i < j → (drS n h wt o0 l0 m).2.1 i = (drS n h wt o0 l0 j).2.1 i
  | 0, j, i, hj, hi => by omega
  | m + 1, j, i, hj, hi => by
    by_cases e : j = m + 1
    · rw [e]
    · have ih := drS_ord (n := n) (h := h) (wt := wt) (o0 := o0) (l0 := l0) (m := m) (j := j) (i := i) (by omega) hi
      cases hb : nxO n h wt (drS n h wt o0 l0 m).1 with
      | none => rw [drS, hb]; exact ih
      | some b =>
        rw [drS, hb]
        simp only [upd]
        rw [if_neg (by omega)]
        exact ih
theorem pcV_of {σ σ1 : Sg} {s p : Nat} {v : SpV} (h : isV σ s v) (hp : pcI σ s p (vN v) σ1) : pcV v p σ1 ∧ ∀ q, (q < iP p ∨ iP p + 4 < q) → σ1 q = σ q := by
  obtain ⟨H, o0, l0, a1, a2, a3, a4, a5, a6, a7, a8, a9, a10⟩ := hp
  have hn := h.1
  have b1 : ∀ k, k < vN v → H k = HV v k := fun k hk => (a1 k hk).trans (v_hm h hk)
  have b2 : ∀ k, k < vN v → wtS σ s k = WVv v k := fun k hk => v_wt h hk
  have b3 : ∀ k, k < vN v → l0 k = (fun _ => (-5 : Int32)) k := fun k hk => a2 k (by omega)
  have c1 := drS_c (o0 := o0) (o0' := fun _ => 0) b1 b2 b3 (vN v)
  have c2 : drC (vN v) H (wtS σ s) o0 l0 = DCv v := drC_c b1 b2 b3
  refine ⟨⟨a3, fun k hk => ⟨by rw [a4]; exact b1 k hk, by rw [a5 k hk]; exact wsO_congr b1 _ (Nat.le_refl _) k hk, by rw [a9]; exact c1.2.1 k hk⟩, by rw [a6]; exact c1.1, by rw [a7, c2], fun j hj => ?_⟩, a10⟩
  rw [a8]
  have hle : DCv v ≤ vN v := ffi_le _ _
  have hj2 : j < drC (vN v) H (wtS σ s) o0 l0 := by rw [c2]; exact hj
  rw [drS_ord (j := DCv v) hle hj]
  show _ = (DV v (vN v)).2.1 j
  have e1 : (DV v (vN v)).2.1 j = (DV v (DCv v)).2.1 j := drS_ord (j := DCv v) hle hj
  rw [e1]
  exact (drS_c (o0 := o0) (o0' := fun _ => 0) b1 b2 b3 (DCv v)).2.2 (fun i hi => ffi_no (p := fun j => (nxO (vN v) H (wtS σ s) (drS (vN v) H (wtS σ s) o0 l0 j).1).isNone) (n := vN v) (by rw [← c2] at hi; exact hi)) j hj
theorem rchI_c {h h' : Nat → Int32} {n k : Nat} (hk : k < n) (e : ∀ k, k < n → h k = h' k) : ∀ j, rchI h n k j = rchI h' n k j
  | 0 => e k hk
  | j + 1 => by rw [rchI, rchI, rchI_c hk e j, orI_c (fun _ _ => rfl) e]
theorem srO_c {h h' : Nat → Int32} {n k : Nat} (hk : k < n) (e : ∀ k, k < n → h k = h' k) : srO h n k = srO h' n k := by
  unfold srO
  rw [ffi_c (fun j _ => by rw [rchI_c hk e j])]
theorem srI_c {h h' : Nat → Int32} {n : Nat} (e : ∀ k, k < n → h k = h' k) : ∀ m, m ≤ n → srI h n m = srI h' n m
  | 0, _ => rfl
  | m + 1, hm => by rw [srI, srI, srI_c e m (by omega), srO_c (by omega) e]
theorem glI_c {l l' : Nat → Int32} : ∀ {n : Nat}, (∀ k, k < n → l k = l' k) → glI l n = glI l' n
  | 0, _ => rfl
  | n + 1, h => by rw [glI, glI, glI_c (fun k hk => h k (Nat.lt_succ_of_lt hk)), h n (Nat.lt_succ_self n)]
/-- the box that breaks a ring -/
def grV (v : SpV) : Option Nat := bestO (fun k => hasB (CVv v k) k) (fun k b => decide (voG (vLo v) (vHi v) b < voG (vLo v) (vHi v) k)) (vN v)
theorem grO_v {σ : Sg} {s : Nat} {v : SpV} (h : isV σ s v) {c : Nat → Int32} (hc : ∀ k, k < vN v → c k = CVv v k) : grO σ s c (vN v) = grV v :=
  bestO_congr (fun k hk => by rw [hc k hk]) (fun k b hk hb => by rw [v_vo h hk, v_vo h hb])
/-! what may change while something is tried: the second space, the newcomer, the pictures -/
def scr (q : Nat) : Prop := (48 ≤ q ∧ q < 96) ∨ q = 341 ∨ (336 ≤ q ∧ q ≤ 338) ∨ (353 ≤ q ∧ q ≤ 362)
def keepC (σ σ1 : Sg) : Prop := ∀ q, ¬ scr q → σ1 q = σ q
theorem keepC_rfl (σ : Sg) : keepC σ σ := fun _ _ => rfl
theorem keepC_tr {σ τ υ : Sg} (h1 : keepC σ τ) (h2 : keepC τ υ) : keepC σ υ := fun q hq => (h2 q hq).trans (h1 q hq)
theorem keepC_fr {σ σ1 : Sg} (h : frS 1 σ σ1) : keepC σ σ1 := fun q hq => h q (fun e => hq (Or.inr (Or.inl (by rw [e]; rfl)))) (fun j hj => by
  have h1 : ¬ (48 ≤ q ∧ q < 96) := fun x => hq (Or.inl x)
  refine ⟨?_, ?_, ?_⟩
  · unfold iBo bx; omega
  · unfold iL bx; omega
  · unfold iH bx; omega)
theorem keepC_pic {σ σ1 : Sg} {p : Nat} (hp : p < 2) (h : ∀ q, (q < iP p ∨ iP p + 4 < q) → σ1 q = σ q) : keepC σ σ1 := fun q hq => h q (by
  have h1 : ¬ (353 ≤ q ∧ q ≤ 362) := fun x => hq (Or.inr (Or.inr (Or.inr x)))
  unfold iP
  omega)
theorem isV_kc {σ σ1 : Sg} {s : Nat} {v : SpV} (hs : s < 7) (h1 : s ≠ 1) (h : isV σ s v) (hk : keepC σ σ1) : isV σ1 s v := by
  refine isV_keep h (hk _ (by unfold scr iS; omega)) (fun j hj => ⟨hk _ ?_, hk _ ?_, hk _ ?_⟩)
  · unfold scr iBo bx; omega
  · unfold scr iL bx; omega
  · unfold scr iH bx; omega
end
section
/-! SPEC: the whole as a value, and what each call answers and leaves -/
/-- the boxes now; how many states, which; the snapshot; the text's length, its signs -/
abbrev StV : Type := SpV × Nat × (Nat → SpV) × Option SpV × Nat × (Nat → Int32)
abbrev qC (S : StV) : SpV := S.1
abbrev qN (S : StV) : Nat := S.2.1
abbrev qH (S : StV) : Nat → SpV := S.2.2.1
abbrev qP (S : StV) : Option SpV := S.2.2.2.1
abbrev qL (S : StV) : Nat := S.2.2.2.2.1
abbrev qT (S : StV) : Nat → Int32 := S.2.2.2.2.2
def psN (S : StV) : Nat := if qN S < 4 then qN S + 1 else 4
def psH (S : StV) : Nat → SpV := fun i => if i + 1 = psN S then qC S else qH S (if qN S < 4 then i else i + 1)
def pushS (S : StV) (w : SpV) : StV := (w, psN S, psH S, qP S, qL S, qT S)
def hsyC (σ : Sg) (c : Nat) (hs : Nat → SpV) : Prop := ∃ pm, hOk σ c pm ∧ ∀ i, i < c → isV σ (pm i) (hs i)
def snaC (σ : Sg) (p : Option SpV) : Prop := (σ 368 3 = 1 ∧ ∃ v, p = some v ∧ isV σ 2 v) ∨ (σ 368 3 = 0 ∧ p = none)
def txtC (σ : Sg) (L : Nat) (t : Nat → Int32) : Prop := σ 365 1 = nI L ∧ L ≤ 80 ∧ ∀ i, i < L → σ 366 i = t i
def isC (σ : Sg) (S : StV) : Prop := isV σ 0 (qC S) ∧ hsyC σ (qN S) (qH S) ∧ snaC σ (qP S) ∧ txtC σ (qL S) (qT S)
def keepM (σ σ1 : Sg) : Prop := ∀ q, 369 ≤ q → σ1 q = σ q
def okC (σ : Sg) (o : Int32 × StV) (r : Int32) (σ1 : Sg) : Prop := r = o.1 ∧ isC σ1 o.2 ∧ keepM σ σ1
theorem keepM_kc {σ σ1 : Sg} (h : keepC σ σ1) : keepM σ σ1 := fun q hq => h q (by unfold scr; omega)
theorem keepM_tr {σ τ υ : Sg} (h1 : keepM σ τ) (h2 : keepM τ υ) : keepM σ υ := fun q hq => (h2 q hq).trans (h1 q hq)
theorem isC_kc {σ σ1 : Sg} {S : StV} (h : isC σ S) (hk : keepC σ σ1) : isC σ1 S := by
  obtain ⟨h1, ⟨pm, h2, h3⟩, h4, h5⟩ := h
  have e : ∀ q, 363 ≤ q → σ1 q = σ q := fun q hq => hk q (by unfold scr; omega)
  refine ⟨isV_kc (by omega) (by omega) h1 hk, ⟨pm, hOk_eq h2 (e _ (by omega)) (e _ (by omega)), fun i hi => ?_⟩, ?_, ?_⟩
  · have := h2.2.2.1 i (by have := h2.2.1; omega)
    exact isV_kc this.2.2 (by omega) (h3 i hi) hk
  · unfold snaC
    rw [e 368 (by omega)]
    rcases h4 with ⟨a, v, b, c⟩ | h4
    · exact Or.inl ⟨a, v, b, isV_kc (by omega) (by omega) c hk⟩
    · exact Or.inr h4
  · unfold txtC
    rw [e 365 (by omega), e 366 (by omega)]
    exact h5
theorem okC_kc {σ σ1 : Sg} {S : StV} {r : Int32} (h : isC σ S) (hk : keepC σ σ1) : okC σ (r, S) r σ1 := ⟨rfl, isC_kc h hk, keepM_kc hk⟩
/-- which box -/
def locO (v : SpV) (x : Int32) : Option Nat := if ffi (fun k => decide (vNu v k = x)) (vN v) < vN v then some (ffi (fun k => decide (vNu v k = x)) (vN v)) else none
theorem loc_none {v : SpV} {x : Int32} (hn : vN v ≤ 16) (h : fI (fun k => decide (vNu v k = x)) (vN v) = -1) : locO v x = none := by
  unfold locO
  unfold fI at h
  by_cases c : ffi (fun k => decide (vNu v k = x)) (vN v) < vN v
  · rw [if_pos c] at h
    exact absurd h (fun e => by
      have h2 : (nI (ffi (fun k => decide (vNu v k = x)) (vN v))).toInt = _ := nI_toInt (by omega)
      rw [e] at h2
      have h3 : (-1 : Int32).toInt = -1 := by decide
      rw [h3] at h2
      omega)
  · rw [if_neg c]
theorem loc_some {v : SpV} {x : Int32} (h : ¬ fI (fun k => decide (vNu v k = x)) (vN v) = -1) : ∃ k, k < vN v ∧ locO v x = some k ∧ fI (fun k => decide (vNu v k = x)) (vN v) = nI k := by
  unfold locO
  unfold fI at h ⊢
  by_cases c : ffi (fun k => decide (vNu v k = x)) (vN v) < vN v
  · exact ⟨_, c, by rw [if_pos c], by rw [if_pos c]⟩
  · rw [if_neg c] at h
    exact absurd rfl h
def dirB (d : Int32) : Bool := !decide (d < 0) && decide (d < 3)
theorem dir_ix {d : Int32} (h : dirB d = true) : ∃ e : Nat, e < 3 ∧ d = nI e := by
  unfold dirB at h
  simp only [Bool.and_eq_true, Bool.not_eq_true', decide_eq_false_iff_not, decide_eq_true_eq] at h
  exact slot_ix h.1 h.2 (by omega)
/-! the spaces behind a change -/
def v3 (x y z : Int32) : V3 := fun d => if d = 0 then x else if d = 1 then y else z
def entR (x y z a b c : Int32) : Bool := inRg x a && inRg y b && inRg z c
def entCut (v : SpV) (x y z a b c : Int32) : Bool := anyb (fun k => ctBx (vLo v k) (vHi v k) (v3 x y z) (v3 (x + a) (y + b) (z + c))) (vN v)
def entA (v : SpV) (x y z a b c : Int32) : Int32 := if !entR x y z a b c then -2 else if entCut v x y z a b c then -4 else if vN v = 16 then -3 else vX v
def entOk (v : SpV) (x y z a b c : Int32) : Bool := entR x y z a b c && !entCut v x y z a b c && !decide (vN v = 16)
def addV (v : SpV) (l h : V3) : SpV := (vN v + 1, vX v + 1, vSp v, vRu v, (fun j => if j = vN v then vX v else vNu v j), (fun j => if j = vN v then l else vLo v j), (fun j => if j = vN v then h else vHi v j))
def entV (v : SpV) (x y z a b c : Int32) : SpV := addV v (v3 x y z) (v3 (x + a) (y + b) (z + c))
def rmV (v : SpV) (k : Nat) : SpV := (vN v - 1, vX v, vSp v, vRu v, (fun j => vNu v (mvI k (vN v - 1) j)), (fun j => vLo v (mvI k (vN v - 1) j)), (fun j => vHi v (mvI k (vN v - 1) j)))
def shV (v : SpV) (k d : Nat) (x : Int32) : SpV := (vN v, vX v, vSp v, vRu v, vNu v, (fun j e => if j = k ∧ e = d then vLo v j e + x else vLo v j e), (fun j e => if j = k ∧ e = d then vHi v j e + x else vHi v j e))
def cutV (v : SpV) (k d : Nat) (x : Int32) : SpV := (vN v + 1, vX v + 1, vSp v + 1, vRu v, (fun j => if j = vN v then vX v else vNu v j), (fun j e => if j = vN v then (if e = d then x else vLo v k e) else vLo v j e), (fun j e => if j = vN v then vHi v k e else if j = k ∧ e = d then x else vHi v j e))
def qtV (v : SpV) : SpV := (vN v, vX v, vSp v, vRu v, vNu v, (fun j e => if e = 0 then 32 - vHi v j 1 else if e = 1 then vLo v j 0 else vLo v j e), (fun j e => if e = 0 then 32 - vLo v j 1 else if e = 1 then vHi v j 0 else vHi v j e))
def ruV (v : SpV) (x : Int32) : SpV := (vN v, vX v, vSp v, x, vNu v, vLo v, vHi v)
theorem addV_nu (v : SpV) (l h : V3) (j : Nat) : vNu (addV v l h) j = if j = vN v then vX v else vNu v j := rfl
theorem addV_lo (v : SpV) (l h : V3) (j : Nat) : vLo (addV v l h) j = if j = vN v then l else vLo v j := rfl
theorem addV_hi (v : SpV) (l h : V3) (j : Nat) : vHi (addV v l h) j = if j = vN v then h else vHi v j := rfl
theorem cutV_nu (v : SpV) (k d : Nat) (x : Int32) (j : Nat) : vNu (cutV v k d x) j = if j = vN v then vX v else vNu v j := rfl
theorem cutV_lo (v : SpV) (k d : Nat) (x : Int32) (j e : Nat) : vLo (cutV v k d x) j e = if j = vN v then (if e = d then x else vLo v k e) else vLo v j e := rfl
theorem cutV_hi (v : SpV) (k d : Nat) (x : Int32) (j e : Nat) : vHi (cutV v k d x) j e = if j = vN v then vHi v k e else if j = k ∧ e = d then x else vHi v j e := rfl
theorem shV_lo (v : SpV) (k d : Nat) (x : Int32) (j e : Nat) : vLo (shV v k d x) j e = if j = k ∧ e = d then vLo v j e + x else vLo v j e := rfl
theorem shV_hi (v : SpV) (k d : Nat) (x : Int32) (j e : Nat) : vHi (shV v k d x) j e = if j = k ∧ e = d then vHi v j e + x else vHi v j e := rfl
theorem qtV_lo (v : SpV) (j e : Nat) : vLo (qtV v) j e = if e = 0 then 32 - vHi v j 1 else if e = 1 then vLo v j 0 else vLo v j e := rfl
theorem qtV_hi (v : SpV) (j e : Nat) : vHi (qtV v) j e = if e = 0 then 32 - vLo v j 1 else if e = 1 then vHi v j 0 else vHi v j e := rfl
/-! the calls -/
def oAdd (S : StV) (x y z a b c : Int32) : Int32 × StV := if entOk (qC S) x y z a b c then (vX (qC S), pushS S (entV (qC S) x y z a b c)) else (entA (qC S) x y z a b c, S)
def oRemove (S : StV) (x : Int32) : Int32 × StV := match locO (qC S) x with
  | none => (-1, S)
  | some k => (voG (vLo (qC S)) (vHi (qC S)) k, pushS S (rmV (qC S) k))
def mvCut (v : SpV) (k d : Nat) (x : Int32) : Bool := anyb (fun j => !decide (j = k) && ctBx (vLo (shV v k d x) j) (vHi (shV v k d x) j) (vLo (shV v k d x) k) (vHi (shV v k d x) k)) (vN v)
def oMove (S : StV) (x d by_ : Int32) : Int32 × StV := match locO (qC S) x with
  | none => (-1, S)
  | some k => if !dirB d then (-1, S) else
    let e := d.toNatClampNeg
    if by_ < -(vLo (qC S) k e) then (-2, S) else if 32 - vHi (qC S) k e < by_ then (-2, S) else if mvCut (qC S) k e by_ then (-4, S) else if by_ = 0 then (-5, S) else (vLo (qC S) k e + by_, pushS S (shV (qC S) k e by_))
def oFall (S : StV) (x : Int32) : Int32 × StV := match locO (qC S) x with
  | none => (-1, S)
  | some k => let dep := vLo (qC S) k 2 - grG (vLo (qC S)) (vHi (qC S)) k (vN (qC S))
    if 0 < dep then (dep, pushS S (shV (qC S) k 2 (-dep))) else (-5, S)
def oSplit (S : StV) (x d t : Int32) : Int32 × StV := match locO (qC S) x with
  | none => (-1, S)
  | some k => if !dirB d then (-1, S) else
    let e := d.toNatClampNeg
    if !decide (vLo (qC S) k e < t) then (-2, S) else if !decide (t < vHi (qC S) k e) then (-2, S) else if vN (qC S) = 16 then (-3, S) else (vX (qC S), pushS S (cutV (qC S) k e t))
def brD (v : SpV) (k : Nat) : Nat := lgd (szG (vLo v) (vHi v) k) 2
def brV (v : SpV) (k : Nat) : SpV := cutV v k (brD v k) (vLo v k (brD v k) + szG (vLo v) (vHi v) k (brD v k) / 2)
/-- breaking a ring: the answer; the space then, where there is one -/
def brA (v : SpV) : Int32 := match grV v with
  | none => -5
  | some k => if 1 < szG (vLo v) (vHi v) k (brD v k) then (if vN v = 16 then -3 else vX v) else -4
def brO (v : SpV) : Option SpV := match grV v with
  | none => none
  | some k => if 1 < szG (vLo v) (vHi v) k (brD v k) then (if vN v = 16 then none else some (brV v k)) else none
def oBreak (S : StV) : Int32 × StV := match brO (qC S) with
  | none => (brA (qC S), S)
  | some w => (brA (qC S), pushS S w)
def oTurn (S : StV) : Int32 × StV := if vN (qC S) = 0 then (-5, S) else (sumI (fun k => bcI (HV (qC S) k &&& (HV (qtV (qC S)) k ^^^ -1))) (vN (qC S)), pushS S (qtV (qC S)))
def oSet (S : StV) (s x : Int32) : Int32 × StV := if ¬ s = 0 then (-1, S) else if x < 0 then (-2, S) else if 2 < x then (-2, S) else if x = vRu (qC S) then (-5, S) else (vRu (qC S), pushS S (ruV (qC S) x))
def oType (S : StV) (x : Int32) : Int32 × StV := if qL S < 80 then (nI (qL S + 1), (qC S, qN S, qH S, qP S, qL S + 1, fun i => if i = qL S then x else qT S i)) else (-3, S)
def oClear (S : StV) : Int32 × StV := (nI (qL S), (qC S, qN S, qH S, qP S, 0, qT S))
def oUndo (S : StV) : Int32 × StV := if qN S = 0 then (-5, S) else (nI (qN S - 1), (qH S (qN S - 1), qN S - 1, qH S, qP S, qL S, qT S))
def oKeep (S : StV) : Int32 × StV := (nI (vN (qC S)), (qC S, qN S, qH S, some (qC S), qL S, qT S))
def oRestore (S : StV) : Int32 × StV := match qP S with
  | none => (-5, S)
  | some w => (nI (vN w), pushS S w)
def oBox (S : StV) (r : Int32) : Int32 × StV := (if r < 0 then -2 else if r < nI (vN (qC S)) then vNu (qC S) r.toNatClampNeg else -5, S)
def oEnd (S : StV) (x d h : Int32) : Int32 × StV := (match locO (qC S) x with
  | none => -1
  | some k => if !dirB d then -1 else if h = 0 then vLo (qC S) k d.toNatClampNeg else vHi (qC S) k d.toNatClampNeg, S)
def supV (v : SpV) (k : Nat) : Int32 := cntI (fun j => beB (vLo v j) (vHi v j) (vLo v k) (vHi v k) && decide (vHi v j 2 = vLo v k 2)) (vN v)
def belV (v : SpV) (k : Nat) : Int32 := cntI (fun j => beB (vLo v j) (vHi v j) (vLo v k) (vHi v k)) (vN v)
/-- rows of a box's top, from its low y on -/
def yA (v : SpV) (k : Nat) : Nat := (vLo v k 1).toNatClampNeg
def yM (v : SpV) (k : Nat) : Nat := (vHi v k 1).toNatClampNeg - (vLo v k 1).toNatClampNeg
def shaV (v : SpV) (k : Nat) : Int32 := sumI (fun i => bcI (shG (vLo v) (vHi v) k (vN v) (yA v k + i) &&& rwG (vLo v) (vHi v) k)) (yM v k)
def ofA (v : SpV) (k : Nat) (w : Int32) : Int32 := if w = 0 then voG (vLo v) (vHi v) k else if w = 1 then bcI (HV v k) else if w = 2 then cntI (fun j => hasB (HV v j) k) (vN v) else if w = 3 then LV v k else if w = 4 then srO (HV v) (vN v) k else if w = 5 then supV v k else if w = 6 then belV v k else if w = 7 then shaV v k else if w = 8 then (if vLo v k 2 = 0 then 1 else if 0 < supV v k then 1 else 0) else -2
def oOf (S : StV) (x w : Int32) : Int32 × StV := (match locO (qC S) x with
  | none => -1
  | some k => ofA (qC S) k w, S)
def dhV (v : SpV) (a b : Nat) : Int32 := dhB (vLo v a) (vHi v a) (vLo v b) (vHi v b)
def oPair (S : StV) (x y : Int32) : Int32 × StV := (match locO (qC S) x, locO (qC S) y with
  | some a, some b => if a = b then -2 else if ¬ dhV (qC S) a b = -1 then 1 + dhV (qC S) a b else if ¬ dhV (qC S) b a = -1 then 4 + dhV (qC S) b a else 0
  | _, _ => -1, S)
def oDrawn (S : StV) (r : Int32) : Int32 × StV := (if r < 0 then -2 else if r < nI (DCv (qC S)) then vNu (qC S) (OV (qC S) r.toNatClampNeg).toNatClampNeg else -5, S)
def toA (S : StV) (w : Int32) : Int32 := if w = 0 then nI (vN (qC S)) else if w = 1 then vX (qC S) else if w = 2 then sumI (fun k => bcI (HV (qC S) k)) (vN (qC S)) else if w = 3 then nI (DCv (qC S)) else if w = 4 then cntI (fun k => hasB (CVv (qC S) k) k) (vN (qC S)) else if w = 5 then srI (HV (qC S)) (vN (qC S)) (vN (qC S)) else if w = 6 then glI (LV (qC S)) (vN (qC S)) else if w = 7 then vSp (qC S) else if w = 8 then sumI (voG (vLo (qC S)) (vHi (qC S))) (vN (qC S)) else if w = 9 then sumI (shaV (qC S)) (vN (qC S)) else if w = 10 then vRu (qC S) else if w = 11 then nI (qN S) else if w = 12 then nI (qL S) else -2
def oTotal (S : StV) (w : Int32) : Int32 × StV := (toA S w, S)
def waI (v : SpV) (k : Nat) : Int32 := fI (fun j => hasB (HV v k) j && !hasB (BV v) j) (vN v)
def oWaits (S : StV) (x : Int32) : Int32 × StV := (match locO (qC S) x with
  | none => -1
  | some k => if waI (qC S) k = -1 then -5 else vNu (qC S) (waI (qC S) k).toNatClampNeg, S)
/-- how often a ring is broken, from b on, with room for m more tries -/
def bksA (v : SpV) (b : Nat) : Nat → Int32
  | 0 => -3
  | m + 1 => match brO v with
    | none => if brA v = -5 then nI b else brA v
    | some w => bksA w (b + 1) m
def oBreaks (S : StV) : Int32 × StV := (bksA (qC S) 0 17, S)
def oWithout (S : StV) (x : Int32) : Int32 × StV := (match locO (qC S) x with
  | none => -1
  | some k => nI (DCv (rmV (qC S) k)), S)
end
section
/-! behind a change: the history holds the state before it -/
theorem ne_63 {t j : Nat} (ht : t < 7) (hj : j < 16) : (iBo (bx t j) ≠ 363 ∧ iL (bx t j) ≠ 363 ∧ iH (bx t j) ≠ 363) ∧ (iBo (bx t j) ≠ 364 ∧ iL (bx t j) ≠ 364 ∧ iH (bx t j) ≠ 364) := by
  refine ⟨⟨?_, ?_, ?_⟩, ?_, ?_, ?_⟩
  · unfold iBo bx; omega
  · unfold iL bx; omega
  · unfold iH bx; omega
  · unfold iBo bx; omega
  · unfold iL bx; omega
  · unfold iH bx; omega
theorem isV_fr2 {σ σ1 : Sg} {u t : Nat} {v : SpV} (h : isV σ t v) (hut : u ≠ t) (hu : u < 7) (ht : t < 7) (f : ∀ q, q ≠ 363 → q ≠ 364 → q ≠ iS u → outB u q → σ1 q = σ q) : isV σ1 t v := by
  refine isV_keep h (f _ (by unfold iS; omega) (by unfold iS; omega) (by unfold iS; omega) (outB_S u t hu)) (fun j hj => ?_)
  obtain ⟨⟨a1, a2, a3⟩, b1, b2, b3⟩ := ne_63 ht hj
  have hB := outB_bx (s := u) hut hj
  have hb := bx_lt ht hj
  exact ⟨f _ a1 b1 (nSB u _ hb).symm hB.1, f _ a2 b2 (nSL u _ hb).symm hB.2.1, f _ a3 b3 (nSH u _ hb).symm hB.2.2⟩
theorem isV_fr0 {σ σ1 : Sg} {t : Nat} {v : SpV} (h : isV σ t v) (ht : t < 7) (f : ∀ q, q ≠ 363 → q ≠ 364 → σ1 q = σ q) : isV σ1 t v := by
  refine isV_keep h (f _ (by unfold iS; omega) (by unfold iS; omega)) (fun j hj => ?_)
  obtain ⟨⟨a1, a2, a3⟩, b1, b2, b3⟩ := ne_63 ht hj
  exact ⟨f _ a1 b1, f _ a2 b2, f _ a3 b3⟩
theorem outB_hi {u q : Nat} (hu : u < 7) (hq : 339 ≤ q) : outB u q := by
  intro j hj
  have := bx_lt hu hj
  refine ⟨?_, ?_, ?_⟩
  · unfold iBo; omega
  · unfold iL; omega
  · unfold iH; omega
theorem adopt_ok {σ σ1 σ2 : Sg} {S : StV} {w : SpV} {pm : Nat → Nat} (hc : isV σ 0 (qC S)) (h0 : hOk σ (qN S) pm) (hh : ∀ i, i < qN S → isV σ (pm i) (qH S i)) (hp : snaC σ (qP S)) (ht : txtC σ (qL S) (qT S)) (hw : isV σ 1 w)
    (h1 : rmI σ 0 (vN (qC S)) (qN S) pm σ1) (h2 : spC σ2 0 σ1 1 (vN w)) (h3 : frS 0 σ1 σ2) : isC σ2 (pushS S w) ∧ isV σ2 1 w ∧ keepM σ σ2 := by
  obtain ⟨pm', τ, c', g0, g1, g2, g3, g4, g5⟩ := h1
  have hc4 : c' < 4 := by
    have := h0.2.1
    omega
  obtain ⟨-, m1, m2⟩ := g0.2.2.1 c' hc4
  have inj := g0.2.2.2
  have f1 : ∀ q, q ≠ 363 → q ≠ 364 → q ≠ iS (pm' c') → outB (pm' c') q → σ1 q = σ q := fun q a b c d => (g5 q a c d).trans (g1 q a b)
  have f3 : ∀ q, q ≠ 363 → q ≠ 364 → q ≠ iS 0 → outB 0 q → σ2 q = σ1 q := fun q _ _ c d => h3 q c d
  have w1 : isV σ1 1 w := isV_fr2 hw (by omega) m2 (by omega) f1
  have e2 : ∀ q, 345 ≤ q → σ2 q = σ1 q := fun q hq => h3 q (by unfold iS; omega) (outB_hi (by omega) (by omega))
  have e1 : ∀ q, 365 ≤ q → σ1 q = σ q := fun q hq => f1 q (by omega) (by omega) (by unfold iS; omega) (outB_hi m2 (by omega))
  have eN : psN S = c' + 1 := by
    unfold psN
    rcases g2 with ⟨a, b, -⟩ | ⟨a, b, -⟩
    · rw [if_pos a, b]
    · rw [if_neg (by omega), b]
  refine ⟨⟨isV_sp w1 h2, ⟨pm', ?_, fun i hi => ?_⟩, ?_, ?_⟩, isV_fr2 w1 (by omega) (by omega) (by omega) f3, fun q hq => (e2 q (by omega)).trans (e1 q (by omega))⟩
  · show hOk σ2 (psN S) pm'
    rw [eN]
    exact hOk_eq g3 (e2 _ (by omega)) (e2 _ (by omega))
  · have hi' : i < c' + 1 := by rw [← eN]; exact hi
    obtain ⟨-, n1, n2⟩ := g0.2.2.1 i (by omega)
    refine isV_fr2 ?_ (by omega) (by omega) n2 f3
    show isV σ1 (pm' i) (psH S i)
    unfold psH
    by_cases e : i + 1 = psN S
    · rw [if_pos e]
      have ei : i = c' := by omega
      subst ei
      exact isV_sp (isV_fr0 hc (by omega) g1) g4
    · rw [if_neg e]
      have hne : pm' c' ≠ pm' i := fun q => by
        have := inj _ _ hc4 (by omega) q
        omega
      refine isV_fr2 ?_ hne m2 n2 f1
      rcases g2 with ⟨a, b, c, -⟩ | ⟨a, b, c⟩
      · rw [if_pos a, c]
        exact hh i (by omega)
      · rw [if_neg (by omega), c]
        simp only
        rw [if_pos (by omega)]
        exact hh (i + 1) (by omega)
  · show snaC σ2 (qP S)
    unfold snaC at hp ⊢
    rw [e2 368 (by omega), e1 368 (by omega)]
    rcases hp with ⟨a, v, b, c⟩ | hp
    · exact Or.inl ⟨a, v, b, isV_fr2 (isV_fr2 c (by omega) m2 (by omega) f1) (by omega) (by omega) (by omega) f3⟩
    · exact Or.inr hp
  · show txtC σ2 (qL S) (qT S)
    unfold txtC at ht ⊢
    rw [e2 365 (by omega), e1 365 (by omega), e2 366 (by omega), e1 366 (by omega)]
    exact ht
/-! the second space: what a write there leaves -/
theorem isV_take {σ σ1 : Sg} {s k : Nat} {v : SpV} (h : isV σ s v) (hk : k < vN v) (h1 : tkS σ s k (vN v) σ1) : isV σ1 s (rmV v k) := by
  obtain ⟨a, b, c, d, e, f⟩ := h
  obtain ⟨t1, t2, t3, t4⟩ := h1
  refine ⟨?_, t1, (t2 2 (by omega)).trans c, (t2 3 (by omega)).trans d, (t2 4 (by omega)).trans e, fun j hj => ?_⟩
  · show vN v - 1 ≤ 16
    omega
  · have hj' : j < vN v - 1 := hj
    have g := t3 j (by omega)
    have hm : mvI k (vN v - 1) j < vN v := by
      unfold mvI
      split <;> omega
    have f' := f _ hm
    exact ⟨g.1.trans f'.1, fun d hd => ⟨(g.2 d hd).1.trans (f'.2 d hd).1, (g.2 d hd).2.trans (f'.2 d hd).2⟩⟩
theorem isV_cut {σ σ1 : Sg} {s k d : Nat} {x r : Int32} {v : SpV} (h : isV σ s v) (hn : vN v < 16) (h1 : cuS σ s k d x (vN v) r σ1) (hk : k < vN v) : r = vX v ∧ isV σ1 s (cutV v k d x) := by
  obtain ⟨a, b, c, e, g, f⟩ := h
  obtain ⟨t0, t1, t2, t3, t4, t5, t6, t7, t8⟩ := h1.2 hn
  refine ⟨t0.trans c, ?_, t1, t2.trans (by rw [c]; rfl), t3.trans (by rw [e]; rfl), t4.trans g, fun j hj => ?_⟩
  · show vN v + 1 ≤ 16
    omega
  · have hj' : j < vN v + 1 := hj
    by_cases ej : j = vN v
    · subst ej
      refine ⟨t6.trans (by rw [c]; simp [cutV_nu]), fun i hi => ⟨?_, ?_⟩⟩
      · rw [(t7 i hi).1]
        rw [((f k hk).2 i hi).1]
        simp [cutV_lo]
      · rw [(t7 i hi).2]
        rw [((f k hk).2 i hi).2]
        simp [cutV_hi]
    · have hjn : j < vN v := by omega
      refine ⟨(t5 j hjn).1.trans (by rw [(f j hjn).1]; simp [cutV_nu, cutV_lo, cutV_hi, ej]), fun i hi => ⟨?_, ?_⟩⟩
      · rw [((t5 j hjn).2 i hi).1, ((f j hjn).2 i hi).1]
        simp [cutV_nu, cutV_lo, cutV_hi, ej]
      · rw [((t5 j hjn).2 i hi).2, ((f j hjn).2 i hi).2]
        simp [cutV_nu, cutV_lo, cutV_hi, ej]
theorem isV_qt {σ σ1 : Sg} {s : Nat} {v : SpV} (hs : s < 7) (h : isV σ s v) (h1 : qtI σ s (vN v) σ1) : isV σ1 s (qtV v) := by
  obtain ⟨a, b, c, d, e, f⟩ := h
  have eS := h1.2.2 _ (outB_S s s hs)
  refine ⟨a, by rw [eS]; exact b, by rw [eS]; exact c, by rw [eS]; exact d, by rw [eS]; exact e, fun j hj => ?_⟩
  obtain ⟨q0, q1, q2, q3, q4, q5, q6⟩ := h1.1 j hj
  have g := f j hj
  refine ⟨by rw [q0]; exact g.1, fun i hi => ?_⟩
  obtain rfl | rfl | rfl : i = 0 ∨ i = 1 ∨ i = 2 := by omega
  · exact ⟨by rw [q1, (g.2 1 (by omega)).2]; simp [qtV_lo, qtV_hi], by rw [q2, (g.2 1 (by omega)).1]; simp [qtV_lo, qtV_hi]⟩
  · exact ⟨by rw [q3, (g.2 0 (by omega)).1]; simp [qtV_lo, qtV_hi], by rw [q4, (g.2 0 (by omega)).2]; simp [qtV_lo, qtV_hi]⟩
  · exact ⟨by rw [q5, (g.2 2 (by omega)).1]; simp [qtV_lo, qtV_hi], by rw [q6, (g.2 2 (by omega)).2]; simp [qtV_lo, qtV_hi]⟩
theorem isV_sh {σ : Sg} {s k d : Nat} {x : Int32} {v : SpV} (hs : s < 7) (h : isV σ s v) (hk : k < vN v) : isV (upS (upS σ (iL (bx s k)) d (σ (iL (bx s k)) d + x)) (iH (bx s k)) d (σ (iH (bx s k)) d + x)) s (shV v k d x) := by
  obtain ⟨a, b, c, e, g, f⟩ := h
  have hb := bx_lt hs (show k < 16 by omega)
  have eS : upS (upS σ (iL (bx s k)) d (σ (iL (bx s k)) d + x)) (iH (bx s k)) d (σ (iH (bx s k)) d + x) (iS s) = σ (iS s) := by rw [up_ne (nSH _ _ hb), up_ne (nSL _ _ hb)]
  refine ⟨a, by rw [eS]; exact b, by rw [eS]; exact c, by rw [eS]; exact e, by rw [eS]; exact g, fun j hj => ?_⟩
  have hj2 : j < vN v := hj
  have fj := f j hj2
  refine ⟨by rw [up_ne (nBH _ _), up_ne (nBL _ _)]; exact fj.1, fun i hi => ?_⟩
  by_cases ej : j = k
  · subst ej
    refine ⟨?_, ?_⟩
    · rw [up_ne (nLH _ _), up_get]
      simp only [true_and, shV_lo, shV_hi]
      by_cases ei : i = d
      · subst ei
        simp [(fj.2 i hi).1]
      · simp [ei, (fj.2 i hi).1]
    · rw [up_get, up_ne (nHL _ _)]
      simp only [true_and, shV_lo, shV_hi]
      by_cases ei : i = d
      · subst ei
        simp [(fj.2 i hi).2]
      · simp [ei, (fj.2 i hi).2]
  · have hne := bx_ne (s := s) ej
    refine ⟨?_, ?_⟩
    · rw [up_ne (nLH _ _), up_ne hne.2.1, (fj.2 i hi).1]
      simp [shV_lo, shV_hi, ej]
    · rw [up_ne hne.2.2, up_ne (nHL _ _), (fj.2 i hi).2]
      simp [shV_lo, shV_hi, ej]
theorem isV_ap {σ σ1 : Sg} {s o : Nat} {r : Int32} {v : SpV} {l h : V3} (hv : isV σ s v) (hn : vN v < 16) (hl : ∀ d, d < 3 → σ (iL o) d = l d ∧ σ (iH o) d = h d) (h1 : apS σ s o (vN v) r σ1) (hs : s < 7) : r = vX v ∧ isV σ1 s (addV v l h) := by
  obtain ⟨a, b, c, e, g, f⟩ := hv
  obtain ⟨t0, t1, t2, t3, t4, t5, t6⟩ := h1.2 hn
  refine ⟨t0.trans c, ?_, t1, t2.trans (by rw [c]; rfl), (t3 3 (by omega) (by omega)).trans e, (t3 4 (by omega) (by omega)).trans g, fun j hj => ?_⟩
  · show vN v + 1 ≤ 16
    omega
  · have hj' : j < vN v + 1 := hj
    by_cases ej : j = vN v
    · subst ej
      refine ⟨t4.trans (by rw [c]; simp [addV_nu, addV_lo, addV_hi]), fun i hi => ⟨?_, ?_⟩⟩
      · rw [(t5 i hi).1, (hl i hi).1]
        simp [addV_nu, addV_lo, addV_hi]
      · rw [(t5 i hi).2, (hl i hi).2]
        simp [addV_nu, addV_lo, addV_hi]
    · have hb := bx_lt hs (show j < 16 by omega)
      have hne := bx_ne (s := s) ej
      have g0 := t6 (iBo (bx s j)) (nSB _ _ hb).symm hne.1 (nBL _ _) (nBH _ _)
      have g1 := t6 (iL (bx s j)) (nSL _ _ hb).symm (nLB _ _) hne.2.1 (nLH _ _)
      have g2 := t6 (iH (bx s j)) (nSH _ _ hb).symm (nHB _ _) (nHL _ _) hne.2.2
      have fj := f j (by omega)
      rw [g0, g1, g2]
      refine ⟨fj.1.trans (by simp [addV_nu, addV_lo, addV_hi, ej]), fun i hi => ⟨(fj.2 i hi).1.trans (by simp [addV_nu, addV_lo, addV_hi, ej]), (fj.2 i hi).2.trans (by simp [addV_nu, addV_lo, addV_hi, ej])⟩⟩
theorem rm_keep1 {σ σ1 : Sg} {n c : Nat} {pm : Nat → Nat} {w : SpV} (h0 : hOk σ c pm) (hw : isV σ 1 w) (h1 : rmI σ 0 n c pm σ1) : isV σ1 1 w := by
  obtain ⟨pm', τ, c', g0, g1, g2, g3, g4, g5⟩ := h1
  have hc4 : c' < 4 := by
    have := h0.2.1
    omega
  obtain ⟨-, m1, m2⟩ := g0.2.2.1 c' hc4
  exact isV_fr2 hw (by omega) m2 (by omega) (fun q a b c d => (g5 q a c d).trans (g1 q a b))
theorem keepC_up {σ : Sg} {k i i' : Nat} {x y : Int32} (hk : k < 16) : keepC σ (upS (upS σ (iL (bx 1 k)) i x) (iH (bx 1 k)) i' y) := by
  intro q hq
  have h1 : ¬ (48 ≤ q ∧ q < 96) := fun e => hq (Or.inl e)
  rw [up_ne (by unfold iH bx; omega), up_ne (by unfold iL bx; omega)]
theorem anyb_e {p q : Nat → Bool} {n : Nat} (h : ∀ k, k < n → p k = q k) : bI (anyb p n) = bI (anyb q n) := by rw [anyb_c h]
theorem v_mvcut {σ : Sg} {v : SpV} {k d : Nat} {x : Int32} (h : isV σ 1 (shV v k d x)) (hk : k < vN v) : anyb (fun j => !decide (nI j = nI k) && ctBx (σ (iL (bx 1 j))) (σ (iH (bx 1 j))) (σ (iL (bx 1 k))) (σ (iH (bx 1 k)))) (vN v) = mvCut v k d x := by
  have hn : vN v ≤ 16 := h.1
  refine anyb_c (fun j hj => ?_)
  rw [ctBx_c (v_lo h (show j < vN (shV v k d x) from hj)) (v_hi h (show j < vN (shV v k d x) from hj)) (v_lo h (show k < vN (shV v k d x) from hk)) (v_hi h (show k < vN (shV v k d x) from hk))]
  congr 2
  exact decide_eq_decide.mpr (nI_eq (by omega) (by omega))
theorem oMove_at {S : StV} {x d b : Int32} {k : Nat} (ek : locO (qC S) x = some k) (hd : dirB d = true) : oMove S x d b = (if b < -(vLo (qC S) k d.toNatClampNeg) then (-2, S) else if 32 - vHi (qC S) k d.toNatClampNeg < b then (-2, S) else if mvCut (qC S) k d.toNatClampNeg b then (-4, S) else if b = 0 then (-5, S) else (vLo (qC S) k d.toNatClampNeg + b, pushS S (shV (qC S) k d.toNatClampNeg b))) := by
  unfold oMove
  rw [ek]
  simp [hd]
theorem oMove_no {S : StV} {x d b : Int32} (h : locO (qC S) x = none ∨ dirB d = false) : oMove S x d b = (-1, S) := by
  unfold oMove
  cases e : locO (qC S) x with
  | none => rfl
  | some k =>
    rcases h with h | h
    · rw [e] at h; cases h
    · simp [h]
theorem oSplit_at {S : StV} {x d t : Int32} {k : Nat} (ek : locO (qC S) x = some k) (hd : dirB d = true) : oSplit S x d t = (if !decide (vLo (qC S) k d.toNatClampNeg < t) then (-2, S) else if !decide (t < vHi (qC S) k d.toNatClampNeg) then (-2, S) else if vN (qC S) = 16 then (-3, S) else (vX (qC S), pushS S (cutV (qC S) k d.toNatClampNeg t))) := by
  unfold oSplit
  rw [ek]
  simp [hd]
theorem oSplit_no {S : StV} {x d t : Int32} (h : locO (qC S) x = none ∨ dirB d = false) : oSplit S x d t = (-1, S) := by
  unfold oSplit
  cases e : locO (qC S) x with
  | none => rfl
  | some k =>
    rcases h with h | h
    · rw [e] at h; cases h
    · simp [h]
theorem oEnd_at {S : StV} {x d h : Int32} {k : Nat} (ek : locO (qC S) x = some k) (hd : dirB d = true) : oEnd S x d h = (if h = 0 then vLo (qC S) k d.toNatClampNeg else vHi (qC S) k d.toNatClampNeg, S) := by
  unfold oEnd
  rw [ek]
  simp [hd]
theorem oEnd_no {S : StV} {x d y : Int32} (h : locO (qC S) x = none ∨ dirB d = false) : oEnd S x d y = (-1, S) := by
  unfold oEnd
  cases e : locO (qC S) x with
  | none => rfl
  | some k =>
    rcases h with h | h
    · rw [e] at h; cases h
    · simp [h]
theorem okC_of {σ σ1 : Sg} {o : Int32 × StV} {r : Int32} {S' : StV} (e : o = (r, S')) (h : isC σ1 S') (hk : keepM σ σ1) : okC σ o r σ1 := by
  rw [e]
  exact ⟨rfl, h, hk⟩
theorem keepC_ru {σ : Sg} {x : Int32} : keepC σ (upS σ (iS 1) 4 x) := fun q hq => up_ne (fun e => hq (Or.inr (Or.inl (by rw [e]; rfl))))
theorem isV_ru {σ : Sg} {v : SpV} {x : Int32} (h : isV σ 1 v) : isV (upS σ (iS 1) 4 x) 1 (ruV v x) := by
  obtain ⟨a, b, c, d, e, f⟩ := h
  refine ⟨a, ?_, ?_, ?_, ?_, fun j hj => ?_⟩
  · rw [up_get, if_neg (by omega)]
    exact b
  · rw [up_get, if_neg (by omega)]
    exact c
  · rw [up_get, if_neg (by omega)]
    exact d
  · rw [up_get, if_pos ⟨rfl, rfl⟩]
    rfl
  · have hj' : j < vN v := hj
    have hb := bx_lt (s := 1) (by omega) (show j < 16 by omega)
    rw [up_ne (nSB _ _ hb).symm, up_ne (nSL _ _ hb).symm, up_ne (nSH _ _ hb).symm]
    exact f j hj'
theorem undo_ok {σ σ1 : Sg} {S : StV} {pm : Nat → Nat} (h0 : hOk σ (qN S) pm) (hh : ∀ i, i < qN S → isV σ (pm i) (qH S i)) (hp : snaC σ (qP S)) (ht : txtC σ (qL S) (qT S)) (hq : 0 < qN S) (h1 : rcI σ 0 (vN (qH S (qN S - 1))) (qN S - 1) pm σ1) : okC σ (oUndo S) (nI (qN S - 1)) σ1 := by
  obtain ⟨g0, g1, g2⟩ := h1
  have h4 := h0.2.1
  have f : ∀ q, q ≠ 363 → q ≠ 364 → q ≠ iS 0 → outB 0 q → σ1 q = σ q := fun q a _ c d => g2 q a c d
  have e2 : ∀ q, 365 ≤ q → σ1 q = σ q := fun q hq => g2 q (by omega) (by unfold iS; omega) (outB_hi (by omega) (by omega))
  rw [oUndo, if_neg (by omega)]
  refine ⟨rfl, ⟨isV_sp (hh _ (by omega)) g1, ⟨pm, g0, fun i hi => ?_⟩, ?_, ?_⟩, fun q hq => e2 q (by omega)⟩
  · have hi' : i < qN S - 1 := hi
    obtain ⟨-, m1, m2⟩ := h0.2.2.1 i (by omega)
    exact isV_fr2 (hh i (by omega)) (by omega) (by omega) m2 f
  · show snaC σ1 (qP S)
    unfold snaC at hp ⊢
    rw [e2 368 (by omega)]
    rcases hp with ⟨a, v, b, c⟩ | hp
    · exact Or.inl ⟨a, v, b, isV_fr2 c (by omega) (by omega) (by omega) f⟩
    · exact Or.inr hp
  · show txtC σ1 (qL S) (qT S)
    unfold txtC at ht ⊢
    rw [e2 365 (by omega), e2 366 (by omega)]
    exact ht
theorem keep_ok {σ σ1 : Sg} {S : StV} {pm : Nat → Nat} (hc : isV σ 0 (qC S)) (h0 : hOk σ (qN S) pm) (hh : ∀ i, i < qN S → isV σ (pm i) (qH S i)) (ht : txtC σ (qL S) (qT S)) (h1 : spC σ1 2 σ 0 (vN (qC S)) ∧ frS 2 σ σ1) : okC σ (oKeep S) (nI (vN (qC S))) (upS σ1 368 3 1) := by
  have e2 : ∀ q, 345 ≤ q → q ≠ 368 → upS σ1 368 3 1 q = σ q := fun q hq h3 => (up_ne h3).trans (h1.2 q (by unfold iS; omega) (outB_hi (by omega) (by omega)))
  have hlow : ∀ t v, t < 7 → isV σ1 t v → isV (upS σ1 368 3 1) t v := by
    intro t v h7 hv
    refine isV_keep hv (up_ne (by unfold iS; omega)) (fun j hj => ?_)
    have hb := bx_lt h7 hj
    exact ⟨up_ne (by unfold iBo; omega), up_ne (by unfold iL; omega), up_ne (by unfold iH; omega)⟩
  refine ⟨rfl, ⟨hlow 0 _ (by omega) (isV_fr hc (by omega) (by omega) (by omega) h1.2), ⟨pm, hOk_eq h0 (e2 _ (by omega) (by omega)) (e2 _ (by omega) (by omega)), fun i hi => ?_⟩, Or.inl ⟨?_, qC S, rfl, hlow 2 _ (by omega) (isV_sp hc h1.1)⟩, ?_⟩, fun q hq => e2 q (by omega) (by omega)⟩
  · have hi' : i < qN S := hi
    have h4 := h0.2.1
    obtain ⟨-, m1, m2⟩ := h0.2.2.1 i (by omega)
    exact hlow _ _ m2 (isV_fr (hh i hi') (by omega) (by omega) m2 h1.2)
  · rw [up_get, if_pos ⟨rfl, rfl⟩]
  · show txtC _ (qL S) (qT S)
    unfold txtC at ht ⊢
    rw [e2 365 (by omega) (by omega), e2 366 (by omega) (by omega)]
    exact ht
end
section
set_option maxRecDepth 100000 in
set_option maxHeartbeats 4000000 in
theorem ctX0_size (l : Launch) (Ω : Om) (σ : Sg) (b d : Nat) (hb : b < 113) (hd : d < 3) : CtW l yX0_size wsX0_size (rmD 0) Ω [.ref (ad Ω (iBo b)), .int (nI d)] σ (roI (szB σ b d) σ) := by
  refine ct_intro [some (.ref (ad Ω (iBo b))), some (.int (nI d))] (by decide) rfl rfl (Nat.le_of_ble_eq_true rfl) (fun Γ hL hQ => ?_)
  show AtW mX0_size Γ Ω σ 0 [some (.ref (ad Ω (iBo b))), some (.int (nI d))] []
  refine r_aload_n dX0_size_0 rfl ?_
  refine fX0_2 b hb jX0_size_X0 lX0_size_15 dX0_size_1 ?_
  refine r_iload_n dX0_size_4 rfl ?_
  refine ldH b hb d rfl (by omega) dX0_size_5 ?_
  refine r_aload_n dX0_size_6 rfl ?_
  refine fX0_1 b hb jX0_size_X0 lX0_size_9 dX0_size_7 ?_
  refine r_iload_n dX0_size_10 rfl ?_
  refine ldL b hb d rfl (by omega) dX0_size_11 ?_
  refine r_isub dX0_size_12 ?_
  exact r_iret hQ rfl dX0_size_13 (roI_of rfl)

set_option maxRecDepth 100000 in
set_option maxHeartbeats 4000000 in
theorem ctX0_volume (l : Launch) (Ω : Om) (σ : Sg) (b : Nat) (hb : b < 113) : CtW l yX0_volume wsX0_volume (rmD 1) Ω [.ref (ad Ω (iBo b))] σ (roI (voB σ b) σ) := by
  refine ct_intro [some (.ref (ad Ω (iBo b)))] (by decide) rfl rfl (Nat.le_of_ble_eq_true rfl) (fun Γ hL hQ => ?_)
  show AtW mX0_volume Γ Ω σ 0 [some (.ref (ad Ω (iBo b)))] []
  refine r_aload_n dX0_volume_0 rfl ?_
  refine r_iconst 0 dX0_volume_1 (by decide) ?_
  refine r_callVI (iBo b) hL (ctX0_size l Ω _ b 0 hb (by omega)) kX0_volume_28 (iB_lt hb) ⟨_, _, _, cel_box hb, rfl, rfl⟩ rfl rfl (Nat.le_of_ble_eq_true rfl) dX0_volume_2 ?_
  refine r_aload_n dX0_volume_5 rfl ?_
  refine r_iconst 1 dX0_volume_6 (by decide) ?_
  refine r_callVI (iBo b) hL (ctX0_size l Ω _ b 1 hb (by omega)) kX0_volume_28 (iB_lt hb) ⟨_, _, _, cel_box hb, rfl, rfl⟩ rfl rfl (Nat.le_of_ble_eq_true rfl) dX0_volume_7 ?_
  refine r_imul dX0_volume_10 ?_
  refine r_aload_n dX0_volume_11 rfl ?_
  refine r_iconst 2 dX0_volume_12 (by decide) ?_
  refine r_callVI (iBo b) hL (ctX0_size l Ω _ b 2 hb (by omega)) kX0_volume_28 (iB_lt hb) ⟨_, _, _, cel_box hb, rfl, rfl⟩ rfl rfl (Nat.le_of_ble_eq_true rfl) dX0_volume_13 ?_
  refine r_imul dX0_volume_16 ?_
  exact r_iret hQ rfl dX0_volume_17 (roI_of rfl)

set_option maxRecDepth 100000 in
set_option maxHeartbeats 4000000 in
theorem ctX0_sumOfCorner (l : Launch) (Ω : Om) (σ : Sg) (b : Nat) (hb : b < 113) : CtW l yX0_sumOfCorner wsX0_sumOfCorner (rmD 0) Ω [.ref (ad Ω (iBo b))] σ (roI (σ (iL b) 0 + σ (iL b) 1 + σ (iL b) 2) σ) := by
  refine ct_intro [some (.ref (ad Ω (iBo b)))] (by decide) rfl rfl (Nat.le_of_ble_eq_true rfl) (fun Γ hL hQ => ?_)
  show AtW mX0_sumOfCorner Γ Ω σ 0 [some (.ref (ad Ω (iBo b)))] []
  refine r_aload_n dX0_sumOfCorner_0 rfl ?_
  refine fX0_1 b hb jX0_sumOfCorner_X0 lX0_sumOfCorner_9 dX0_sumOfCorner_1 ?_
  refine r_iconst 0 dX0_sumOfCorner_4 (by decide) ?_
  refine ldL b hb 0 rfl (by omega) dX0_sumOfCorner_5 ?_
  refine r_aload_n dX0_sumOfCorner_6 rfl ?_
  refine fX0_1 b hb jX0_sumOfCorner_X0 lX0_sumOfCorner_9 dX0_sumOfCorner_7 ?_
  refine r_iconst 1 dX0_sumOfCorner_10 (by decide) ?_
  refine ldL b hb 1 rfl (by omega) dX0_sumOfCorner_11 ?_
  refine r_iadd dX0_sumOfCorner_12 ?_
  refine r_aload_n dX0_sumOfCorner_13 rfl ?_
  refine fX0_1 b hb jX0_sumOfCorner_X0 lX0_sumOfCorner_9 dX0_sumOfCorner_14 ?_
  refine r_iconst 2 dX0_sumOfCorner_17 (by decide) ?_
  refine ldL b hb 2 rfl (by omega) dX0_sumOfCorner_18 ?_
  refine r_iadd dX0_sumOfCorner_19 ?_
  exact r_iret hQ rfl dX0_sumOfCorner_20 (roI_of rfl)

set_option maxRecDepth 100000 in
set_option maxHeartbeats 4000000 in
theorem ctX0_rowOfCells (l : Launch) (Ω : Om) (σ : Sg) (b : Nat) (hb : b < 113) : CtW l yX0_rowOfCells wsX0_rowOfCells (rmD 1) Ω [.ref (ad Ω (iBo b))] σ (roI (rwB σ b) σ) := by
  refine ct_intro [some (.ref (ad Ω (iBo b)))] (by decide) rfl rfl (Nat.le_of_ble_eq_true rfl) (fun Γ hL hQ => ?_)
  show AtW mX0_rowOfCells Γ Ω σ 0 [some (.ref (ad Ω (iBo b)))] []
  refine r_iconst 1 dX0_rowOfCells_0 (by decide) ?_
  refine r_aload_n dX0_rowOfCells_1 rfl ?_
  refine r_iconst 0 dX0_rowOfCells_2 (by decide) ?_
  refine r_callVI (iBo b) hL (ctX0_size l Ω _ b 0 hb (by omega)) kX0_rowOfCells_28 (iB_lt hb) ⟨_, _, _, cel_box hb, rfl, rfl⟩ rfl rfl (Nat.le_of_ble_eq_true rfl) dX0_rowOfCells_3 ?_
  refine r_ishl dX0_rowOfCells_6 ?_
  refine r_iconst 1 dX0_rowOfCells_7 (by decide) ?_
  refine r_isub dX0_rowOfCells_8 ?_
  refine r_aload_n dX0_rowOfCells_9 rfl ?_
  refine fX0_1 b hb jX0_rowOfCells_X0 lX0_rowOfCells_9 dX0_rowOfCells_10 ?_
  refine r_iconst 0 dX0_rowOfCells_13 (by decide) ?_
  refine ldL b hb 0 rfl (by omega) dX0_rowOfCells_14 ?_
  refine r_ishl dX0_rowOfCells_15 ?_
  exact r_iret hQ rfl dX0_rowOfCells_16 (roI_of rfl)

set_option maxRecDepth 100000 in
set_option maxHeartbeats 4000000 in
theorem ctX0_meets (l : Launch) (Ω : Om) (σ : Sg) (b o d : Nat) (hb : b < 113) (ho : o < 113) (hd : d < 3) : CtW l yX0_meets wsX0_meets (rmD 0) Ω [.ref (ad Ω (iBo b)), .ref (ad Ω (iBo o)), .int (nI d)] σ (roI (bI (mtB (σ (iL b)) (σ (iH b)) (σ (iL o)) (σ (iH o)) d)) σ) := by
  refine ct_intro [some (.ref (ad Ω (iBo b))), some (.ref (ad Ω (iBo o))), some (.int (nI d))] (by decide) rfl rfl (Nat.le_of_ble_eq_true rfl) (fun Γ hL hQ => ?_)
  show AtW mX0_meets Γ Ω σ 0 [some (.ref (ad Ω (iBo b))), some (.ref (ad Ω (iBo o))), some (.int (nI d))] []
  refine r_aload_n dX0_meets_0 rfl ?_
  refine fX0_1 b hb jX0_meets_X0 lX0_meets_9 dX0_meets_1 ?_
  refine r_iload_n dX0_meets_4 rfl ?_
  refine ldL b hb d rfl (by omega) dX0_meets_5 ?_
  refine r_aload_n dX0_meets_6 rfl ?_
  refine fX0_2 o ho jX0_meets_X0 lX0_meets_15 dX0_meets_7 ?_
  refine r_iload_n dX0_meets_10 rfl ?_
  refine ldH o ho d rfl (by omega) dX0_meets_11 ?_
  refine r_icmp_ge 34 dX0_meets_12 (by decide) (fun c12 => ?_) (fun c12 => ?_)
  ·
    replace c12 := Int32.not_lt.mpr c12
    refine r_iconst 0 dX0_meets_34 (by decide) ?_
    exact r_zret hQ rfl ((by decide)) dX0_meets_35 (roI_of (by simp [mtB, bI, *]))
  ·
    replace c12 := Int32.not_le.mp c12
    refine r_aload_n dX0_meets_15 rfl ?_
    refine fX0_1 o ho jX0_meets_X0 lX0_meets_9 dX0_meets_16 ?_
    refine r_iload_n dX0_meets_19 rfl ?_
    refine ldL o ho d rfl (by omega) dX0_meets_20 ?_
    refine r_aload_n dX0_meets_21 rfl ?_
    refine fX0_2 b hb jX0_meets_X0 lX0_meets_15 dX0_meets_22 ?_
    refine r_iload_n dX0_meets_25 rfl ?_
    refine ldH b hb d rfl (by omega) dX0_meets_26 ?_
    refine r_icmp_ge 34 dX0_meets_27 (by decide) (fun c27 => ?_) (fun c27 => ?_)
    ·
      replace c27 := Int32.not_lt.mpr c27
      refine r_iconst 0 dX0_meets_34 (by decide) ?_
      exact r_zret hQ rfl ((by decide)) dX0_meets_35 (roI_of (by simp [mtB, bI, *]))
    ·
      replace c27 := Int32.not_le.mp c27
      refine r_iconst 1 dX0_meets_30 (by decide) ?_
      refine r_goto 35 dX0_meets_31 (by decide) ?_
      exact r_zret hQ rfl ((by decide)) dX0_meets_35 (roI_of (by simp [mtB, bI, *]))

set_option maxRecDepth 100000 in
set_option maxHeartbeats 4000000 in
theorem ctX0_cuts (l : Launch) (Ω : Om) (σ : Sg) (b o : Nat) (hb : b < 113) (ho : o < 113) : CtW l yX0_cuts wsX0_cuts (rmD 1) Ω [.ref (ad Ω (iBo b)), .ref (ad Ω (iBo o))] σ (roI (bI (ctBx (σ (iL b)) (σ (iH b)) (σ (iL o)) (σ (iH o)))) σ) := by
  refine ct_intro [some (.ref (ad Ω (iBo b))), some (.ref (ad Ω (iBo o)))] (by decide) rfl rfl (Nat.le_of_ble_eq_true rfl) (fun Γ hL hQ => ?_)
  show AtW mX0_cuts Γ Ω σ 0 [some (.ref (ad Ω (iBo b))), some (.ref (ad Ω (iBo o)))] []
  refine r_aload_n dX0_cuts_0 rfl ?_
  refine r_aload_n dX0_cuts_1 rfl ?_
  refine r_iconst 0 dX0_cuts_2 (by decide) ?_
  refine r_callVI (iBo b) hL (ctX0_meets l Ω _ b o 0 hb ho (by omega)) kX0_cuts_32 (iB_lt hb) ⟨_, _, _, cel_box hb, rfl, rfl⟩ rfl rfl (Nat.le_of_ble_eq_true rfl) dX0_cuts_3 ?_
  refine r_if_eq 31 dX0_cuts_6 (by decide) (fun c6 => ?_) (fun c6 => ?_)
  ·
    replace c6 := bI_f c6
    refine r_iconst 0 dX0_cuts_31 (by decide) ?_
    exact r_zret hQ rfl ((by decide)) dX0_cuts_32 (roI_of (by simp [ctBx, bI, *]))
  ·
    replace c6 := bI_t c6
    refine r_aload_n dX0_cuts_9 rfl ?_
    refine r_aload_n dX0_cuts_10 rfl ?_
    refine r_iconst 1 dX0_cuts_11 (by decide) ?_
    refine r_callVI (iBo b) hL (ctX0_meets l Ω _ b o 1 hb ho (by omega)) kX0_cuts_32 (iB_lt hb) ⟨_, _, _, cel_box hb, rfl, rfl⟩ rfl rfl (Nat.le_of_ble_eq_true rfl) dX0_cuts_12 ?_
    refine r_if_eq 31 dX0_cuts_15 (by decide) (fun c15 => ?_) (fun c15 => ?_)
    ·
      replace c15 := bI_f c15
      refine r_iconst 0 dX0_cuts_31 (by decide) ?_
      exact r_zret hQ rfl ((by decide)) dX0_cuts_32 (roI_of (by simp [ctBx, bI, *]))
    ·
      replace c15 := bI_t c15
      refine r_aload_n dX0_cuts_18 rfl ?_
      refine r_aload_n dX0_cuts_19 rfl ?_
      refine r_iconst 2 dX0_cuts_20 (by decide) ?_
      refine r_callVI (iBo b) hL (ctX0_meets l Ω _ b o 2 hb ho (by omega)) kX0_cuts_32 (iB_lt hb) ⟨_, _, _, cel_box hb, rfl, rfl⟩ rfl rfl (Nat.le_of_ble_eq_true rfl) dX0_cuts_21 ?_
      refine r_if_eq 31 dX0_cuts_24 (by decide) (fun c24 => ?_) (fun c24 => ?_)
      ·
        replace c24 := bI_f c24
        refine r_iconst 0 dX0_cuts_31 (by decide) ?_
        exact r_zret hQ rfl ((by decide)) dX0_cuts_32 (roI_of (by simp [ctBx, bI, *]))
      ·
        replace c24 := bI_t c24
        refine r_iconst 1 dX0_cuts_27 (by decide) ?_
        refine r_goto 32 dX0_cuts_28 (by decide) ?_
        exact r_zret hQ rfl ((by decide)) dX0_cuts_32 (roI_of (by simp [ctBx, bI, *]))

set_option maxRecDepth 100000 in
set_option maxHeartbeats 4000000 in
theorem ctX0_meetsInDifference (l : Launch) (Ω : Om) (σ : Sg) (b o d e : Nat) (hb : b < 113) (ho : o < 113) (hd : d < 3) (he : e < 3) : CtW l yX0_meetsInDifference wsX0_meetsInDifference (rmD 0) Ω [.ref (ad Ω (iBo b)), .ref (ad Ω (iBo o)), .int (nI d), .int (nI e)] σ (roI (bI (md (σ (iL b)) (σ (iH b)) (σ (iL o)) (σ (iH o)) d e)) σ) := by
  refine ct_intro [some (.ref (ad Ω (iBo b))), some (.ref (ad Ω (iBo o))), some (.int (nI d)), some (.int (nI e))] (by decide) rfl rfl (Nat.le_of_ble_eq_true rfl) (fun Γ hL hQ => ?_)
  show AtW mX0_meetsInDifference Γ Ω σ 0 [some (.ref (ad Ω (iBo b))), some (.ref (ad Ω (iBo o))), some (.int (nI d)), some (.int (nI e))] []
  refine r_aload_n dX0_meetsInDifference_0 rfl ?_
  refine fX0_1 b hb jX0_meetsInDifference_X0 lX0_meetsInDifference_9 dX0_meetsInDifference_1 ?_
  refine r_iload_n dX0_meetsInDifference_4 rfl ?_
  refine ldL b hb d rfl (by omega) dX0_meetsInDifference_5 ?_
  refine r_aload_n dX0_meetsInDifference_6 rfl ?_
  refine fX0_2 b hb jX0_meetsInDifference_X0 lX0_meetsInDifference_15 dX0_meetsInDifference_7 ?_
  refine r_iload_n dX0_meetsInDifference_10 rfl ?_
  refine ldH b hb e rfl (by omega) dX0_meetsInDifference_11 ?_
  refine r_isub dX0_meetsInDifference_12 ?_
  refine r_aload_n dX0_meetsInDifference_13 rfl ?_
  refine fX0_2 o ho jX0_meetsInDifference_X0 lX0_meetsInDifference_15 dX0_meetsInDifference_14 ?_
  refine r_iload_n dX0_meetsInDifference_17 rfl ?_
  refine ldH o ho d rfl (by omega) dX0_meetsInDifference_18 ?_
  refine r_aload_n dX0_meetsInDifference_19 rfl ?_
  refine fX0_1 o ho jX0_meetsInDifference_X0 lX0_meetsInDifference_9 dX0_meetsInDifference_20 ?_
  refine r_iload_n dX0_meetsInDifference_23 rfl ?_
  refine ldL o ho e rfl (by omega) dX0_meetsInDifference_24 ?_
  refine r_isub dX0_meetsInDifference_25 ?_
  refine r_icmp_ge 62 dX0_meetsInDifference_26 (by decide) (fun c26 => ?_) (fun c26 => ?_)
  ·
    replace c26 := Int32.not_lt.mpr c26
    refine r_iconst 0 dX0_meetsInDifference_62 (by decide) ?_
    exact r_zret hQ rfl ((by decide)) dX0_meetsInDifference_63 (roI_of (by simp [md, bI, *]))
  ·
    replace c26 := Int32.not_le.mp c26
    refine r_aload_n dX0_meetsInDifference_29 rfl ?_
    refine fX0_1 o ho jX0_meetsInDifference_X0 lX0_meetsInDifference_9 dX0_meetsInDifference_30 ?_
    refine r_iload_n dX0_meetsInDifference_33 rfl ?_
    refine ldL o ho d rfl (by omega) dX0_meetsInDifference_34 ?_
    refine r_aload_n dX0_meetsInDifference_35 rfl ?_
    refine fX0_2 o ho jX0_meetsInDifference_X0 lX0_meetsInDifference_15 dX0_meetsInDifference_36 ?_
    refine r_iload_n dX0_meetsInDifference_39 rfl ?_
    refine ldH o ho e rfl (by omega) dX0_meetsInDifference_40 ?_
    refine r_isub dX0_meetsInDifference_41 ?_
    refine r_aload_n dX0_meetsInDifference_42 rfl ?_
    refine fX0_2 b hb jX0_meetsInDifference_X0 lX0_meetsInDifference_15 dX0_meetsInDifference_43 ?_
    refine r_iload_n dX0_meetsInDifference_46 rfl ?_
    refine ldH b hb d rfl (by omega) dX0_meetsInDifference_47 ?_
    refine r_aload_n dX0_meetsInDifference_48 rfl ?_
    refine fX0_1 b hb jX0_meetsInDifference_X0 lX0_meetsInDifference_9 dX0_meetsInDifference_49 ?_
    refine r_iload_n dX0_meetsInDifference_52 rfl ?_
    refine ldL b hb e rfl (by omega) dX0_meetsInDifference_53 ?_
    refine r_isub dX0_meetsInDifference_54 ?_
    refine r_icmp_ge 62 dX0_meetsInDifference_55 (by decide) (fun c55 => ?_) (fun c55 => ?_)
    ·
      replace c55 := Int32.not_lt.mpr c55
      refine r_iconst 0 dX0_meetsInDifference_62 (by decide) ?_
      exact r_zret hQ rfl ((by decide)) dX0_meetsInDifference_63 (roI_of (by simp [md, bI, *]))
    ·
      replace c55 := Int32.not_le.mp c55
      refine r_iconst 1 dX0_meetsInDifference_58 (by decide) ?_
      refine r_goto 63 dX0_meetsInDifference_59 (by decide) ?_
      exact r_zret hQ rfl ((by decide)) dX0_meetsInDifference_63 (roI_of (by simp [md, bI, *]))

set_option maxRecDepth 100000 in
set_option maxHeartbeats 4000000 in
theorem ctX0_overlapsOutlineOf (l : Launch) (Ω : Om) (σ : Sg) (b o : Nat) (hb : b < 113) (ho : o < 113) : CtW l yX0_overlapsOutlineOf wsX0_overlapsOutlineOf (rmD 1) Ω [.ref (ad Ω (iBo b)), .ref (ad Ω (iBo o))] σ (roI (bI (ovB (σ (iL b)) (σ (iH b)) (σ (iL o)) (σ (iH o)))) σ) := by
  refine ct_intro [some (.ref (ad Ω (iBo b))), some (.ref (ad Ω (iBo o)))] (by decide) rfl rfl (Nat.le_of_ble_eq_true rfl) (fun Γ hL hQ => ?_)
  show AtW mX0_overlapsOutlineOf Γ Ω σ 0 [some (.ref (ad Ω (iBo b))), some (.ref (ad Ω (iBo o)))] []
  refine r_aload_n dX0_overlapsOutlineOf_0 rfl ?_
  refine r_aload_n dX0_overlapsOutlineOf_1 rfl ?_
  refine r_iconst 0 dX0_overlapsOutlineOf_2 (by decide) ?_
  refine r_iconst 1 dX0_overlapsOutlineOf_3 (by decide) ?_
  refine r_callVI (iBo b) hL (ctX0_meetsInDifference l Ω _ b o 0 1 hb ho (by omega) (by omega)) kX0_overlapsOutlineOf_36 (iB_lt hb) ⟨_, _, _, cel_box hb, rfl, rfl⟩ rfl rfl (Nat.le_of_ble_eq_true rfl) dX0_overlapsOutlineOf_4 ?_
  refine r_if_eq 34 dX0_overlapsOutlineOf_7 (by decide) (fun c7 => ?_) (fun c7 => ?_)
  ·
    replace c7 := bI_f c7
    refine r_iconst 0 dX0_overlapsOutlineOf_34 (by decide) ?_
    exact r_zret hQ rfl ((by decide)) dX0_overlapsOutlineOf_35 (roI_of (by simp [ovB, bI, *]))
  ·
    replace c7 := bI_t c7
    refine r_aload_n dX0_overlapsOutlineOf_10 rfl ?_
    refine r_aload_n dX0_overlapsOutlineOf_11 rfl ?_
    refine r_iconst 0 dX0_overlapsOutlineOf_12 (by decide) ?_
    refine r_iconst 2 dX0_overlapsOutlineOf_13 (by decide) ?_
    refine r_callVI (iBo b) hL (ctX0_meetsInDifference l Ω _ b o 0 2 hb ho (by omega) (by omega)) kX0_overlapsOutlineOf_36 (iB_lt hb) ⟨_, _, _, cel_box hb, rfl, rfl⟩ rfl rfl (Nat.le_of_ble_eq_true rfl) dX0_overlapsOutlineOf_14 ?_
    refine r_if_eq 34 dX0_overlapsOutlineOf_17 (by decide) (fun c17 => ?_) (fun c17 => ?_)
    ·
      replace c17 := bI_f c17
      refine r_iconst 0 dX0_overlapsOutlineOf_34 (by decide) ?_
      exact r_zret hQ rfl ((by decide)) dX0_overlapsOutlineOf_35 (roI_of (by simp [ovB, bI, *]))
    ·
      replace c17 := bI_t c17
      refine r_aload_n dX0_overlapsOutlineOf_20 rfl ?_
      refine r_aload_n dX0_overlapsOutlineOf_21 rfl ?_
      refine r_iconst 1 dX0_overlapsOutlineOf_22 (by decide) ?_
      refine r_iconst 2 dX0_overlapsOutlineOf_23 (by decide) ?_
      refine r_callVI (iBo b) hL (ctX0_meetsInDifference l Ω _ b o 1 2 hb ho (by omega) (by omega)) kX0_overlapsOutlineOf_36 (iB_lt hb) ⟨_, _, _, cel_box hb, rfl, rfl⟩ rfl rfl (Nat.le_of_ble_eq_true rfl) dX0_overlapsOutlineOf_24 ?_
      refine r_if_eq 34 dX0_overlapsOutlineOf_27 (by decide) (fun c27 => ?_) (fun c27 => ?_)
      ·
        replace c27 := bI_f c27
        refine r_iconst 0 dX0_overlapsOutlineOf_34 (by decide) ?_
        exact r_zret hQ rfl ((by decide)) dX0_overlapsOutlineOf_35 (roI_of (by simp [ovB, bI, *]))
      ·
        replace c27 := bI_t c27
        refine r_iconst 1 dX0_overlapsOutlineOf_30 (by decide) ?_
        refine r_goto 35 dX0_overlapsOutlineOf_31 (by decide) ?_
        exact r_zret hQ rfl ((by decide)) dX0_overlapsOutlineOf_35 (roI_of (by simp [ovB, bI, *]))

set_option maxRecDepth 100000 in
set_option maxHeartbeats 4000000 in
theorem ctX0_isBelow (l : Launch) (Ω : Om) (σ : Sg) (b o : Nat) (hb : b < 113) (ho : o < 113) : CtW l yX0_isBelow wsX0_isBelow (rmD 1) Ω [.ref (ad Ω (iBo b)), .ref (ad Ω (iBo o))] σ (roI (bI (beB (σ (iL b)) (σ (iH b)) (σ (iL o)) (σ (iH o)))) σ) := by
  refine ct_intro [some (.ref (ad Ω (iBo b))), some (.ref (ad Ω (iBo o)))] (by decide) rfl rfl (Nat.le_of_ble_eq_true rfl) (fun Γ hL hQ => ?_)
  show AtW mX0_isBelow Γ Ω σ 0 [some (.ref (ad Ω (iBo b))), some (.ref (ad Ω (iBo o)))] []
  refine r_aload_n dX0_isBelow_0 rfl ?_
  refine r_aload_n dX0_isBelow_1 rfl ?_
  refine r_iconst 0 dX0_isBelow_2 (by decide) ?_
  refine r_callVI (iBo b) hL (ctX0_meets l Ω _ b o 0 hb ho (by omega)) kX0_isBelow_32 (iB_lt hb) ⟨_, _, _, cel_box hb, rfl, rfl⟩ rfl rfl (Nat.le_of_ble_eq_true rfl) dX0_isBelow_3 ?_
  refine r_if_eq 37 dX0_isBelow_6 (by decide) (fun c6 => ?_) (fun c6 => ?_)
  ·
    replace c6 := bI_f c6
    refine r_iconst 0 dX0_isBelow_37 (by decide) ?_
    exact r_zret hQ rfl ((by decide)) dX0_isBelow_38 (roI_of (by simp [beB, bI, *]))
  ·
    replace c6 := bI_t c6
    refine r_aload_n dX0_isBelow_9 rfl ?_
    refine r_aload_n dX0_isBelow_10 rfl ?_
    refine r_iconst 1 dX0_isBelow_11 (by decide) ?_
    refine r_callVI (iBo b) hL (ctX0_meets l Ω _ b o 1 hb ho (by omega)) kX0_isBelow_32 (iB_lt hb) ⟨_, _, _, cel_box hb, rfl, rfl⟩ rfl rfl (Nat.le_of_ble_eq_true rfl) dX0_isBelow_12 ?_
    refine r_if_eq 37 dX0_isBelow_15 (by decide) (fun c15 => ?_) (fun c15 => ?_)
    ·
      replace c15 := bI_f c15
      refine r_iconst 0 dX0_isBelow_37 (by decide) ?_
      exact r_zret hQ rfl ((by decide)) dX0_isBelow_38 (roI_of (by simp [beB, bI, *]))
    ·
      replace c15 := bI_t c15
      refine r_aload_n dX0_isBelow_18 rfl ?_
      refine fX0_2 b hb jX0_isBelow_X0 lX0_isBelow_15 dX0_isBelow_19 ?_
      refine r_iconst 2 dX0_isBelow_22 (by decide) ?_
      refine ldH b hb 2 rfl (by omega) dX0_isBelow_23 ?_
      refine r_aload_n dX0_isBelow_24 rfl ?_
      refine fX0_1 o ho jX0_isBelow_X0 lX0_isBelow_9 dX0_isBelow_25 ?_
      refine r_iconst 2 dX0_isBelow_28 (by decide) ?_
      refine ldL o ho 2 rfl (by omega) dX0_isBelow_29 ?_
      refine r_icmp_gt 37 dX0_isBelow_30 (by decide) (fun c30 => ?_) (fun c30 => ?_)
      ·
        refine r_iconst 0 dX0_isBelow_37 (by decide) ?_
        exact r_zret hQ rfl ((by decide)) dX0_isBelow_38 (roI_of (by simp [beB, bI, *]))
      ·
        refine r_iconst 1 dX0_isBelow_33 (by decide) ?_
        refine r_goto 38 dX0_isBelow_34 (by decide) ?_
        exact r_zret hQ rfl ((by decide)) dX0_isBelow_38 (roI_of (by simp [beB, bI, *]))

set_option maxRecDepth 100000 in
set_option maxHeartbeats 4000000 in
theorem ctX0_coversRow (l : Launch) (Ω : Om) (σ : Sg) (b : Nat) (y : Int32) (hb : b < 113) : CtW l yX0_coversRow wsX0_coversRow (rmD 0) Ω [.ref (ad Ω (iBo b)), .int y] σ (roI (bI (cvB (σ (iL b)) (σ (iH b)) y)) σ) := by
  refine ct_intro [some (.ref (ad Ω (iBo b))), some (.int y)] (by decide) rfl rfl (Nat.le_of_ble_eq_true rfl) (fun Γ hL hQ => ?_)
  show AtW mX0_coversRow Γ Ω σ 0 [some (.ref (ad Ω (iBo b))), some (.int y)] []
  refine r_aload_n dX0_coversRow_0 rfl ?_
  refine fX0_1 b hb jX0_coversRow_X0 lX0_coversRow_9 dX0_coversRow_1 ?_
  refine r_iconst 1 dX0_coversRow_4 (by decide) ?_
  refine ldL b hb 1 rfl (by omega) dX0_coversRow_5 ?_
  refine r_iload_n dX0_coversRow_6 rfl ?_
  refine r_icmp_gt 24 dX0_coversRow_7 (by decide) (fun c7 => ?_) (fun c7 => ?_)
  ·
    refine r_iconst 0 dX0_coversRow_24 (by decide) ?_
    exact r_zret hQ rfl ((by decide)) dX0_coversRow_25 (roI_of (by simp [cvB, bI, *]))
  ·
    refine r_iload_n dX0_coversRow_10 rfl ?_
    refine r_aload_n dX0_coversRow_11 rfl ?_
    refine fX0_2 b hb jX0_coversRow_X0 lX0_coversRow_15 dX0_coversRow_12 ?_
    refine r_iconst 1 dX0_coversRow_15 (by decide) ?_
    refine ldH b hb 1 rfl (by omega) dX0_coversRow_16 ?_
    refine r_icmp_ge 24 dX0_coversRow_17 (by decide) (fun c17 => ?_) (fun c17 => ?_)
    ·
      replace c17 := Int32.not_lt.mpr c17
      refine r_iconst 0 dX0_coversRow_24 (by decide) ?_
      exact r_zret hQ rfl ((by decide)) dX0_coversRow_25 (roI_of (by simp [cvB, bI, *]))
    ·
      replace c17 := Int32.not_le.mp c17
      refine r_iconst 1 dX0_coversRow_20 (by decide) ?_
      refine r_goto 25 dX0_coversRow_21 (by decide) ?_
      exact r_zret hQ rfl ((by decide)) dX0_coversRow_25 (roI_of (by simp [cvB, bI, *]))

set_option maxRecDepth 100000 in
set_option maxHeartbeats 4000000 in
theorem ctX0_longestDirection (l : Launch) (Ω : Om) (σ : Sg) (b : Nat) (hb : b < 113) : CtW l yX0_longestDirection wsX0_longestDirection (rmD 1) Ω [.ref (ad Ω (iBo b))] σ (roI (nI (lgd (szB σ b) 2)) σ) := by
  refine ct_intro [some (.ref (ad Ω (iBo b))), none, none] (by decide) rfl rfl (Nat.le_of_ble_eq_true rfl) (fun Γ hL hQ => ?_)
  show AtW mX0_longestDirection Γ Ω σ 0 [some (.ref (ad Ω (iBo b))), none, none] []
  refine r_iconst 0 dX0_longestDirection_0 (by decide) ?_
  refine r_istore_n dX0_longestDirection_1 (by decide) rfl ?_
  refine r_iconst 1 dX0_longestDirection_2 (by decide) ?_
  refine r_istore_n dX0_longestDirection_3 (by decide) rfl ?_
  have L1 : ∀ (N : Nat) (k g : Nat), k ≤ 2 → g = lgd (szB σ b) k → 2 < k + N → AtW mX0_longestDirection Γ Ω σ 4 [some (.ref (ad Ω (iBo b))), some (.int (nI g)), some (.int (nI (k + 1)))] [] := by
    intro N
    induction N with
    | zero =>
      intro k g hk hg hN
      exact absurd hN (by omega)
    | succ N ih =>
      intro k g hk hg hN
      have hgl : g ≤ k := by rw [hg]; exact lgd_le _ _
      refine r_iload_n dX0_longestDirection_4 rfl ?_
      refine r_iconst 3 dX0_longestDirection_5 (by decide) ?_
      refine r_icmp_ge 30 dX0_longestDirection_6 (by decide) (fun c6 => ?_) (fun c6 => ?_)
      ·
        replace c6 := Int32.not_lt.mpr c6
        have n6 := Nat.not_lt.mp (fun q => c6 ((nI_ltI (a := k + 1) (b := 3) (by omega) (by omega)).mpr q))
        refine r_iload_n dX0_longestDirection_30 rfl ?_
        have ek : k = 2 := by omega
        subst ek
        exact r_iret hQ rfl dX0_longestDirection_31 (roI_of (by rw [hg]))
      ·
        replace c6 := Int32.not_le.mp c6
        have n6 := (nI_ltI (a := k + 1) (b := 3) (by omega) (by omega)).mp c6
        refine r_aload_n dX0_longestDirection_9 rfl ?_
        refine r_iload_n dX0_longestDirection_10 rfl ?_
        refine r_callVI (iBo b) hL (ctX0_size l Ω _ b (k + 1) hb (by omega)) kX0_longestDirection_28 (iB_lt hb) ⟨_, _, _, cel_box hb, rfl, rfl⟩ rfl rfl (Nat.le_of_ble_eq_true rfl) dX0_longestDirection_11 ?_
        refine r_aload_n dX0_longestDirection_14 rfl ?_
        refine r_iload_n dX0_longestDirection_15 rfl ?_
        refine r_callVI (iBo b) hL (ctX0_size l Ω _ b g hb (by omega)) kX0_longestDirection_28 (iB_lt hb) ⟨_, _, _, cel_box hb, rfl, rfl⟩ rfl rfl (Nat.le_of_ble_eq_true rfl) dX0_longestDirection_16 ?_
        refine r_icmp_le 24 dX0_longestDirection_19 (by decide) (fun c19 => ?_) (fun c19 => ?_)
        ·
          replace c19 := Int32.not_lt.mpr c19
          refine r_iinc (nI (k + 1 + 1)) dX0_longestDirection_24 rfl (nI_1 (k + 1)) (by decide) rfl ?_
          refine r_goto 4 dX0_longestDirection_27 (by decide) ?_
          exact ih (k + 1) g (by omega) (by rw [hg] at c19 ⊢; rw [lgd, if_neg c19]) (by omega)
        ·
          replace c19 := Int32.not_le.mp c19
          refine r_iload_n dX0_longestDirection_22 rfl ?_
          refine r_istore_n dX0_longestDirection_23 (by decide) rfl ?_
          refine r_iinc (nI (k + 1 + 1)) dX0_longestDirection_24 rfl (nI_1 (k + 1)) (by decide) rfl ?_
          refine r_goto 4 dX0_longestDirection_27 (by decide) ?_
          exact ih (k + 1) (k + 1) (by omega) (by rw [hg] at c19; rw [lgd, if_pos c19]) (by omega)
  exact L1 3 0 0 (by omega) rfl (by omega)

set_option maxRecDepth 100000 in
set_option maxHeartbeats 4000000 in
theorem ctX0_directionOfHiding (l : Launch) (Ω : Om) (σ : Sg) (b o : Nat) (hb : b < 113) (ho : o < 113) : CtW l yX0_directionOfHiding wsX0_directionOfHiding (rmD 2) Ω [.ref (ad Ω (iBo b)), .ref (ad Ω (iBo o))] σ (roI (dhB (σ (iL b)) (σ (iH b)) (σ (iL o)) (σ (iH o))) σ) := by
  refine ct_intro [some (.ref (ad Ω (iBo b))), some (.ref (ad Ω (iBo o))), none] (by decide) rfl rfl (Nat.le_of_ble_eq_true rfl) (fun Γ hL hQ => ?_)
  show AtW mX0_directionOfHiding Γ Ω σ 0 [some (.ref (ad Ω (iBo b))), some (.ref (ad Ω (iBo o))), none] []
  refine r_aload_n dX0_directionOfHiding_0 rfl ?_
  refine r_aload_n dX0_directionOfHiding_1 rfl ?_
  refine r_callVI (iBo b) hL (ctX0_overlapsOutlineOf l Ω _ b o hb ho) kX0_directionOfHiding_40 (iB_lt hb) ⟨_, _, _, cel_box hb, rfl, rfl⟩ rfl rfl (Nat.le_of_ble_eq_true rfl) dX0_directionOfHiding_2 ?_
  refine r_if_ne 10 dX0_directionOfHiding_5 (by decide) (fun c5 => ?_) (fun c5 => ?_)
  ·
    replace c5 := bI_t c5
    refine r_iconst 0 dX0_directionOfHiding_10 (by decide) ?_
    refine r_istore_n dX0_directionOfHiding_11 (by decide) rfl ?_
    have L1 : ∀ (N : Nat) (k : Nat), k ≤ 3 → (∀ j, j < k → (!decide (σ (iL b) j < σ (iH o) j)) = false) → 3 < k + N → AtW mX0_directionOfHiding Γ Ω σ 12 [some (.ref (ad Ω (iBo b))), some (.ref (ad Ω (iBo o))), some (.int (nI k))] [] := by
      intro N
      induction N with
      | zero =>
        intro k hk hp hN
        exact absurd hN (by omega)
      | succ N ih =>
        intro k hk hp hN
        refine r_iload_n dX0_directionOfHiding_12 rfl ?_
        refine r_iconst 3 dX0_directionOfHiding_13 (by decide) ?_
        refine r_icmp_ge 40 dX0_directionOfHiding_14 (by decide) (fun c14 => ?_) (fun c14 => ?_)
        ·
          replace c14 := Int32.not_lt.mpr c14
          have n14 := Nat.not_lt.mp (fun q => c14 ((nI_ltI (a := k) (b := 3) (by omega) (by omega)).mpr q))
          refine r_iconst (-1) dX0_directionOfHiding_40 (by decide) ?_
          have ek : k = 3 := by omega
          subst ek
          exact r_iret hQ rfl dX0_directionOfHiding_41 (roI_of (by rw [dhB, if_pos c5, fI_none hp]))
        ·
          replace c14 := Int32.not_le.mp c14
          have n14 := (nI_ltI (a := k) (b := 3) (by omega) (by omega)).mp c14
          refine r_aload_n dX0_directionOfHiding_17 rfl ?_
          refine fX0_1 b hb jX0_directionOfHiding_X0 lX0_directionOfHiding_9 dX0_directionOfHiding_18 ?_
          refine r_iload_n dX0_directionOfHiding_21 rfl ?_
          refine ldL b hb k rfl (by omega) dX0_directionOfHiding_22 ?_
          refine r_aload_n dX0_directionOfHiding_23 rfl ?_
          refine fX0_2 o ho jX0_directionOfHiding_X0 lX0_directionOfHiding_15 dX0_directionOfHiding_24 ?_
          refine r_iload_n dX0_directionOfHiding_27 rfl ?_
          refine ldH o ho k rfl (by omega) dX0_directionOfHiding_28 ?_
          refine r_icmp_lt 34 dX0_directionOfHiding_29 (by decide) (fun c29 => ?_) (fun c29 => ?_)
          ·
            refine r_iinc (nI (k + 1)) dX0_directionOfHiding_34 rfl (nI_1 k) (by decide) rfl ?_
            refine r_goto 12 dX0_directionOfHiding_37 (by decide) ?_
            exact ih (k + 1) (by omega) (lt_s hp (by simp [c29])) (by omega)
          ·
            refine r_iload_n dX0_directionOfHiding_32 rfl ?_
            exact r_iret hQ rfl dX0_directionOfHiding_33 (roI_of (by rw [dhB, if_pos c5, fI_hit hp (by simp [c29]) n14]))
    exact L1 4 0 (by omega) (fun j hj => absurd hj (by omega)) (by omega)
  ·
    replace c5 := bI_f c5
    refine r_iconst (-1) dX0_directionOfHiding_8 (by decide) ?_
    exact r_iret hQ rfl dX0_directionOfHiding_9 (roI_of (by simp [dhB, c5]))

set_option maxRecDepth 100000 in
set_option maxHeartbeats 4000000 in
theorem ctX0_lay (l : Launch) (Ω : Om) (σ : Sg) (b d : Nat) (x y : Int32) (hb : b < 113) (hd : d < 3) : CtW l yX0_lay wsX0_lay (rmD 0) Ω [.ref (ad Ω (iBo b)), .int (nI d), .int x, .int y] σ (reJ (fun r σ1 => r = bI (inRg x y) ∧ σ1 = if inRg x y then upS (upS σ (iL b) d x) (iH b) d (x + y) else σ)) := by
  refine ct_intro [some (.ref (ad Ω (iBo b))), some (.int (nI d)), some (.int x), some (.int y)] (by decide) rfl rfl (Nat.le_of_ble_eq_true rfl) (fun Γ hL hQ => ?_)
  show AtW mX0_lay Γ Ω σ 0 [some (.ref (ad Ω (iBo b))), some (.int (nI d)), some (.int x), some (.int y)] []
  refine r_iload_n dX0_lay_0 rfl ?_
  refine r_if_lt 29 dX0_lay_1 (by decide) (fun c1 => ?_) (fun c1 => ?_)
  ·
    refine r_iconst 0 dX0_lay_29 (by decide) ?_
    exact r_zret hQ rfl ((by decide)) dX0_lay_30 (reJ_of (by simp [inRg, bI, *]))
  ·
    refine r_iload_n dX0_lay_4 rfl ?_
    refine r_bipush 31 dX0_lay_5 (by decide) ?_
    refine r_icmp_gt 29 dX0_lay_7 (by decide) (fun c7 => ?_) (fun c7 => ?_)
    ·
      refine r_iconst 0 dX0_lay_29 (by decide) ?_
      exact r_zret hQ rfl ((by decide)) dX0_lay_30 (reJ_of (by simp [inRg, bI, *]))
    ·
      refine r_iload_n dX0_lay_10 rfl ?_
      refine r_iconst 1 dX0_lay_11 (by decide) ?_
      refine r_icmp_lt 29 dX0_lay_12 (by decide) (fun c12 => ?_) (fun c12 => ?_)
      ·
        refine r_iconst 0 dX0_lay_29 (by decide) ?_
        exact r_zret hQ rfl ((by decide)) dX0_lay_30 (reJ_of (by simp [inRg, bI, *]))
      ·
        refine r_iload_n dX0_lay_15 rfl ?_
        refine r_bipush 12 dX0_lay_16 (by decide) ?_
        refine r_icmp_gt 29 dX0_lay_18 (by decide) (fun c18 => ?_) (fun c18 => ?_)
        ·
          refine r_iconst 0 dX0_lay_29 (by decide) ?_
          exact r_zret hQ rfl ((by decide)) dX0_lay_30 (reJ_of (by simp [inRg, bI, *]))
        ·
          refine r_iload_n dX0_lay_21 rfl ?_
          refine r_iload_n dX0_lay_22 rfl ?_
          refine r_iadd dX0_lay_23 ?_
          refine r_bipush 32 dX0_lay_24 (by decide) ?_
          refine r_icmp_le 31 dX0_lay_26 (by decide) (fun c26 => ?_) (fun c26 => ?_)
          ·
            replace c26 := Int32.not_lt.mpr c26
            refine r_aload_n dX0_lay_31 rfl ?_
            refine fX0_1 b hb jX0_lay_X0 lX0_lay_9 dX0_lay_32 ?_
            refine r_iload_n dX0_lay_35 rfl ?_
            refine r_iload_n dX0_lay_36 rfl ?_
            refine stL b hb d rfl (by omega) dX0_lay_37 ?_
            refine r_aload_n dX0_lay_38 rfl ?_
            refine fX0_2 b hb jX0_lay_X0 lX0_lay_15 dX0_lay_39 ?_
            refine r_iload_n dX0_lay_42 rfl ?_
            refine r_iload_n dX0_lay_43 rfl ?_
            refine r_iload_n dX0_lay_44 rfl ?_
            refine r_iadd dX0_lay_45 ?_
            refine stH b hb d rfl (by omega) dX0_lay_46 ?_
            refine r_iconst 1 dX0_lay_47 (by decide) ?_
            exact r_zret hQ rfl ((by decide)) dX0_lay_48 (reJ_of (by simp [inRg, bI, *]))
          ·
            replace c26 := Int32.not_le.mp c26
            refine r_iconst 0 dX0_lay_29 (by decide) ?_
            exact r_zret hQ rfl ((by decide)) dX0_lay_30 (reJ_of (by simp [inRg, bI, *]))

set_option maxRecDepth 100000 in
set_option maxHeartbeats 4000000 in
theorem ctX0_shift (l : Launch) (Ω : Om) (σ : Sg) (b d : Nat) (x : Int32) (hb : b < 113) (hd : d < 3) : CtW l yX0_shift wsX0_shift (rmD 0) Ω [.ref (ad Ω (iBo b)), .int (nI d), .int x] σ (reV (fun σ1 => σ1 = upS (upS σ (iL b) d (σ (iL b) d + x)) (iH b) d (σ (iH b) d + x))) := by
  refine ct_intro [some (.ref (ad Ω (iBo b))), some (.int (nI d)), some (.int x)] (by decide) rfl rfl (Nat.le_of_ble_eq_true rfl) (fun Γ hL hQ => ?_)
  show AtW mX0_shift Γ Ω σ 0 [some (.ref (ad Ω (iBo b))), some (.int (nI d)), some (.int x)] []
  refine r_aload_n dX0_shift_0 rfl ?_
  refine fX0_1 b hb jX0_shift_X0 lX0_shift_9 dX0_shift_1 ?_
  refine r_iload_n dX0_shift_4 rfl ?_
  refine r_dup2 dX0_shift_5 rfl rfl ?_
  refine ldL b hb d rfl (by omega) dX0_shift_6 ?_
  refine r_iload_n dX0_shift_7 rfl ?_
  refine r_iadd dX0_shift_8 ?_
  refine stL b hb d rfl (by omega) dX0_shift_9 ?_
  refine r_aload_n dX0_shift_10 rfl ?_
  refine fX0_2 b hb jX0_shift_X0 lX0_shift_15 dX0_shift_11 ?_
  refine r_iload_n dX0_shift_14 rfl ?_
  refine r_dup2 dX0_shift_15 rfl rfl ?_
  refine ldH b hb d rfl (by omega) dX0_shift_16 ?_
  refine r_iload_n dX0_shift_17 rfl ?_
  refine r_iadd dX0_shift_18 ?_
  refine stH b hb d rfl (by omega) dX0_shift_19 ?_
  exact r_vret hQ rfl dX0_shift_20 (reV_of (by rw [up_ne (show iH b ≠ iL b by unfold iH iL; omega)]))

set_option maxRecDepth 100000 in
set_option maxHeartbeats 4000000 in
theorem ctX0_copyFrom (l : Launch) (Ω : Om) (σ : Sg) (b o : Nat) (hb : b < 113) (ho : o < 113) : CtW l yX0_copyFrom wsX0_copyFrom (rmD 1) Ω [.ref (ad Ω (iBo b)), .ref (ad Ω (iBo o))] σ (reV (fun σ1 => bxC σ1 b σ o ∧ frB b σ σ1)) := by
  refine ct_intro [some (.ref (ad Ω (iBo b))), some (.ref (ad Ω (iBo o)))] (by decide) rfl rfl (Nat.le_of_ble_eq_true rfl) (fun Γ hL hQ => ?_)
  show AtW mX0_copyFrom Γ Ω σ 0 [some (.ref (ad Ω (iBo b))), some (.ref (ad Ω (iBo o)))] []
  refine r_aload_n dX0_copyFrom_0 rfl ?_
  refine r_aload_n dX0_copyFrom_1 rfl ?_
  refine fX0_0 o ho jX0_copyFrom_X0 lX0_copyFrom_18 dX0_copyFrom_2 ?_
  refine pX0_0 b hb jX0_copyFrom_X0 lX0_copyFrom_18 dX0_copyFrom_5 ?_
  refine r_aload_n dX0_copyFrom_8 rfl ?_
  refine fX0_1 o ho jX0_copyFrom_X0 lX0_copyFrom_9 dX0_copyFrom_9 ?_
  refine r_iconst 0 dX0_copyFrom_12 (by decide) ?_
  refine r_aload_n dX0_copyFrom_13 rfl ?_
  refine fX0_1 b hb jX0_copyFrom_X0 lX0_copyFrom_9 dX0_copyFrom_14 ?_
  refine r_iconst 0 dX0_copyFrom_17 (by decide) ?_
  refine r_iconst 3 dX0_copyFrom_18 (by decide) ?_
  refine r_copy 22 (by decide +kernel) (by decide +kernel) (by decide +kernel) (by decide +kernel) (iL o) (iL b) 3 3 3 (iL_lt ho) (iL_lt hb) (cel_low ho) (fun _ => cel_low hb) (by decide) (by decide) (by decide) (by decide) (by decide) rfl dX0_copyFrom_19 ?_
  refine r_aload_n dX0_copyFrom_22 rfl ?_
  refine fX0_2 o ho jX0_copyFrom_X0 lX0_copyFrom_15 dX0_copyFrom_23 ?_
  refine r_iconst 0 dX0_copyFrom_26 (by decide) ?_
  refine r_aload_n dX0_copyFrom_27 rfl ?_
  refine fX0_2 b hb jX0_copyFrom_X0 lX0_copyFrom_15 dX0_copyFrom_28 ?_
  refine r_iconst 0 dX0_copyFrom_31 (by decide) ?_
  refine r_iconst 3 dX0_copyFrom_32 (by decide) ?_
  refine r_copy 22 (by decide +kernel) (by decide +kernel) (by decide +kernel) (by decide +kernel) (iH o) (iH b) 3 3 3 (iH_lt ho) (iH_lt hb) (cel_high ho) (fun _ => cel_high hb) (by decide) (by decide) (by decide) (by decide) (by decide) rfl dX0_copyFrom_33 ?_
  exact r_vret hQ rfl dX0_copyFrom_36 (reV_of ⟨⟨by simp [setA, up_get, nBL, nBH], fun d hd => ⟨by simp [setA, up_get, va_cpy, hd, nLH, nLB], by simp [setA, up_get, va_cpy, hd, nHL, nHB]⟩⟩, fun k h1 h2 h3 => by funext i; simp [setA, up_get, h1, h2, h3]⟩)
end
section
set_option maxRecDepth 100000 in
set_option maxHeartbeats 4000000 in
theorem ctJ6_bitCount_0f7a4 (l : Launch) (Ω : Om) (σ : Sg) (x : Int32) : CtW l yJ6_bitCount_0f7a4 wsJ6_bitCount_0f7a4 (rmD 0) Ω [.int x] σ (roI (bcI x) σ) := by
  refine ct_intro [some (.int x)] (by decide) rfl rfl (Nat.le_of_ble_eq_true rfl) (fun Γ hL hQ => ?_)
  show AtW mJ6_bitCount_0f7a4 Γ Ω σ 0 [some (.int x)] []
  refine r_iload_n dJ6_bitCount_0f7a4_0 rfl ?_
  refine r_iload_n dJ6_bitCount_0f7a4_1 rfl ?_
  refine r_iconst 1 dJ6_bitCount_0f7a4_2 (by decide) ?_
  refine r_iushr dJ6_bitCount_0f7a4_3 ?_
  refine r_ldcw 1431655765 dJ6_bitCount_0f7a4_4 (by decide +kernel) ?_
  refine r_iand dJ6_bitCount_0f7a4_7 ?_
  refine r_isub dJ6_bitCount_0f7a4_8 ?_
  refine r_istore_n dJ6_bitCount_0f7a4_9 (by decide) rfl ?_
  refine r_iload_n dJ6_bitCount_0f7a4_10 rfl ?_
  refine r_ldcw 858993459 dJ6_bitCount_0f7a4_11 (by decide +kernel) ?_
  refine r_iand dJ6_bitCount_0f7a4_14 ?_
  refine r_iload_n dJ6_bitCount_0f7a4_15 rfl ?_
  refine r_iconst 2 dJ6_bitCount_0f7a4_16 (by decide) ?_
  refine r_iushr dJ6_bitCount_0f7a4_17 ?_
  refine r_ldcw 858993459 dJ6_bitCount_0f7a4_18 (by decide +kernel) ?_
  refine r_iand dJ6_bitCount_0f7a4_21 ?_
  refine r_iadd dJ6_bitCount_0f7a4_22 ?_
  refine r_istore_n dJ6_bitCount_0f7a4_23 (by decide) rfl ?_
  refine r_iload_n dJ6_bitCount_0f7a4_24 rfl ?_
  refine r_iload_n dJ6_bitCount_0f7a4_25 rfl ?_
  refine r_iconst 4 dJ6_bitCount_0f7a4_26 (by decide) ?_
  refine r_iushr dJ6_bitCount_0f7a4_27 ?_
  refine r_iadd dJ6_bitCount_0f7a4_28 ?_
  refine r_ldcw 252645135 dJ6_bitCount_0f7a4_29 (by decide +kernel) ?_
  refine r_iand dJ6_bitCount_0f7a4_32 ?_
  refine r_istore_n dJ6_bitCount_0f7a4_33 (by decide) rfl ?_
  refine r_iload_n dJ6_bitCount_0f7a4_34 rfl ?_
  refine r_iload_n dJ6_bitCount_0f7a4_35 rfl ?_
  refine r_bipush 8 dJ6_bitCount_0f7a4_36 (by decide) ?_
  refine r_iushr dJ6_bitCount_0f7a4_38 ?_
  refine r_iadd dJ6_bitCount_0f7a4_39 ?_
  refine r_istore_n dJ6_bitCount_0f7a4_40 (by decide) rfl ?_
  refine r_iload_n dJ6_bitCount_0f7a4_41 rfl ?_
  refine r_iload_n dJ6_bitCount_0f7a4_42 rfl ?_
  refine r_bipush 16 dJ6_bitCount_0f7a4_43 (by decide) ?_
  refine r_iushr dJ6_bitCount_0f7a4_45 ?_
  refine r_iadd dJ6_bitCount_0f7a4_46 ?_
  refine r_istore_n dJ6_bitCount_0f7a4_47 (by decide) rfl ?_
  refine r_iload_n dJ6_bitCount_0f7a4_48 rfl ?_
  refine r_bipush 63 dJ6_bitCount_0f7a4_49 (by decide) ?_
  refine r_iand dJ6_bitCount_0f7a4_51 ?_
  exact r_iret hQ rfl dJ6_bitCount_0f7a4_52 (roI_of rfl)

set_option maxRecDepth 100000 in
set_option maxHeartbeats 4000000 in
theorem ctJ7_fill_53178 (l : Launch) (Ω : Om) (σ : Sg) (p : Nat) (x : Int32) (hp : p < 2) : CtW l yJ7_fill_53178 wsJ7_fill_53178 (rmD 0) Ω [.ref (ad Ω (iP p + 4)), .int x] σ (reV (fun σ1 => σ1 = setA σ (iP p + 4) (fun i => if i < 16 then x else σ (iP p + 4) i))) := by
  refine ct_intro [some (.ref (ad Ω (iP p + 4))), some (.int x), none, none] (by decide) rfl rfl (Nat.le_of_ble_eq_true rfl) (fun Γ hL hQ => ?_)
  show AtW mJ7_fill_53178 Γ Ω σ 0 [some (.ref (ad Ω (iP p + 4))), some (.int x), none, none] []
  refine r_iconst 0 dJ7_fill_53178_0 (by decide) ?_
  refine r_istore_n dJ7_fill_53178_1 (by decide) rfl ?_
  refine r_aload_n dJ7_fill_53178_2 rfl ?_
  refine r_alenI (iP p + 4) (by first | omega | (unfold iP; omega)) (cel_picA hp (by decide) (by decide)) dJ7_fill_53178_3 ?_
  refine r_istore_n dJ7_fill_53178_4 (by decide) rfl ?_
  have L1 : ∀ (N : Nat) (k : Nat), k ≤ 16 → 16 < k + N → AtW mJ7_fill_53178 Γ Ω ((setA σ (iP p + 4) (fun i => if i < k then x else σ (iP p + 4) i))) 5 [some (.ref (ad Ω (iP p + 4))), some (.int x), some (.int (nI k)), some (.int (nI 16))] [] := by
    intro N
    induction N with
    | zero =>
      intro k hk hN
      exact absurd hN (by omega)
    | succ N ih =>
      intro k hk hN
      refine r_iload_n dJ7_fill_53178_5 rfl ?_
      refine r_iload_n dJ7_fill_53178_6 rfl ?_
      refine r_icmp_ge 20 dJ7_fill_53178_7 (by decide) (fun c7 => ?_) (fun c7 => ?_)
      ·
        replace c7 := Int32.not_lt.mpr c7
        have n7 := Nat.not_lt.mp (fun q => c7 ((nI_ltI (a := k) (b := 16) (by omega) (by omega)).mpr q))
        have ek : k = 16 := by omega
        subst ek
        exact r_vret hQ rfl dJ7_fill_53178_20 (reV_of rfl)
      ·
        replace c7 := Int32.not_le.mp c7
        have n7 := (nI_ltI (a := k) (b := 16) (by omega) (by omega)).mp c7
        refine r_aload_n dJ7_fill_53178_10 rfl ?_
        refine r_iload_n dJ7_fill_53178_11 rfl ?_
        refine r_iload_n dJ7_fill_53178_12 rfl ?_
        refine stP4 p hp k rfl (by omega) dJ7_fill_53178_13 ?_
        refine r_iinc (nI (k + 1)) dJ7_fill_53178_14 rfl (nI_1 k) (by decide) rfl ?_
        refine r_goto 5 dJ7_fill_53178_17 (by decide) ?_
        exact (ih (k + 1) (by omega) (by omega)).eqs (fill_step σ (iP p + 4) k x) rfl rfl rfl
  exact (L1 17 0 (by omega) (by omega)).eqs (by funext q; simp [setA]; intro h; subst h; rfl) rfl rfl rfl

set_option maxRecDepth 100000 in
set_option maxHeartbeats 4000000 in
theorem ctX2_hasBit (l : Launch) (Ω : Om) (σ : Sg) (x : Int32) (k : Nat) (hk : k < 32) : CtW l yX2_hasBit wsX2_hasBit (rmD 0) Ω [.int x, .int (nI k)] σ (roI (bI (hasB x k)) σ) := by
  refine ct_intro [some (.int x), some (.int (nI k))] (by decide) rfl rfl (Nat.le_of_ble_eq_true rfl) (fun Γ hL hQ => ?_)
  show AtW mX2_hasBit Γ Ω σ 0 [some (.int x), some (.int (nI k))] []
  refine r_iload_n dX2_hasBit_0 rfl ?_
  refine r_iload_n dX2_hasBit_1 rfl ?_
  refine r_ishr dX2_hasBit_2 ?_
  refine r_iconst 1 dX2_hasBit_3 (by decide) ?_
  refine r_iand dX2_hasBit_4 ?_
  refine r_if_eq 12 dX2_hasBit_5 (by decide) (fun c5 => ?_) (fun c5 => ?_)
  ·
    refine r_iconst 0 dX2_hasBit_12 (by decide) ?_
    exact r_zret hQ rfl ((by decide)) dX2_hasBit_13 (roI_of (by simp [hasB, bI, *]))
  ·
    refine r_iconst 1 dX2_hasBit_8 (by decide) ?_
    refine r_goto 13 dX2_hasBit_9 (by decide) ?_
    exact r_zret hQ rfl ((by decide)) dX2_hasBit_13 (roI_of (by simp [hasB, bI, *]))

set_option maxRecDepth 100000 in
set_option maxHeartbeats 4000000 in
theorem ctX3_isFull (l : Launch) (Ω : Om) (σ : Sg) (s n : Nat) (hs : s < 7) (hn : n ≤ 16) (hc : σ (iS s) 1 = nI n) : CtW l yX3_isFull wsX3_isFull (rmD 0) Ω [.ref (ad Ω (iS s))] σ (roI (bI (decide (n = 16))) σ) := by
  refine ct_intro [some (.ref (ad Ω (iS s)))] (by decide) rfl rfl (Nat.le_of_ble_eq_true rfl) (fun Γ hL hQ => ?_)
  show AtW mX3_isFull Γ Ω σ 0 [some (.ref (ad Ω (iS s)))] []
  refine r_aload_n dX3_isFull_0 rfl ?_
  refine fX3_1 s hs jX3_isFull_X3 lX3_isFull_18 dX3_isFull_1 ?_
  rw [hc]
  refine r_bipush 16 dX3_isFull_4 (by decide) ?_
  refine r_icmp_lt 13 dX3_isFull_6 (by decide) (fun c6 => ?_) (fun c6 => ?_)
  ·
    have n6 := (nI_ltI (a := n) (b := 16) (by omega) (by omega)).mp c6
    refine r_iconst 0 dX3_isFull_13 (by decide) ?_
    exact r_zret hQ rfl ((by decide)) dX3_isFull_14 (roI_of (by simp [bI]; omega))
  ·
    have n6 := Nat.not_lt.mp (fun q => c6 ((nI_ltI (a := n) (b := 16) (by omega) (by omega)).mpr q))
    refine r_iconst 1 dX3_isFull_9 (by decide) ?_
    refine r_goto 14 dX3_isFull_10 (by decide) ?_
    exact r_zret hQ rfl ((by decide)) dX3_isFull_14 (roI_of (by simp [bI]; omega))

set_option maxRecDepth 100000 in
set_option maxHeartbeats 4000000 in
theorem ctX3_slotOf (l : Launch) (Ω : Om) (σ : Sg) (s n : Nat) (hs : s < 7) (hn : n ≤ 16) (hc : σ (iS s) 1 = nI n) (x : Int32) : CtW l yX3_slotOf wsX3_slotOf (rmD 0) Ω [.ref (ad Ω (iS s)), .int x] σ (roI (fI (fun k => decide (σ (iBo (bx s k)) 0 = x)) n) σ) := by
  refine ct_intro [some (.ref (ad Ω (iS s))), some (.int x), none] (by decide) rfl rfl (Nat.le_of_ble_eq_true rfl) (fun Γ hL hQ => ?_)
  show AtW mX3_slotOf Γ Ω σ 0 [some (.ref (ad Ω (iS s))), some (.int x), none] []
  refine r_iconst 0 dX3_slotOf_0 (by decide) ?_
  refine r_istore_n dX3_slotOf_1 (by decide) rfl ?_
  have L1 : ∀ (N : Nat) (k : Nat), k ≤ n → (∀ j, j < k → (decide (σ (iBo (bx s j)) 0 = x)) = false) → n < k + N → AtW mX3_slotOf Γ Ω σ 2 [some (.ref (ad Ω (iS s))), some (.int x), some (.int (nI k))] [] := by
    intro N
    induction N with
    | zero =>
      intro k hk hp hN
      exact absurd hN (by omega)
    | succ N ih =>
      intro k hk hp hN
      refine r_iload_n dX3_slotOf_2 rfl ?_
      refine r_aload_n dX3_slotOf_3 rfl ?_
      refine fX3_1 s hs jX3_slotOf_X3 lX3_slotOf_18 dX3_slotOf_4 ?_
      rw [hc]
      refine r_icmp_ge 31 dX3_slotOf_7 (by decide) (fun c7 => ?_) (fun c7 => ?_)
      ·
        replace c7 := Int32.not_lt.mpr c7
        have n7 := Nat.not_lt.mp (fun q => c7 ((nI_ltI (a := k) (b := n) (by omega) (by omega)).mpr q))
        refine r_iconst (-1) dX3_slotOf_31 (by decide) ?_
        have ek : n = k := by omega
        subst ek
        exact r_iret hQ rfl dX3_slotOf_32 (roI_of (by rw [fI_none hp]))
      ·
        replace c7 := Int32.not_le.mp c7
        have n7 := (nI_ltI (a := k) (b := n) (by omega) (by omega)).mp c7
        refine r_aload_n dX3_slotOf_10 rfl ?_
        refine fX3_0 s hs jX3_slotOf_X3 lX3_slotOf_11 dX3_slotOf_11 ?_
        refine r_iload_n dX3_slotOf_14 rfl ?_
        refine r_aaldB s hs k rfl (by omega) dX3_slotOf_15 ?_
        refine fX0_0 (bx s k) (bx_lt hs (by omega)) jX3_slotOf_X0 lX3_slotOf_35 dX3_slotOf_16 ?_
        refine r_iload_n dX3_slotOf_19 rfl ?_
        refine r_icmp_ne 25 dX3_slotOf_20 (by decide) (fun c20 => ?_) (fun c20 => ?_)
        ·
          refine r_iinc (nI (k + 1)) dX3_slotOf_25 rfl (nI_1 k) (by decide) rfl ?_
          refine r_goto 2 dX3_slotOf_28 (by decide) ?_
          exact ih (k + 1) (by omega) (lt_s hp (by simp [c20])) (by omega)
        ·
          refine r_iload_n dX3_slotOf_23 rfl ?_
          exact r_iret hQ rfl dX3_slotOf_24 (roI_of (by rw [fI_hit hp (by simp [c20]) n7]))
  exact L1 (n + 1) 0 (by omega) (fun j hj => absurd hj (by omega)) (by omega)

set_option maxRecDepth 100000 in
set_option maxHeartbeats 4000000 in
theorem ctX3_isCutBy (l : Launch) (Ω : Om) (σ : Sg) (s n : Nat) (hs : s < 7) (hn : n ≤ 16) (hc : σ (iS s) 1 = nI n) (o : Nat) (ho : o < 113) (w : Int32) : CtW l yX3_isCutBy wsX3_isCutBy (rmD 2) Ω [.ref (ad Ω (iS s)), .ref (ad Ω (iBo o)), .int w] σ (roI (bI (anyb (fun k => !decide (nI k = w) && ctBx (σ (iL (bx s k))) (σ (iH (bx s k))) (σ (iL o)) (σ (iH o))) n)) σ) := by
  refine ct_intro [some (.ref (ad Ω (iS s))), some (.ref (ad Ω (iBo o))), some (.int w), none] (by decide) rfl rfl (Nat.le_of_ble_eq_true rfl) (fun Γ hL hQ => ?_)
  show AtW mX3_isCutBy Γ Ω σ 0 [some (.ref (ad Ω (iS s))), some (.ref (ad Ω (iBo o))), some (.int w), none] []
  refine r_iconst 0 dX3_isCutBy_0 (by decide) ?_
  refine r_istore_n dX3_isCutBy_1 (by decide) rfl ?_
  have L1 : ∀ (N : Nat) (k : Nat), k ≤ n → (∀ j, j < k → (fun k => !decide (nI k = w) && ctBx (σ (iL (bx s k))) (σ (iH (bx s k))) (σ (iL o)) (σ (iH o))) j = false) → n < k + N → AtW mX3_isCutBy Γ Ω σ 2 [some (.ref (ad Ω (iS s))), some (.ref (ad Ω (iBo o))), some (.int w), some (.int (nI k))] [] := by
    intro N
    induction N with
    | zero =>
      intro k hk hp hN
      exact absurd hN (by omega)
    | succ N ih =>
      intro k hk hp hN
      refine r_iload_n dX3_isCutBy_2 rfl ?_
      refine r_aload_n dX3_isCutBy_3 rfl ?_
      refine fX3_1 s hs jX3_isCutBy_X3 lX3_isCutBy_18 dX3_isCutBy_4 ?_
      rw [hc]
      refine r_icmp_ge 36 dX3_isCutBy_7 (by decide) (fun c7 => ?_) (fun c7 => ?_)
      ·
        replace c7 := Int32.not_lt.mpr c7
        have n7 := Nat.not_lt.mp (fun q => c7 ((nI_ltI (a := k) (b := n) (by omega) (by omega)).mpr q))
        refine r_iconst 0 dX3_isCutBy_36 (by decide) ?_
        have ek : n = k := by omega
        subst ek
        exact r_zret hQ rfl ((by decide)) dX3_isCutBy_37 (roI_of (by rw [anyb_f hp]; rfl))
      ·
        replace c7 := Int32.not_le.mp c7
        have n7 := (nI_ltI (a := k) (b := n) (by omega) (by omega)).mp c7
        refine r_iload_n dX3_isCutBy_10 rfl ?_
        refine r_iload_n dX3_isCutBy_11 rfl ?_
        refine r_icmp_eq 30 dX3_isCutBy_12 (by decide) (fun c12 => ?_) (fun c12 => ?_)
        ·
          refine r_iinc (nI (k + 1)) dX3_isCutBy_30 rfl (nI_1 k) (by decide) rfl ?_
          refine r_goto 2 dX3_isCutBy_33 (by decide) ?_
          exact ih (k + 1) (by omega) (lt_s hp (by simp [c12])) (by omega)
        ·
          refine r_aload_n dX3_isCutBy_15 rfl ?_
          refine fX3_0 s hs jX3_isCutBy_X3 lX3_isCutBy_11 dX3_isCutBy_16 ?_
          refine r_iload_n dX3_isCutBy_19 rfl ?_
          refine r_aaldB s hs k rfl (by omega) dX3_isCutBy_20 ?_
          refine r_aload_n dX3_isCutBy_21 rfl ?_
          refine r_callVI (iBo (bx s k)) hL (ctX0_cuts l Ω _ (bx s k) o (bx_lt hs (by omega)) ho) kX3_isCutBy_38 (iB_lt (bx_lt hs (by omega))) ⟨_, _, _, cel_box (bx_lt hs (by omega)), rfl, rfl⟩ rfl rfl (Nat.le_of_ble_eq_true rfl) dX3_isCutBy_22 ?_
          refine r_if_eq 30 dX3_isCutBy_25 (by decide) (fun c25 => ?_) (fun c25 => ?_)
          ·
            replace c25 := bI_f c25
            refine r_iinc (nI (k + 1)) dX3_isCutBy_30 rfl (nI_1 k) (by decide) rfl ?_
            refine r_goto 2 dX3_isCutBy_33 (by decide) ?_
            exact ih (k + 1) (by omega) (lt_s hp (by simp [c25])) (by omega)
          ·
            replace c25 := bI_t c25
            refine r_iconst 1 dX3_isCutBy_28 (by decide) ?_
            exact r_zret hQ rfl ((by decide)) dX3_isCutBy_29 (roI_of (by rw [anyb_t (k := k) (by simp [c12, c25]) n7]; rfl))
  exact L1 (n + 1) 0 (by omega) (fun j hj => absurd hj (by omega)) (by omega)

set_option maxRecDepth 100000 in
set_option maxHeartbeats 4000000 in
theorem ctX3_weightInDrawing (l : Launch) (Ω : Om) (σ : Sg) (s k : Nat) (hs : s < 7) (hk : k < 16) : CtW l yX3_weightInDrawing wsX3_weightInDrawing (rmD 2) Ω [.ref (ad Ω (iS s)), .int (nI k)] σ (roI (wtS σ s k) σ) := by
  refine ct_intro [some (.ref (ad Ω (iS s))), some (.int (nI k))] (by decide) rfl rfl (Nat.le_of_ble_eq_true rfl) (fun Γ hL hQ => ?_)
  show AtW mX3_weightInDrawing Γ Ω σ 0 [some (.ref (ad Ω (iS s))), some (.int (nI k))] []
  refine r_aload_n dX3_weightInDrawing_0 rfl ?_
  refine fX3_4 s hs jX3_weightInDrawing_X3 lX3_weightInDrawing_28 dX3_weightInDrawing_1 ?_
  by_cases w1 : σ (iS s) 4 = 1
  ·
    rw [w1]
    refine r_lookup 28 32 dX3_weightInDrawing_4 (by decide) (by decide) (by decide) ?_
    refine r_aload_n dX3_weightInDrawing_32 rfl ?_
    refine fX3_0 s hs jX3_weightInDrawing_X3 lX3_weightInDrawing_11 dX3_weightInDrawing_33 ?_
    refine r_iload_n dX3_weightInDrawing_36 rfl ?_
    refine r_aaldB s hs k rfl (by omega) dX3_weightInDrawing_37 ?_
    refine r_callVI (iBo (bx s k)) hL (ctX0_sumOfCorner l Ω _ (bx s k) (bx_lt hs (by omega))) kX3_weightInDrawing_57 (iB_lt (bx_lt hs (by omega))) ⟨_, _, _, cel_box (bx_lt hs (by omega)), rfl, rfl⟩ rfl rfl (Nat.le_of_ble_eq_true rfl) dX3_weightInDrawing_38 ?_
    exact r_iret hQ rfl dX3_weightInDrawing_41 (roI_of (by simp [wtS, w1]))
  by_cases w2 : σ (iS s) 4 = 2
  ·
    rw [w2]
    refine r_lookup 38 42 dX3_weightInDrawing_4 (by decide) (by decide) (by decide) ?_
    refine r_aload_n dX3_weightInDrawing_42 rfl ?_
    refine fX3_0 s hs jX3_weightInDrawing_X3 lX3_weightInDrawing_11 dX3_weightInDrawing_43 ?_
    refine r_iload_n dX3_weightInDrawing_46 rfl ?_
    refine r_aaldB s hs k rfl (by omega) dX3_weightInDrawing_47 ?_
    refine r_callVI (iBo (bx s k)) hL (ctX0_volume l Ω _ (bx s k) (bx_lt hs (by omega))) kX3_weightInDrawing_61 (iB_lt (bx_lt hs (by omega))) ⟨_, _, _, cel_box (bx_lt hs (by omega)), rfl, rfl⟩ rfl rfl (Nat.le_of_ble_eq_true rfl) dX3_weightInDrawing_48 ?_
    exact r_iret hQ rfl dX3_weightInDrawing_51 (roI_of (by simp [wtS, w1, w2]))
  refine r_lookup 48 52 dX3_weightInDrawing_4 (by decide) ((lv_osw (k := 1) w1 (by decide)).trans ((lv_osw (k := 2) w2 (by decide)).trans rfl)) (by decide) ?_
  refine r_iconst 0 dX3_weightInDrawing_52 (by decide) ?_
  exact r_iret hQ rfl dX3_weightInDrawing_53 (roI_of (by simp [wtS, w1, w2]))

set_option maxRecDepth 100000 in
set_option maxHeartbeats 4000000 in
theorem ctX3_volume (l : Launch) (Ω : Om) (σ : Sg) (s n : Nat) (hs : s < 7) (hn : n ≤ 16) (hc : σ (iS s) 1 = nI n) : CtW l yX3_volume wsX3_volume (rmD 2) Ω [.ref (ad Ω (iS s))] σ (roI (sumI (fun k => voB σ (bx s k)) n) σ) := by
  refine ct_intro [some (.ref (ad Ω (iS s))), none, none] (by decide) rfl rfl (Nat.le_of_ble_eq_true rfl) (fun Γ hL hQ => ?_)
  show AtW mX3_volume Γ Ω σ 0 [some (.ref (ad Ω (iS s))), none, none] []
  refine r_iconst 0 dX3_volume_0 (by decide) ?_
  refine r_istore_n dX3_volume_1 (by decide) rfl ?_
  refine r_iconst 0 dX3_volume_2 (by decide) ?_
  refine r_istore_n dX3_volume_3 (by decide) rfl ?_
  have L1 : ∀ (N : Nat) (k : Nat) (x : Int32), k ≤ n → x = sumI (fun k => voB σ (bx s k)) k → n < k + N → AtW mX3_volume Γ Ω σ 4 [some (.ref (ad Ω (iS s))), some (.int x), some (.int (nI k))] [] := by
    intro N
    induction N with
    | zero =>
      intro k x hk hx hN
      exact absurd hN (by omega)
    | succ N ih =>
      intro k x hk hx hN
      refine r_iload_n dX3_volume_4 rfl ?_
      refine r_aload_n dX3_volume_5 rfl ?_
      refine fX3_1 s hs jX3_volume_X3 lX3_volume_18 dX3_volume_6 ?_
      rw [hc]
      refine r_icmp_ge 30 dX3_volume_9 (by decide) (fun c9 => ?_) (fun c9 => ?_)
      ·
        replace c9 := Int32.not_lt.mpr c9
        have n9 := Nat.not_lt.mp (fun q => c9 ((nI_ltI (a := k) (b := n) (by omega) (by omega)).mpr q))
        refine r_iload_n dX3_volume_30 rfl ?_
        have ek : n = k := by omega
        subst ek
        exact r_iret hQ rfl dX3_volume_31 (roI_of hx)
      ·
        replace c9 := Int32.not_le.mp c9
        have n9 := (nI_ltI (a := k) (b := n) (by omega) (by omega)).mp c9
        refine r_iload_n dX3_volume_12 rfl ?_
        refine r_aload_n dX3_volume_13 rfl ?_
        refine fX3_0 s hs jX3_volume_X3 lX3_volume_11 dX3_volume_14 ?_
        refine r_iload_n dX3_volume_17 rfl ?_
        refine r_aaldB s hs k rfl (by omega) dX3_volume_18 ?_
        refine r_callVI (iBo (bx s k)) hL (ctX0_volume l Ω _ (bx s k) (bx_lt hs (by omega))) kX3_volume_61 (iB_lt (bx_lt hs (by omega))) ⟨_, _, _, cel_box (bx_lt hs (by omega)), rfl, rfl⟩ rfl rfl (Nat.le_of_ble_eq_true rfl) dX3_volume_19 ?_
        refine r_iadd dX3_volume_22 ?_
        refine r_istore_n dX3_volume_23 (by decide) rfl ?_
        refine r_iinc (nI (k + 1)) dX3_volume_24 rfl (nI_1 k) (by decide) rfl ?_
        refine r_goto 4 dX3_volume_27 (by decide) ?_
        exact ih (k + 1) _ (by omega) (by rw [hx]; rfl) (by omega)
  exact L1 (n + 1) 0 0 (by omega) rfl (by omega)

set_option maxRecDepth 100000 in
set_option maxHeartbeats 4000000 in
theorem ctX3_groundUnder (l : Launch) (Ω : Om) (σ : Sg) (s n : Nat) (hs : s < 7) (hn : n ≤ 16) (hc : σ (iS s) 1 = nI n) (u : Nat) (hu : u < 16) : CtW l yX3_groundUnder wsX3_groundUnder (rmD 2) Ω [.ref (ad Ω (iS s)), .int (nI u)] σ (roI (grS σ s u n) σ) := by
  refine ct_intro [some (.ref (ad Ω (iS s))), some (.int (nI u)), none, none] (by decide) rfl rfl (Nat.le_of_ble_eq_true rfl) (fun Γ hL hQ => ?_)
  show AtW mX3_groundUnder Γ Ω σ 0 [some (.ref (ad Ω (iS s))), some (.int (nI u)), none, none] []
  refine r_iconst 0 dX3_groundUnder_0 (by decide) ?_
  refine r_istore_n dX3_groundUnder_1 (by decide) rfl ?_
  refine r_iconst 0 dX3_groundUnder_2 (by decide) ?_
  refine r_istore_n dX3_groundUnder_3 (by decide) rfl ?_
  have L1 : ∀ (N : Nat) (k : Nat) (x : Int32), k ≤ n → x = grS σ s u k → n < k + N → AtW mX3_groundUnder Γ Ω σ 4 [some (.ref (ad Ω (iS s))), some (.int (nI u)), some (.int x), some (.int (nI k))] [] := by
    intro N
    induction N with
    | zero =>
      intro k x hk hx hN
      exact absurd hN (by omega)
    | succ N ih =>
      intro k x hk hx hN
      refine r_iload_n dX3_groundUnder_4 rfl ?_
      refine r_aload_n dX3_groundUnder_5 rfl ?_
      refine fX3_1 s hs jX3_groundUnder_X3 lX3_groundUnder_18 dX3_groundUnder_6 ?_
      rw [hc]
      refine r_icmp_ge 52 dX3_groundUnder_9 (by decide) (fun c9 => ?_) (fun c9 => ?_)
      ·
        replace c9 := Int32.not_lt.mpr c9
        have n9 := Nat.not_lt.mp (fun q => c9 ((nI_ltI (a := k) (b := n) (by omega) (by omega)).mpr q))
        refine r_iload_n dX3_groundUnder_52 rfl ?_
        have ek : n = k := by omega
        subst ek
        exact r_iret hQ rfl dX3_groundUnder_53 (roI_of hx)
      ·
        replace c9 := Int32.not_le.mp c9
        have n9 := (nI_ltI (a := k) (b := n) (by omega) (by omega)).mp c9
        refine r_aload_n dX3_groundUnder_12 rfl ?_
        refine fX3_0 s hs jX3_groundUnder_X3 lX3_groundUnder_11 dX3_groundUnder_13 ?_
        refine r_iload_n dX3_groundUnder_16 rfl ?_
        refine r_aaldB s hs k rfl (by omega) dX3_groundUnder_17 ?_
        refine r_aload_n dX3_groundUnder_18 rfl ?_
        refine fX3_0 s hs jX3_groundUnder_X3 lX3_groundUnder_11 dX3_groundUnder_19 ?_
        refine r_iload_n dX3_groundUnder_22 rfl ?_
        refine r_aaldB s hs u rfl (by omega) dX3_groundUnder_23 ?_
        refine r_callVI (iBo (bx s k)) hL (ctX0_isBelow l Ω _ (bx s k) (bx s u) (bx_lt hs (by omega)) (bx_lt hs (by omega))) kX3_groundUnder_64 (iB_lt (bx_lt hs (by omega))) ⟨_, _, _, cel_box (bx_lt hs (by omega)), rfl, rfl⟩ rfl rfl (Nat.le_of_ble_eq_true rfl) dX3_groundUnder_24 ?_
        refine r_if_eq 46 dX3_groundUnder_27 (by decide) (fun c27 => ?_) (fun c27 => ?_)
        ·
          replace c27 := bI_f c27
          refine r_iinc (nI (k + 1)) dX3_groundUnder_46 rfl (nI_1 k) (by decide) rfl ?_
          refine r_goto 4 dX3_groundUnder_49 (by decide) ?_
          exact ih (k + 1) _ (by omega) (by rw [grS, c27, hx]; rfl) (by omega)
        ·
          replace c27 := bI_t c27
          refine r_iload_n dX3_groundUnder_30 rfl ?_
          refine r_aload_n dX3_groundUnder_31 rfl ?_
          refine fX3_0 s hs jX3_groundUnder_X3 lX3_groundUnder_11 dX3_groundUnder_32 ?_
          refine r_iload_n dX3_groundUnder_35 rfl ?_
          refine r_aaldB s hs k rfl (by omega) dX3_groundUnder_36 ?_
          refine fX0_2 (bx s k) (bx_lt hs (by omega)) jX3_groundUnder_X0 lX3_groundUnder_54 dX3_groundUnder_37 ?_
          refine r_iconst 2 dX3_groundUnder_40 (by decide) ?_
          refine ldH (bx s k) (bx_lt hs (by omega)) 2 rfl (by omega) dX3_groundUnder_41 ?_
          refine r_mmax 67 (by decide +kernel) (by decide +kernel) (by decide +kernel) (by decide +kernel) (by decide) (Nat.le_of_ble_eq_true rfl) dX3_groundUnder_42 ?_
          refine r_istore_n dX3_groundUnder_45 (by decide) rfl ?_
          refine r_iinc (nI (k + 1)) dX3_groundUnder_46 rfl (nI_1 k) (by decide) rfl ?_
          refine r_goto 4 dX3_groundUnder_49 (by decide) ?_
          exact ih (k + 1) _ (by omega) (by rw [grS, c27, hx]; rfl) (by omega)
  exact L1 (n + 1) 0 0 (by omega) rfl (by omega)

set_option maxRecDepth 100000 in
set_option maxHeartbeats 4000000 in
theorem ctX3_boxesBelow (l : Launch) (Ω : Om) (σ : Sg) (s n : Nat) (hs : s < 7) (hn : n ≤ 16) (hc : σ (iS s) 1 = nI n) (u : Nat) (hu : u < 16) : CtW l yX3_boxesBelow wsX3_boxesBelow (rmD 2) Ω [.ref (ad Ω (iS s)), .int (nI u)] σ (roI (cntI (fun k => beB (σ (iL (bx s k))) (σ (iH (bx s k))) (σ (iL (bx s u))) (σ (iH (bx s u)))) n) σ) := by
  refine ct_intro [some (.ref (ad Ω (iS s))), some (.int (nI u)), none, none] (by decide) rfl rfl (Nat.le_of_ble_eq_true rfl) (fun Γ hL hQ => ?_)
  show AtW mX3_boxesBelow Γ Ω σ 0 [some (.ref (ad Ω (iS s))), some (.int (nI u)), none, none] []
  refine r_iconst 0 dX3_boxesBelow_0 (by decide) ?_
  refine r_istore_n dX3_boxesBelow_1 (by decide) rfl ?_
  refine r_iconst 0 dX3_boxesBelow_2 (by decide) ?_
  refine r_istore_n dX3_boxesBelow_3 (by decide) rfl ?_
  have L1 : ∀ (N : Nat) (k : Nat) (x : Int32), k ≤ n → x = cntI (fun k => beB (σ (iL (bx s k))) (σ (iH (bx s k))) (σ (iL (bx s u))) (σ (iH (bx s u)))) k → n < k + N → AtW mX3_boxesBelow Γ Ω σ 4 [some (.ref (ad Ω (iS s))), some (.int (nI u)), some (.int x), some (.int (nI k))] [] := by
    intro N
    induction N with
    | zero =>
      intro k x hk hx hN
      exact absurd hN (by omega)
    | succ N ih =>
      intro k x hk hx hN
      refine r_iload_n dX3_boxesBelow_4 rfl ?_
      refine r_aload_n dX3_boxesBelow_5 rfl ?_
      refine fX3_1 s hs jX3_boxesBelow_X3 lX3_boxesBelow_18 dX3_boxesBelow_6 ?_
      rw [hc]
      refine r_icmp_ge 39 dX3_boxesBelow_9 (by decide) (fun c9 => ?_) (fun c9 => ?_)
      ·
        replace c9 := Int32.not_lt.mpr c9
        have n9 := Nat.not_lt.mp (fun q => c9 ((nI_ltI (a := k) (b := n) (by omega) (by omega)).mpr q))
        refine r_iload_n dX3_boxesBelow_39 rfl ?_
        have ek : n = k := by omega
        subst ek
        exact r_iret hQ rfl dX3_boxesBelow_40 (roI_of hx)
      ·
        replace c9 := Int32.not_le.mp c9
        have n9 := (nI_ltI (a := k) (b := n) (by omega) (by omega)).mp c9
        refine r_aload_n dX3_boxesBelow_12 rfl ?_
        refine fX3_0 s hs jX3_boxesBelow_X3 lX3_boxesBelow_11 dX3_boxesBelow_13 ?_
        refine r_iload_n dX3_boxesBelow_16 rfl ?_
        refine r_aaldB s hs k rfl (by omega) dX3_boxesBelow_17 ?_
        refine r_aload_n dX3_boxesBelow_18 rfl ?_
        refine fX3_0 s hs jX3_boxesBelow_X3 lX3_boxesBelow_11 dX3_boxesBelow_19 ?_
        refine r_iload_n dX3_boxesBelow_22 rfl ?_
        refine r_aaldB s hs u rfl (by omega) dX3_boxesBelow_23 ?_
        refine r_callVI (iBo (bx s k)) hL (ctX0_isBelow l Ω _ (bx s k) (bx s u) (bx_lt hs (by omega)) (bx_lt hs (by omega))) kX3_boxesBelow_64 (iB_lt (bx_lt hs (by omega))) ⟨_, _, _, cel_box (bx_lt hs (by omega)), rfl, rfl⟩ rfl rfl (Nat.le_of_ble_eq_true rfl) dX3_boxesBelow_24 ?_
        refine r_if_eq 33 dX3_boxesBelow_27 (by decide) (fun c27 => ?_) (fun c27 => ?_)
        ·
          replace c27 := bI_f c27
          refine r_iinc (nI (k + 1)) dX3_boxesBelow_33 rfl (nI_1 k) (by decide) rfl ?_
          refine r_goto 4 dX3_boxesBelow_36 (by decide) ?_
          exact ih (k + 1) _ (by omega) (by rw [cntI, if_neg (by simp [c27]), hx]) (by omega)
        ·
          replace c27 := bI_t c27
          refine r_iinc (_) dX3_boxesBelow_30 rfl (rfl) (by decide) rfl ?_
          refine r_iinc (nI (k + 1)) dX3_boxesBelow_33 rfl (nI_1 k) (by decide) rfl ?_
          refine r_goto 4 dX3_boxesBelow_36 (by decide) ?_
          exact ih (k + 1) _ (by omega) (by rw [cntI, if_pos (by simp [c27]), hx]; rfl) (by omega)
  exact L1 (n + 1) 0 0 (by omega) rfl (by omega)

set_option maxRecDepth 100000 in
set_option maxHeartbeats 4000000 in
theorem ctX3_supportsOf (l : Launch) (Ω : Om) (σ : Sg) (s n : Nat) (hs : s < 7) (hn : n ≤ 16) (hc : σ (iS s) 1 = nI n) (u : Nat) (hu : u < 16) : CtW l yX3_supportsOf wsX3_supportsOf (rmD 2) Ω [.ref (ad Ω (iS s)), .int (nI u)] σ (roI (cntI (fun k => beB (σ (iL (bx s k))) (σ (iH (bx s k))) (σ (iL (bx s u))) (σ (iH (bx s u))) && decide (σ (iH (bx s k)) 2 = σ (iL (bx s u)) 2)) n) σ) := by
  refine ct_intro [some (.ref (ad Ω (iS s))), some (.int (nI u)), none, none, none] (by decide) rfl rfl (Nat.le_of_ble_eq_true rfl) (fun Γ hL hQ => ?_)
  show AtW mX3_supportsOf Γ Ω σ 0 [some (.ref (ad Ω (iS s))), some (.int (nI u)), none, none, none] []
  refine r_aload_n dX3_supportsOf_0 rfl ?_
  refine fX3_0 s hs jX3_supportsOf_X3 lX3_supportsOf_11 dX3_supportsOf_1 ?_
  refine r_iload_n dX3_supportsOf_4 rfl ?_
  refine r_aaldB s hs u rfl (by omega) dX3_supportsOf_5 ?_
  refine r_astore_n dX3_supportsOf_6 (by decide) rfl ?_
  refine r_iconst 0 dX3_supportsOf_7 (by decide) ?_
  refine r_istore_n dX3_supportsOf_8 (by decide) rfl ?_
  refine r_iconst 0 dX3_supportsOf_9 (by decide) ?_
  refine r_istore dX3_supportsOf_10 (by decide) rfl ?_
  have L1 : ∀ (N : Nat) (k : Nat) (x : Int32), k ≤ n → x = cntI (fun k => beB (σ (iL (bx s k))) (σ (iH (bx s k))) (σ (iL (bx s u))) (σ (iH (bx s u))) && decide (σ (iH (bx s k)) 2 = σ (iL (bx s u)) 2)) k → n < k + N → AtW mX3_supportsOf Γ Ω σ 12 [some (.ref (ad Ω (iS s))), some (.int (nI u)), some (.ref (ad Ω (iBo (bx s u)))), some (.int x), some (.int (nI k))] [] := by
    intro N
    induction N with
    | zero =>
      intro k x hk hx hN
      exact absurd hN (by omega)
    | succ N ih =>
      intro k x hk hx hN
      refine r_iload dX3_supportsOf_12 rfl ?_
      refine r_aload_n dX3_supportsOf_14 rfl ?_
      refine fX3_1 s hs jX3_supportsOf_X3 lX3_supportsOf_18 dX3_supportsOf_15 ?_
      rw [hc]
      refine r_icmp_ge 65 dX3_supportsOf_18 (by decide) (fun c18 => ?_) (fun c18 => ?_)
      ·
        replace c18 := Int32.not_lt.mpr c18
        have n18 := Nat.not_lt.mp (fun q => c18 ((nI_ltI (a := k) (b := n) (by omega) (by omega)).mpr q))
        refine r_iload_n dX3_supportsOf_65 rfl ?_
        have ek : n = k := by omega
        subst ek
        exact r_iret hQ rfl dX3_supportsOf_66 (roI_of hx)
      ·
        replace c18 := Int32.not_le.mp c18
        have n18 := (nI_ltI (a := k) (b := n) (by omega) (by omega)).mp c18
        refine r_aload_n dX3_supportsOf_21 rfl ?_
        refine fX3_0 s hs jX3_supportsOf_X3 lX3_supportsOf_11 dX3_supportsOf_22 ?_
        refine r_iload dX3_supportsOf_25 rfl ?_
        refine r_aaldB s hs k rfl (by omega) dX3_supportsOf_27 ?_
        refine r_aload_n dX3_supportsOf_28 rfl ?_
        refine r_callVI (iBo (bx s k)) hL (ctX0_isBelow l Ω _ (bx s k) (bx s u) (bx_lt hs (by omega)) (bx_lt hs (by omega))) kX3_supportsOf_64 (iB_lt (bx_lt hs (by omega))) ⟨_, _, _, cel_box (bx_lt hs (by omega)), rfl, rfl⟩ rfl rfl (Nat.le_of_ble_eq_true rfl) dX3_supportsOf_29 ?_
        refine r_if_eq 59 dX3_supportsOf_32 (by decide) (fun c32 => ?_) (fun c32 => ?_)
        ·
          replace c32 := bI_f c32
          refine r_iinc (nI (k + 1)) dX3_supportsOf_59 rfl (nI_1 k) (by decide) rfl ?_
          refine r_goto 12 dX3_supportsOf_62 (by decide) ?_
          exact ih (k + 1) _ (by omega) (by rw [cntI, if_neg (by simp [c32]), hx]) (by omega)
        ·
          replace c32 := bI_t c32
          refine r_aload_n dX3_supportsOf_35 rfl ?_
          refine fX3_0 s hs jX3_supportsOf_X3 lX3_supportsOf_11 dX3_supportsOf_36 ?_
          refine r_iload dX3_supportsOf_39 rfl ?_
          refine r_aaldB s hs k rfl (by omega) dX3_supportsOf_41 ?_
          refine fX0_2 (bx s k) (bx_lt hs (by omega)) jX3_supportsOf_X0 lX3_supportsOf_54 dX3_supportsOf_42 ?_
          refine r_iconst 2 dX3_supportsOf_45 (by decide) ?_
          refine ldH (bx s k) (bx_lt hs (by omega)) 2 rfl (by omega) dX3_supportsOf_46 ?_
          refine r_aload_n dX3_supportsOf_47 rfl ?_
          refine fX0_1 (bx s u) (bx_lt hs (by omega)) jX3_supportsOf_X0 lX3_supportsOf_50 dX3_supportsOf_48 ?_
          refine r_iconst 2 dX3_supportsOf_51 (by decide) ?_
          refine ldL (bx s u) (bx_lt hs (by omega)) 2 rfl (by omega) dX3_supportsOf_52 ?_
          refine r_icmp_ne 59 dX3_supportsOf_53 (by decide) (fun c53 => ?_) (fun c53 => ?_)
          ·
            refine r_iinc (nI (k + 1)) dX3_supportsOf_59 rfl (nI_1 k) (by decide) rfl ?_
            refine r_goto 12 dX3_supportsOf_62 (by decide) ?_
            exact ih (k + 1) _ (by omega) (by rw [cntI, if_neg (by simp [c53]), hx]) (by omega)
          ·
            refine r_iinc (_) dX3_supportsOf_56 rfl (rfl) (by decide) rfl ?_
            refine r_iinc (nI (k + 1)) dX3_supportsOf_59 rfl (nI_1 k) (by decide) rfl ?_
            refine r_goto 12 dX3_supportsOf_62 (by decide) ?_
            exact ih (k + 1) _ (by omega) (by rw [cntI, if_pos (by simp [c32, c53]), hx]; rfl) (by omega)
  exact L1 (n + 1) 0 0 (by omega) rfl (by omega)

set_option maxRecDepth 100000 in
set_option maxHeartbeats 4000000 in
theorem ctX3_shadowOn (l : Launch) (Ω : Om) (σ : Sg) (s n : Nat) (hs : s < 7) (hn : n ≤ 16) (hc : σ (iS s) 1 = nI n) (u : Nat) (hu : u < 16) (a m : Nat) (ham : a + m ≤ 64) (hla : σ (iL (bx s u)) 1 = nI a) (hha : σ (iH (bx s u)) 1 = nI (a + m)) : CtW l yX3_shadowOn wsX3_shadowOn (rmD 2) Ω [.ref (ad Ω (iS s)), .int (nI u)] σ (roI (sumI (fun k => bcI (shR σ s u n (a + k) &&& rwB σ (bx s u))) m) σ) := by
  refine ct_intro [some (.ref (ad Ω (iS s))), some (.int (nI u)), none, none, none, none, none] (by decide) rfl rfl (Nat.le_of_ble_eq_true rfl) (fun Γ hL hQ => ?_)
  show AtW mX3_shadowOn Γ Ω σ 0 [some (.ref (ad Ω (iS s))), some (.int (nI u)), none, none, none, none, none] []
  refine r_aload_n dX3_shadowOn_0 rfl ?_
  refine fX3_0 s hs jX3_shadowOn_X3 lX3_shadowOn_11 dX3_shadowOn_1 ?_
  refine r_iload_n dX3_shadowOn_4 rfl ?_
  refine r_aaldB s hs u rfl (by omega) dX3_shadowOn_5 ?_
  refine r_astore_n dX3_shadowOn_6 (by decide) rfl ?_
  refine r_iconst 0 dX3_shadowOn_7 (by decide) ?_
  refine r_istore_n dX3_shadowOn_8 (by decide) rfl ?_
  refine r_aload_n dX3_shadowOn_9 rfl ?_
  refine fX0_1 (bx s u) (bx_lt hs (by omega)) jX3_shadowOn_X0 lX3_shadowOn_50 dX3_shadowOn_10 ?_
  refine r_iconst 1 dX3_shadowOn_13 (by decide) ?_
  refine ldL (bx s u) (bx_lt hs (by omega)) 1 rfl (by omega) dX3_shadowOn_14 ?_
  rw [hla]
  refine r_istore dX3_shadowOn_15 (by decide) rfl ?_
  have L1 : ∀ (N : Nat) (k : Nat) (x : Int32) (v5 v6 : Option Value), k ≤ m → x = sumI (fun k => bcI (shR σ s u n (a + k) &&& rwB σ (bx s u))) k → m < k + N → AtW mX3_shadowOn Γ Ω σ 17 [some (.ref (ad Ω (iS s))), some (.int (nI u)), some (.ref (ad Ω (iBo (bx s u)))), some (.int x), some (.int (nI (a + k))), v5, v6] [] := by
    intro N
    induction N with
    | zero =>
      intro k x v5 v6 hk hx hN
      exact absurd hN (by omega)
    | succ N ih =>
      intro k x v5 v6 hk hx hN
      refine r_iload dX3_shadowOn_17 rfl ?_
      refine r_aload_n dX3_shadowOn_19 rfl ?_
      refine fX0_2 (bx s u) (bx_lt hs (by omega)) jX3_shadowOn_X0 lX3_shadowOn_54 dX3_shadowOn_20 ?_
      refine r_iconst 1 dX3_shadowOn_23 (by decide) ?_
      refine ldH (bx s u) (bx_lt hs (by omega)) 1 rfl (by omega) dX3_shadowOn_24 ?_
      rw [hha]
      refine r_icmp_ge 112 dX3_shadowOn_25 (by decide) (fun c25 => ?_) (fun c25 => ?_)
      ·
        replace c25 := Int32.not_lt.mpr c25
        have n25 := Nat.not_lt.mp (fun q => c25 ((nI_ltI (a := a + k) (b := a + m) (by omega) (by omega)).mpr q))
        refine r_iload_n dX3_shadowOn_112 rfl ?_
        have ek : m = k := by omega
        subst ek
        exact r_iret hQ rfl dX3_shadowOn_113 (roI_of hx)
      ·
        replace c25 := Int32.not_le.mp c25
        have n25 := (nI_ltI (a := a + k) (b := a + m) (by omega) (by omega)).mp c25
        have ih0 := ih
        refine r_iconst 0 dX3_shadowOn_28 (by decide) ?_
        refine r_istore dX3_shadowOn_29 (by decide) rfl ?_
        refine r_iconst 0 dX3_shadowOn_31 (by decide) ?_
        refine r_istore dX3_shadowOn_32 (by decide) rfl ?_
        have L2 : ∀ (N : Nat) (j : Nat) (z : Int32), j ≤ n → z = orI (shPd σ s u (a + k)) (fun j => rwB σ (bx s j)) j → n < j + N → AtW mX3_shadowOn Γ Ω σ 34 [some (.ref (ad Ω (iS s))), some (.int (nI u)), some (.ref (ad Ω (iBo (bx s u)))), some (.int x), some (.int (nI (a + k))), some (.int z), some (.int (nI j))] [] := by
          intro N
          induction N with
          | zero =>
            intro j z hj hz hN
            exact absurd hN (by omega)
          | succ N ih =>
            intro j z hj hz hN
            refine r_iload dX3_shadowOn_34 rfl ?_
            refine r_aload_n dX3_shadowOn_36 rfl ?_
            refine fX3_1 s hs jX3_shadowOn_X3 lX3_shadowOn_18 dX3_shadowOn_37 ?_
            rw [hc]
            refine r_icmp_ge 93 dX3_shadowOn_40 (by decide) (fun c40 => ?_) (fun c40 => ?_)
            ·
              replace c40 := Int32.not_lt.mpr c40
              have n40 := Nat.not_lt.mp (fun q => c40 ((nI_ltI (a := j) (b := n) (by omega) (by omega)).mpr q))
              have ej : n = j := by omega
              subst ej
              refine r_iload_n dX3_shadowOn_93 rfl ?_
              refine r_iload dX3_shadowOn_94 rfl ?_
              refine r_aload_n dX3_shadowOn_96 rfl ?_
              refine r_callVI (iBo (bx s u)) hL (ctX0_rowOfCells l Ω _ (bx s u) (bx_lt hs (by omega))) kX3_shadowOn_77 (iB_lt (bx_lt hs (by omega))) ⟨_, _, _, cel_box (bx_lt hs (by omega)), rfl, rfl⟩ rfl rfl (Nat.le_of_ble_eq_true rfl) dX3_shadowOn_97 ?_
              refine r_iand dX3_shadowOn_100 ?_
              refine r_callSI hL (ctJ6_bitCount_0f7a4 l Ω _ _) kX3_shadowOn_80 rfl rfl (Nat.le_of_ble_eq_true rfl) dX3_shadowOn_101 ?_
              refine r_iadd dX3_shadowOn_104 ?_
              refine r_istore_n dX3_shadowOn_105 (by decide) rfl ?_
              refine r_iinc (nI (a + k + 1)) dX3_shadowOn_106 rfl (nI_1 (a + k)) (by decide) rfl ?_
              refine r_goto 17 dX3_shadowOn_109 (by decide) ?_
              exact ih0 (k + 1) _ _ _ (by omega) (by rw [hx, hz]; rfl) (by omega)
            ·
              replace c40 := Int32.not_le.mp c40
              have n40 := (nI_ltI (a := j) (b := n) (by omega) (by omega)).mp c40
              refine r_aload_n dX3_shadowOn_43 rfl ?_
              refine r_aload_n dX3_shadowOn_44 rfl ?_
              refine fX3_0 s hs jX3_shadowOn_X3 lX3_shadowOn_11 dX3_shadowOn_45 ?_
              refine r_iload dX3_shadowOn_48 rfl ?_
              refine r_aaldB s hs j rfl (by omega) dX3_shadowOn_50 ?_
              refine r_callVI (iBo (bx s u)) hL (ctX0_isBelow l Ω _ (bx s u) (bx s j) (bx_lt hs (by omega)) (bx_lt hs (by omega))) kX3_shadowOn_64 (iB_lt (bx_lt hs (by omega))) ⟨_, _, _, cel_box (bx_lt hs (by omega)), rfl, rfl⟩ rfl rfl (Nat.le_of_ble_eq_true rfl) dX3_shadowOn_51 ?_
              refine r_if_eq 87 dX3_shadowOn_54 (by decide) (fun c54 => ?_) (fun c54 => ?_)
              ·
                replace c54 := bI_f c54
                refine r_iinc (nI (j + 1)) dX3_shadowOn_87 rfl (nI_1 j) (by decide) rfl ?_
                refine r_goto 34 dX3_shadowOn_90 (by decide) ?_
                exact ih (j + 1) _ (by omega) (by rw [orI, if_neg (by simp [shPd, c54]), hz]) (by omega)
              ·
                replace c54 := bI_t c54
                refine r_aload_n dX3_shadowOn_57 rfl ?_
                refine fX3_0 s hs jX3_shadowOn_X3 lX3_shadowOn_11 dX3_shadowOn_58 ?_
                refine r_iload dX3_shadowOn_61 rfl ?_
                refine r_aaldB s hs j rfl (by omega) dX3_shadowOn_63 ?_
                refine r_iload dX3_shadowOn_64 rfl ?_
                refine r_callVI (iBo (bx s j)) hL (ctX0_coversRow l Ω _ (bx s j) _ (bx_lt hs (by omega))) kX3_shadowOn_73 (iB_lt (bx_lt hs (by omega))) ⟨_, _, _, cel_box (bx_lt hs (by omega)), rfl, rfl⟩ rfl rfl (Nat.le_of_ble_eq_true rfl) dX3_shadowOn_66 ?_
                refine r_if_eq 87 dX3_shadowOn_69 (by decide) (fun c69 => ?_) (fun c69 => ?_)
                ·
                  replace c69 := bI_f c69
                  refine r_iinc (nI (j + 1)) dX3_shadowOn_87 rfl (nI_1 j) (by decide) rfl ?_
                  refine r_goto 34 dX3_shadowOn_90 (by decide) ?_
                  exact ih (j + 1) _ (by omega) (by rw [orI, if_neg (by simp [shPd, c69]), hz]) (by omega)
                ·
                  replace c69 := bI_t c69
                  refine r_iload dX3_shadowOn_72 rfl ?_
                  refine r_aload_n dX3_shadowOn_74 rfl ?_
                  refine fX3_0 s hs jX3_shadowOn_X3 lX3_shadowOn_11 dX3_shadowOn_75 ?_
                  refine r_iload dX3_shadowOn_78 rfl ?_
                  refine r_aaldB s hs j rfl (by omega) dX3_shadowOn_80 ?_
                  refine r_callVI (iBo (bx s j)) hL (ctX0_rowOfCells l Ω _ (bx s j) (bx_lt hs (by omega))) kX3_shadowOn_77 (iB_lt (bx_lt hs (by omega))) ⟨_, _, _, cel_box (bx_lt hs (by omega)), rfl, rfl⟩ rfl rfl (Nat.le_of_ble_eq_true rfl) dX3_shadowOn_81 ?_
                  refine r_ior dX3_shadowOn_84 ?_
                  refine r_istore dX3_shadowOn_85 (by decide) rfl ?_
                  refine r_iinc (nI (j + 1)) dX3_shadowOn_87 rfl (nI_1 j) (by decide) rfl ?_
                  refine r_goto 34 dX3_shadowOn_90 (by decide) ?_
                  exact ih (j + 1) _ (by omega) (by rw [orI, if_pos (by simp [shPd, c54, c69]), hz]) (by omega)
        exact L2 (n + 1) 0 0 (by omega) rfl (by omega)
  exact L1 (m + 1) 0 0 none none (by omega) rfl (by omega)

set_option maxRecDepth 100000 in
set_option maxHeartbeats 4000000 in
theorem ctX3_shadow (l : Launch) (Ω : Om) (σ : Sg) (s n : Nat) (hs : s < 7) (hn : n ≤ 16) (hc : σ (iS s) 1 = nI n) (fa fm : Nat → Nat) (hf : ∀ u, u < n → fa u + fm u ≤ 64 ∧ σ (iL (bx s u)) 1 = nI (fa u) ∧ σ (iH (bx s u)) 1 = nI (fa u + fm u)) : CtW l yX3_shadow wsX3_shadow (rmD 3) Ω [.ref (ad Ω (iS s))] σ (roI (sumI (fun u => sumI (fun k => bcI (shR σ s u n (fa u + k) &&& rwB σ (bx s u))) (fm u)) n) σ) := by
  refine ct_intro [some (.ref (ad Ω (iS s))), none, none] (by decide) rfl rfl (Nat.le_of_ble_eq_true rfl) (fun Γ hL hQ => ?_)
  show AtW mX3_shadow Γ Ω σ 0 [some (.ref (ad Ω (iS s))), none, none] []
  refine r_iconst 0 dX3_shadow_0 (by decide) ?_
  refine r_istore_n dX3_shadow_1 (by decide) rfl ?_
  refine r_iconst 0 dX3_shadow_2 (by decide) ?_
  refine r_istore_n dX3_shadow_3 (by decide) rfl ?_
  have L1 : ∀ (N : Nat) (k : Nat) (x : Int32), k ≤ n → x = sumI (fun u => sumI (fun k => bcI (shR σ s u n (fa u + k) &&& rwB σ (bx s u))) (fm u)) k → n < k + N → AtW mX3_shadow Γ Ω σ 4 [some (.ref (ad Ω (iS s))), some (.int x), some (.int (nI k))] [] := by
    intro N
    induction N with
    | zero =>
      intro k x hk hx hN
      exact absurd hN (by omega)
    | succ N ih =>
      intro k x hk hx hN
      refine r_iload_n dX3_shadow_4 rfl ?_
      refine r_aload_n dX3_shadow_5 rfl ?_
      refine fX3_1 s hs jX3_shadow_X3 lX3_shadow_18 dX3_shadow_6 ?_
      rw [hc]
      refine r_icmp_ge 26 dX3_shadow_9 (by decide) (fun c9 => ?_) (fun c9 => ?_)
      ·
        replace c9 := Int32.not_lt.mpr c9
        have n9 := Nat.not_lt.mp (fun q => c9 ((nI_ltI (a := k) (b := n) (by omega) (by omega)).mpr q))
        refine r_iload_n dX3_shadow_26 rfl ?_
        have ek : n = k := by omega
        subst ek
        exact r_iret hQ rfl dX3_shadow_27 (roI_of hx)
      ·
        replace c9 := Int32.not_le.mp c9
        have n9 := (nI_ltI (a := k) (b := n) (by omega) (by omega)).mp c9
        refine r_iload_n dX3_shadow_12 rfl ?_
        refine r_aload_n dX3_shadow_13 rfl ?_
        refine r_iload_n dX3_shadow_14 rfl ?_
        have hfk := hf k n9
        refine r_callVI (iS s) hL (ctX3_shadowOn l Ω _ s n hs (by omega) hc k (by omega) (fa k) (fm k) hfk.1 hfk.2.1 hfk.2.2) kX3_shadow_86 (iS_lt hs) ⟨_, _, _, cel_sp hs, rfl, rfl⟩ rfl rfl (Nat.le_of_ble_eq_true rfl) dX3_shadow_15 ?_
        refine r_iadd dX3_shadow_18 ?_
        refine r_istore_n dX3_shadow_19 (by decide) rfl ?_
        refine r_iinc (nI (k + 1)) dX3_shadow_20 rfl (nI_1 k) (by decide) rfl ?_
        refine r_goto 4 dX3_shadow_23 (by decide) ?_
        exact ih (k + 1) _ (by omega) (by rw [hx]; rfl) (by omega)
  exact L1 (n + 1) 0 0 (by omega) rfl (by omega)

set_option maxRecDepth 100000 in
set_option maxHeartbeats 4000000 in
theorem ctX3_copyFrom (l : Launch) (Ω : Om) (σ : Sg) (s t n : Nat) (hs : s < 7) (ht : t < 7) (hst : s ≠ t) (hn : n ≤ 16) (hc : σ (iS t) 1 = nI n) : CtW l yX3_copyFrom wsX3_copyFrom (rmD 2) Ω [.ref (ad Ω (iS s)), .ref (ad Ω (iS t))] σ (reV (fun σ1 => spC σ1 s σ t n ∧ frS s σ σ1)) := by
  refine ct_intro [some (.ref (ad Ω (iS s))), some (.ref (ad Ω (iS t))), none] (by decide) rfl rfl (Nat.le_of_ble_eq_true rfl) (fun Γ hL hQ => ?_)
  show AtW mX3_copyFrom Γ Ω σ 0 [some (.ref (ad Ω (iS s))), some (.ref (ad Ω (iS t))), none] []
  refine r_aload_n dX3_copyFrom_0 rfl ?_
  refine r_aload_n dX3_copyFrom_1 rfl ?_
  refine fX3_1 t ht jX3_copyFrom_X3 lX3_copyFrom_18 dX3_copyFrom_2 ?_
  refine pX3_1 s hs jX3_copyFrom_X3 lX3_copyFrom_18 dX3_copyFrom_5 ?_
  refine r_aload_n dX3_copyFrom_8 rfl ?_
  refine r_aload_n dX3_copyFrom_9 rfl ?_
  refine fX3_2 t ht jX3_copyFrom_X3 lX3_copyFrom_22 dX3_copyFrom_10 ?_
  refine pX3_2 s hs jX3_copyFrom_X3 lX3_copyFrom_22 dX3_copyFrom_13 ?_
  refine r_aload_n dX3_copyFrom_16 rfl ?_
  refine r_aload_n dX3_copyFrom_17 rfl ?_
  refine fX3_3 t ht jX3_copyFrom_X3 lX3_copyFrom_25 dX3_copyFrom_18 ?_
  refine pX3_3 s hs jX3_copyFrom_X3 lX3_copyFrom_25 dX3_copyFrom_21 ?_
  refine r_aload_n dX3_copyFrom_24 rfl ?_
  refine r_aload_n dX3_copyFrom_25 rfl ?_
  refine fX3_4 t ht jX3_copyFrom_X3 lX3_copyFrom_28 dX3_copyFrom_26 ?_
  refine pX3_4 s hs jX3_copyFrom_X3 lX3_copyFrom_28 dX3_copyFrom_29 ?_
  refine r_iconst 0 dX3_copyFrom_32 (by decide) ?_
  refine r_istore_n dX3_copyFrom_33 (by decide) rfl ?_
  have L1 : ∀ (N : Nat) (k : Nat) (τ : Sg), k ≤ n → spC τ s σ t k ∧ frS s σ τ → n < k + N → AtW mX3_copyFrom Γ Ω τ 34 [some (.ref (ad Ω (iS s))), some (.ref (ad Ω (iS t))), some (.int (nI k))] [] := by
    intro N
    induction N with
    | zero =>
      intro k τ hk hτ hN
      exact absurd hN (by omega)
    | succ N ih =>
      intro k τ hk hτ hN
      have hτc : τ (iS s) 1 = nI n := (hτ.1.1 1 (by omega) (by omega)).trans hc
      refine r_iload_n dX3_copyFrom_34 rfl ?_
      refine r_aload_n dX3_copyFrom_35 rfl ?_
      refine fX3_1 s hs jX3_copyFrom_X3 lX3_copyFrom_18 dX3_copyFrom_36 ?_
      rw [hτc]
      refine r_icmp_ge 63 dX3_copyFrom_39 (by decide) (fun c39 => ?_) (fun c39 => ?_)
      ·
        replace c39 := Int32.not_lt.mpr c39
        have n39 := Nat.not_lt.mp (fun q => c39 ((nI_ltI (a := k) (b := n) (by omega) (by omega)).mpr q))
        have ek : n = k := by omega
        subst ek
        exact r_vret hQ rfl dX3_copyFrom_63 (reV_of hτ)
      ·
        replace c39 := Int32.not_le.mp c39
        have n39 := (nI_ltI (a := k) (b := n) (by omega) (by omega)).mp c39
        refine r_aload_n dX3_copyFrom_42 rfl ?_
        refine fX3_0 s hs jX3_copyFrom_X3 lX3_copyFrom_11 dX3_copyFrom_43 ?_
        refine r_iload_n dX3_copyFrom_46 rfl ?_
        refine r_aaldB s hs k rfl (by omega) dX3_copyFrom_47 ?_
        refine r_aload_n dX3_copyFrom_48 rfl ?_
        refine fX3_0 t ht jX3_copyFrom_X3 lX3_copyFrom_11 dX3_copyFrom_49 ?_
        refine r_iload_n dX3_copyFrom_52 rfl ?_
        refine r_aaldB t ht k rfl (by omega) dX3_copyFrom_53 ?_
        refine r_callVV (iBo (bx s k)) hL (ctX0_copyFrom l Ω _ (bx s k) (bx t k) (bx_lt hs (by omega)) (bx_lt ht (by omega))) kX3_copyFrom_31 (iB_lt (bx_lt hs (by omega))) ⟨_, _, _, cel_box (bx_lt hs (by omega)), rfl, rfl⟩ rfl rfl (Nat.le_of_ble_eq_true rfl) dX3_copyFrom_54 ?_
        intro σ1 hσ1
        refine r_iinc (nI (k + 1)) dX3_copyFrom_57 rfl (nI_1 k) (by decide) rfl ?_
        refine r_goto 34 dX3_copyFrom_60 (by decide) ?_
        exact ih (k + 1) σ1 (by omega) (spC_step hs ht hst (by omega) hτ.1 hτ.2 hσ1.1 hσ1.2) (by omega)
  exact L1 (n + 1) 0 _ (by omega) (copy_head σ hst) (by omega)

set_option maxRecDepth 100000 in
set_option maxHeartbeats 4000000 in
theorem ctX3_append (l : Launch) (Ω : Om) (σ : Sg) (s n : Nat) (hs : s < 7) (hn : n ≤ 16) (hc : σ (iS s) 1 = nI n) (o : Nat) (ho : o < 113) : CtW l yX3_append wsX3_append (rmD 2) Ω [.ref (ad Ω (iS s)), .ref (ad Ω (iBo o))] σ (reJ (apS σ s o n)) := by
  refine ct_intro [some (.ref (ad Ω (iS s))), some (.ref (ad Ω (iBo o))), none] (by decide) rfl rfl (Nat.le_of_ble_eq_true rfl) (fun Γ hL hQ => ?_)
  show AtW mX3_append Γ Ω σ 0 [some (.ref (ad Ω (iS s))), some (.ref (ad Ω (iBo o))), none] []
  refine r_aload_n dX3_append_0 rfl ?_
  refine r_callVI (iS s) hL (ctX3_isFull l Ω _ s n hs (by omega) hc) kX3_append_42 (iS_lt hs) ⟨_, _, _, cel_sp hs, rfl, rfl⟩ rfl rfl (Nat.le_of_ble_eq_true rfl) dX3_append_1 ?_
  refine r_if_eq 10 dX3_append_4 (by decide) (fun c4 => ?_) (fun c4 => ?_)
  ·
    replace c4 := bI_f c4
    have hlt : n < 16 := by
      have h := of_decide_eq_false c4
      omega
    refine r_aload_n dX3_append_10 rfl ?_
    refine fX3_0 s hs jX3_append_X3 lX3_append_11 dX3_append_11 ?_
    refine r_aload_n dX3_append_14 rfl ?_
    refine fX3_1 s hs jX3_append_X3 lX3_append_18 dX3_append_15 ?_
    rw [hc]
    refine r_aaldB s hs n rfl (by omega) dX3_append_18 ?_
    refine r_astore_n dX3_append_19 (by decide) rfl ?_
    refine r_aload_n dX3_append_20 rfl ?_
    refine r_aload_n dX3_append_21 rfl ?_
    refine r_callVV (iBo (bx s n)) hL (ctX0_copyFrom l Ω _ (bx s n) o (bx_lt hs (by omega)) ho) kX3_append_31 (iB_lt (bx_lt hs (by omega))) ⟨_, _, _, cel_box (bx_lt hs (by omega)), rfl, rfl⟩ rfl rfl (Nat.le_of_ble_eq_true rfl) dX3_append_22 ?_
    intro σ1 hσ1
    refine r_aload_n dX3_append_25 rfl ?_
    refine r_aload_n dX3_append_26 rfl ?_
    refine fX3_2 s hs jX3_append_X3 lX3_append_22 dX3_append_27 ?_
    refine pX0_0 (bx s n) (bx_lt hs (by omega)) jX3_append_X0 lX3_append_35 dX3_append_30 ?_
    refine r_aload_n dX3_append_33 rfl ?_
    refine r_dup dX3_append_34 rfl ?_
    refine fX3_1 s hs jX3_append_X3 lX3_append_18 dX3_append_35 ?_
    refine r_iconst 1 dX3_append_38 (by decide) ?_
    refine r_iadd dX3_append_39 ?_
    refine pX3_1 s hs jX3_append_X3 lX3_append_18 dX3_append_40 ?_
    refine r_aload_n dX3_append_43 rfl ?_
    refine r_dup dX3_append_44 rfl ?_
    refine fX3_2 s hs jX3_append_X3 lX3_append_22 dX3_append_45 ?_
    refine r_iconst 1 dX3_append_48 (by decide) ?_
    refine r_iadd dX3_append_49 ?_
    refine pX3_2 s hs jX3_append_X3 lX3_append_22 dX3_append_50 ?_
    refine r_aload_n dX3_append_53 rfl ?_
    refine fX0_0 (bx s n) (bx_lt hs (by omega)) jX3_append_X0 lX3_append_35 dX3_append_54 ?_
    exact r_iret hQ rfl dX3_append_57 (reJ_of (apS_ok hs hlt hc hσ1.1 hσ1.2))
  ·
    replace c4 := bI_t c4
    refine r_bipush (-3) dX3_append_7 (by decide) ?_
    exact r_iret hQ rfl dX3_append_9 (reJ_of ⟨fun _ => ⟨rfl, rfl⟩, fun h => absurd (of_decide_eq_true c4) (by omega)⟩)

set_option maxRecDepth 100000 in
set_option maxHeartbeats 4000000 in
theorem ctX3_takeOut (l : Launch) (Ω : Om) (σ : Sg) (s n : Nat) (hs : s < 7) (hn : n ≤ 16) (hc : σ (iS s) 1 = nI n) (g : Nat) (hg : g < n) : CtW l yX3_takeOut wsX3_takeOut (rmD 2) Ω [.ref (ad Ω (iS s)), .int (nI g)] σ (reV (tkS σ s g n)) := by
  refine ct_intro [some (.ref (ad Ω (iS s))), some (.int (nI g)), none] (by decide) rfl rfl (Nat.le_of_ble_eq_true rfl) (fun Γ hL hQ => ?_)
  show AtW mX3_takeOut Γ Ω σ 0 [some (.ref (ad Ω (iS s))), some (.int (nI g)), none] []
  refine r_iload_n dX3_takeOut_0 rfl ?_
  refine r_istore_n dX3_takeOut_1 (by decide) rfl ?_
  have L1 : ∀ (N : Nat) (k : Nat) (τ : Sg), g ≤ k → k < n → tkI σ s g k τ → n < k + 1 + N → AtW mX3_takeOut Γ Ω τ 2 [some (.ref (ad Ω (iS s))), some (.int (nI g)), some (.int (nI k))] [] := by
    intro N
    induction N with
    | zero =>
      intro k τ hgk hk hτ hN
      exact absurd hN (by omega)
    | succ N ih =>
      intro k τ hgk hk hτ hN
      have hτc : τ (iS s) 1 = nI n := by rw [hτ.2 _ (outB_S s s hs)]; exact hc
      refine r_iload_n dX3_takeOut_2 rfl ?_
      refine r_iconst 1 dX3_takeOut_3 (by decide) ?_
      refine r_iadd dX3_takeOut_4 ?_
      rw [nI_1]
      refine r_aload_n dX3_takeOut_5 rfl ?_
      refine fX3_1 s hs jX3_takeOut_X3 lX3_takeOut_18 dX3_takeOut_6 ?_
      rw [hτc]
      refine r_icmp_ge 35 dX3_takeOut_9 (by decide) (fun c9 => ?_) (fun c9 => ?_)
      ·
        replace c9 := Int32.not_lt.mpr c9
        have n9 := Nat.not_lt.mp (fun q => c9 ((nI_ltI (a := k + 1) (b := n) (by omega) (by omega)).mpr q))
        refine r_aload_n dX3_takeOut_35 rfl ?_
        refine r_dup dX3_takeOut_36 rfl ?_
        refine fX3_1 s hs jX3_takeOut_X3 lX3_takeOut_18 dX3_takeOut_37 ?_
        refine r_iconst 1 dX3_takeOut_40 (by decide) ?_
        refine r_isub dX3_takeOut_41 ?_
        refine pX3_1 s hs jX3_takeOut_X3 lX3_takeOut_18 dX3_takeOut_42 ?_
        have ek : k = n - 1 := by omega
        subst ek
        exact r_vret hQ rfl dX3_takeOut_45 (reV_of (tkS_ok hs (by omega) hc hτ))
      ·
        replace c9 := Int32.not_le.mp c9
        have n9 := (nI_ltI (a := k + 1) (b := n) (by omega) (by omega)).mp c9
        refine r_aload_n dX3_takeOut_12 rfl ?_
        refine fX3_0 s hs jX3_takeOut_X3 lX3_takeOut_11 dX3_takeOut_13 ?_
        refine r_iload_n dX3_takeOut_16 rfl ?_
        refine r_aaldB s hs k rfl (by omega) dX3_takeOut_17 ?_
        refine r_aload_n dX3_takeOut_18 rfl ?_
        refine fX3_0 s hs jX3_takeOut_X3 lX3_takeOut_11 dX3_takeOut_19 ?_
        refine r_iload_n dX3_takeOut_22 rfl ?_
        refine r_iconst 1 dX3_takeOut_23 (by decide) ?_
        refine r_iadd dX3_takeOut_24 ?_
        rw [nI_1]
        refine r_aaldB s hs (k + 1) rfl (by omega) dX3_takeOut_25 ?_
        refine r_callVV (iBo (bx s k)) hL (ctX0_copyFrom l Ω _ (bx s k) (bx s (k + 1)) (bx_lt hs (by omega)) (bx_lt hs (by omega))) kX3_takeOut_31 (iB_lt (bx_lt hs (by omega))) ⟨_, _, _, cel_box (bx_lt hs (by omega)), rfl, rfl⟩ rfl rfl (Nat.le_of_ble_eq_true rfl) dX3_takeOut_26 ?_
        intro σ1 hσ1
        refine r_iinc (nI (k + 1)) dX3_takeOut_29 rfl (nI_1 k) (by decide) rfl ?_
        refine r_goto 2 dX3_takeOut_32 (by decide) ?_
        exact ih (k + 1) σ1 (by omega) (by omega) (tkI_step (by omega) hgk hτ hσ1.1 hσ1.2) (by omega)
  exact L1 n g σ (Nat.le_refl _) hg (tkI_0 σ s g) (by omega)

set_option maxRecDepth 100000 in
set_option maxHeartbeats 4000000 in
theorem ctX3_cutInTwo (l : Launch) (Ω : Om) (σ : Sg) (s n : Nat) (hs : s < 7) (hn : n ≤ 16) (hc : σ (iS s) 1 = nI n) (k d : Nat) (x : Int32) (hk : k < n) (hd : d < 3) (hnx : ¬ σ (iS s) 2 < 0) : CtW l yX3_cutInTwo wsX3_cutInTwo (rmD 3) Ω [.ref (ad Ω (iS s)), .int (nI k), .int (nI d), .int x] σ (reJ (cuS σ s k d x n)) := by
  refine ct_intro [some (.ref (ad Ω (iS s))), some (.int (nI k)), some (.int (nI d)), some (.int x), none] (by decide) rfl rfl (Nat.le_of_ble_eq_true rfl) (fun Γ hL hQ => ?_)
  show AtW mX3_cutInTwo Γ Ω σ 0 [some (.ref (ad Ω (iS s))), some (.int (nI k)), some (.int (nI d)), some (.int x), none] []
  refine r_aload_n dX3_cutInTwo_0 rfl ?_
  refine r_aload_n dX3_cutInTwo_1 rfl ?_
  refine fX3_0 s hs jX3_cutInTwo_X3 lX3_cutInTwo_11 dX3_cutInTwo_2 ?_
  refine r_iload_n dX3_cutInTwo_5 rfl ?_
  refine r_aaldB s hs k rfl (by omega) dX3_cutInTwo_6 ?_
  refine r_callVJ (iS s) hL (ctX3_append l Ω _ s n hs (by omega) hc (bx s k) (bx_lt hs (by omega))) kX3_cutInTwo_46 (iS_lt hs) ⟨_, _, _, cel_sp hs, rfl, rfl⟩ rfl rfl (Nat.le_of_ble_eq_true rfl) dX3_cutInTwo_7 ?_
  intro y σ1 hσ1
  refine r_istore dX3_cutInTwo_10 (by decide) rfl ?_
  refine r_iload dX3_cutInTwo_12 rfl ?_
  refine r_if_ge 20 dX3_cutInTwo_14 (by decide) (fun c14 => ?_) (fun c14 => ?_)
  ·
    replace c14 := Int32.not_lt.mpr c14
    have hlt : n < 16 := by
      rcases Nat.lt_or_ge n 16 with q | q
      · exact q
      · exact absurd (hσ1.1 (by omega)).1 (fun e => absurd (e ▸ c14) (by decide))
    obtain ⟨rfl, g1, g2, g3, g4, g5, g6⟩ := hσ1.2 hlt
    refine r_aload_n dX3_cutInTwo_20 rfl ?_
    refine fX3_0 s hs jX3_cutInTwo_X3 lX3_cutInTwo_11 dX3_cutInTwo_21 ?_
    refine r_aload_n dX3_cutInTwo_24 rfl ?_
    refine fX3_1 s hs jX3_cutInTwo_X3 lX3_cutInTwo_18 dX3_cutInTwo_25 ?_
    rw [g1]
    refine r_iconst 1 dX3_cutInTwo_28 (by decide) ?_
    refine r_isub dX3_cutInTwo_29 ?_
    rw [nI_pred]
    refine r_aaldB s hs n rfl (by omega) dX3_cutInTwo_30 ?_
    refine fX0_1 (bx s n) (bx_lt hs (by omega)) jX3_cutInTwo_X0 lX3_cutInTwo_50 dX3_cutInTwo_31 ?_
    refine r_iload_n dX3_cutInTwo_34 rfl ?_
    refine r_iload_n dX3_cutInTwo_35 rfl ?_
    refine stL (bx s n) (bx_lt hs (by omega)) d rfl (by omega) dX3_cutInTwo_36 ?_
    refine r_aload_n dX3_cutInTwo_37 rfl ?_
    refine fX3_0 s hs jX3_cutInTwo_X3 lX3_cutInTwo_11 dX3_cutInTwo_38 ?_
    refine r_iload_n dX3_cutInTwo_41 rfl ?_
    refine r_aaldB s hs k rfl (by omega) dX3_cutInTwo_42 ?_
    refine fX0_2 (bx s k) (bx_lt hs (by omega)) jX3_cutInTwo_X0 lX3_cutInTwo_54 dX3_cutInTwo_43 ?_
    refine r_iload_n dX3_cutInTwo_46 rfl ?_
    refine r_iload_n dX3_cutInTwo_47 rfl ?_
    refine stH (bx s k) (bx_lt hs (by omega)) d rfl (by omega) dX3_cutInTwo_48 ?_
    refine r_aload_n dX3_cutInTwo_49 rfl ?_
    refine r_dup dX3_cutInTwo_50 rfl ?_
    refine fX3_3 s hs jX3_cutInTwo_X3 lX3_cutInTwo_25 dX3_cutInTwo_51 ?_
    refine r_iconst 1 dX3_cutInTwo_54 (by decide) ?_
    refine r_iadd dX3_cutInTwo_55 ?_
    refine pX3_3 s hs jX3_cutInTwo_X3 lX3_cutInTwo_25 dX3_cutInTwo_56 ?_
    refine r_iload dX3_cutInTwo_59 rfl ?_
    exact r_iret hQ rfl dX3_cutInTwo_61 (reJ_of (cuS_ok hs hlt hk hd hc ⟨rfl, g1, g2, g3, g4, g5, g6⟩))
  ·
    replace c14 := Int32.not_le.mp c14
    have h16 : n = 16 := by
      rcases Nat.lt_or_ge n 16 with q | q
      · exact absurd (((hσ1.2 q).1) ▸ c14) hnx
      · omega
    obtain ⟨rfl, rfl⟩ := hσ1.1 h16
    refine r_iload dX3_cutInTwo_17 rfl ?_
    exact r_iret hQ rfl dX3_cutInTwo_19 (reJ_of ⟨fun _ => ⟨rfl, rfl⟩, fun h => absurd h (by omega)⟩)

set_option maxRecDepth 100000 in
set_option maxHeartbeats 4000000 in
theorem ctX3_quarterTurn (l : Launch) (Ω : Om) (σ : Sg) (s n : Nat) (hs : s < 7) (hn : n ≤ 16) (hc : σ (iS s) 1 = nI n) : CtW l yX3_quarterTurn wsX3_quarterTurn (rmD 0) Ω [.ref (ad Ω (iS s))] σ (reV (fun σ1 => qtI σ s n σ1)) := by
  refine ct_intro [some (.ref (ad Ω (iS s))), none, none, none, none] (by decide) rfl rfl (Nat.le_of_ble_eq_true rfl) (fun Γ hL hQ => ?_)
  show AtW mX3_quarterTurn Γ Ω σ 0 [some (.ref (ad Ω (iS s))), none, none, none, none] []
  refine r_iconst 0 dX3_quarterTurn_0 (by decide) ?_
  refine r_istore_n dX3_quarterTurn_1 (by decide) rfl ?_
  have L1 : ∀ (N : Nat) (k : Nat) (τ : Sg) (v2 v3 v4 : Option Value), k ≤ n → qtI σ s k τ → n < k + N → AtW mX3_quarterTurn Γ Ω τ 2 [some (.ref (ad Ω (iS s))), some (.int (nI k)), v2, v3, v4] [] := by
    intro N
    induction N with
    | zero =>
      intro k τ v2 v3 v4 hk hτ hN
      exact absurd hN (by omega)
    | succ N ih =>
      intro k τ v2 v3 v4 hk hτ hN
      have hτc : τ (iS s) 1 = nI n := by rw [hτ.2.2 _ (outB_S s s hs)]; exact hc
      refine r_iload_n dX3_quarterTurn_2 rfl ?_
      refine r_aload_n dX3_quarterTurn_3 rfl ?_
      refine fX3_1 s hs jX3_quarterTurn_X3 lX3_quarterTurn_18 dX3_quarterTurn_4 ?_
      rw [hτc]
      refine r_icmp_ge 83 dX3_quarterTurn_7 (by decide) (fun c7 => ?_) (fun c7 => ?_)
      ·
        replace c7 := Int32.not_lt.mpr c7
        have n7 := Nat.not_lt.mp (fun q => c7 ((nI_ltI (a := k) (b := n) (by omega) (by omega)).mpr q))
        have ek : n = k := by omega
        subst ek
        exact r_vret hQ rfl dX3_quarterTurn_83 (reV_of hτ)
      ·
        replace c7 := Int32.not_le.mp c7
        have n7 := (nI_ltI (a := k) (b := n) (by omega) (by omega)).mp c7
        refine r_aload_n dX3_quarterTurn_10 rfl ?_
        refine fX3_0 s hs jX3_quarterTurn_X3 lX3_quarterTurn_11 dX3_quarterTurn_11 ?_
        refine r_iload_n dX3_quarterTurn_14 rfl ?_
        refine r_aaldB s hs k rfl (by omega) dX3_quarterTurn_15 ?_
        refine r_astore_n dX3_quarterTurn_16 (by decide) rfl ?_
        refine r_aload_n dX3_quarterTurn_17 rfl ?_
        refine fX0_1 (bx s k) (bx_lt hs (by omega)) jX3_quarterTurn_X0 lX3_quarterTurn_50 dX3_quarterTurn_18 ?_
        refine r_iconst 0 dX3_quarterTurn_21 (by decide) ?_
        refine ldL (bx s k) (bx_lt hs (by omega)) 0 rfl (by omega) dX3_quarterTurn_22 ?_
        refine r_istore_n dX3_quarterTurn_23 (by decide) rfl ?_
        refine r_aload_n dX3_quarterTurn_24 rfl ?_
        refine fX0_2 (bx s k) (bx_lt hs (by omega)) jX3_quarterTurn_X0 lX3_quarterTurn_54 dX3_quarterTurn_25 ?_
        refine r_iconst 0 dX3_quarterTurn_28 (by decide) ?_
        refine ldH (bx s k) (bx_lt hs (by omega)) 0 rfl (by omega) dX3_quarterTurn_29 ?_
        refine r_istore dX3_quarterTurn_30 (by decide) rfl ?_
        refine r_aload_n dX3_quarterTurn_32 rfl ?_
        refine fX0_1 (bx s k) (bx_lt hs (by omega)) jX3_quarterTurn_X0 lX3_quarterTurn_50 dX3_quarterTurn_33 ?_
        refine r_iconst 0 dX3_quarterTurn_36 (by decide) ?_
        refine r_bipush 32 dX3_quarterTurn_37 (by decide) ?_
        refine r_aload_n dX3_quarterTurn_39 rfl ?_
        refine fX0_2 (bx s k) (bx_lt hs (by omega)) jX3_quarterTurn_X0 lX3_quarterTurn_54 dX3_quarterTurn_40 ?_
        refine r_iconst 1 dX3_quarterTurn_43 (by decide) ?_
        refine ldH (bx s k) (bx_lt hs (by omega)) 1 rfl (by omega) dX3_quarterTurn_44 ?_
        refine r_isub dX3_quarterTurn_45 ?_
        refine stL (bx s k) (bx_lt hs (by omega)) 0 rfl (by omega) dX3_quarterTurn_46 ?_
        refine r_aload_n dX3_quarterTurn_47 rfl ?_
        refine fX0_2 (bx s k) (bx_lt hs (by omega)) jX3_quarterTurn_X0 lX3_quarterTurn_54 dX3_quarterTurn_48 ?_
        refine r_iconst 0 dX3_quarterTurn_51 (by decide) ?_
        refine r_bipush 32 dX3_quarterTurn_52 (by decide) ?_
        refine r_aload_n dX3_quarterTurn_54 rfl ?_
        refine fX0_1 (bx s k) (bx_lt hs (by omega)) jX3_quarterTurn_X0 lX3_quarterTurn_50 dX3_quarterTurn_55 ?_
        refine r_iconst 1 dX3_quarterTurn_58 (by decide) ?_
        refine ldL (bx s k) (bx_lt hs (by omega)) 1 rfl (by omega) dX3_quarterTurn_59 ?_
        refine r_isub dX3_quarterTurn_60 ?_
        refine stH (bx s k) (bx_lt hs (by omega)) 0 rfl (by omega) dX3_quarterTurn_61 ?_
        refine r_aload_n dX3_quarterTurn_62 rfl ?_
        refine fX0_1 (bx s k) (bx_lt hs (by omega)) jX3_quarterTurn_X0 lX3_quarterTurn_50 dX3_quarterTurn_63 ?_
        refine r_iconst 1 dX3_quarterTurn_66 (by decide) ?_
        refine r_iload_n dX3_quarterTurn_67 rfl ?_
        refine stL (bx s k) (bx_lt hs (by omega)) 1 rfl (by omega) dX3_quarterTurn_68 ?_
        refine r_aload_n dX3_quarterTurn_69 rfl ?_
        refine fX0_2 (bx s k) (bx_lt hs (by omega)) jX3_quarterTurn_X0 lX3_quarterTurn_54 dX3_quarterTurn_70 ?_
        refine r_iconst 1 dX3_quarterTurn_73 (by decide) ?_
        refine r_iload dX3_quarterTurn_74 rfl ?_
        refine stH (bx s k) (bx_lt hs (by omega)) 1 rfl (by omega) dX3_quarterTurn_76 ?_
        refine r_iinc (nI (k + 1)) dX3_quarterTurn_77 rfl (nI_1 k) (by decide) rfl ?_
        refine r_goto 2 dX3_quarterTurn_80 (by decide) ?_
        exact ih (k + 1) _ _ _ _ (by omega) (qtI_step (by omega) hτ) (by omega)
  exact L1 (n + 1) 0 σ none none none (by omega) (qtI_0 σ s) (by omega)
end
section
set_option maxRecDepth 100000 in
set_option maxHeartbeats 4000000 in
theorem ctX2_bitsHiddenBy (l : Launch) (Ω : Om) (σ : Sg) (s n : Nat) (hs : s < 7) (hn : n ≤ 16) (hc : σ (iS s) 1 = nI n) (a : Nat) (ha : a < 16) : CtW l yX2_bitsHiddenBy wsX2_bitsHiddenBy (rmD 3) Ω [.ref (ad Ω (iS s)), .int (nI a)] σ (roI (hmS σ s n a) σ) := by
  refine ct_intro [some (.ref (ad Ω (iS s))), some (.int (nI a)), none, none] (by decide) rfl rfl (Nat.le_of_ble_eq_true rfl) (fun Γ hL hQ => ?_)
  show AtW mX2_bitsHiddenBy Γ Ω σ 0 [some (.ref (ad Ω (iS s))), some (.int (nI a)), none, none] []
  refine r_iconst 0 dX2_bitsHiddenBy_0 (by decide) ?_
  refine r_istore_n dX2_bitsHiddenBy_1 (by decide) rfl ?_
  refine r_iconst 0 dX2_bitsHiddenBy_2 (by decide) ?_
  refine r_istore_n dX2_bitsHiddenBy_3 (by decide) rfl ?_
  have L1 : ∀ (N : Nat) (k : Nat) (x : Int32), k ≤ n → x = orI (hdS σ s a) bitI k → n < k + N → AtW mX2_bitsHiddenBy Γ Ω σ 4 [some (.ref (ad Ω (iS s))), some (.int (nI a)), some (.int x), some (.int (nI k))] [] := by
    intro N
    induction N with
    | zero =>
      intro k x hk hx hN
      exact absurd hN (by omega)
    | succ N ih =>
      intro k x hk hx hN
      refine r_iload_n dX2_bitsHiddenBy_4 rfl ?_
      refine r_aload_n dX2_bitsHiddenBy_5 rfl ?_
      refine fX3_1 s hs jX2_bitsHiddenBy_X3 lX2_bitsHiddenBy_24 dX2_bitsHiddenBy_6 ?_
      rw [hc]
      refine r_icmp_ge 48 dX2_bitsHiddenBy_9 (by decide) (fun c9 => ?_) (fun c9 => ?_)
      ·
        replace c9 := Int32.not_lt.mpr c9
        have n9 := Nat.not_lt.mp (fun q => c9 ((nI_ltI (a := k) (b := n) (by omega) (by omega)).mpr q))
        refine r_iload_n dX2_bitsHiddenBy_48 rfl ?_
        have ek : n = k := by omega
        subst ek
        exact r_iret hQ rfl dX2_bitsHiddenBy_49 (roI_of hx)
      ·
        replace c9 := Int32.not_le.mp c9
        have n9 := (nI_ltI (a := k) (b := n) (by omega) (by omega)).mp c9
        refine r_iload_n dX2_bitsHiddenBy_12 rfl ?_
        refine r_iload_n dX2_bitsHiddenBy_13 rfl ?_
        refine r_icmp_eq 42 dX2_bitsHiddenBy_14 (by decide) (fun c14 => ?_) (fun c14 => ?_)
        ·
          have n14 := (nI_eq (a := k) (b := a) (by omega) (by omega)).mp c14
          refine r_iinc (nI (k + 1)) dX2_bitsHiddenBy_42 rfl (nI_1 k) (by decide) rfl ?_
          refine r_goto 4 dX2_bitsHiddenBy_45 (by decide) ?_
          exact ih (k + 1) _ (by omega) (by rw [orI, if_neg (by simp [hdS, n14]), hx]) (by omega)
        ·
          have n14 : ¬ k = a := fun q => c14 ((nI_eq (a := k) (b := a) (by omega) (by omega)).mpr q)
          refine r_aload_n dX2_bitsHiddenBy_17 rfl ?_
          refine fX3_0 s hs jX2_bitsHiddenBy_X3 lX2_bitsHiddenBy_42 dX2_bitsHiddenBy_18 ?_
          refine r_iload_n dX2_bitsHiddenBy_21 rfl ?_
          refine r_aaldB s hs a rfl (by omega) dX2_bitsHiddenBy_22 ?_
          refine r_aload_n dX2_bitsHiddenBy_23 rfl ?_
          refine fX3_0 s hs jX2_bitsHiddenBy_X3 lX2_bitsHiddenBy_42 dX2_bitsHiddenBy_24 ?_
          refine r_iload_n dX2_bitsHiddenBy_27 rfl ?_
          refine r_aaldB s hs k rfl (by omega) dX2_bitsHiddenBy_28 ?_
          refine r_callVI (iBo (bx s a)) hL (ctX0_directionOfHiding l Ω _ (bx s a) (bx s k) (bx_lt hs (by omega)) (bx_lt hs (by omega))) kX2_bitsHiddenBy_46 (iB_lt (bx_lt hs (by omega))) ⟨_, _, _, cel_box (bx_lt hs (by omega)), rfl, rfl⟩ rfl rfl (Nat.le_of_ble_eq_true rfl) dX2_bitsHiddenBy_29 ?_
          refine r_iconst (-1) dX2_bitsHiddenBy_32 (by decide) ?_
          refine r_icmp_eq 42 dX2_bitsHiddenBy_33 (by decide) (fun c33 => ?_) (fun c33 => ?_)
          ·
            refine r_iinc (nI (k + 1)) dX2_bitsHiddenBy_42 rfl (nI_1 k) (by decide) rfl ?_
            refine r_goto 4 dX2_bitsHiddenBy_45 (by decide) ?_
            exact ih (k + 1) _ (by omega) (by rw [orI, if_neg (by simp [hdS, c33]), hx]) (by omega)
          ·
            refine r_iload_n dX2_bitsHiddenBy_36 rfl ?_
            refine r_iconst 1 dX2_bitsHiddenBy_37 (by decide) ?_
            refine r_iload_n dX2_bitsHiddenBy_38 rfl ?_
            refine r_ishl dX2_bitsHiddenBy_39 ?_
            refine r_ior dX2_bitsHiddenBy_40 ?_
            refine r_istore_n dX2_bitsHiddenBy_41 (by decide) rfl ?_
            refine r_iinc (nI (k + 1)) dX2_bitsHiddenBy_42 rfl (nI_1 k) (by decide) rfl ?_
            refine r_goto 4 dX2_bitsHiddenBy_45 (by decide) ?_
            exact ih (k + 1) _ (by omega) (by rw [orI, if_pos (by simp [hdS, n14, c33]), hx]; rfl) (by omega)
  exact L1 (n + 1) 0 _ (by omega) rfl (by omega)

set_option maxRecDepth 100000 in
set_option maxHeartbeats 4000000 in
theorem ctX2_layerAbove (l : Launch) (Ω : Om) (σ : Sg) (p n : Nat) (hp : p < 2) (hn : n ≤ 16) (hpc : σ (iP p) 0 = nI n) (y : Int32) : CtW l yX2_layerAbove wsX2_layerAbove (rmD 1) Ω [.ref (ad Ω (iP p)), .int y] σ (roI (layA (σ (iP p + 4)) y n) σ) := by
  refine ct_intro [some (.ref (ad Ω (iP p))), some (.int y), none, none] (by decide) rfl rfl (Nat.le_of_ble_eq_true rfl) (fun Γ hL hQ => ?_)
  show AtW mX2_layerAbove Γ Ω σ 0 [some (.ref (ad Ω (iP p))), some (.int y), none, none] []
  refine r_iconst 0 dX2_layerAbove_0 (by decide) ?_
  refine r_istore_n dX2_layerAbove_1 (by decide) rfl ?_
  refine r_iconst 0 dX2_layerAbove_2 (by decide) ?_
  refine r_istore_n dX2_layerAbove_3 (by decide) rfl ?_
  have L1 : ∀ (N : Nat) (k : Nat) (x : Int32), k ≤ n → x = layA (σ (iP p + 4)) y k → n < k + N → AtW mX2_layerAbove Γ Ω σ 4 [some (.ref (ad Ω (iP p))), some (.int y), some (.int x), some (.int (nI k))] [] := by
    intro N
    induction N with
    | zero =>
      intro k x hk hx hN
      exact absurd hN (by omega)
    | succ N ih =>
      intro k x hk hx hN
      refine r_iload_n dX2_layerAbove_4 rfl ?_
      refine r_aload_n dX2_layerAbove_5 rfl ?_
      refine fX2_0 p hp jX2_layerAbove_X2 lX2_layerAbove_30 dX2_layerAbove_6 ?_
      rw [hpc]
      refine r_icmp_ge 39 dX2_layerAbove_9 (by decide) (fun c9 => ?_) (fun c9 => ?_)
      ·
        replace c9 := Int32.not_lt.mpr c9
        have n9 := Nat.not_lt.mp (fun q => c9 ((nI_ltI (a := k) (b := n) (by omega) (by omega)).mpr q))
        refine r_iload_n dX2_layerAbove_39 rfl ?_
        have ek : n = k := by omega
        subst ek
        exact r_iret hQ rfl dX2_layerAbove_40 (roI_of hx)
      ·
        replace c9 := Int32.not_le.mp c9
        have n9 := (nI_ltI (a := k) (b := n) (by omega) (by omega)).mp c9
        refine r_iload_n dX2_layerAbove_12 rfl ?_
        refine r_iload_n dX2_layerAbove_13 rfl ?_
        refine r_callSI hL (ctX2_hasBit l Ω _ _ k (by omega)) kX2_layerAbove_58 rfl rfl (Nat.le_of_ble_eq_true rfl) dX2_layerAbove_14 ?_
        refine r_if_eq 33 dX2_layerAbove_17 (by decide) (fun c17 => ?_) (fun c17 => ?_)
        ·
          replace c17 := bI_f c17
          refine r_iinc (nI (k + 1)) dX2_layerAbove_33 rfl (nI_1 k) (by decide) rfl ?_
          refine r_goto 4 dX2_layerAbove_36 (by decide) ?_
          exact ih (k + 1) _ (by omega) (by rw [layA, if_neg (by simp [c17]), hx]) (by omega)
        ·
          replace c17 := bI_t c17
          refine r_iload_n dX2_layerAbove_20 rfl ?_
          refine r_aload_n dX2_layerAbove_21 rfl ?_
          refine fX2_6 p hp jX2_layerAbove_X2 lX2_layerAbove_21 dX2_layerAbove_22 ?_
          refine r_iload_n dX2_layerAbove_25 rfl ?_
          refine ldP4 p hp k rfl (by omega) dX2_layerAbove_26 ?_
          refine r_iconst 1 dX2_layerAbove_27 (by decide) ?_
          refine r_iadd dX2_layerAbove_28 ?_
          refine r_mmax 85 (by decide +kernel) (by decide +kernel) (by decide +kernel) (by decide +kernel) (by decide) (Nat.le_of_ble_eq_true rfl) dX2_layerAbove_29 ?_
          refine r_istore_n dX2_layerAbove_32 (by decide) rfl ?_
          refine r_iinc (nI (k + 1)) dX2_layerAbove_33 rfl (nI_1 k) (by decide) rfl ?_
          refine r_goto 4 dX2_layerAbove_36 (by decide) ?_
          exact ih (k + 1) _ (by omega) (by rw [layA, if_pos c17, hx]) (by omega)
  exact L1 (n + 1) 0 _ (by omega) rfl (by omega)

set_option maxRecDepth 100000 in
set_option maxHeartbeats 4000000 in
theorem ctX2_hiddenBy (l : Launch) (Ω : Om) (σ : Sg) (p k : Nat) (hp : p < 2) (hk : k < 16) : CtW l yX2_hiddenBy wsX2_hiddenBy (rmD 1) Ω [.ref (ad Ω (iP p)), .int (nI k)] σ (roI (bcI (σ (iP p + 1) k)) σ) := by
  refine ct_intro [some (.ref (ad Ω (iP p))), some (.int (nI k))] (by decide) rfl rfl (Nat.le_of_ble_eq_true rfl) (fun Γ hL hQ => ?_)
  show AtW mX2_hiddenBy Γ Ω σ 0 [some (.ref (ad Ω (iP p))), some (.int (nI k))] []
  refine r_aload_n dX2_hiddenBy_0 rfl ?_
  refine fX2_1 p hp jX2_hiddenBy_X2 lX2_hiddenBy_9 dX2_hiddenBy_1 ?_
  refine r_iload_n dX2_hiddenBy_4 rfl ?_
  refine ldP1 p hp k rfl (by omega) dX2_hiddenBy_5 ?_
  refine r_callSI hL (ctJ6_bitCount_0f7a4 l Ω _ _) kX2_hiddenBy_91 rfl rfl (Nat.le_of_ble_eq_true rfl) dX2_hiddenBy_6 ?_
  exact r_iret hQ rfl dX2_hiddenBy_9 (roI_of rfl)

set_option maxRecDepth 100000 in
set_option maxHeartbeats 4000000 in
theorem ctX2_hidersOf (l : Launch) (Ω : Om) (σ : Sg) (p n : Nat) (hp : p < 2) (hn : n ≤ 16) (hpc : σ (iP p) 0 = nI n) (a : Nat) (ha : a < 16) : CtW l yX2_hidersOf wsX2_hidersOf (rmD 1) Ω [.ref (ad Ω (iP p)), .int (nI a)] σ (roI (cntI (fun k => hasB (σ (iP p + 1) k) a) n) σ) := by
  refine ct_intro [some (.ref (ad Ω (iP p))), some (.int (nI a)), none, none] (by decide) rfl rfl (Nat.le_of_ble_eq_true rfl) (fun Γ hL hQ => ?_)
  show AtW mX2_hidersOf Γ Ω σ 0 [some (.ref (ad Ω (iP p))), some (.int (nI a)), none, none] []
  refine r_iconst 0 dX2_hidersOf_0 (by decide) ?_
  refine r_istore_n dX2_hidersOf_1 (by decide) rfl ?_
  refine r_iconst 0 dX2_hidersOf_2 (by decide) ?_
  refine r_istore_n dX2_hidersOf_3 (by decide) rfl ?_
  have L1 : ∀ (N : Nat) (k : Nat) (x : Int32), k ≤ n → x = cntI (fun k => hasB (σ (iP p + 1) k) a) k → n < k + N → AtW mX2_hidersOf Γ Ω σ 4 [some (.ref (ad Ω (iP p))), some (.int (nI a)), some (.int x), some (.int (nI k))] [] := by
    intro N
    induction N with
    | zero =>
      intro k x hk hx hN
      exact absurd hN (by omega)
    | succ N ih =>
      intro k x hk hx hN
      refine r_iload_n dX2_hidersOf_4 rfl ?_
      refine r_aload_n dX2_hidersOf_5 rfl ?_
      refine fX2_0 p hp jX2_hidersOf_X2 lX2_hidersOf_30 dX2_hidersOf_6 ?_
      rw [hpc]
      refine r_icmp_ge 34 dX2_hidersOf_9 (by decide) (fun c9 => ?_) (fun c9 => ?_)
      ·
        replace c9 := Int32.not_lt.mpr c9
        have n9 := Nat.not_lt.mp (fun q => c9 ((nI_ltI (a := k) (b := n) (by omega) (by omega)).mpr q))
        refine r_iload_n dX2_hidersOf_34 rfl ?_
        have ek : n = k := by omega
        subst ek
        exact r_iret hQ rfl dX2_hidersOf_35 (roI_of hx)
      ·
        replace c9 := Int32.not_le.mp c9
        have n9 := (nI_ltI (a := k) (b := n) (by omega) (by omega)).mp c9
        refine r_aload_n dX2_hidersOf_12 rfl ?_
        refine fX2_1 p hp jX2_hidersOf_X2 lX2_hidersOf_9 dX2_hidersOf_13 ?_
        refine r_iload_n dX2_hidersOf_16 rfl ?_
        refine ldP1 p hp k rfl (by omega) dX2_hidersOf_17 ?_
        refine r_iload_n dX2_hidersOf_18 rfl ?_
        refine r_callSI hL (ctX2_hasBit l Ω _ _ a (by omega)) kX2_hidersOf_58 rfl rfl (Nat.le_of_ble_eq_true rfl) dX2_hidersOf_19 ?_
        refine r_if_eq 28 dX2_hidersOf_22 (by decide) (fun c22 => ?_) (fun c22 => ?_)
        ·
          replace c22 := bI_f c22
          refine r_iinc (nI (k + 1)) dX2_hidersOf_28 rfl (nI_1 k) (by decide) rfl ?_
          refine r_goto 4 dX2_hidersOf_31 (by decide) ?_
          exact ih (k + 1) _ (by omega) (by rw [cntI, if_neg (by simp [c22]), hx]) (by omega)
        ·
          replace c22 := bI_t c22
          refine r_iinc (_) dX2_hidersOf_25 rfl (rfl) (by decide) rfl ?_
          refine r_iinc (nI (k + 1)) dX2_hidersOf_28 rfl (nI_1 k) (by decide) rfl ?_
          refine r_goto 4 dX2_hidersOf_31 (by decide) ?_
          exact ih (k + 1) _ (by omega) (by rw [cntI, if_pos c22, hx]; rfl) (by omega)
  exact L1 (n + 1) 0 _ (by omega) rfl (by omega)

set_option maxRecDepth 100000 in
set_option maxHeartbeats 4000000 in
theorem ctX2_hidings (l : Launch) (Ω : Om) (σ : Sg) (p n : Nat) (hp : p < 2) (hn : n ≤ 16) (hpc : σ (iP p) 0 = nI n) : CtW l yX2_hidings wsX2_hidings (rmD 2) Ω [.ref (ad Ω (iP p))] σ (roI (sumI (fun k => bcI (σ (iP p + 1) k)) n) σ) := by
  refine ct_intro [some (.ref (ad Ω (iP p))), none, none] (by decide) rfl rfl (Nat.le_of_ble_eq_true rfl) (fun Γ hL hQ => ?_)
  show AtW mX2_hidings Γ Ω σ 0 [some (.ref (ad Ω (iP p))), none, none] []
  refine r_iconst 0 dX2_hidings_0 (by decide) ?_
  refine r_istore_n dX2_hidings_1 (by decide) rfl ?_
  refine r_iconst 0 dX2_hidings_2 (by decide) ?_
  refine r_istore_n dX2_hidings_3 (by decide) rfl ?_
  have L1 : ∀ (N : Nat) (k : Nat) (x : Int32), k ≤ n → x = sumI (fun k => bcI (σ (iP p + 1) k)) k → n < k + N → AtW mX2_hidings Γ Ω σ 4 [some (.ref (ad Ω (iP p))), some (.int x), some (.int (nI k))] [] := by
    intro N
    induction N with
    | zero =>
      intro k x hk hx hN
      exact absurd hN (by omega)
    | succ N ih =>
      intro k x hk hx hN
      refine r_iload_n dX2_hidings_4 rfl ?_
      refine r_aload_n dX2_hidings_5 rfl ?_
      refine fX2_0 p hp jX2_hidings_X2 lX2_hidings_30 dX2_hidings_6 ?_
      rw [hpc]
      refine r_icmp_ge 26 dX2_hidings_9 (by decide) (fun c9 => ?_) (fun c9 => ?_)
      ·
        replace c9 := Int32.not_lt.mpr c9
        have n9 := Nat.not_lt.mp (fun q => c9 ((nI_ltI (a := k) (b := n) (by omega) (by omega)).mpr q))
        refine r_iload_n dX2_hidings_26 rfl ?_
        have ek : n = k := by omega
        subst ek
        exact r_iret hQ rfl dX2_hidings_27 (roI_of hx)
      ·
        replace c9 := Int32.not_le.mp c9
        have n9 := (nI_ltI (a := k) (b := n) (by omega) (by omega)).mp c9
        refine r_iload_n dX2_hidings_12 rfl ?_
        refine r_aload_n dX2_hidings_13 rfl ?_
        refine r_iload_n dX2_hidings_14 rfl ?_
        refine r_callVI (iP p) hL (ctX2_hiddenBy l Ω _ p k hp (by omega)) kX2_hidings_96 (iP_lt hp) ⟨_, _, _, cel_pic hp, rfl, rfl⟩ rfl rfl (Nat.le_of_ble_eq_true rfl) dX2_hidings_15 ?_
        refine r_iadd dX2_hidings_18 ?_
        refine r_istore_n dX2_hidings_19 (by decide) rfl ?_
        refine r_iinc (nI (k + 1)) dX2_hidings_20 rfl (nI_1 k) (by decide) rfl ?_
        refine r_goto 4 dX2_hidings_23 (by decide) ?_
        exact ih (k + 1) _ (by omega) (by rw [hx]; rfl) (by omega)
  exact L1 (n + 1) 0 _ (by omega) rfl (by omega)

set_option maxRecDepth 100000 in
set_option maxHeartbeats 4000000 in
theorem ctX2_hidingsNotIn (l : Launch) (Ω : Om) (σ : Sg) (p n : Nat) (hp : p < 2) (hn : n ≤ 16) (hpc : σ (iP p) 0 = nI n) (q : Nat) (hq : q < 2) : CtW l yX2_hidingsNotIn wsX2_hidingsNotIn (rmD 1) Ω [.ref (ad Ω (iP p)), .ref (ad Ω (iP q))] σ (roI (sumI (fun k => bcI (σ (iP p + 1) k &&& (σ (iP q + 1) k ^^^ -1))) n) σ) := by
  refine ct_intro [some (.ref (ad Ω (iP p))), some (.ref (ad Ω (iP q))), none, none] (by decide) rfl rfl (Nat.le_of_ble_eq_true rfl) (fun Γ hL hQ => ?_)
  show AtW mX2_hidingsNotIn Γ Ω σ 0 [some (.ref (ad Ω (iP p))), some (.ref (ad Ω (iP q))), none, none] []
  refine r_iconst 0 dX2_hidingsNotIn_0 (by decide) ?_
  refine r_istore_n dX2_hidingsNotIn_1 (by decide) rfl ?_
  refine r_iconst 0 dX2_hidingsNotIn_2 (by decide) ?_
  refine r_istore_n dX2_hidingsNotIn_3 (by decide) rfl ?_
  have L1 : ∀ (N : Nat) (k : Nat) (x : Int32), k ≤ n → x = sumI (fun k => bcI (σ (iP p + 1) k &&& (σ (iP q + 1) k ^^^ -1))) k → n < k + N → AtW mX2_hidingsNotIn Γ Ω σ 4 [some (.ref (ad Ω (iP p))), some (.ref (ad Ω (iP q))), some (.int x), some (.int (nI k))] [] := by
    intro N
    induction N with
    | zero =>
      intro k x hk hx hN
      exact absurd hN (by omega)
    | succ N ih =>
      intro k x hk hx hN
      refine r_iload_n dX2_hidingsNotIn_4 rfl ?_
      refine r_aload_n dX2_hidingsNotIn_5 rfl ?_
      refine fX2_0 p hp jX2_hidingsNotIn_X2 lX2_hidingsNotIn_30 dX2_hidingsNotIn_6 ?_
      rw [hpc]
      refine r_icmp_ge 39 dX2_hidingsNotIn_9 (by decide) (fun c9 => ?_) (fun c9 => ?_)
      ·
        replace c9 := Int32.not_lt.mpr c9
        have n9 := Nat.not_lt.mp (fun q => c9 ((nI_ltI (a := k) (b := n) (by omega) (by omega)).mpr q))
        refine r_iload_n dX2_hidingsNotIn_39 rfl ?_
        have ek : n = k := by omega
        subst ek
        exact r_iret hQ rfl dX2_hidingsNotIn_40 (roI_of hx)
      ·
        replace c9 := Int32.not_le.mp c9
        have n9 := (nI_ltI (a := k) (b := n) (by omega) (by omega)).mp c9
        refine r_iload_n dX2_hidingsNotIn_12 rfl ?_
        refine r_aload_n dX2_hidingsNotIn_13 rfl ?_
        refine fX2_1 p hp jX2_hidingsNotIn_X2 lX2_hidingsNotIn_9 dX2_hidingsNotIn_14 ?_
        refine r_iload_n dX2_hidingsNotIn_17 rfl ?_
        refine ldP1 p hp k rfl (by omega) dX2_hidingsNotIn_18 ?_
        refine r_aload_n dX2_hidingsNotIn_19 rfl ?_
        refine fX2_1 q hq jX2_hidingsNotIn_X2 lX2_hidingsNotIn_9 dX2_hidingsNotIn_20 ?_
        refine r_iload_n dX2_hidingsNotIn_23 rfl ?_
        refine ldP1 q hq k rfl (by omega) dX2_hidingsNotIn_24 ?_
        refine r_iconst (-1) dX2_hidingsNotIn_25 (by decide) ?_
        refine r_ixor dX2_hidingsNotIn_26 ?_
        refine r_iand dX2_hidingsNotIn_27 ?_
        refine r_callSI hL (ctJ6_bitCount_0f7a4 l Ω _ _) kX2_hidingsNotIn_91 rfl rfl (Nat.le_of_ble_eq_true rfl) dX2_hidingsNotIn_28 ?_
        refine r_iadd dX2_hidingsNotIn_31 ?_
        refine r_istore_n dX2_hidingsNotIn_32 (by decide) rfl ?_
        refine r_iinc (nI (k + 1)) dX2_hidingsNotIn_33 rfl (nI_1 k) (by decide) rfl ?_
        refine r_goto 4 dX2_hidingsNotIn_36 (by decide) ?_
        exact ih (k + 1) _ (by omega) (by rw [hx]; rfl) (by omega)
  exact L1 (n + 1) 0 _ (by omega) rfl (by omega)

set_option maxRecDepth 100000 in
set_option maxHeartbeats 4000000 in
theorem ctX2_slotDrawn (l : Launch) (Ω : Om) (σ : Sg) (p m : Nat) (hp : p < 2) (hm : m ≤ 16) (hpd : σ (iP p) 5 = nI m) (x : Int32) : CtW l yX2_slotDrawn wsX2_slotDrawn (rmD 0) Ω [.ref (ad Ω (iP p)), .int x] σ (roI (if x < 0 ∨ nI m ≤ x then -1 else σ (iP p + 3) x.toNatClampNeg) σ) := by
  refine ct_intro [some (.ref (ad Ω (iP p))), some (.int x)] (by decide) rfl rfl (Nat.le_of_ble_eq_true rfl) (fun Γ hL hQ => ?_)
  show AtW mX2_slotDrawn Γ Ω σ 0 [some (.ref (ad Ω (iP p))), some (.int x)] []
  refine r_iload_n dX2_slotDrawn_0 rfl ?_
  refine r_if_lt 21 dX2_slotDrawn_1 (by decide) (fun c1 => ?_) (fun c1 => ?_)
  ·
    refine r_iconst (-1) dX2_slotDrawn_21 (by decide) ?_
    exact r_iret hQ rfl dX2_slotDrawn_22 (roI_of (by simp [c1]))
  ·
    refine r_iload_n dX2_slotDrawn_4 rfl ?_
    refine r_aload_n dX2_slotDrawn_5 rfl ?_
    refine fX2_5 p hp jX2_slotDrawn_X2 lX2_slotDrawn_71 dX2_slotDrawn_6 ?_
    rw [hpd]
    refine r_icmp_ge 21 dX2_slotDrawn_9 (by decide) (fun c9 => ?_) (fun c9 => ?_)
    ·
      replace c9 := Int32.not_lt.mpr c9
      refine r_iconst (-1) dX2_slotDrawn_21 (by decide) ?_
      exact r_iret hQ rfl dX2_slotDrawn_22 (roI_of (by rw [if_pos (Or.inr (Int32.not_lt.mp c9))]))
    ·
      replace c9 := Int32.not_le.mp c9
      obtain ⟨j, hj, rfl⟩ := slot_ix c1 c9 (by omega)
      refine r_aload_n dX2_slotDrawn_12 rfl ?_
      refine fX2_3 p hp jX2_slotDrawn_X2 lX2_slotDrawn_18 dX2_slotDrawn_13 ?_
      refine r_iload_n dX2_slotDrawn_16 rfl ?_
      refine ldP3 p hp j rfl (by omega) dX2_slotDrawn_17 ?_
      refine r_goto 22 dX2_slotDrawn_18 (by decide) ?_
      exact r_iret hQ rfl dX2_slotDrawn_22 (roI_of (by rw [if_neg (by rintro (q | q); exact c1 q; exact Int32.not_le.mpr c9 q), nI_clamp (by omega)]))

set_option maxRecDepth 100000 in
set_option maxHeartbeats 4000000 in
theorem ctX2_greatestLayer (l : Launch) (Ω : Om) (σ : Sg) (p n : Nat) (hp : p < 2) (hn : n ≤ 16) (hpc : σ (iP p) 0 = nI n) : CtW l yX2_greatestLayer wsX2_greatestLayer (rmD 1) Ω [.ref (ad Ω (iP p))] σ (roI (glI (σ (iP p + 4)) n) σ) := by
  refine ct_intro [some (.ref (ad Ω (iP p))), none, none] (by decide) rfl rfl (Nat.le_of_ble_eq_true rfl) (fun Γ hL hQ => ?_)
  show AtW mX2_greatestLayer Γ Ω σ 0 [some (.ref (ad Ω (iP p))), none, none] []
  refine r_bipush (-5) dX2_greatestLayer_0 (by decide) ?_
  refine r_istore_n dX2_greatestLayer_2 (by decide) rfl ?_
  refine r_iconst 0 dX2_greatestLayer_3 (by decide) ?_
  refine r_istore_n dX2_greatestLayer_4 (by decide) rfl ?_
  have L1 : ∀ (N : Nat) (k : Nat) (x : Int32), k ≤ n → x = glI (σ (iP p + 4)) k → n < k + N → AtW mX2_greatestLayer Γ Ω σ 5 [some (.ref (ad Ω (iP p))), some (.int x), some (.int (nI k))] [] := by
    intro N
    induction N with
    | zero =>
      intro k x hk hx hN
      exact absurd hN (by omega)
    | succ N ih =>
      intro k x hk hx hN
      refine r_iload_n dX2_greatestLayer_5 rfl ?_
      refine r_aload_n dX2_greatestLayer_6 rfl ?_
      refine fX2_0 p hp jX2_greatestLayer_X2 lX2_greatestLayer_30 dX2_greatestLayer_7 ?_
      rw [hpc]
      refine r_icmp_ge 30 dX2_greatestLayer_10 (by decide) (fun c10 => ?_) (fun c10 => ?_)
      ·
        replace c10 := Int32.not_lt.mpr c10
        have n10 := Nat.not_lt.mp (fun q => c10 ((nI_ltI (a := k) (b := n) (by omega) (by omega)).mpr q))
        refine r_iload_n dX2_greatestLayer_30 rfl ?_
        have ek : n = k := by omega
        subst ek
        exact r_iret hQ rfl dX2_greatestLayer_31 (roI_of hx)
      ·
        replace c10 := Int32.not_le.mp c10
        have n10 := (nI_ltI (a := k) (b := n) (by omega) (by omega)).mp c10
        refine r_iload_n dX2_greatestLayer_13 rfl ?_
        refine r_aload_n dX2_greatestLayer_14 rfl ?_
        refine fX2_6 p hp jX2_greatestLayer_X2 lX2_greatestLayer_21 dX2_greatestLayer_15 ?_
        refine r_iload_n dX2_greatestLayer_18 rfl ?_
        refine ldP4 p hp k rfl (by omega) dX2_greatestLayer_19 ?_
        refine r_mmax 85 (by decide +kernel) (by decide +kernel) (by decide +kernel) (by decide +kernel) (by decide) (Nat.le_of_ble_eq_true rfl) dX2_greatestLayer_20 ?_
        refine r_istore_n dX2_greatestLayer_23 (by decide) rfl ?_
        refine r_iinc (nI (k + 1)) dX2_greatestLayer_24 rfl (nI_1 k) (by decide) rfl ?_
        refine r_goto 5 dX2_greatestLayer_27 (by decide) ?_
        exact ih (k + 1) _ (by omega) (by rw [hx]; rfl) (by omega)
  exact L1 (n + 1) 0 _ (by omega) rfl (by omega)

set_option maxRecDepth 100000 in
set_option maxHeartbeats 4000000 in
theorem ctX2_firstNotDrawnUnder (l : Launch) (Ω : Om) (σ : Sg) (p n : Nat) (hp : p < 2) (hn : n ≤ 16) (hpc : σ (iP p) 0 = nI n) (a : Nat) (ha : a < 16) : CtW l yX2_firstNotDrawnUnder wsX2_firstNotDrawnUnder (rmD 1) Ω [.ref (ad Ω (iP p)), .int (nI a)] σ (roI (fI (fun j => hasB (σ (iP p + 1) a) j && !hasB (σ (iP p) 4) j) n) σ) := by
  refine ct_intro [some (.ref (ad Ω (iP p))), some (.int (nI a)), none] (by decide) rfl rfl (Nat.le_of_ble_eq_true rfl) (fun Γ hL hQ => ?_)
  show AtW mX2_firstNotDrawnUnder Γ Ω σ 0 [some (.ref (ad Ω (iP p))), some (.int (nI a)), none] []
  refine r_iconst 0 dX2_firstNotDrawnUnder_0 (by decide) ?_
  refine r_istore_n dX2_firstNotDrawnUnder_1 (by decide) rfl ?_
  have L1 : ∀ (N : Nat) (k : Nat), k ≤ n → (∀ j, j < k → (fun j => hasB (σ (iP p + 1) a) j && !hasB (σ (iP p) 4) j) j = false) → n < k + N → AtW mX2_firstNotDrawnUnder Γ Ω σ 2 [some (.ref (ad Ω (iP p))), some (.int (nI a)), some (.int (nI k))] [] := by
    intro N
    induction N with
    | zero =>
      intro k hk hq hN
      exact absurd hN (by omega)
    | succ N ih =>
      intro k hk hq hN
      refine r_iload_n dX2_firstNotDrawnUnder_2 rfl ?_
      refine r_aload_n dX2_firstNotDrawnUnder_3 rfl ?_
      refine fX2_0 p hp jX2_firstNotDrawnUnder_X2 lX2_firstNotDrawnUnder_30 dX2_firstNotDrawnUnder_4 ?_
      rw [hpc]
      refine r_icmp_ge 42 dX2_firstNotDrawnUnder_7 (by decide) (fun c7 => ?_) (fun c7 => ?_)
      ·
        replace c7 := Int32.not_lt.mpr c7
        have n7 := Nat.not_lt.mp (fun q => c7 ((nI_ltI (a := k) (b := n) (by omega) (by omega)).mpr q))
        refine r_iconst (-1) dX2_firstNotDrawnUnder_42 (by decide) ?_
        have ek : n = k := by omega
        subst ek
        exact r_iret hQ rfl dX2_firstNotDrawnUnder_43 (roI_of (by rw [fI_none hq]))
      ·
        replace c7 := Int32.not_le.mp c7
        have n7 := (nI_ltI (a := k) (b := n) (by omega) (by omega)).mp c7
        refine r_aload_n dX2_firstNotDrawnUnder_10 rfl ?_
        refine fX2_1 p hp jX2_firstNotDrawnUnder_X2 lX2_firstNotDrawnUnder_9 dX2_firstNotDrawnUnder_11 ?_
        refine r_iload_n dX2_firstNotDrawnUnder_14 rfl ?_
        refine ldP1 p hp a rfl (by omega) dX2_firstNotDrawnUnder_15 ?_
        refine r_iload_n dX2_firstNotDrawnUnder_16 rfl ?_
        refine r_callSI hL (ctX2_hasBit l Ω _ _ k (by omega)) kX2_firstNotDrawnUnder_58 rfl rfl (Nat.le_of_ble_eq_true rfl) dX2_firstNotDrawnUnder_17 ?_
        refine r_if_eq 36 dX2_firstNotDrawnUnder_20 (by decide) (fun c20 => ?_) (fun c20 => ?_)
        ·
          replace c20 := bI_f c20
          refine r_iinc (nI (k + 1)) dX2_firstNotDrawnUnder_36 rfl (nI_1 k) (by decide) rfl ?_
          refine r_goto 2 dX2_firstNotDrawnUnder_39 (by decide) ?_
          exact ih (k + 1) (by omega) (lt_s hq (by simp [c20])) (by omega)
        ·
          replace c20 := bI_t c20
          refine r_aload_n dX2_firstNotDrawnUnder_23 rfl ?_
          refine fX2_4 p hp jX2_firstNotDrawnUnder_X2 lX2_firstNotDrawnUnder_68 dX2_firstNotDrawnUnder_24 ?_
          refine r_iload_n dX2_firstNotDrawnUnder_27 rfl ?_
          refine r_callSI hL (ctX2_hasBit l Ω _ _ k (by omega)) kX2_firstNotDrawnUnder_58 rfl rfl (Nat.le_of_ble_eq_true rfl) dX2_firstNotDrawnUnder_28 ?_
          refine r_if_ne 36 dX2_firstNotDrawnUnder_31 (by decide) (fun c31 => ?_) (fun c31 => ?_)
          ·
            replace c31 := bI_t c31
            refine r_iinc (nI (k + 1)) dX2_firstNotDrawnUnder_36 rfl (nI_1 k) (by decide) rfl ?_
            refine r_goto 2 dX2_firstNotDrawnUnder_39 (by decide) ?_
            exact ih (k + 1) (by omega) (lt_s hq (by simp [c31])) (by omega)
          ·
            replace c31 := bI_f c31
            refine r_iload_n dX2_firstNotDrawnUnder_34 rfl ?_
            exact r_iret hQ rfl dX2_firstNotDrawnUnder_35 (roI_of (by rw [fI_hit hq (by simp [c20, c31]) n7]))
  exact L1 (n + 1) 0 (by omega) (fun j hj => absurd hj (by omega)) (by omega)

set_option maxRecDepth 100000 in
set_option maxHeartbeats 4000000 in
theorem ctX2_isInRing (l : Launch) (Ω : Om) (σ : Sg) (p k : Nat) (hp : p < 2) (hk : k < 16) : CtW l yX2_isInRing wsX2_isInRing (rmD 1) Ω [.ref (ad Ω (iP p)), .int (nI k)] σ (roI (bI (hasB (σ (iP p + 2) k) k)) σ) := by
  refine ct_intro [some (.ref (ad Ω (iP p))), some (.int (nI k))] (by decide) rfl rfl (Nat.le_of_ble_eq_true rfl) (fun Γ hL hQ => ?_)
  show AtW mX2_isInRing Γ Ω σ 0 [some (.ref (ad Ω (iP p))), some (.int (nI k))] []
  refine r_aload_n dX2_isInRing_0 rfl ?_
  refine fX2_2 p hp jX2_isInRing_X2 lX2_isInRing_15 dX2_isInRing_1 ?_
  refine r_iload_n dX2_isInRing_4 rfl ?_
  refine ldP2 p hp k rfl (by omega) dX2_isInRing_5 ?_
  refine r_iload_n dX2_isInRing_6 rfl ?_
  refine r_callSI hL (ctX2_hasBit l Ω _ _ k (by omega)) kX2_isInRing_58 rfl rfl (Nat.le_of_ble_eq_true rfl) dX2_isInRing_7 ?_
  exact r_zret hQ rfl (bI_01 _) dX2_isInRing_10 (roI_of rfl)

set_option maxRecDepth 100000 in
set_option maxHeartbeats 4000000 in
theorem ctX2_boxesInRings (l : Launch) (Ω : Om) (σ : Sg) (p n : Nat) (hp : p < 2) (hn : n ≤ 16) (hpc : σ (iP p) 0 = nI n) : CtW l yX2_boxesInRings wsX2_boxesInRings (rmD 2) Ω [.ref (ad Ω (iP p))] σ (roI (cntI (fun k => hasB (σ (iP p + 2) k) k) n) σ) := by
  refine ct_intro [some (.ref (ad Ω (iP p))), none, none] (by decide) rfl rfl (Nat.le_of_ble_eq_true rfl) (fun Γ hL hQ => ?_)
  show AtW mX2_boxesInRings Γ Ω σ 0 [some (.ref (ad Ω (iP p))), none, none] []
  refine r_iconst 0 dX2_boxesInRings_0 (by decide) ?_
  refine r_istore_n dX2_boxesInRings_1 (by decide) rfl ?_
  refine r_iconst 0 dX2_boxesInRings_2 (by decide) ?_
  refine r_istore_n dX2_boxesInRings_3 (by decide) rfl ?_
  have L1 : ∀ (N : Nat) (k : Nat) (x : Int32), k ≤ n → x = cntI (fun k => hasB (σ (iP p + 2) k) k) k → n < k + N → AtW mX2_boxesInRings Γ Ω σ 4 [some (.ref (ad Ω (iP p))), some (.int x), some (.int (nI k))] [] := by
    intro N
    induction N with
    | zero =>
      intro k x hk hx hN
      exact absurd hN (by omega)
    | succ N ih =>
      intro k x hk hx hN
      refine r_iload_n dX2_boxesInRings_4 rfl ?_
      refine r_aload_n dX2_boxesInRings_5 rfl ?_
      refine fX2_0 p hp jX2_boxesInRings_X2 lX2_boxesInRings_30 dX2_boxesInRings_6 ?_
      rw [hpc]
      refine r_icmp_ge 29 dX2_boxesInRings_9 (by decide) (fun c9 => ?_) (fun c9 => ?_)
      ·
        replace c9 := Int32.not_lt.mpr c9
        have n9 := Nat.not_lt.mp (fun q => c9 ((nI_ltI (a := k) (b := n) (by omega) (by omega)).mpr q))
        refine r_iload_n dX2_boxesInRings_29 rfl ?_
        have ek : n = k := by omega
        subst ek
        exact r_iret hQ rfl dX2_boxesInRings_30 (roI_of hx)
      ·
        replace c9 := Int32.not_le.mp c9
        have n9 := (nI_ltI (a := k) (b := n) (by omega) (by omega)).mp c9
        refine r_aload_n dX2_boxesInRings_12 rfl ?_
        refine r_iload_n dX2_boxesInRings_13 rfl ?_
        refine r_callVI (iP p) hL (ctX2_isInRing l Ω _ p k hp (by omega)) kX2_boxesInRings_99 (iP_lt hp) ⟨_, _, _, cel_pic hp, rfl, rfl⟩ rfl rfl (Nat.le_of_ble_eq_true rfl) dX2_boxesInRings_14 ?_
        refine r_if_eq 23 dX2_boxesInRings_17 (by decide) (fun c17 => ?_) (fun c17 => ?_)
        ·
          replace c17 := bI_f c17
          refine r_iinc (nI (k + 1)) dX2_boxesInRings_23 rfl (nI_1 k) (by decide) rfl ?_
          refine r_goto 4 dX2_boxesInRings_26 (by decide) ?_
          exact ih (k + 1) _ (by omega) (by rw [cntI, if_neg (by simp [c17]), hx]) (by omega)
        ·
          replace c17 := bI_t c17
          refine r_iinc (_) dX2_boxesInRings_20 rfl (rfl) (by decide) rfl ?_
          refine r_iinc (nI (k + 1)) dX2_boxesInRings_23 rfl (nI_1 k) (by decide) rfl ?_
          refine r_goto 4 dX2_boxesInRings_26 (by decide) ?_
          exact ih (k + 1) _ (by omega) (by rw [cntI, if_pos c17, hx]; rfl) (by omega)
  exact L1 (n + 1) 0 _ (by omega) rfl (by omega)

set_option maxRecDepth 100000 in
set_option maxHeartbeats 4000000 in
theorem ctX2_bitsHiddenByAll (l : Launch) (Ω : Om) (σ : Sg) (p n : Nat) (hp : p < 2) (hn : n ≤ 16) (hpc : σ (iP p) 0 = nI n) (y : Int32) : CtW l yX2_bitsHiddenByAll wsX2_bitsHiddenByAll (rmD 1) Ω [.ref (ad Ω (iP p)), .int y] σ (roI (orI (hasB y) (σ (iP p + 1)) n) σ) := by
  refine ct_intro [some (.ref (ad Ω (iP p))), some (.int y), none, none] (by decide) rfl rfl (Nat.le_of_ble_eq_true rfl) (fun Γ hL hQ => ?_)
  show AtW mX2_bitsHiddenByAll Γ Ω σ 0 [some (.ref (ad Ω (iP p))), some (.int y), none, none] []
  refine r_iconst 0 dX2_bitsHiddenByAll_0 (by decide) ?_
  refine r_istore_n dX2_bitsHiddenByAll_1 (by decide) rfl ?_
  refine r_iconst 0 dX2_bitsHiddenByAll_2 (by decide) ?_
  refine r_istore_n dX2_bitsHiddenByAll_3 (by decide) rfl ?_
  have L1 : ∀ (N : Nat) (k : Nat) (x : Int32), k ≤ n → x = orI (hasB y) (σ (iP p + 1)) k → n < k + N → AtW mX2_bitsHiddenByAll Γ Ω σ 4 [some (.ref (ad Ω (iP p))), some (.int y), some (.int x), some (.int (nI k))] [] := by
    intro N
    induction N with
    | zero =>
      intro k x hk hx hN
      exact absurd hN (by omega)
    | succ N ih =>
      intro k x hk hx hN
      refine r_iload_n dX2_bitsHiddenByAll_4 rfl ?_
      refine r_aload_n dX2_bitsHiddenByAll_5 rfl ?_
      refine fX2_0 p hp jX2_bitsHiddenByAll_X2 lX2_bitsHiddenByAll_30 dX2_bitsHiddenByAll_6 ?_
      rw [hpc]
      refine r_icmp_ge 35 dX2_bitsHiddenByAll_9 (by decide) (fun c9 => ?_) (fun c9 => ?_)
      ·
        replace c9 := Int32.not_lt.mpr c9
        have n9 := Nat.not_lt.mp (fun q => c9 ((nI_ltI (a := k) (b := n) (by omega) (by omega)).mpr q))
        refine r_iload_n dX2_bitsHiddenByAll_35 rfl ?_
        have ek : n = k := by omega
        subst ek
        exact r_iret hQ rfl dX2_bitsHiddenByAll_36 (roI_of hx)
      ·
        replace c9 := Int32.not_le.mp c9
        have n9 := (nI_ltI (a := k) (b := n) (by omega) (by omega)).mp c9
        refine r_iload_n dX2_bitsHiddenByAll_12 rfl ?_
        refine r_iload_n dX2_bitsHiddenByAll_13 rfl ?_
        refine r_callSI hL (ctX2_hasBit l Ω _ _ k (by omega)) kX2_bitsHiddenByAll_58 rfl rfl (Nat.le_of_ble_eq_true rfl) dX2_bitsHiddenByAll_14 ?_
        refine r_if_eq 29 dX2_bitsHiddenByAll_17 (by decide) (fun c17 => ?_) (fun c17 => ?_)
        ·
          replace c17 := bI_f c17
          refine r_iinc (nI (k + 1)) dX2_bitsHiddenByAll_29 rfl (nI_1 k) (by decide) rfl ?_
          refine r_goto 4 dX2_bitsHiddenByAll_32 (by decide) ?_
          exact ih (k + 1) _ (by omega) (by rw [orI, if_neg (by simp [c17]), hx]) (by omega)
        ·
          replace c17 := bI_t c17
          refine r_iload_n dX2_bitsHiddenByAll_20 rfl ?_
          refine r_aload_n dX2_bitsHiddenByAll_21 rfl ?_
          refine fX2_1 p hp jX2_bitsHiddenByAll_X2 lX2_bitsHiddenByAll_9 dX2_bitsHiddenByAll_22 ?_
          refine r_iload_n dX2_bitsHiddenByAll_25 rfl ?_
          refine ldP1 p hp k rfl (by omega) dX2_bitsHiddenByAll_26 ?_
          refine r_ior dX2_bitsHiddenByAll_27 ?_
          refine r_istore_n dX2_bitsHiddenByAll_28 (by decide) rfl ?_
          refine r_iinc (nI (k + 1)) dX2_bitsHiddenByAll_29 rfl (nI_1 k) (by decide) rfl ?_
          refine r_goto 4 dX2_bitsHiddenByAll_32 (by decide) ?_
          exact ih (k + 1) _ (by omega) (by rw [orI, if_pos c17, hx]) (by omega)
  exact L1 (n + 1) 0 _ (by omega) rfl (by omega)

set_option maxRecDepth 100000 in
set_option maxHeartbeats 4000000 in
theorem ctX2_shortestRingOf (l : Launch) (Ω : Om) (σ : Sg) (p n : Nat) (hp : p < 2) (hn : n ≤ 16) (hpc : σ (iP p) 0 = nI n) (a : Nat) (ha : a < 16) : CtW l yX2_shortestRingOf wsX2_shortestRingOf (rmD 2) Ω [.ref (ad Ω (iP p)), .int (nI a)] σ (roI (srO (σ (iP p + 1)) n a) σ) := by
  refine ct_intro [some (.ref (ad Ω (iP p))), some (.int (nI a)), none, none] (by decide) rfl rfl (Nat.le_of_ble_eq_true rfl) (fun Γ hL hQ => ?_)
  show AtW mX2_shortestRingOf Γ Ω σ 0 [some (.ref (ad Ω (iP p))), some (.int (nI a)), none, none] []
  refine r_aload_n dX2_shortestRingOf_0 rfl ?_
  refine fX2_1 p hp jX2_shortestRingOf_X2 lX2_shortestRingOf_9 dX2_shortestRingOf_1 ?_
  refine r_iload_n dX2_shortestRingOf_4 rfl ?_
  refine ldP1 p hp a rfl (by omega) dX2_shortestRingOf_5 ?_
  refine r_istore_n dX2_shortestRingOf_6 (by decide) rfl ?_
  refine r_iconst 1 dX2_shortestRingOf_7 (by decide) ?_
  refine r_istore_n dX2_shortestRingOf_8 (by decide) rfl ?_
  have L1 : ∀ (N : Nat) (k : Nat) (x : Int32), k ≤ n → x = rchI (σ (iP p + 1)) n a k → (∀ j, j < k → (fun j => hasB (rchI (σ (iP p + 1)) n a j) a) j = false) → n < k + N → AtW mX2_shortestRingOf Γ Ω σ 9 [some (.ref (ad Ω (iP p))), some (.int (nI a)), some (.int x), some (.int (nI (k + 1)))] [] := by
    intro N
    induction N with
    | zero =>
      intro k x hk hx hq hN
      exact absurd hN (by omega)
    | succ N ih =>
      intro k x hk hx hq hN
      refine r_iload_n dX2_shortestRingOf_9 rfl ?_
      refine r_aload_n dX2_shortestRingOf_10 rfl ?_
      refine fX2_0 p hp jX2_shortestRingOf_X2 lX2_shortestRingOf_30 dX2_shortestRingOf_11 ?_
      rw [hpc]
      refine r_icmp_gt 41 dX2_shortestRingOf_14 (by decide) (fun c14 => ?_) (fun c14 => ?_)
      ·
        have n14 := (nI_ltI (a := n) (b := k + 1) (by omega) (by omega)).mp c14
        refine r_bipush (-5) dX2_shortestRingOf_41 (by decide) ?_
        have ek : n = k := by omega
        subst ek
        exact r_iret hQ rfl dX2_shortestRingOf_43 (roI_of (by rw [srO, ff_none hq, if_neg (by omega)]))
      ·
        have n14 := Nat.not_lt.mp (fun q => c14 ((nI_ltI (a := n) (b := k + 1) (by omega) (by omega)).mpr q))
        refine r_iload_n dX2_shortestRingOf_17 rfl ?_
        refine r_iload_n dX2_shortestRingOf_18 rfl ?_
        refine r_callSI hL (ctX2_hasBit l Ω _ _ a (by omega)) kX2_shortestRingOf_58 rfl rfl (Nat.le_of_ble_eq_true rfl) dX2_shortestRingOf_19 ?_
        refine r_if_eq 27 dX2_shortestRingOf_22 (by decide) (fun c22 => ?_) (fun c22 => ?_)
        ·
          replace c22 := bI_f c22
          refine r_iload_n dX2_shortestRingOf_27 rfl ?_
          refine r_aload_n dX2_shortestRingOf_28 rfl ?_
          refine r_iload_n dX2_shortestRingOf_29 rfl ?_
          refine r_callVI (iP p) hL (ctX2_bitsHiddenByAll l Ω _ p n hp (by omega) hpc _) kX2_shortestRingOf_106 (iP_lt hp) ⟨_, _, _, cel_pic hp, rfl, rfl⟩ rfl rfl (Nat.le_of_ble_eq_true rfl) dX2_shortestRingOf_30 ?_
          refine r_ior dX2_shortestRingOf_33 ?_
          refine r_istore_n dX2_shortestRingOf_34 (by decide) rfl ?_
          refine r_iinc (nI (k + 1 + 1)) dX2_shortestRingOf_35 rfl (nI_1 (k + 1)) (by decide) rfl ?_
          refine r_goto 9 dX2_shortestRingOf_38 (by decide) ?_
          exact ih (k + 1) _ (by omega) (by rw [hx]; rfl) (lt_s hq (by rw [hx] at c22; exact c22)) (by omega)
        ·
          replace c22 := bI_t c22
          refine r_iload_n dX2_shortestRingOf_25 rfl ?_
          exact r_iret hQ rfl dX2_shortestRingOf_26 (roI_of (by rw [hx] at c22; rw [srO, ff_hit hq c22 (by omega), if_pos (by omega)]))
  exact L1 (n + 1) 0 _ (by omega) rfl (fun j hj => absurd hj (by omega)) (by omega)

set_option maxRecDepth 100000 in
set_option maxHeartbeats 4000000 in
theorem ctX2_shortestRing (l : Launch) (Ω : Om) (σ : Sg) (p n : Nat) (hp : p < 2) (hn : n ≤ 16) (hpc : σ (iP p) 0 = nI n) : CtW l yX2_shortestRing wsX2_shortestRing (rmD 3) Ω [.ref (ad Ω (iP p))] σ (roI (srI (σ (iP p + 1)) n n) σ) := by
  refine ct_intro [some (.ref (ad Ω (iP p))), none, none, none] (by decide) rfl rfl (Nat.le_of_ble_eq_true rfl) (fun Γ hL hQ => ?_)
  show AtW mX2_shortestRing Γ Ω σ 0 [some (.ref (ad Ω (iP p))), none, none, none] []
  refine r_bipush (-5) dX2_shortestRing_0 (by decide) ?_
  refine r_istore_n dX2_shortestRing_2 (by decide) rfl ?_
  refine r_iconst 0 dX2_shortestRing_3 (by decide) ?_
  refine r_istore_n dX2_shortestRing_4 (by decide) rfl ?_
  have L1 : ∀ (N : Nat) (k : Nat) (x : Int32) (v3 : Option Value), k ≤ n → x = srI (σ (iP p + 1)) n k → n < k + N → AtW mX2_shortestRing Γ Ω σ 5 [some (.ref (ad Ω (iP p))), some (.int x), some (.int (nI k)), v3] [] := by
    intro N
    induction N with
    | zero =>
      intro k x v3 hk hx hN
      exact absurd hN (by omega)
    | succ N ih =>
      intro k x v3 hk hx hN
      refine r_iload_n dX2_shortestRing_5 rfl ?_
      refine r_aload_n dX2_shortestRing_6 rfl ?_
      refine fX2_0 p hp jX2_shortestRing_X2 lX2_shortestRing_30 dX2_shortestRing_7 ?_
      rw [hpc]
      refine r_icmp_ge 44 dX2_shortestRing_10 (by decide) (fun c10 => ?_) (fun c10 => ?_)
      ·
        replace c10 := Int32.not_lt.mpr c10
        have n10 := Nat.not_lt.mp (fun q => c10 ((nI_ltI (a := k) (b := n) (by omega) (by omega)).mpr q))
        refine r_iload_n dX2_shortestRing_44 rfl ?_
        have ek : n = k := by omega
        subst ek
        exact r_iret hQ rfl dX2_shortestRing_45 (roI_of hx)
      ·
        replace c10 := Int32.not_le.mp c10
        have n10 := (nI_ltI (a := k) (b := n) (by omega) (by omega)).mp c10
        refine r_aload_n dX2_shortestRing_13 rfl ?_
        refine r_iload_n dX2_shortestRing_14 rfl ?_
        refine r_callVI (iP p) hL (ctX2_shortestRingOf l Ω _ p n hp (by omega) hpc k (by omega)) kX2_shortestRing_103 (iP_lt hp) ⟨_, _, _, cel_pic hp, rfl, rfl⟩ rfl rfl (Nat.le_of_ble_eq_true rfl) dX2_shortestRing_15 ?_
        refine r_istore_n dX2_shortestRing_18 (by decide) rfl ?_
        refine r_iload_n dX2_shortestRing_19 rfl ?_
        refine r_bipush (-5) dX2_shortestRing_20 (by decide) ?_
        refine r_icmp_eq 38 dX2_shortestRing_22 (by decide) (fun c22 => ?_) (fun c22 => ?_)
        ·
          refine r_iinc (nI (k + 1)) dX2_shortestRing_38 rfl (nI_1 k) (by decide) rfl ?_
          refine r_goto 5 dX2_shortestRing_41 (by decide) ?_
          exact ih (k + 1) _ _ (by omega) (by rw [srI, if_pos c22, hx]) (by omega)
        ·
          refine r_iload_n dX2_shortestRing_25 rfl ?_
          refine r_bipush (-5) dX2_shortestRing_26 (by decide) ?_
          refine r_icmp_eq 36 dX2_shortestRing_28 (by decide) (fun c28 => ?_) (fun c28 => ?_)
          ·
            refine r_iload_n dX2_shortestRing_36 rfl ?_
            refine r_istore_n dX2_shortestRing_37 (by decide) rfl ?_
            refine r_iinc (nI (k + 1)) dX2_shortestRing_38 rfl (nI_1 k) (by decide) rfl ?_
            refine r_goto 5 dX2_shortestRing_41 (by decide) ?_
            exact ih (k + 1) _ _ (by omega) (by rw [srI, if_neg c22, if_pos (hx ▸ c28)]) (by omega)
          ·
            refine r_iload_n dX2_shortestRing_31 rfl ?_
            refine r_iload_n dX2_shortestRing_32 rfl ?_
            refine r_icmp_ge 38 dX2_shortestRing_33 (by decide) (fun c33 => ?_) (fun c33 => ?_)
            ·
              replace c33 := Int32.not_lt.mpr c33
              refine r_iinc (nI (k + 1)) dX2_shortestRing_38 rfl (nI_1 k) (by decide) rfl ?_
              refine r_goto 5 dX2_shortestRing_41 (by decide) ?_
              exact ih (k + 1) _ _ (by omega) (by rw [srI, if_neg c22, if_neg (hx ▸ c28), if_neg (hx ▸ c33), hx]) (by omega)
            ·
              replace c33 := Int32.not_le.mp c33
              refine r_iload_n dX2_shortestRing_36 rfl ?_
              refine r_istore_n dX2_shortestRing_37 (by decide) rfl ?_
              refine r_iinc (nI (k + 1)) dX2_shortestRing_38 rfl (nI_1 k) (by decide) rfl ?_
              refine r_goto 5 dX2_shortestRing_41 (by decide) ?_
              exact ih (k + 1) _ _ (by omega) (by rw [srI, if_neg c22, if_neg (hx ▸ c28), if_pos (hx ▸ c33)]) (by omega)
  exact L1 (n + 1) 0 _ none (by omega) rfl (by omega)

set_option maxRecDepth 100000 in
set_option maxHeartbeats 4000000 in
theorem ctX2_greatestInRings (l : Launch) (Ω : Om) (σ : Sg) (p s n : Nat) (hp : p < 2) (hs : s < 7) (hn : n ≤ 16) (hpc : σ (iP p) 0 = nI n) : CtW l yX2_greatestInRings wsX2_greatestInRings (rmD 2) Ω [.ref (ad Ω (iP p)), .ref (ad Ω (iS s))] σ (roI (oI (grO σ s (σ (iP p + 2)) n)) σ) := by
  refine ct_intro [some (.ref (ad Ω (iP p))), some (.ref (ad Ω (iS s))), none, none] (by decide) rfl rfl (Nat.le_of_ble_eq_true rfl) (fun Γ hL hQ => ?_)
  show AtW mX2_greatestInRings Γ Ω σ 0 [some (.ref (ad Ω (iP p))), some (.ref (ad Ω (iS s))), none, none] []
  refine r_iconst (-1) dX2_greatestInRings_0 (by decide) ?_
  refine r_istore_n dX2_greatestInRings_1 (by decide) rfl ?_
  refine r_iconst 0 dX2_greatestInRings_2 (by decide) ?_
  refine r_istore_n dX2_greatestInRings_3 (by decide) rfl ?_
  have L1 : ∀ (N : Nat) (k : Nat) (x : Int32), k ≤ n → x = oI (grO σ s (σ (iP p + 2)) k) → n < k + N → AtW mX2_greatestInRings Γ Ω σ 4 [some (.ref (ad Ω (iP p))), some (.ref (ad Ω (iS s))), some (.int x), some (.int (nI k))] [] := by
    intro N
    induction N with
    | zero =>
      intro k x hk hx hN
      exact absurd hN (by omega)
    | succ N ih =>
      intro k x hk hx hN
      refine r_iload_n dX2_greatestInRings_4 rfl ?_
      refine r_aload_n dX2_greatestInRings_5 rfl ?_
      refine fX2_0 p hp jX2_greatestInRings_X2 lX2_greatestInRings_30 dX2_greatestInRings_6 ?_
      rw [hpc]
      refine r_icmp_ge 54 dX2_greatestInRings_9 (by decide) (fun c9 => ?_) (fun c9 => ?_)
      ·
        replace c9 := Int32.not_lt.mpr c9
        have n9 := Nat.not_lt.mp (fun q => c9 ((nI_ltI (a := k) (b := n) (by omega) (by omega)).mpr q))
        refine r_iload_n dX2_greatestInRings_54 rfl ?_
        have ek : n = k := by omega
        subst ek
        exact r_iret hQ rfl dX2_greatestInRings_55 (roI_of hx)
      ·
        replace c9 := Int32.not_le.mp c9
        have n9 := (nI_ltI (a := k) (b := n) (by omega) (by omega)).mp c9
        refine r_aload_n dX2_greatestInRings_12 rfl ?_
        refine r_iload_n dX2_greatestInRings_13 rfl ?_
        refine r_callVI (iP p) hL (ctX2_isInRing l Ω _ p k hp (by omega)) kX2_greatestInRings_99 (iP_lt hp) ⟨_, _, _, cel_pic hp, rfl, rfl⟩ rfl rfl (Nat.le_of_ble_eq_true rfl) dX2_greatestInRings_14 ?_
        refine r_if_eq 48 dX2_greatestInRings_17 (by decide) (fun c17 => ?_) (fun c17 => ?_)
        ·
          replace c17 := bI_f c17
          refine r_iinc (nI (k + 1)) dX2_greatestInRings_48 rfl (nI_1 k) (by decide) rfl ?_
          refine r_goto 4 dX2_greatestInRings_51 (by decide) ?_
          exact ih (k + 1) _ (by omega) (by rw [grO, bestO_no1 (p := fun k => hasB (σ (iP p + 2) k) k) c17]; exact hx) (by omega)
        ·
          replace c17 := bI_t c17
          refine r_iload_n dX2_greatestInRings_20 rfl ?_
          refine r_iconst (-1) dX2_greatestInRings_21 (by decide) ?_
          refine r_icmp_eq 46 dX2_greatestInRings_22 (by decide) (fun c22 => ?_) (fun c22 => ?_)
          ·
            refine r_iload_n dX2_greatestInRings_46 rfl ?_
            refine r_istore_n dX2_greatestInRings_47 (by decide) rfl ?_
            refine r_iinc (nI (k + 1)) dX2_greatestInRings_48 rfl (nI_1 k) (by decide) rfl ?_
            refine r_goto 4 dX2_greatestInRings_51 (by decide) ?_
            exact ih (k + 1) _ (by omega) (by rw [grO, bestO_yes (p := fun k => hasB (σ (iP p + 2) k) k) c17 (Or.inl (oI_none (by omega) hx c22))]; rfl) (by omega)
          ·
            obtain ⟨j, hj, ej, rfl⟩ := oI_some hx c22
            refine r_aload_n dX2_greatestInRings_25 rfl ?_
            refine fX3_0 s hs jX2_greatestInRings_X3 lX2_greatestInRings_42 dX2_greatestInRings_26 ?_
            refine r_iload_n dX2_greatestInRings_29 rfl ?_
            refine r_aaldB s hs k rfl (by omega) dX2_greatestInRings_30 ?_
            refine r_callVI (iBo (bx s k)) hL (ctX0_volume l Ω _ (bx s k) (bx_lt hs (by omega))) kX2_greatestInRings_109 (iB_lt (bx_lt hs (by omega))) ⟨_, _, _, cel_box (bx_lt hs (by omega)), rfl, rfl⟩ rfl rfl (Nat.le_of_ble_eq_true rfl) dX2_greatestInRings_31 ?_
            refine r_aload_n dX2_greatestInRings_34 rfl ?_
            refine fX3_0 s hs jX2_greatestInRings_X3 lX2_greatestInRings_42 dX2_greatestInRings_35 ?_
            refine r_iload_n dX2_greatestInRings_38 rfl ?_
            refine r_aaldB s hs j rfl (by omega) dX2_greatestInRings_39 ?_
            refine r_callVI (iBo (bx s j)) hL (ctX0_volume l Ω _ (bx s j) (bx_lt hs (by omega))) kX2_greatestInRings_109 (iB_lt (bx_lt hs (by omega))) ⟨_, _, _, cel_box (bx_lt hs (by omega)), rfl, rfl⟩ rfl rfl (Nat.le_of_ble_eq_true rfl) dX2_greatestInRings_40 ?_
            refine r_icmp_le 48 dX2_greatestInRings_43 (by decide) (fun c43 => ?_) (fun c43 => ?_)
            ·
              replace c43 := Int32.not_lt.mpr c43
              refine r_iinc (nI (k + 1)) dX2_greatestInRings_48 rfl (nI_1 k) (by decide) rfl ?_
              refine r_goto 4 dX2_greatestInRings_51 (by decide) ?_
              exact ih (k + 1) _ (by omega) (by rw [grO, bestO_no2 ej (by simp [c43])]; exact hx) (by omega)
            ·
              replace c43 := Int32.not_le.mp c43
              refine r_iload_n dX2_greatestInRings_46 rfl ?_
              refine r_istore_n dX2_greatestInRings_47 (by decide) rfl ?_
              refine r_iinc (nI (k + 1)) dX2_greatestInRings_48 rfl (nI_1 k) (by decide) rfl ?_
              refine r_goto 4 dX2_greatestInRings_51 (by decide) ?_
              exact ih (k + 1) _ (by omega) (by rw [grO, bestO_yes (p := fun k => hasB (σ (iP p + 2) k) k) c17 (Or.inr ⟨j, ej, by simp [c43]⟩)]; rfl) (by omega)
  exact L1 (n + 1) 0 _ (by omega) rfl (by omega)

set_option maxRecDepth 100000 in
set_option maxHeartbeats 4000000 in
theorem ctX2_nextToDraw (l : Launch) (Ω : Om) (σ : Sg) (p s n : Nat) (hp : p < 2) (hs : s < 7) (hn : n ≤ 16) (hpc : σ (iP p) 0 = nI n) : CtW l yX2_nextToDraw wsX2_nextToDraw (rmD 3) Ω [.ref (ad Ω (iP p)), .ref (ad Ω (iS s))] σ (roI (oI (nxO n (σ (iP p + 1)) (wtS σ s) (σ (iP p) 4))) σ) := by
  refine ct_intro [some (.ref (ad Ω (iP p))), some (.ref (ad Ω (iS s))), none, none, none] (by decide) rfl rfl (Nat.le_of_ble_eq_true rfl) (fun Γ hL hQ => ?_)
  show AtW mX2_nextToDraw Γ Ω σ 0 [some (.ref (ad Ω (iP p))), some (.ref (ad Ω (iS s))), none, none, none] []
  refine r_iconst (-1) dX2_nextToDraw_0 (by decide) ?_
  refine r_istore_n dX2_nextToDraw_1 (by decide) rfl ?_
  refine r_iconst 0 dX2_nextToDraw_2 (by decide) ?_
  refine r_istore_n dX2_nextToDraw_3 (by decide) rfl ?_
  have L1 : ∀ (N : Nat) (k : Nat) (x : Int32) (v4 : Option Value), k ≤ n → x = oI (bestO (canD (σ (iP p + 1)) (σ (iP p) 4)) (fun k b => decide (wtS σ s k < wtS σ s b)) k) → n < k + N → AtW mX2_nextToDraw Γ Ω σ 4 [some (.ref (ad Ω (iP p))), some (.ref (ad Ω (iS s))), some (.int x), some (.int (nI k)), v4] [] := by
    intro N
    induction N with
    | zero =>
      intro k x v4 hk hx hN
      exact absurd hN (by omega)
    | succ N ih =>
      intro k x v4 hk hx hN
      refine r_iload_n dX2_nextToDraw_4 rfl ?_
      refine r_aload_n dX2_nextToDraw_5 rfl ?_
      refine fX2_0 p hp jX2_nextToDraw_X2 lX2_nextToDraw_30 dX2_nextToDraw_6 ?_
      rw [hpc]
      refine r_icmp_ge 77 dX2_nextToDraw_9 (by decide) (fun c9 => ?_) (fun c9 => ?_)
      ·
        replace c9 := Int32.not_lt.mpr c9
        have n9 := Nat.not_lt.mp (fun q => c9 ((nI_ltI (a := k) (b := n) (by omega) (by omega)).mpr q))
        refine r_iload_n dX2_nextToDraw_77 rfl ?_
        have ek : n = k := by omega
        subst ek
        exact r_iret hQ rfl dX2_nextToDraw_78 (roI_of hx)
      ·
        replace c9 := Int32.not_le.mp c9
        have n9 := (nI_ltI (a := k) (b := n) (by omega) (by omega)).mp c9
        refine r_aload_n dX2_nextToDraw_12 rfl ?_
        refine fX2_4 p hp jX2_nextToDraw_X2 lX2_nextToDraw_68 dX2_nextToDraw_13 ?_
        refine r_iload_n dX2_nextToDraw_16 rfl ?_
        refine r_callSI hL (ctX2_hasBit l Ω _ _ k (by omega)) kX2_nextToDraw_58 rfl rfl (Nat.le_of_ble_eq_true rfl) dX2_nextToDraw_17 ?_
        refine r_if_ne 43 dX2_nextToDraw_20 (by decide) (fun c20 => ?_) (fun c20 => ?_)
        ·
          replace c20 := bI_t c20
          refine r_iconst 0 dX2_nextToDraw_43 (by decide) ?_
          refine r_istore dX2_nextToDraw_44 (by decide) rfl ?_
          refine r_iload dX2_nextToDraw_46 rfl ?_
          refine r_if_eq 71 dX2_nextToDraw_48 (by decide) (fun c48 => ?_) (fun c48 => absurd c48 (by decide))
          refine r_iinc (nI (k + 1)) dX2_nextToDraw_71 rfl (nI_1 k) (by decide) rfl ?_
          refine r_goto 4 dX2_nextToDraw_74 (by decide) ?_
          exact ih (k + 1) _ _ (by omega) (by rw [bestO_no1 (canD_f1 c20)]; exact hx) (by omega)
        ·
          replace c20 := bI_f c20
          refine r_aload_n dX2_nextToDraw_23 rfl ?_
          refine fX2_1 p hp jX2_nextToDraw_X2 lX2_nextToDraw_9 dX2_nextToDraw_24 ?_
          refine r_iload_n dX2_nextToDraw_27 rfl ?_
          refine ldP1 p hp k rfl (by omega) dX2_nextToDraw_28 ?_
          refine r_aload_n dX2_nextToDraw_29 rfl ?_
          refine fX2_4 p hp jX2_nextToDraw_X2 lX2_nextToDraw_68 dX2_nextToDraw_30 ?_
          refine r_iconst (-1) dX2_nextToDraw_33 (by decide) ?_
          refine r_ixor dX2_nextToDraw_34 ?_
          refine r_iand dX2_nextToDraw_35 ?_
          refine r_if_ne 43 dX2_nextToDraw_36 (by decide) (fun c36 => ?_) (fun c36 => ?_)
          ·
            refine r_iconst 0 dX2_nextToDraw_43 (by decide) ?_
            refine r_istore dX2_nextToDraw_44 (by decide) rfl ?_
            refine r_iload dX2_nextToDraw_46 rfl ?_
            refine r_if_eq 71 dX2_nextToDraw_48 (by decide) (fun c48 => ?_) (fun c48 => absurd c48 (by decide))
            refine r_iinc (nI (k + 1)) dX2_nextToDraw_71 rfl (nI_1 k) (by decide) rfl ?_
            refine r_goto 4 dX2_nextToDraw_74 (by decide) ?_
            exact ih (k + 1) _ _ (by omega) (by rw [bestO_no1 (canD_f2 c36)]; exact hx) (by omega)
          ·
            refine r_iconst 1 dX2_nextToDraw_39 (by decide) ?_
            refine r_goto 44 dX2_nextToDraw_40 (by decide) ?_
            refine r_istore dX2_nextToDraw_44 (by decide) rfl ?_
            refine r_iload dX2_nextToDraw_46 rfl ?_
            refine r_if_eq 71 dX2_nextToDraw_48 (by decide) (fun c48 => absurd c48 (by decide)) (fun c48 => ?_)
            refine r_iload_n dX2_nextToDraw_51 rfl ?_
            refine r_iconst (-1) dX2_nextToDraw_52 (by decide) ?_
            refine r_icmp_eq 69 dX2_nextToDraw_53 (by decide) (fun c53 => ?_) (fun c53 => ?_)
            ·
              refine r_iload_n dX2_nextToDraw_69 rfl ?_
              refine r_istore_n dX2_nextToDraw_70 (by decide) rfl ?_
              refine r_iinc (nI (k + 1)) dX2_nextToDraw_71 rfl (nI_1 k) (by decide) rfl ?_
              refine r_goto 4 dX2_nextToDraw_74 (by decide) ?_
              exact ih (k + 1) _ _ (by omega) (by rw [bestO_yes (canD_t c20 c36) (Or.inl (oI_none (by omega) hx c53))]; rfl) (by omega)
            ·
              obtain ⟨j, hj, ej, rfl⟩ := oI_some hx c53
              refine r_aload_n dX2_nextToDraw_56 rfl ?_
              refine r_iload_n dX2_nextToDraw_57 rfl ?_
              refine r_callVI (iS s) hL (ctX3_weightInDrawing l Ω _ s k hs (by omega)) kX2_nextToDraw_82 (iS_lt hs) ⟨_, _, _, cel_sp hs, rfl, rfl⟩ rfl rfl (Nat.le_of_ble_eq_true rfl) dX2_nextToDraw_58 ?_
              refine r_aload_n dX2_nextToDraw_61 rfl ?_
              refine r_iload_n dX2_nextToDraw_62 rfl ?_
              refine r_callVI (iS s) hL (ctX3_weightInDrawing l Ω _ s j hs (by omega)) kX2_nextToDraw_82 (iS_lt hs) ⟨_, _, _, cel_sp hs, rfl, rfl⟩ rfl rfl (Nat.le_of_ble_eq_true rfl) dX2_nextToDraw_63 ?_
              refine r_icmp_ge 71 dX2_nextToDraw_66 (by decide) (fun c66 => ?_) (fun c66 => ?_)
              ·
                replace c66 := Int32.not_lt.mpr c66
                refine r_iinc (nI (k + 1)) dX2_nextToDraw_71 rfl (nI_1 k) (by decide) rfl ?_
                refine r_goto 4 dX2_nextToDraw_74 (by decide) ?_
                exact ih (k + 1) _ _ (by omega) (by rw [bestO_no2 ej (by simp [c66])]; exact hx) (by omega)
              ·
                replace c66 := Int32.not_le.mp c66
                refine r_iload_n dX2_nextToDraw_69 rfl ?_
                refine r_istore_n dX2_nextToDraw_70 (by decide) rfl ?_
                refine r_iinc (nI (k + 1)) dX2_nextToDraw_71 rfl (nI_1 k) (by decide) rfl ?_
                refine r_goto 4 dX2_nextToDraw_74 (by decide) ?_
                exact ih (k + 1) _ _ (by omega) (by rw [bestO_yes (canD_t c20 c36) (Or.inr ⟨j, ej, by simp [c66]⟩)]; rfl) (by omega)
  exact L1 (n + 1) 0 _ none (by omega) rfl (by omega)

set_option maxRecDepth 100000 in
set_option maxHeartbeats 4000000 in
theorem ctX2_followChains (l : Launch) (Ω : Om) (σ : Sg) (p n : Nat) (hp : p < 2) (hn : n ≤ 16) (hpc : σ (iP p) 0 = nI n) : CtW l yX2_followChains wsX2_followChains (rmD 1) Ω [.ref (ad Ω (iP p))] σ (reV (fun σ1 => σ1 = setA σ (iP p + 2) (wsO (va_cpy (σ (iP p + 1)) (σ (iP p + 2)) 0 0 16) n n))) := by
  refine ct_intro [some (.ref (ad Ω (iP p))), none, none] (by decide) rfl rfl (Nat.le_of_ble_eq_true rfl) (fun Γ hL hQ => ?_)
  show AtW mX2_followChains Γ Ω σ 0 [some (.ref (ad Ω (iP p))), none, none] []
  refine r_aload_n dX2_followChains_0 rfl ?_
  refine fX2_1 p hp jX2_followChains_X2 lX2_followChains_9 dX2_followChains_1 ?_
  refine r_iconst 0 dX2_followChains_4 (by decide) ?_
  refine r_aload_n dX2_followChains_5 rfl ?_
  refine fX2_2 p hp jX2_followChains_X2 lX2_followChains_15 dX2_followChains_6 ?_
  refine r_iconst 0 dX2_followChains_9 (by decide) ?_
  refine r_bipush 16 dX2_followChains_10 (by decide) ?_
  refine r_copy 52 (by decide +kernel) (by decide +kernel) (by decide +kernel) (by decide +kernel) (iP p + 1) (iP p + 2) 16 16 16 (iPA_lt hp (by decide)) (iPA_lt hp (by decide)) (cel_picA hp (by decide) (by decide)) (fun _ => cel_picA hp (by decide) (by decide)) (by decide) (by decide) (by decide) (by decide) (by decide) rfl dX2_followChains_12 ?_
  refine r_iconst 0 dX2_followChains_15 (by decide) ?_
  refine r_istore_n dX2_followChains_16 (by decide) rfl ?_
  have L1 : ∀ (N : Nat) (w : Nat) (τ : Sg) (v2 : Option Value), w ≤ n → τ = setA σ (iP p + 2) (wsO (va_cpy (σ (iP p + 1)) (σ (iP p + 2)) 0 0 16) n w) → n < w + N → AtW mX2_followChains Γ Ω τ 17 [some (.ref (ad Ω (iP p))), some (.int (nI w)), v2] [] := by
    intro N
    induction N with
    | zero =>
      intro w τ v2 hw hτ hN
      exact absurd hN (by omega)
    | succ N ih =>
      intro w τ v2 hw hτ hN
      have hτc : τ (iP p) 0 = nI n := by rw [hτ, setA_ne (by omega)]; exact hpc
      refine r_iload_n dX2_followChains_17 rfl ?_
      refine r_aload_n dX2_followChains_18 rfl ?_
      refine fX2_0 p hp jX2_followChains_X2 lX2_followChains_30 dX2_followChains_19 ?_
      rw [hτc]
      refine r_icmp_ge 75 dX2_followChains_22 (by decide) (fun c22 => ?_) (fun c22 => ?_)
      ·
        replace c22 := Int32.not_lt.mpr c22
        have n22 := Nat.not_lt.mp (fun q => c22 ((nI_ltI (a := w) (b := n) (by omega) (by omega)).mpr q))
        have ek : n = w := by omega
        subst ek
        exact r_vret hQ rfl dX2_followChains_75 (reV_of hτ)
      ·
        replace c22 := Int32.not_le.mp c22
        have n22 := (nI_ltI (a := w) (b := n) (by omega) (by omega)).mp c22
        have ih0 := ih
        refine r_iconst 0 dX2_followChains_25 (by decide) ?_
        refine r_istore_n dX2_followChains_26 (by decide) rfl ?_
        have L2 : ∀ (N : Nat) (k : Nat) (υ : Sg), k ≤ n → υ = setA σ (iP p + 2) (wsR (wsO (va_cpy (σ (iP p + 1)) (σ (iP p + 2)) 0 0 16) n w) w k) → n < k + N → AtW mX2_followChains Γ Ω υ 27 [some (.ref (ad Ω (iP p))), some (.int (nI w)), some (.int (nI k))] [] := by
          intro N
          induction N with
          | zero =>
            intro k υ hk hυ hN
            exact absurd hN (by omega)
          | succ N ih =>
            intro k υ hk hυ hN
            have hυc : υ (iP p) 0 = nI n := by rw [hυ, setA_ne (by omega)]; exact hpc
            refine r_iload_n dX2_followChains_27 rfl ?_
            refine r_aload_n dX2_followChains_28 rfl ?_
            refine fX2_0 p hp jX2_followChains_X2 lX2_followChains_30 dX2_followChains_29 ?_
            rw [hυc]
            refine r_icmp_ge 69 dX2_followChains_32 (by decide) (fun c32 => ?_) (fun c32 => ?_)
            ·
              replace c32 := Int32.not_lt.mpr c32
              have n32 := Nat.not_lt.mp (fun q => c32 ((nI_ltI (a := k) (b := n) (by omega) (by omega)).mpr q))
              have ek : n = k := by omega
              subst ek
              refine r_iinc (nI (w + 1)) dX2_followChains_69 rfl (nI_1 w) (by decide) rfl ?_
              refine r_goto 17 dX2_followChains_72 (by decide) ?_
              exact ih0 (w + 1) υ _ (by omega) hυ (by omega)
            ·
              replace c32 := Int32.not_le.mp c32
              have n32 := (nI_ltI (a := k) (b := n) (by omega) (by omega)).mp c32
              refine r_aload_n dX2_followChains_35 rfl ?_
              refine fX2_2 p hp jX2_followChains_X2 lX2_followChains_15 dX2_followChains_36 ?_
              refine r_iload_n dX2_followChains_39 rfl ?_
              refine ldP2 p hp k rfl (by omega) dX2_followChains_40 ?_
              refine r_iload_n dX2_followChains_41 rfl ?_
              refine r_callSI hL (ctX2_hasBit l Ω _ _ w (by omega)) kX2_followChains_58 rfl rfl (Nat.le_of_ble_eq_true rfl) dX2_followChains_42 ?_
              refine r_if_eq 63 dX2_followChains_45 (by decide) (fun c45 => ?_) (fun c45 => ?_)
              ·
                replace c45 := bI_f c45
                refine r_iinc (nI (k + 1)) dX2_followChains_63 rfl (nI_1 k) (by decide) rfl ?_
                refine r_goto 27 dX2_followChains_66 (by decide) ?_
                exact ih (k + 1) υ (by omega) (chain_no hυ c45) (by omega)
              ·
                replace c45 := bI_t c45
                refine r_aload_n dX2_followChains_48 rfl ?_
                refine fX2_2 p hp jX2_followChains_X2 lX2_followChains_15 dX2_followChains_49 ?_
                refine r_iload_n dX2_followChains_52 rfl ?_
                refine r_dup2 dX2_followChains_53 rfl rfl ?_
                refine ldP2 p hp k rfl (by omega) dX2_followChains_54 ?_
                refine r_aload_n dX2_followChains_55 rfl ?_
                refine fX2_2 p hp jX2_followChains_X2 lX2_followChains_15 dX2_followChains_56 ?_
                refine r_iload_n dX2_followChains_59 rfl ?_
                refine ldP2 p hp w rfl (by omega) dX2_followChains_60 ?_
                refine r_ior dX2_followChains_61 ?_
                refine stP2 p hp k rfl (by omega) dX2_followChains_62 ?_
                refine r_iinc (nI (k + 1)) dX2_followChains_63 rfl (nI_1 k) (by decide) rfl ?_
                refine r_goto 27 dX2_followChains_66 (by decide) ?_
                exact ih (k + 1) _ (by omega) (chain_yes hυ c45) (by omega)
        exact L2 (n + 1) 0 τ (by omega) hτ (by omega)
  exact L1 (n + 1) 0 _ none (by omega) rfl (by omega)

set_option maxRecDepth 100000 in
set_option maxHeartbeats 4000000 in
theorem ctX2_draw (l : Launch) (Ω : Om) (σ : Sg) (p s n : Nat) (hp : p < 2) (hs : s < 7) (hn : n ≤ 16) (hpc : σ (iP p) 0 = nI n) : CtW l yX2_draw wsX2_draw (rmD 4) Ω [.ref (ad Ω (iP p)), .ref (ad Ω (iS s))] σ (reV (dwI σ s p n (σ (iP p + 1)) (wtS σ s) (σ (iP p + 3)) (fun i => if i < 16 then -5 else σ (iP p + 4) i))) := by
  refine ct_intro [some (.ref (ad Ω (iP p))), some (.ref (ad Ω (iS s))), none, none] (by decide) rfl rfl (Nat.le_of_ble_eq_true rfl) (fun Γ hL hQ => ?_)
  show AtW mX2_draw Γ Ω σ 0 [some (.ref (ad Ω (iP p))), some (.ref (ad Ω (iS s))), none, none] []
  refine r_aload_n dX2_draw_0 rfl ?_
  refine fX2_6 p hp jX2_draw_X2 lX2_draw_21 dX2_draw_1 ?_
  refine r_bipush (-5) dX2_draw_4 (by decide) ?_
  refine r_callSV hL (ctJ7_fill_53178 l Ω _ p _ hp) kX2_draw_62 rfl rfl (Nat.le_of_ble_eq_true rfl) dX2_draw_6 ?_
  intro σ1 hσ1
  subst hσ1
  refine r_aload_n dX2_draw_9 rfl ?_
  refine r_iconst 0 dX2_draw_10 (by decide) ?_
  refine pX2_4 p hp jX2_draw_X2 lX2_draw_68 dX2_draw_11 ?_
  refine r_aload_n dX2_draw_14 rfl ?_
  refine r_iconst 0 dX2_draw_15 (by decide) ?_
  refine pX2_5 p hp jX2_draw_X2 lX2_draw_71 dX2_draw_16 ?_
  refine r_iconst 0 dX2_draw_19 (by decide) ?_
  refine r_istore_n dX2_draw_20 (by decide) rfl ?_
  have L1 : ∀ (N : Nat) (j : Nat) (τ : Sg) (v3 : Option Value), j ≤ n → dwC n (σ (iP p + 1)) (wtS σ s) (σ (iP p + 3)) (fun i => if i < 16 then -5 else σ (iP p + 4) i) p σ τ j → n < j + N → AtW mX2_draw Γ Ω τ 21 [some (.ref (ad Ω (iP p))), some (.ref (ad Ω (iS s))), some (.int (nI j)), v3] [] := by
    intro N
    induction N with
    | zero =>
      intro j τ v3 hj hτ hN
      exact absurd hN (by omega)
    | succ N ih =>
      intro j τ v3 hj hτ hN
      have h1 : σ (iP p + 1) = τ (iP p + 1) := (hτ.2.2.2.2.2.1 _ (by omega) (by omega) (by omega)).symm
      have hnx : nxO n (τ (iP p + 1)) (wtS τ s) (τ (iP p) 4) = nxO n (σ (iP p + 1)) (wtS σ s) (τ (iP p) 4) := by rw [h1]; exact nxO_congr (fun _ _ => rfl) (fun k hk => wt_eq hs (fun q hq => hτ.2.2.2.2.2.1 q (by unfold iP; omega) (by unfold iP; omega) (by unfold iP; omega)) (by omega))
      refine r_iload_n dX2_draw_21 rfl ?_
      refine r_aload_n dX2_draw_22 rfl ?_
      refine fX2_0 p hp jX2_draw_X2 lX2_draw_30 dX2_draw_23 ?_
      rw [hτ.1]
      refine r_icmp_ge 92 dX2_draw_26 (by decide) (fun c26 => ?_) (fun c26 => ?_)
      ·
        replace c26 := Int32.not_lt.mpr c26
        have n26 := Nat.not_lt.mp (fun q => c26 ((nI_ltI (a := j) (b := n) (by omega) (by omega)).mpr q))
        have ek : n = j := by omega
        subst ek
        exact r_vret hQ rfl dX2_draw_92 (reV_of (dw_end hτ))
      ·
        replace c26 := Int32.not_le.mp c26
        have n26 := (nI_ltI (a := j) (b := n) (by omega) (by omega)).mp c26
        refine r_aload_n dX2_draw_29 rfl ?_
        refine r_aload_n dX2_draw_30 rfl ?_
        refine r_callVI (iP p) hL (ctX2_nextToDraw l Ω _ p s n hp hs (by omega) hτ.1) kX2_draw_74 (iP_lt hp) ⟨_, _, _, cel_pic hp, rfl, rfl⟩ rfl rfl (Nat.le_of_ble_eq_true rfl) dX2_draw_31 ?_
        rw [hnx]
        refine r_istore_n dX2_draw_34 (by decide) rfl ?_
        refine r_iload_n dX2_draw_35 rfl ?_
        refine r_iconst (-1) dX2_draw_36 (by decide) ?_
        refine r_icmp_ne 41 dX2_draw_37 (by decide) (fun c37 => ?_) (fun c37 => ?_)
        ·
          obtain ⟨b, hb, eb⟩ := nx_some c37
          rw [eb]
          refine r_aload_n dX2_draw_41 rfl ?_
          refine fX2_3 p hp jX2_draw_X2 lX2_draw_18 dX2_draw_42 ?_
          refine r_iload_n dX2_draw_45 rfl ?_
          refine r_iload_n dX2_draw_46 rfl ?_
          refine stP3 p hp j rfl (by omega) dX2_draw_47 ?_
          refine r_aload_n dX2_draw_48 rfl ?_
          refine fX2_6 p hp jX2_draw_X2 lX2_draw_21 dX2_draw_49 ?_
          refine r_iload_n dX2_draw_52 rfl ?_
          refine r_aload_n dX2_draw_53 rfl ?_
          refine r_aload_n dX2_draw_54 rfl ?_
          refine fX2_1 p hp jX2_draw_X2 lX2_draw_9 dX2_draw_55 ?_
          refine r_iload_n dX2_draw_58 rfl ?_
          refine ldP1 p hp b rfl (by omega) dX2_draw_59 ?_
          refine r_callVI (iP p) hL (ctX2_layerAbove l Ω _ p n hp hn (by rw [up_ne (by omega)]; exact hτ.1) _) kX2_draw_78 (iP_lt hp) ⟨_, _, _, cel_pic hp, rfl, rfl⟩ rfl rfl (Nat.le_of_ble_eq_true rfl) dX2_draw_60 ?_
          refine stP4 p hp b rfl (by omega) dX2_draw_63 ?_
          refine r_aload_n dX2_draw_64 rfl ?_
          refine r_dup dX2_draw_65 rfl ?_
          refine fX2_4 p hp jX2_draw_X2 lX2_draw_68 dX2_draw_66 ?_
          refine r_iconst 1 dX2_draw_69 (by decide) ?_
          refine r_iload_n dX2_draw_70 rfl ?_
          refine r_ishl dX2_draw_71 ?_
          refine r_ior dX2_draw_72 ?_
          refine pX2_4 p hp jX2_draw_X2 lX2_draw_68 dX2_draw_73 ?_
          refine r_aload_n dX2_draw_76 rfl ?_
          refine r_dup dX2_draw_77 rfl ?_
          refine fX2_5 p hp jX2_draw_X2 lX2_draw_71 dX2_draw_78 ?_
          refine r_iconst 1 dX2_draw_81 (by decide) ?_
          refine r_iadd dX2_draw_82 ?_
          refine pX2_5 p hp jX2_draw_X2 lX2_draw_71 dX2_draw_83 ?_
          refine r_iinc (nI (j + 1)) dX2_draw_86 rfl (nI_1 j) (by decide) rfl ?_
          refine r_goto 21 dX2_draw_89 (by decide) ?_
          exact ih (j + 1) _ _ (by omega) (dw_step h1 hτ eb) (by omega)
        ·
          exact r_vret hQ rfl dX2_draw_40 (reV_of (dw_stop n26 hτ (nx_none hn c37)))
  exact L1 (n + 1) 0 _ none (by omega) (dw_head hpc) (by omega)

set_option maxRecDepth 100000 in
set_option maxHeartbeats 4000000 in
theorem ctX2_look (l : Launch) (Ω : Om) (σ : Sg) (p s n : Nat) (hp : p < 2) (hs : s < 7) (hn : n ≤ 16) (hc : σ (iS s) 1 = nI n) : CtW l yX2_look wsX2_look (rmD 5) Ω [.ref (ad Ω (iP p)), .ref (ad Ω (iS s))] σ (reV (pcI σ s p n)) := by
  refine ct_intro [some (.ref (ad Ω (iP p))), some (.ref (ad Ω (iS s))), none] (by decide) rfl rfl (Nat.le_of_ble_eq_true rfl) (fun Γ hL hQ => ?_)
  show AtW mX2_look Γ Ω σ 0 [some (.ref (ad Ω (iP p))), some (.ref (ad Ω (iS s))), none] []
  refine r_aload_n dX2_look_0 rfl ?_
  refine r_aload_n dX2_look_1 rfl ?_
  refine fX3_1 s hs jX2_look_X3 lX2_look_24 dX2_look_2 ?_
  rw [hc]
  refine pX2_0 p hp jX2_look_X2 lX2_look_30 dX2_look_5 ?_
  refine r_iconst 0 dX2_look_8 (by decide) ?_
  refine r_istore_n dX2_look_9 (by decide) rfl ?_
  have L1 : ∀ (N : Nat) (k : Nat) (τ : Sg), k ≤ n → lkJ σ s p n k τ → n < k + N → AtW mX2_look Γ Ω τ 10 [some (.ref (ad Ω (iP p))), some (.ref (ad Ω (iS s))), some (.int (nI k))] [] := by
    intro N
    induction N with
    | zero =>
      intro k τ hk hτ hN
      exact absurd hN (by omega)
    | succ N ih =>
      intro k τ hk hτ hN
      have hτs : τ (iS s) 1 = nI n := by rw [hτ.2.2 _ (by unfold iS iP; omega) (by unfold iS iP; omega)]; exact hc
      have hme : ∀ a, a < 16 → hmS τ s n a = hmS σ s n a := fun a ha => hm_eq hs hn (fun q hq => hτ.2.2 q (by unfold iP; omega) (by unfold iP; omega)) ha
      refine r_iload_n dX2_look_10 rfl ?_
      refine r_aload_n dX2_look_11 rfl ?_
      refine fX2_0 p hp jX2_look_X2 lX2_look_30 dX2_look_12 ?_
      rw [hτ.1]
      refine r_icmp_ge 35 dX2_look_15 (by decide) (fun c15 => ?_) (fun c15 => ?_)
      ·
        replace c15 := Int32.not_lt.mpr c15
        have n15 := Nat.not_lt.mp (fun q => c15 ((nI_ltI (a := k) (b := n) (by omega) (by omega)).mpr q))
        have ek : n = k := by omega
        subst ek
        refine r_aload_n dX2_look_35 rfl ?_
        refine r_callVV (iP p) hL (ctX2_followChains l Ω _ p n hp (by omega) hτ.1) kX2_look_35 (iP_lt hp) ⟨_, _, _, cel_pic hp, rfl, rfl⟩ rfl rfl (Nat.le_of_ble_eq_true rfl) dX2_look_36 ?_
        intro σ1 hσ1
        refine r_aload_n dX2_look_39 rfl ?_
        refine r_aload_n dX2_look_40 rfl ?_
        refine r_callVV (iP p) hL (ctX2_draw l Ω σ1 p s n hp hs hn (by rw [hσ1, setA_ne (by omega)]; exact hτ.1)) kX2_look_38 (iP_lt hp) ⟨_, _, _, cel_pic hp, rfl, rfl⟩ rfl rfl (Nat.le_of_ble_eq_true rfl) dX2_look_41 ?_
        intro σ2 hσ2
        exact r_vret hQ rfl dX2_look_44 (reV_of (look_ok hs hn hτ hσ1 hσ2))
      ·
        replace c15 := Int32.not_le.mp c15
        have n15 := (nI_ltI (a := k) (b := n) (by omega) (by omega)).mp c15
        refine r_aload_n dX2_look_18 rfl ?_
        refine fX2_1 p hp jX2_look_X2 lX2_look_9 dX2_look_19 ?_
        refine r_iload_n dX2_look_22 rfl ?_
        refine r_aload_n dX2_look_23 rfl ?_
        refine r_iload_n dX2_look_24 rfl ?_
        refine r_callSI hL (ctX2_bitsHiddenBy l Ω _ s n hs (by omega) hτs k (by omega)) kX2_look_31 rfl rfl (Nat.le_of_ble_eq_true rfl) dX2_look_25 ?_
        rw [hme k (by omega)]
        refine stP1 p hp k rfl (by omega) dX2_look_28 ?_
        refine r_iinc (nI (k + 1)) dX2_look_29 rfl (nI_1 k) (by decide) rfl ?_
        refine r_goto 10 dX2_look_32 (by decide) ?_
        exact ih (k + 1) _ (by omega) (lkJ_step hτ) (by omega)
  exact L1 (n + 1) 0 _ (by omega) ⟨by simp [up_get], fun j hj => absurd hj (by omega), fun q a _ => up_ne a⟩ (by omega)
end
section
set_option maxRecDepth 100000 in
set_option maxHeartbeats 4000000 in
theorem ctX1_dropOldest (l : Launch) (Ω : Om) (σ : Sg) (c : Nat) (pm : Nat → Nat) (h0 : hOk σ c pm) : CtW l yX1_dropOldest wsX1_dropOldest (rmD 0) Ω [.ref (ad Ω 363)] σ (reV (fun σ1 => hOk σ1 3 (fun i => if i < 3 then pm (i + 1) else pm 0) ∧ ∀ q, q ≠ 363 → q ≠ 364 → σ1 q = σ q)) := by
  refine ct_intro [some (.ref (ad Ω 363)), none, none] (by decide) rfl rfl (Nat.le_of_ble_eq_true rfl) (fun Γ hL hQ => ?_)
  show AtW mX1_dropOldest Γ Ω σ 0 [some (.ref (ad Ω 363)), none, none] []
  refine r_aload_n dX1_dropOldest_0 rfl ?_
  refine fX1_0 jX1_dropOldest_X1 lX1_dropOldest_11 dX1_dropOldest_1 ?_
  refine r_iconst 0 dX1_dropOldest_4 (by decide) ?_
  refine r_aaldS 0 rfl (by omega) dX1_dropOldest_5 ?_
  rw [hOk_cl h0 (i := 0) (by omega)]
  refine r_astore_n dX1_dropOldest_6 (by decide) rfl ?_
  refine r_iconst 0 dX1_dropOldest_7 (by decide) ?_
  refine r_istore_n dX1_dropOldest_8 (by decide) rfl ?_
  have L1 : ∀ (N : Nat) (k : Nat) (τ : Sg), k ≤ 3 → drI σ pm k τ → 3 < k + N → AtW mX1_dropOldest Γ Ω τ 9 [some (.ref (ad Ω 363)), some (.ref (ad Ω (iS (pm 0)))), some (.int (nI k))] [] := by
    intro N
    induction N with
    | zero =>
      intro k τ hk hτ hN
      exact absurd hN (by omega)
    | succ N ih =>
      intro k τ hk hτ hN
      refine r_iload_n dX1_dropOldest_9 rfl ?_
      refine r_iconst 1 dX1_dropOldest_10 (by decide) ?_
      refine r_iadd dX1_dropOldest_11 ?_
      rw [nI_1]
      refine r_iconst 4 dX1_dropOldest_12 (by decide) ?_
      refine r_icmp_ge 36 dX1_dropOldest_13 (by decide) (fun c13 => ?_) (fun c13 => ?_)
      ·
        replace c13 := Int32.not_lt.mpr c13
        have n13 := Nat.not_lt.mp (fun q => c13 ((nI_ltI (a := k + 1) (b := 4) (by omega) (by omega)).mpr q))
        have ek : k = 3 := by omega
        subst ek
        refine r_aload_n dX1_dropOldest_36 rfl ?_
        refine fX1_0 jX1_dropOldest_X1 lX1_dropOldest_11 dX1_dropOldest_37 ?_
        refine r_iconst 3 dX1_dropOldest_40 (by decide) ?_
        refine r_aload_n dX1_dropOldest_41 rfl ?_
        refine r_aastS 3 rfl (by omega) (pm 0) (h0.2.2.1 _ (by omega)).2.2 dX1_dropOldest_42 ?_
        refine r_aload_n dX1_dropOldest_43 rfl ?_
        refine r_iconst 3 dX1_dropOldest_44 (by decide) ?_
        refine pX1_1 jX1_dropOldest_X1 lX1_dropOldest_18 dX1_dropOldest_45 ?_
        exact r_vret hQ rfl dX1_dropOldest_48 (reV_of (dr_end h0 hτ))
      ·
        replace c13 := Int32.not_le.mp c13
        have n13 := (nI_ltI (a := k + 1) (b := 4) (by omega) (by omega)).mp c13
        refine r_aload_n dX1_dropOldest_16 rfl ?_
        refine fX1_0 jX1_dropOldest_X1 lX1_dropOldest_11 dX1_dropOldest_17 ?_
        refine r_iload_n dX1_dropOldest_20 rfl ?_
        refine r_aload_n dX1_dropOldest_21 rfl ?_
        refine fX1_0 jX1_dropOldest_X1 lX1_dropOldest_11 dX1_dropOldest_22 ?_
        refine r_iload_n dX1_dropOldest_25 rfl ?_
        refine r_iconst 1 dX1_dropOldest_26 (by decide) ?_
        refine r_iadd dX1_dropOldest_27 ?_
        rw [nI_1]
        refine r_aaldS (k + 1) rfl (by omega) dX1_dropOldest_28 ?_
        rw [drI_cl h0 hτ (by omega)]
        refine r_aastS k rfl (by omega) (pm (k + 1)) (h0.2.2.1 _ (by omega)).2.2 dX1_dropOldest_29 ?_
        refine r_iinc (nI (k + 1)) dX1_dropOldest_30 rfl (nI_1 k) (by decide) rfl ?_
        refine r_goto 9 dX1_dropOldest_33 (by decide) ?_
        exact ih (k + 1) _ (by omega) (drI_step hτ) (by omega)
  exact L1 4 0 σ (by omega) ⟨fun i hi => by rw [if_neg (by omega)]; exact (h0.2.2.1 i hi).1, fun _ _ => rfl⟩ (by omega)

set_option maxRecDepth 100000 in
set_option maxHeartbeats 4000000 in
theorem ctX1_remember (l : Launch) (Ω : Om) (σ : Sg) (s n c : Nat) (pm : Nat → Nat) (h0 : hOk σ c pm) (hs : s < 3) (hn : n ≤ 16) (hc : σ (iS s) 1 = nI n) : CtW l yX1_remember wsX1_remember (rmD 3) Ω [.ref (ad Ω 363), .ref (ad Ω (iS s))] σ (reV (rmI σ s n c pm)) := by
  refine ct_intro [some (.ref (ad Ω 363)), some (.ref (ad Ω (iS s)))] (by decide) rfl rfl (Nat.le_of_ble_eq_true rfl) (fun Γ hL hQ => ?_)
  show AtW mX1_remember Γ Ω σ 0 [some (.ref (ad Ω 363)), some (.ref (ad Ω (iS s)))] []
  have h4 := h0.2.1
  have J1 : ∀ (τ : Sg) (c2 : Nat) (p2 : Nat → Nat) (g0 : hOk τ c2 p2) (g1 : ∀ q, q ≠ 363 → q ≠ 364 → τ q = σ q) (g2 : (c < 4 ∧ c2 = c ∧ p2 = pm ∧ τ = σ) ∨ (c = 4 ∧ c2 = 3 ∧ p2 = fun i => if i < 3 then pm (i + 1) else pm 0)), AtW mX1_remember Γ Ω τ 12 [some (.ref (ad Ω 363)), some (.ref (ad Ω (iS s)))] [] := by
    intro τ c2 p2 g0 g1 g2
    have hc2 : c2 < 4 := by omega
    have g3 : τ (iS s) 1 = nI n := by rw [g1 _ (by unfold iS; omega) (by unfold iS; omega)]; exact hc
    have hp2 := g0.2.2.1 c2 hc2
    refine r_aload_n dX1_remember_12 rfl ?_
    refine fX1_0 jX1_remember_X1 lX1_remember_11 dX1_remember_13 ?_
    refine r_aload_n dX1_remember_16 rfl ?_
    refine fX1_1 jX1_remember_X1 lX1_remember_18 dX1_remember_17 ?_
    rw [g0.1]
    refine r_aaldS c2 rfl (by omega) dX1_remember_20 ?_
    rw [hOk_cl g0 hc2]
    refine r_aload_n dX1_remember_21 rfl ?_
    refine r_callVV (iS (p2 c2)) hL (ctX3_copyFrom l Ω τ (p2 c2) s n hp2.2.2 (by omega) (by omega) hn g3) kX1_remember_25 (iS_lt (by omega)) ⟨_, _, _, cel_sp (by omega), rfl, rfl⟩ rfl rfl (Nat.le_of_ble_eq_true rfl) dX1_remember_22 ?_
    intro σ1 hσ1
    refine r_aload_n dX1_remember_25 rfl ?_
    refine r_dup dX1_remember_26 rfl ?_
    refine fX1_1 jX1_remember_X1 lX1_remember_18 dX1_remember_27 ?_
    refine r_iconst 1 dX1_remember_30 (by decide) ?_
    refine r_iadd dX1_remember_31 ?_
    refine pX1_1 jX1_remember_X1 lX1_remember_18 dX1_remember_32 ?_
    exact r_vret hQ rfl dX1_remember_35 (reV_of ⟨p2, τ, c2, g0, g1, g2, rmJ_ok hn hc2 g0 hσ1.1 hσ1.2⟩)
  refine r_aload_n dX1_remember_0 rfl ?_
  refine fX1_1 jX1_remember_X1 lX1_remember_18 dX1_remember_1 ?_
  rw [h0.1]
  refine r_iconst 4 dX1_remember_4 (by decide) ?_
  refine r_icmp_lt 12 dX1_remember_5 (by decide) (fun c5 => ?_) (fun c5 => ?_)
  ·
    have n5 := (nI_ltI (a := c) (b := 4) (by omega) (by omega)).mp c5
    exact J1 σ c pm h0 (fun _ _ _ => rfl) (Or.inl ⟨by omega, rfl, rfl, rfl⟩)
  ·
    have n5 := Nat.not_lt.mp (fun q => c5 ((nI_ltI (a := c) (b := 4) (by omega) (by omega)).mpr q))
    refine r_aload_n dX1_remember_8 rfl ?_
    refine r_callVV (363) hL (ctX1_dropOldest l Ω _ c pm h0) kX1_remember_22 (by omega) ⟨_, _, _, rfl, rfl, rfl⟩ rfl rfl (Nat.le_of_ble_eq_true rfl) dX1_remember_9 ?_
    intro σ1 hσ1
    exact J1 σ1 3 _ hσ1.1 hσ1.2 (Or.inr ⟨by have := h0.2.1; omega, rfl, rfl⟩)
end
section
/-! more of the main class: what its calls need -/
def reA (a : Nat) (g : Sg → Prop) : Option Value → Sg → Prop := fun rv σ' => rv = some (.ref a) ∧ g σ'
theorem r_callVA {M : MI} {Γ : GmW} {Ω : Om} {σ : Sg} {pc : Nat} {lv : List (Option Value)} {st : List Value} {l : Launch} {y : MethodName} {ws : List Cond} {rm : Room} {C : String} {index n a : Nat} {g : Sg → Prop} (q0 : Nat) {As rest : List Value} (hL : gL Γ = l) (hC : CtW l y ws rm Ω (.ref (ad Ω q0) :: As) σ (reA a g)) (hco : CoV M index C y ws rm n)
    (hq : q0 < 371) (hrecv : ∃ ci fs q, cel Ω σ q0 = .inr (ci, fs) ∧ vwCl[ci]? = some q ∧ q.1 = C) (hn : As.length = n) (hs : st = As.reverse ++ .ref (ad Ω q0) :: rest) (hc : (rest.map fun v => v.category).sum ≤ 8) (hd : decode (mB M) pc = .ok (.invokevirtual index, 3))
    (kk : ∀ σ1 : Sg, g σ1 → AtW M Γ Ω σ1 (pc + 3) lv (.ref a :: rest)) : AtW M Γ Ω σ pc lv st := r_callV q0 As rest hL hC hco hq hrecv hn hs hc hd (fun rv σ1 h => by obtain ⟨rfl, h⟩ := h; exact kk _ h)
theorem isV_pic {σ σ1 : Sg} {p t : Nat} {v : SpV} (h : isV σ t v) (ht : t < 7) (hq : ∀ q, (q < iP p ∨ iP p + 4 < q) → σ1 q = σ q) : isV σ1 t v := by
  refine isV_keep h (hq _ (by unfold iS iP; omega)) (fun j hj => ?_)
  have hb := bx_lt ht hj
  exact ⟨hq _ (by unfold iBo iP; omega), hq _ (by unfold iL iP; omega), hq _ (by unfold iH iP; omega)⟩
theorem keepC_nc {σ : Sg} {d : Nat} {x y : Int32} : keepC σ (upS (upS σ (iL 112) d x) (iH 112) d y) := by
  intro q hq
  have h1 : ¬ (336 ≤ q ∧ q ≤ 338) := fun e => hq (Or.inr (Or.inr (Or.inl e)))
  rw [up_ne (by unfold iH; omega), up_ne (by unfold iL; omega)]
theorem lay3 {σ : Sg} {v : SpV} (hv : isV σ 1 v) (x y z a b c : Int32) : ∃ τ, upS (upS (upS (upS (upS (upS σ (iL 112) 0 x) (iH 112) 0 (x + a)) (iL 112) 1 y) (iH 112) 1 (y + b)) (iL 112) 2 z) (iH 112) 2 (z + c) = τ ∧ keepC σ τ ∧ isV τ 1 v ∧ ∀ d, d < 3 → τ (iL 112) d = v3 x y z d ∧ τ (iH 112) d = v3 (x + a) (y + b) (z + c) d := by
  refine ⟨_, rfl, keepC_tr keepC_nc (keepC_tr keepC_nc keepC_nc), ?_, fun d hd => ?_⟩
  · have f : ∀ q, q ≠ iL 112 → q ≠ iH 112 → upS (upS (upS (upS (upS (upS σ (iL 112) 0 x) (iH 112) 0 (x + a)) (iL 112) 1 y) (iH 112) 1 (y + b)) (iL 112) 2 z) (iH 112) 2 (z + c) q = σ q := fun q h1 h2 => by
      rw [up_ne h2, up_ne h1, up_ne h2, up_ne h1, up_ne h2, up_ne h1]
    refine isV_keep hv (f _ (by unfold iS iL; omega) (by unfold iS iH; omega)) (fun j hj => ⟨f _ ?_ ?_, f _ ?_ ?_, f _ ?_ ?_⟩)
    · unfold iBo iL bx; omega
    · unfold iBo iH bx; omega
    · unfold iL bx; omega
    · unfold iL iH bx; omega
    · unfold iH iL bx; omega
    · unfold iH bx; omega
  · have hne : iL 112 ≠ iH 112 := by unfold iL iH; omega
    obtain rfl | rfl | rfl : d = 0 ∨ d = 1 ∨ d = 2 := by omega
    all_goals simp [up_get, hne, hne.symm, v3]
theorem v_entcut {σ : Sg} {v : SpV} {x y z a b c : Int32} (h : isV σ 1 v) (hl : ∀ d, d < 3 → σ (iL 112) d = v3 x y z d ∧ σ (iH 112) d = v3 (x + a) (y + b) (z + c) d) : anyb (fun k => !decide (nI k = -1) && ctBx (σ (iL (bx 1 k))) (σ (iH (bx 1 k))) (σ (iL 112)) (σ (iH 112))) (vN v) = entCut v x y z a b c := by
  have hn := h.1
  refine anyb_c (fun j hj => ?_)
  have h1 : ¬ nI j = -1 := fun e => by
    have h2 : (nI j).toInt = (j : Int) := nI_toInt (by omega)
    have h3 : (-1 : Int32).toInt = -1 := by decide
    rw [e, h3] at h2
    omega
  rw [decide_eq_false h1, ctBx_c (v_lo h hj) (v_hi h hj) (fun d hd => (hl d hd).1) (fun d hd => (hl d hd).2)]
  rfl
theorem keepC_ap {σ σ1 : Sg} {o n : Nat} {r : Int32} (hn : n < 16) (h : apS σ 1 o n r σ1) : keepC σ σ1 := by
  obtain ⟨-, -, -, -, -, -, f⟩ := h.2 hn
  intro q hq
  have h1 : ¬ (48 ≤ q ∧ q < 96) := fun e => hq (Or.inl e)
  refine f q (fun e => hq (Or.inr (Or.inl (by rw [e]; rfl)))) ?_ ?_ ?_
  · unfold iBo bx; omega
  · unfold iL bx; omega
  · unfold iH bx; omega
def enI (σ : Sg) (v : SpV) (x y z a b c : Int32) (r : Int32) (σ1 : Sg) : Prop := r = entA v x y z a b c ∧ keepC σ σ1 ∧ (entOk v x y z a b c = true → isV σ1 1 (entV v x y z a b c))
theorem ent_neg {v : SpV} {x y z a b c : Int32} (h0 : ¬ vX v < 0) (h : entA v x y z a b c < 0) : entOk v x y z a b c = false := by
  unfold entA at h
  unfold entOk
  cases e1 : entR x y z a b c <;> cases e2 : entCut v x y z a b c <;> by_cases e3 : vN v = 16 <;> simp_all
  exact absurd h (Int32.not_lt.mpr h0)
theorem ent_pos {v : SpV} {x y z a b c : Int32} (h : ¬ entA v x y z a b c < 0) : entOk v x y z a b c = true ∧ entA v x y z a b c = vX v := by
  unfold entA at h ⊢
  unfold entOk
  cases e1 : entR x y z a b c <;> cases e2 : entCut v x y z a b c <;> by_cases e3 : vN v = 16 <;> simp_all
theorem ent_r1 {v : SpV} {x y z a b c : Int32} (h : inRg x a = false ∨ inRg y b = false ∨ inRg z c = false) : entA v x y z a b c = -2 ∧ entOk v x y z a b c = false := by
  unfold entA entOk entR
  rcases h with h | h | h <;> simp [h]
theorem gr_some {v : SpV} (h : ¬ oI (grV v) = -1) : ∃ k, k < vN v ∧ grV v = some k := by
  cases e : grV v with
  | none => rw [e] at h; exact absurd rfl h
  | some k => exact ⟨k, bestO_lt e, rfl⟩
theorem gr_none {v : SpV} (hn : vN v ≤ 16) (h : oI (grV v) = -1) : grV v = none := oI_none hn rfl h
theorem lgd_c {f g : Nat → Int32} {n : Nat} (h : ∀ k, k ≤ n → f k = g k) : ∀ m, m ≤ n → lgd f m = lgd g m
  | 0, _ => rfl
  | m + 1, hm => by
    have e := lgd_c h m (by omega)
    have hl := lgd_le g m
    rw [lgd, lgd, e, h _ hm, h _ (show lgd g m ≤ n by omega)]
theorem v_lgd {σ : Sg} {s k : Nat} {v : SpV} (h : isV σ s v) (hk : k < vN v) : lgd (szB σ (bx s k)) 2 = brD v k := lgd_c (n := 2) (fun d hd => v_sz h hk (by omega)) 2 (by omega)
theorem brD_lt (v : SpV) (k : Nat) : brD v k < 3 := by
  have := lgd_le (szG (vLo v) (vHi v) k) 2
  unfold brD
  omega
def bkI (σ : Sg) (v : SpV) (r : Int32) (σ2 : Sg) : Prop := r = brA v ∧ keepC σ σ2 ∧ (brO v = none ∨ ∃ w, brO v = some w ∧ isV σ2 1 w)
theorem br_none {v : SpV} (h : grV v = none) : brA v = -5 ∧ brO v = none := by
  unfold brA brO
  rw [h]
  exact ⟨rfl, rfl⟩
theorem br_one {v : SpV} {k : Nat} (h : grV v = some k) (h1 : ¬ 1 < szG (vLo v) (vHi v) k (brD v k)) : brA v = -4 ∧ brO v = none := by
  unfold brA brO
  rw [h]
  simp only [if_neg h1]
  exact ⟨trivial, trivial⟩
theorem br_full {v : SpV} {k : Nat} (h : grV v = some k) (h1 : 1 < szG (vLo v) (vHi v) k (brD v k)) (h2 : vN v = 16) : brA v = -3 ∧ brO v = none := by
  unfold brA brO
  rw [h]
  simp only [if_pos h1, if_pos h2]
  exact ⟨trivial, trivial⟩
theorem br_yes {v : SpV} {k : Nat} (h : grV v = some k) (h1 : 1 < szG (vLo v) (vHi v) k (brD v k)) (h2 : ¬ vN v = 16) : brA v = vX v ∧ brO v = some (brV v k) := by
  unfold brA brO
  rw [h]
  simp only [if_pos h1, if_neg h2]
  exact ⟨trivial, trivial⟩
theorem br_cases (v : SpV) : (brO v = none ∧ (brA v = -5 ∨ brA v = -4 ∨ brA v = -3)) ∨ ∃ k, grV v = some k ∧ k < vN v ∧ ¬ vN v = 16 ∧ brA v = vX v ∧ brO v = some (brV v k) := by
  cases e : grV v with
  | none => exact Or.inl ⟨(br_none e).2, Or.inl (br_none e).1⟩
  | some k =>
    by_cases h1 : 1 < szG (vLo v) (vHi v) k (brD v k)
    · by_cases h2 : vN v = 16
      · exact Or.inl ⟨(br_full e h1 h2).2, Or.inr (Or.inr (br_full e h1 h2).1)⟩
      · exact Or.inr ⟨k, rfl, bestO_lt e, h2, (br_yes e h1 h2).1, (br_yes e h1 h2).2⟩
    · exact Or.inl ⟨(br_one e h1).2, Or.inr (Or.inl (br_one e h1).1)⟩
/-- the boxes that are drawn are boxes -/
theorem drS_ix {n : Nat} {h wt o0 l0 : Nat → Int32} : ∀ {m j : Nat}, (∀ i, i < m → (nxO n h wt (drS n h wt o0 l0 i).1).isNone = false) → j < m → ∃ b, b < n ∧ (drS n h wt o0 l0 m).2.1 j = nI b
  | 0, j, _, hj => by omega
  | m + 1, j, hq, hj => by
    have hm := hq m (Nat.lt_succ_self m)
    cases hb : nxO n h wt (drS n h wt o0 l0 m).1 with
    | none => rw [hb] at hm; cases hm
    | some b =>
      rw [drS, hb]
      simp only [upd]
      by_cases e : j = m
      · rw [if_pos e]
        exact ⟨b, bestO_lt hb, rfl⟩
      · rw [if_neg e]
        exact drS_ix (fun i hi => hq i (Nat.lt_succ_of_lt hi)) (by omega)
theorem OV_ix {v : SpV} {j : Nat} (hj : j < DCv v) : ∃ b, b < vN v ∧ OV v j = nI b := by
  have hle : DCv v ≤ vN v := ffi_le _ _
  have e : OV v j = (DV v (DCv v)).2.1 j := drS_ord (j := DCv v) hle hj
  rw [e]
  exact drS_ix (fun i hi => ffi_no (p := fun j => (nxO (vN v) (HV v) (WVv v) (drS (vN v) (HV v) (WVv v) (fun _ => 0) (fun _ => -5) j).1).isNone) (n := vN v) hi) hj
theorem nI_nm1 {k : Nat} (h : k < 2 ^ 31) : ¬ nI k = -1 := fun e => by
  have h2 : (nI k).toInt = (k : Int) := nI_toInt h
  have h3 : (-1 : Int32).toInt = -1 := by decide
  rw [e, h3] at h2
  omega
theorem dr_some {v : SpV} {x : Int32} {f : Nat → Int32} (hn : vN v ≤ 16) (hf : ∀ j, j < DCv v → f j = OV v j) (h0 : ¬ x < 0) (h : ¬ (if x < 0 ∨ nI (DCv v) ≤ x then (-1 : Int32) else f x.toNatClampNeg) = -1) : ∃ j b, j < DCv v ∧ b < vN v ∧ x = nI j ∧ OV v j = nI b ∧ (if x < 0 ∨ nI (DCv v) ≤ x then (-1 : Int32) else f x.toNatClampNeg) = nI b := by
  have hle : DCv v ≤ vN v := ffi_le _ _
  by_cases c : x < 0 ∨ nI (DCv v) ≤ x
  · rw [if_pos c] at h
    exact absurd rfl h
  · rw [if_neg c]
    obtain ⟨j, hj, rfl⟩ := slot_ix h0 (Int32.not_le.mp (fun q => c (Or.inr q))) (by omega)
    obtain ⟨b, hb, e⟩ := OV_ix hj
    exact ⟨j, b, hj, hb, rfl, e, by rw [nI_clamp (by omega), hf j hj, e]⟩
theorem dr_none {v : SpV} {x : Int32} {f : Nat → Int32} (hn : vN v ≤ 16) (hf : ∀ j, j < DCv v → f j = OV v j) (h0 : ¬ x < 0) (h : (if x < 0 ∨ nI (DCv v) ≤ x then (-1 : Int32) else f x.toNatClampNeg) = -1) : ¬ x < nI (DCv v) := by
  have hle : DCv v ≤ vN v := ffi_le _ _
  intro c
  obtain ⟨j, hj, rfl⟩ := slot_ix h0 c (by omega)
  obtain ⟨b, hb, e⟩ := OV_ix hj
  rw [if_neg (by rintro (q | q); exact h0 q; exact Int32.not_le.mpr c q), nI_clamp (by omega), hf j hj, e] at h
  exact nI_nm1 (by omega) h
theorem fI_some {p : Nat → Bool} {n : Nat} (h : ¬ fI p n = -1) : ∃ k, k < n ∧ fI p n = nI k := by
  unfold fI at h ⊢
  by_cases c : ffi p n < n
  · exact ⟨_, c, by rw [if_pos c]⟩
  · rw [if_neg c] at h
    exact absurd rfl h
theorem waI_v {v : SpV} {k p : Nat} {σ1 : Sg} (h : pcV v p σ1) (hk : k < vN v) : fI (fun j => hasB (σ1 (iP p + 1) k) j && !hasB (σ1 (iP p) 4) j) (vN v) = waI v k := by
  unfold waI
  rw [(h.2.1 k hk).1, h.2.2.1]
theorem sw_out {x : Int32} {m : Nat} (hm : m < 1000) (h : ∀ k, k ≤ m → ¬ x = nI k) : x.toInt < 0 ∨ (m : Int) < x.toInt := by
  rcases pk_ix x (show m + 1 < 2 ^ 31 by omega) with q | q | ⟨j, hj, q⟩
  · refine Or.inl ?_
    have := Int32.lt_iff_toInt_lt.mp q
    simpa using this
  · refine Or.inr ?_
    have h1 := Int32.le_iff_toInt_le.mp q
    rw [nI_toInt (by omega)] at h1
    omega
  · exact absurd q (h j (by omega))
theorem ofA_0 (v : SpV) (k : Nat) : ofA v k 0 = voG (vLo v) (vHi v) k := by
  unfold ofA
  rw [if_pos rfl]
theorem ofA_1 (v : SpV) (k : Nat) : ofA v k 1 = bcI (HV v k) := by
  unfold ofA
  rw [if_neg (by decide), if_pos rfl]
theorem ofA_2 (v : SpV) (k : Nat) : ofA v k 2 = cntI (fun j => hasB (HV v j) k) (vN v) := by
  unfold ofA
  rw [if_neg (by decide), if_neg (by decide), if_pos rfl]
theorem ofA_3 (v : SpV) (k : Nat) : ofA v k 3 = LV v k := by
  unfold ofA
  rw [if_neg (by decide), if_neg (by decide), if_neg (by decide), if_pos rfl]
theorem ofA_4 (v : SpV) (k : Nat) : ofA v k 4 = srO (HV v) (vN v) k := by
  unfold ofA
  rw [if_neg (by decide), if_neg (by decide), if_neg (by decide), if_neg (by decide), if_pos rfl]
theorem ofA_5 (v : SpV) (k : Nat) : ofA v k 5 = supV v k := by
  unfold ofA
  rw [if_neg (by decide), if_neg (by decide), if_neg (by decide), if_neg (by decide), if_neg (by decide), if_pos rfl]
theorem ofA_6 (v : SpV) (k : Nat) : ofA v k 6 = belV v k := by
  unfold ofA
  rw [if_neg (by decide), if_neg (by decide), if_neg (by decide), if_neg (by decide), if_neg (by decide), if_neg (by decide), if_pos rfl]
theorem ofA_7 (v : SpV) (k : Nat) : ofA v k 7 = shaV v k := by
  unfold ofA
  rw [if_neg (by decide), if_neg (by decide), if_neg (by decide), if_neg (by decide), if_neg (by decide), if_neg (by decide), if_neg (by decide), if_pos rfl]
theorem ofA_8 (v : SpV) (k : Nat) : ofA v k 8 = (if vLo v k 2 = 0 then 1 else if 0 < supV v k then 1 else 0) := by
  unfold ofA
  rw [if_neg (by decide), if_neg (by decide), if_neg (by decide), if_neg (by decide), if_neg (by decide), if_neg (by decide), if_neg (by decide), if_neg (by decide), if_pos rfl]
theorem ofA_d {v : SpV} {k : Nat} {w : Int32} (h : ∀ j, j ≤ 8 → ¬ w = nI j) : ofA v k w = -2 := by
  unfold ofA
  rw [if_neg (show ¬ w = 0 from h 0 (by omega)), if_neg (show ¬ w = 1 from h 1 (by omega)), if_neg (show ¬ w = 2 from h 2 (by omega)), if_neg (show ¬ w = 3 from h 3 (by omega)), if_neg (show ¬ w = 4 from h 4 (by omega)), if_neg (show ¬ w = 5 from h 5 (by omega)), if_neg (show ¬ w = 6 from h 6 (by omega)), if_neg (show ¬ w = 7 from h 7 (by omega)), if_neg (show ¬ w = 8 from h 8 (by omega))]
theorem toA_0 (S : StV) : toA S 0 = nI (vN (qC S)) := by
  unfold toA
  rw [if_pos rfl]
theorem toA_1 (S : StV) : toA S 1 = vX (qC S) := by
  unfold toA
  rw [if_neg (by decide), if_pos rfl]
theorem toA_2 (S : StV) : toA S 2 = sumI (fun k => bcI (HV (qC S) k)) (vN (qC S)) := by
  unfold toA
  rw [if_neg (by decide), if_neg (by decide), if_pos rfl]
theorem toA_3 (S : StV) : toA S 3 = nI (DCv (qC S)) := by
  unfold toA
  rw [if_neg (by decide), if_neg (by decide), if_neg (by decide), if_pos rfl]
theorem toA_4 (S : StV) : toA S 4 = cntI (fun k => hasB (CVv (qC S) k) k) (vN (qC S)) := by
  unfold toA
  rw [if_neg (by decide), if_neg (by decide), if_neg (by decide), if_neg (by decide), if_pos rfl]
theorem toA_5 (S : StV) : toA S 5 = srI (HV (qC S)) (vN (qC S)) (vN (qC S)) := by
  unfold toA
  rw [if_neg (by decide), if_neg (by decide), if_neg (by decide), if_neg (by decide), if_neg (by decide), if_pos rfl]
theorem toA_6 (S : StV) : toA S 6 = glI (LV (qC S)) (vN (qC S)) := by
  unfold toA
  rw [if_neg (by decide), if_neg (by decide), if_neg (by decide), if_neg (by decide), if_neg (by decide), if_neg (by decide), if_pos rfl]
theorem toA_7 (S : StV) : toA S 7 = vSp (qC S) := by
  unfold toA
  rw [if_neg (by decide), if_neg (by decide), if_neg (by decide), if_neg (by decide), if_neg (by decide), if_neg (by decide), if_neg (by decide), if_pos rfl]
theorem toA_8 (S : StV) : toA S 8 = sumI (voG (vLo (qC S)) (vHi (qC S))) (vN (qC S)) := by
  unfold toA
  rw [if_neg (by decide), if_neg (by decide), if_neg (by decide), if_neg (by decide), if_neg (by decide), if_neg (by decide), if_neg (by decide), if_neg (by decide), if_pos rfl]
theorem toA_9 (S : StV) : toA S 9 = sumI (shaV (qC S)) (vN (qC S)) := by
  unfold toA
  rw [if_neg (by decide), if_neg (by decide), if_neg (by decide), if_neg (by decide), if_neg (by decide), if_neg (by decide), if_neg (by decide), if_neg (by decide), if_neg (by decide), if_pos rfl]
theorem toA_10 (S : StV) : toA S 10 = vRu (qC S) := by
  unfold toA
  rw [if_neg (by decide), if_neg (by decide), if_neg (by decide), if_neg (by decide), if_neg (by decide), if_neg (by decide), if_neg (by decide), if_neg (by decide), if_neg (by decide), if_neg (by decide), if_pos rfl]
theorem toA_11 (S : StV) : toA S 11 = nI (qN S) := by
  unfold toA
  rw [if_neg (by decide), if_neg (by decide), if_neg (by decide), if_neg (by decide), if_neg (by decide), if_neg (by decide), if_neg (by decide), if_neg (by decide), if_neg (by decide), if_neg (by decide), if_neg (by decide), if_pos rfl]
theorem toA_12 (S : StV) : toA S 12 = nI (qL S) := by
  unfold toA
  rw [if_neg (by decide), if_neg (by decide), if_neg (by decide), if_neg (by decide), if_neg (by decide), if_neg (by decide), if_neg (by decide), if_neg (by decide), if_neg (by decide), if_neg (by decide), if_neg (by decide), if_neg (by decide), if_pos rfl]
theorem toA_d {S : StV} {w : Int32} (h : ∀ j, j ≤ 12 → ¬ w = nI j) : toA S w = -2 := by
  unfold toA
  rw [if_neg (show ¬ w = 0 from h 0 (by omega)), if_neg (show ¬ w = 1 from h 1 (by omega)), if_neg (show ¬ w = 2 from h 2 (by omega)), if_neg (show ¬ w = 3 from h 3 (by omega)), if_neg (show ¬ w = 4 from h 4 (by omega)), if_neg (show ¬ w = 5 from h 5 (by omega)), if_neg (show ¬ w = 6 from h 6 (by omega)), if_neg (show ¬ w = 7 from h 7 (by omega)), if_neg (show ¬ w = 8 from h 8 (by omega)), if_neg (show ¬ w = 9 from h 9 (by omega)), if_neg (show ¬ w = 10 from h 10 (by omega)), if_neg (show ¬ w = 11 from h 11 (by omega)), if_neg (show ¬ w = 12 from h 12 (by omega))]
theorem br_neg {v : SpV} (h : brO v = none) : brA v < 0 := by
  rcases br_cases v with ⟨_, q⟩ | ⟨k, _, _, _, _, q⟩
  · rcases q with q | q | q <;> rw [q] <;> decide
  · rw [h] at q
    cases q
theorem nI_nm5 {k : Nat} (h : k < 2 ^ 31) : ¬ nI k = -5 := fun e => by
  have h2 : (nI k).toInt = (k : Int) := nI_toInt h
  have h3 : (-5 : Int32).toInt = -5 := by decide
  rw [e, h3] at h2
  omega
theorem keepC_qt {σ σ1 : Sg} {n : Nat} (h : qtI σ 1 n σ1) : keepC σ σ1 := fun q hq => h.2.2 q (fun j hj => by
  have h1 : ¬ (48 ≤ q ∧ q < 96) := fun x => hq (Or.inl x)
  refine ⟨?_, ?_, ?_⟩
  · unfold iBo bx; omega
  · unfold iL bx; omega
  · unfold iH bx; omega)
end
section
set_option maxRecDepth 100000 in
set_option maxHeartbeats 4000000 in
theorem ctX5_isDirection (l : Launch) (Ω : Om) (σ : Sg) (d : Int32) : CtW l yX5_isDirection wsX5_isDirection (rmD 0) Ω [.int d] σ (roI (bI (dirB d)) σ) := by
  refine ct_intro [some (.int d)] (by decide) rfl rfl (Nat.le_of_ble_eq_true rfl) (fun Γ hL hQ => ?_)
  show AtW mX5_isDirection Γ Ω σ 0 [some (.int d)] []
  refine r_iload_n dX5_isDirection_0 rfl ?_
  refine r_if_lt 13 dX5_isDirection_1 (by decide) (fun c1 => ?_) (fun c1 => ?_)
  ·
    refine r_iconst 0 dX5_isDirection_13 (by decide) ?_
    exact r_zret hQ rfl ((by decide)) dX5_isDirection_14 (roI_of (by simp [dirB, bI, *]))
  ·
    refine r_iload_n dX5_isDirection_4 rfl ?_
    refine r_iconst 3 dX5_isDirection_5 (by decide) ?_
    refine r_icmp_ge 13 dX5_isDirection_6 (by decide) (fun c6 => ?_) (fun c6 => ?_)
    ·
      replace c6 := Int32.not_lt.mpr c6
      refine r_iconst 0 dX5_isDirection_13 (by decide) ?_
      exact r_zret hQ rfl ((by decide)) dX5_isDirection_14 (roI_of (by simp [dirB, bI, *]))
    ·
      replace c6 := Int32.not_le.mp c6
      refine r_iconst 1 dX5_isDirection_9 (by decide) ?_
      refine r_goto 14 dX5_isDirection_10 (by decide) ?_
      exact r_zret hQ rfl ((by decide)) dX5_isDirection_14 (roI_of (by simp [dirB, bI, *]))

set_option maxRecDepth 100000 in
set_option maxHeartbeats 4000000 in
theorem ctX5_adoptTrial (l : Launch) (Ω : Om) (σ : Sg) (S : StV) (h : isC σ S) (w : SpV) (hw : isV σ 1 w) : CtW l yX5_adoptTrial wsX5_adoptTrial (rmD 4) Ω [.ref (ad Ω 368)] σ (reV (fun σ1 => isC σ1 (pushS S w) ∧ isV σ1 1 w ∧ keepM σ σ1)) := by
  refine ct_intro [some (.ref (ad Ω 368))] (by decide) rfl rfl (Nat.le_of_ble_eq_true rfl) (fun Γ hL hQ => ?_)
  show AtW mX5_adoptTrial Γ Ω σ 0 [some (.ref (ad Ω 368))] []
  obtain ⟨hv, ⟨pm, h0, hh⟩, hp, ht⟩ := id h
  have hn : vN (qC S) ≤ 16 := hv.1
  have hc : σ (iS 0) 1 = nI (vN (qC S)) := hv.2.1
  refine r_aload_n dX5_adoptTrial_0 rfl ?_
  refine fX5_4 jX5_adoptTrial_X5 lX5_adoptTrial_25 dX5_adoptTrial_1 ?_
  refine r_aload_n dX5_adoptTrial_4 rfl ?_
  refine fX5_0 jX5_adoptTrial_X5 lX5_adoptTrial_10 dX5_adoptTrial_5 ?_
  refine r_callVV (363) hL (ctX1_remember l Ω _ 0 (vN (qC S)) (qN S) pm h0 (by omega) hn hc) kX5_adoptTrial_218 (by omega) ⟨_, _, _, rfl, rfl, rfl⟩ rfl rfl (Nat.le_of_ble_eq_true rfl) dX5_adoptTrial_8 ?_
  intro σ1 hσ1
  refine r_aload_n dX5_adoptTrial_11 rfl ?_
  refine fX5_0 jX5_adoptTrial_X5 lX5_adoptTrial_10 dX5_adoptTrial_12 ?_
  refine r_aload_n dX5_adoptTrial_15 rfl ?_
  refine fX5_1 jX5_adoptTrial_X5 lX5_adoptTrial_16 dX5_adoptTrial_16 ?_
  refine r_callVV (iS 0) hL (ctX3_copyFrom l Ω σ1 0 1 (vN w) (by omega) (by omega) (by omega) hw.1 (rm_keep1 h0 hw hσ1).2.1) kX5_adoptTrial_57 (iS_lt (by omega)) ⟨_, _, _, cel_sp (by omega), rfl, rfl⟩ rfl rfl (Nat.le_of_ble_eq_true rfl) dX5_adoptTrial_19 ?_
  intro σ2 hσ2
  exact r_vret hQ rfl dX5_adoptTrial_22 (reV_of (adopt_ok hv h0 hh hp ht hw hσ1 hσ2.1 hσ2.2))

set_option maxRecDepth 100000 in
set_option maxHeartbeats 4000000 in
theorem ctX5_remove (l : Launch) (Ω : Om) (σ : Sg) (S : StV) (h : isC σ S) (x : Int32) : CtW l yX5_remove wsX5_remove (rmD 5) Ω [.ref (ad Ω 368), .int x] σ (reJ (okC σ (oRemove S x))) := by
  refine ct_intro [some (.ref (ad Ω 368)), some (.int x), none, none] (by decide) rfl rfl (Nat.le_of_ble_eq_true rfl) (fun Γ hL hQ => ?_)
  show AtW mX5_remove Γ Ω σ 0 [some (.ref (ad Ω 368)), some (.int x), none, none] []
  obtain ⟨hv, ⟨pm, h0, hh⟩, hp, ht⟩ := id h
  have hn : vN (qC S) ≤ 16 := hv.1
  have hc : σ (iS 0) 1 = nI (vN (qC S)) := hv.2.1
  refine r_aload_n dX5_remove_0 rfl ?_
  refine fX5_0 jX5_remove_X5 lX5_remove_10 dX5_remove_1 ?_
  refine r_iload_n dX5_remove_4 rfl ?_
  refine r_callVI (iS 0) hL (ctX3_slotOf l Ω _ 0 (vN (qC S)) (by omega) hn hc _) kX5_remove_68 (iS_lt (by omega)) ⟨_, _, _, cel_sp (by omega), rfl, rfl⟩ rfl rfl (Nat.le_of_ble_eq_true rfl) dX5_remove_5 ?_
  rw [v_slot hv]
  refine r_istore_n dX5_remove_8 (by decide) rfl ?_
  refine r_iload_n dX5_remove_9 rfl ?_
  refine r_iconst (-1) dX5_remove_10 (by decide) ?_
  refine r_icmp_ne 16 dX5_remove_11 (by decide) (fun c11 => ?_) (fun c11 => ?_)
  ·
    obtain ⟨k, hk, ek, e2⟩ := loc_some c11
    rw [e2]
    refine r_aload_n dX5_remove_16 rfl ?_
    refine fX5_0 jX5_remove_X5 lX5_remove_10 dX5_remove_17 ?_
    refine fX3_0 0 (by omega) jX5_remove_X3 lX5_remove_72 dX5_remove_20 ?_
    refine r_iload_n dX5_remove_23 rfl ?_
    refine r_aaldB 0 (by omega) k rfl (by omega) dX5_remove_24 ?_
    refine r_callVI (iBo (bx 0 k)) hL (ctX0_volume l Ω _ (bx 0 k) (bx_lt (by omega) (by omega))) kX5_remove_76 (iB_lt (bx_lt (by omega) (by omega))) ⟨_, _, _, cel_box (bx_lt (by omega) (by omega)), rfl, rfl⟩ rfl rfl (Nat.le_of_ble_eq_true rfl) dX5_remove_25 ?_
    rw [v_vo hv hk]
    refine r_istore_n dX5_remove_28 (by decide) rfl ?_
    refine r_aload_n dX5_remove_29 rfl ?_
    refine fX5_1 jX5_remove_X5 lX5_remove_16 dX5_remove_30 ?_
    refine r_aload_n dX5_remove_33 rfl ?_
    refine fX5_0 jX5_remove_X5 lX5_remove_10 dX5_remove_34 ?_
    refine r_callVV (iS 1) hL (ctX3_copyFrom l Ω σ 1 0 _ (by omega) (by omega) (by omega) hn hc) kX5_remove_57 (iS_lt (by omega)) ⟨_, _, _, cel_sp (by omega), rfl, rfl⟩ rfl rfl (Nat.le_of_ble_eq_true rfl) dX5_remove_37 ?_
    intro σ1 hσ1
    have k1 : keepC σ σ1 := keepC_fr hσ1.2
    have v1 : isV σ1 1 (qC S) := isV_sp hv hσ1.1
    refine r_aload_n dX5_remove_40 rfl ?_
    refine fX5_1 jX5_remove_X5 lX5_remove_16 dX5_remove_41 ?_
    refine r_iload_n dX5_remove_44 rfl ?_
    refine r_callVV (iS 1) hL (ctX3_takeOut l Ω _ 1 (vN (qC S)) (by omega) hn v1.2.1 k hk) kX5_remove_80 (iS_lt (by omega)) ⟨_, _, _, cel_sp (by omega), rfl, rfl⟩ rfl rfl (Nat.le_of_ble_eq_true rfl) dX5_remove_45 ?_
    intro σ2 hσ2
    have v2 := isV_take v1 hk hσ2
    have k2 := keepC_tr k1 (keepC_fr hσ2.2.2.2)
    refine r_aload_n dX5_remove_48 rfl ?_
    refine r_callVV (368) hL (ctX5_adoptTrial l Ω σ2 S (isC_kc h k2) (rmV (qC S) k) v2) kX5_remove_65 (by omega) ⟨_, _, _, rfl, rfl, rfl⟩ rfl rfl (Nat.le_of_ble_eq_true rfl) dX5_remove_49 ?_
    intro σ3 hσ3
    refine r_iload_n dX5_remove_52 rfl ?_
    exact r_iret hQ rfl dX5_remove_53 (reJ_of (okC_of (by rw [oRemove, ek]) hσ3.1 (keepM_tr (keepM_kc k2) hσ3.2.2)))
  ·
    have ek := loc_none hn c11
    refine r_iconst (-1) dX5_remove_14 (by decide) ?_
    exact r_iret hQ rfl dX5_remove_15 (reJ_of (okC_of (by rw [oRemove, ek]) h (fun _ _ => rfl)))

set_option maxRecDepth 100000 in
set_option maxHeartbeats 4000000 in
theorem ctX5_move (l : Launch) (Ω : Om) (σ : Sg) (S : StV) (h : isC σ S) (x d y : Int32) : CtW l yX5_move wsX5_move (rmD 5) Ω [.ref (ad Ω 368), .int x, .int d, .int y] σ (reJ (okC σ (oMove S x d y))) := by
  refine ct_intro [some (.ref (ad Ω 368)), some (.int x), some (.int d), some (.int y), none, none] (by decide) rfl rfl (Nat.le_of_ble_eq_true rfl) (fun Γ hL hQ => ?_)
  show AtW mX5_move Γ Ω σ 0 [some (.ref (ad Ω 368)), some (.int x), some (.int d), some (.int y), none, none] []
  obtain ⟨hv, ⟨pm, h0, hh⟩, hp, ht⟩ := id h
  have hn : vN (qC S) ≤ 16 := hv.1
  have hc : σ (iS 0) 1 = nI (vN (qC S)) := hv.2.1
  refine r_aload_n dX5_move_0 rfl ?_
  refine fX5_0 jX5_move_X5 lX5_move_10 dX5_move_1 ?_
  refine r_iload_n dX5_move_4 rfl ?_
  refine r_callVI (iS 0) hL (ctX3_slotOf l Ω _ 0 (vN (qC S)) (by omega) hn hc _) kX5_move_68 (iS_lt (by omega)) ⟨_, _, _, cel_sp (by omega), rfl, rfl⟩ rfl rfl (Nat.le_of_ble_eq_true rfl) dX5_move_5 ?_
  rw [v_slot hv]
  refine r_istore dX5_move_8 (by decide) rfl ?_
  refine r_iload dX5_move_10 rfl ?_
  refine r_iconst (-1) dX5_move_12 (by decide) ?_
  refine r_icmp_eq 23 dX5_move_13 (by decide) (fun c13 => ?_) (fun c13 => ?_)
  ·
    have ek := loc_none hn c13
    refine r_iconst (-1) dX5_move_23 (by decide) ?_
    exact r_iret hQ rfl dX5_move_24 (reJ_of (okC_of (oMove_no (Or.inl ek)) h (fun _ _ => rfl)))
  ·
    obtain ⟨k, hk, ek, e2⟩ := loc_some c13
    rw [e2]
    refine r_iload_n dX5_move_16 rfl ?_
    refine r_callSI hL (ctX5_isDirection l Ω _ _) kX5_move_84 rfl rfl (Nat.le_of_ble_eq_true rfl) dX5_move_17 ?_
    refine r_if_ne 25 dX5_move_20 (by decide) (fun c20 => ?_) (fun c20 => ?_)
    ·
      replace c20 := bI_t c20
      obtain ⟨e, he, rfl⟩ := dir_ix c20
      refine r_aload_n dX5_move_25 rfl ?_
      refine fX5_1 jX5_move_X5 lX5_move_16 dX5_move_26 ?_
      refine r_aload_n dX5_move_29 rfl ?_
      refine fX5_0 jX5_move_X5 lX5_move_10 dX5_move_30 ?_
      refine r_callVV (iS 1) hL (ctX3_copyFrom l Ω σ 1 0 _ (by omega) (by omega) (by omega) hn hc) kX5_move_57 (iS_lt (by omega)) ⟨_, _, _, cel_sp (by omega), rfl, rfl⟩ rfl rfl (Nat.le_of_ble_eq_true rfl) dX5_move_33 ?_
      intro σ1 hσ1
      have k1 : keepC σ σ1 := keepC_fr hσ1.2
      have v1 : isV σ1 1 (qC S) := isV_sp hv hσ1.1
      refine r_aload_n dX5_move_36 rfl ?_
      refine fX5_1 jX5_move_X5 lX5_move_16 dX5_move_37 ?_
      refine fX3_0 1 (by omega) jX5_move_X3 lX5_move_72 dX5_move_40 ?_
      refine r_iload dX5_move_43 rfl ?_
      refine r_aaldB 1 (by omega) k rfl (by omega) dX5_move_45 ?_
      refine r_astore dX5_move_46 (by decide) rfl ?_
      refine r_iload_n dX5_move_48 rfl ?_
      refine r_aload dX5_move_49 rfl ?_
      refine fX0_1 (bx 1 k) (bx_lt (by omega) (by omega)) jX5_move_X0 lX5_move_88 dX5_move_51 ?_
      refine r_iload_n dX5_move_54 rfl ?_
      refine ldL (bx 1 k) (bx_lt (by omega) (by omega)) e rfl (by omega) dX5_move_55 ?_
      rw [v_lo v1 hk e he]
      refine r_ineg dX5_move_56 ?_
      refine r_icmp_lt 74 dX5_move_57 (by decide) (fun c57 => ?_) (fun c57 => ?_)
      ·
        refine r_bipush (-2) dX5_move_74 (by decide) ?_
        exact r_iret hQ rfl dX5_move_76 (reJ_of (okC_of (by rw [oMove_at ek c20, nI_clamp (by omega), if_pos c57]) (isC_kc h k1) (keepM_kc k1)))
      ·
        refine r_iload_n dX5_move_60 rfl ?_
        refine r_bipush 32 dX5_move_61 (by decide) ?_
        refine r_aload dX5_move_63 rfl ?_
        refine fX0_2 (bx 1 k) (bx_lt (by omega) (by omega)) jX5_move_X0 lX5_move_92 dX5_move_65 ?_
        refine r_iload_n dX5_move_68 rfl ?_
        refine ldH (bx 1 k) (bx_lt (by omega) (by omega)) e rfl (by omega) dX5_move_69 ?_
        rw [v_hi v1 hk e he]
        refine r_isub dX5_move_70 ?_
        refine r_icmp_le 77 dX5_move_71 (by decide) (fun c71 => ?_) (fun c71 => ?_)
        ·
          replace c71 := Int32.not_lt.mpr c71
          refine r_aload dX5_move_77 rfl ?_
          refine r_iload_n dX5_move_79 rfl ?_
          refine r_iload_n dX5_move_80 rfl ?_
          refine r_callVV (iBo (bx 1 k)) hL (ctX0_shift l Ω _ (bx 1 k) e _ (bx_lt (by omega) (by omega)) (by omega)) kX5_move_95 (iB_lt (bx_lt (by omega) (by omega))) ⟨_, _, _, cel_box (bx_lt (by omega) (by omega)), rfl, rfl⟩ rfl rfl (Nat.le_of_ble_eq_true rfl) dX5_move_81 ?_
          intro σ2 hσ2
          have v2 : isV σ2 1 (shV (qC S) k e y) := by rw [hσ2]; exact isV_sh (by omega) v1 hk
          have k2 : keepC σ σ2 := keepC_tr k1 (by rw [hσ2]; exact keepC_up (by omega))
          refine r_aload_n dX5_move_84 rfl ?_
          refine fX5_1 jX5_move_X5 lX5_move_16 dX5_move_85 ?_
          refine r_aload dX5_move_88 rfl ?_
          refine r_iload dX5_move_90 rfl ?_
          refine r_callVI (iS 1) hL (ctX3_isCutBy l Ω σ2 1 (vN (qC S)) (by omega) hn v2.2.1 (bx 1 k) (bx_lt (by omega) (by omega)) _) kX5_move_99 (iS_lt (by omega)) ⟨_, _, _, cel_sp (by omega), rfl, rfl⟩ rfl rfl (Nat.le_of_ble_eq_true rfl) dX5_move_92 ?_
          rw [v_mvcut v2 hk]
          refine r_if_eq 101 dX5_move_95 (by decide) (fun c95 => ?_) (fun c95 => ?_)
          ·
            replace c95 := bI_f c95
            refine r_iload_n dX5_move_101 rfl ?_
            refine r_if_ne 108 dX5_move_102 (by decide) (fun c102 => ?_) (fun c102 => ?_)
            ·
              refine r_aload_n dX5_move_108 rfl ?_
              refine r_callVV (368) hL (ctX5_adoptTrial l Ω σ2 S (isC_kc h k2) (shV (qC S) k e y) v2) kX5_move_65 (by omega) ⟨_, _, _, rfl, rfl, rfl⟩ rfl rfl (Nat.le_of_ble_eq_true rfl) dX5_move_109 ?_
              intro σ3 hσ3
              refine r_aload_n dX5_move_112 rfl ?_
              refine fX5_0 jX5_move_X5 lX5_move_10 dX5_move_113 ?_
              refine fX3_0 0 (by omega) jX5_move_X3 lX5_move_72 dX5_move_116 ?_
              refine r_iload dX5_move_119 rfl ?_
              refine r_aaldB 0 (by omega) k rfl (by omega) dX5_move_121 ?_
              refine fX0_1 (bx 0 k) (bx_lt (by omega) (by omega)) jX5_move_X0 lX5_move_88 dX5_move_122 ?_
              refine r_iload_n dX5_move_125 rfl ?_
              refine ldL (bx 0 k) (bx_lt (by omega) (by omega)) e rfl (by omega) dX5_move_126 ?_
              rw [v_lo hσ3.1.1 (show k < vN (qC (pushS S (shV (qC S) k e y))) from hk) e he, show vLo (qC (pushS S (shV (qC S) k e y))) k e = vLo (qC S) k e + y from if_pos ⟨rfl, rfl⟩]
              exact r_iret hQ rfl dX5_move_127 (reJ_of (okC_of (by rw [oMove_at ek c20, nI_clamp (by omega), if_neg c57, if_neg c71, if_neg (by simp [c95]), if_neg c102]) hσ3.1 (keepM_tr (keepM_kc k2) hσ3.2.2)))
            ·
              refine r_bipush (-5) dX5_move_105 (by decide) ?_
              exact r_iret hQ rfl dX5_move_107 (reJ_of (okC_of (by rw [oMove_at ek c20, nI_clamp (by omega), if_neg c57, if_neg c71, if_neg (by simp [c95]), if_pos c102]) (isC_kc h k2) (keepM_kc k2)))
          ·
            replace c95 := bI_t c95
            refine r_bipush (-4) dX5_move_98 (by decide) ?_
            exact r_iret hQ rfl dX5_move_100 (reJ_of (okC_of (by rw [oMove_at ek c20, nI_clamp (by omega), if_neg c57, if_neg c71, if_pos c95]) (isC_kc h k2) (keepM_kc k2)))
        ·
          replace c71 := Int32.not_le.mp c71
          refine r_bipush (-2) dX5_move_74 (by decide) ?_
          exact r_iret hQ rfl dX5_move_76 (reJ_of (okC_of (by rw [oMove_at ek c20, nI_clamp (by omega), if_neg c57, if_pos c71]) (isC_kc h k1) (keepM_kc k1)))
    ·
      replace c20 := bI_f c20
      refine r_iconst (-1) dX5_move_23 (by decide) ?_
      exact r_iret hQ rfl dX5_move_24 (reJ_of (okC_of (oMove_no (Or.inr c20)) h (fun _ _ => rfl)))

set_option maxRecDepth 100000 in
set_option maxHeartbeats 4000000 in
theorem ctX5_fall (l : Launch) (Ω : Om) (σ : Sg) (S : StV) (h : isC σ S) (x : Int32) : CtW l yX5_fall wsX5_fall (rmD 5) Ω [.ref (ad Ω 368), .int x] σ (reJ (okC σ (oFall S x))) := by
  refine ct_intro [some (.ref (ad Ω 368)), some (.int x), none, none] (by decide) rfl rfl (Nat.le_of_ble_eq_true rfl) (fun Γ hL hQ => ?_)
  show AtW mX5_fall Γ Ω σ 0 [some (.ref (ad Ω 368)), some (.int x), none, none] []
  obtain ⟨hv, ⟨pm, h0, hh⟩, hp, ht⟩ := id h
  have hn : vN (qC S) ≤ 16 := hv.1
  have hc : σ (iS 0) 1 = nI (vN (qC S)) := hv.2.1
  refine r_aload_n dX5_fall_0 rfl ?_
  refine fX5_0 jX5_fall_X5 lX5_fall_10 dX5_fall_1 ?_
  refine r_iload_n dX5_fall_4 rfl ?_
  refine r_callVI (iS 0) hL (ctX3_slotOf l Ω _ 0 (vN (qC S)) (by omega) hn hc _) kX5_fall_68 (iS_lt (by omega)) ⟨_, _, _, cel_sp (by omega), rfl, rfl⟩ rfl rfl (Nat.le_of_ble_eq_true rfl) dX5_fall_5 ?_
  rw [v_slot hv]
  refine r_istore_n dX5_fall_8 (by decide) rfl ?_
  refine r_iload_n dX5_fall_9 rfl ?_
  refine r_iconst (-1) dX5_fall_10 (by decide) ?_
  refine r_icmp_ne 16 dX5_fall_11 (by decide) (fun c11 => ?_) (fun c11 => ?_)
  ·
    obtain ⟨k, hk, ek, e2⟩ := loc_some c11
    rw [e2]
    refine r_aload_n dX5_fall_16 rfl ?_
    refine fX5_0 jX5_fall_X5 lX5_fall_10 dX5_fall_17 ?_
    refine fX3_0 0 (by omega) jX5_fall_X3 lX5_fall_72 dX5_fall_20 ?_
    refine r_iload_n dX5_fall_23 rfl ?_
    refine r_aaldB 0 (by omega) k rfl (by omega) dX5_fall_24 ?_
    refine fX0_1 (bx 0 k) (bx_lt (by omega) (by omega)) jX5_fall_X0 lX5_fall_88 dX5_fall_25 ?_
    refine r_iconst 2 dX5_fall_28 (by decide) ?_
    refine ldL (bx 0 k) (bx_lt (by omega) (by omega)) 2 rfl (by omega) dX5_fall_29 ?_
    rw [v_lo hv hk 2 (by omega)]
    refine r_aload_n dX5_fall_30 rfl ?_
    refine fX5_0 jX5_fall_X5 lX5_fall_10 dX5_fall_31 ?_
    refine r_iload_n dX5_fall_34 rfl ?_
    refine r_callVI (iS 0) hL (ctX3_groundUnder l Ω _ 0 (vN (qC S)) (by omega) hn hc k (by omega)) kX5_fall_103 (iS_lt (by omega)) ⟨_, _, _, cel_sp (by omega), rfl, rfl⟩ rfl rfl (Nat.le_of_ble_eq_true rfl) dX5_fall_35 ?_
    rw [v_gr hv hk _ (Nat.le_refl _)]
    refine r_isub dX5_fall_38 ?_
    refine r_istore_n dX5_fall_39 (by decide) rfl ?_
    refine r_iload_n dX5_fall_40 rfl ?_
    refine r_if_gt 47 dX5_fall_41 (by decide) (fun c41 => ?_) (fun c41 => ?_)
    ·
      refine r_aload_n dX5_fall_47 rfl ?_
      refine fX5_1 jX5_fall_X5 lX5_fall_16 dX5_fall_48 ?_
      refine r_aload_n dX5_fall_51 rfl ?_
      refine fX5_0 jX5_fall_X5 lX5_fall_10 dX5_fall_52 ?_
      refine r_callVV (iS 1) hL (ctX3_copyFrom l Ω σ 1 0 _ (by omega) (by omega) (by omega) hn hc) kX5_fall_57 (iS_lt (by omega)) ⟨_, _, _, cel_sp (by omega), rfl, rfl⟩ rfl rfl (Nat.le_of_ble_eq_true rfl) dX5_fall_55 ?_
      intro σ1 hσ1
      have k1 : keepC σ σ1 := keepC_fr hσ1.2
      have v1 : isV σ1 1 (qC S) := isV_sp hv hσ1.1
      refine r_aload_n dX5_fall_58 rfl ?_
      refine fX5_1 jX5_fall_X5 lX5_fall_16 dX5_fall_59 ?_
      refine fX3_0 1 (by omega) jX5_fall_X3 lX5_fall_72 dX5_fall_62 ?_
      refine r_iload_n dX5_fall_65 rfl ?_
      refine r_aaldB 1 (by omega) k rfl (by omega) dX5_fall_66 ?_
      refine r_iconst 2 dX5_fall_67 (by decide) ?_
      refine r_iload_n dX5_fall_68 rfl ?_
      refine r_ineg dX5_fall_69 ?_
      refine r_callVV (iBo (bx 1 k)) hL (ctX0_shift l Ω _ (bx 1 k) 2 _ (bx_lt (by omega) (by omega)) (by omega)) kX5_fall_95 (iB_lt (bx_lt (by omega) (by omega))) ⟨_, _, _, cel_box (bx_lt (by omega) (by omega)), rfl, rfl⟩ rfl rfl (Nat.le_of_ble_eq_true rfl) dX5_fall_70 ?_
      intro σ2 hσ2
      have v2 : isV σ2 1 (shV (qC S) k 2 (-(vLo (qC S) k 2 - grG (vLo (qC S)) (vHi (qC S)) k (vN (qC S))))) := by rw [hσ2]; exact isV_sh (by omega) v1 hk
      have k2 : keepC σ σ2 := keepC_tr k1 (by rw [hσ2]; exact keepC_up (by omega))
      refine r_aload_n dX5_fall_73 rfl ?_
      refine r_callVV (368) hL (ctX5_adoptTrial l Ω σ2 S (isC_kc h k2) _ v2) kX5_fall_65 (by omega) ⟨_, _, _, rfl, rfl, rfl⟩ rfl rfl (Nat.le_of_ble_eq_true rfl) dX5_fall_74 ?_
      intro σ3 hσ3
      refine r_iload_n dX5_fall_77 rfl ?_
      exact r_iret hQ rfl dX5_fall_78 (reJ_of (okC_of (by rw [oFall, ek]; simp only; rw [if_pos c41]) hσ3.1 (keepM_tr (keepM_kc k2) hσ3.2.2)))
    ·
      refine r_bipush (-5) dX5_fall_44 (by decide) ?_
      exact r_iret hQ rfl dX5_fall_46 (reJ_of (okC_of (by rw [oFall, ek]; simp only; rw [if_neg c41]) h (fun _ _ => rfl)))
  ·
    have ek := loc_none hn c11
    refine r_iconst (-1) dX5_fall_14 (by decide) ?_
    exact r_iret hQ rfl dX5_fall_15 (reJ_of (okC_of (by rw [oFall, ek]) h (fun _ _ => rfl)))

set_option maxRecDepth 100000 in
set_option maxHeartbeats 4000000 in
theorem ctX5_split (l : Launch) (Ω : Om) (σ : Sg) (S : StV) (h : isC σ S) (x d y : Int32) (hx0 : ¬ vX (qC S) < 0) : CtW l yX5_split wsX5_split (rmD 5) Ω [.ref (ad Ω 368), .int x, .int d, .int y] σ (reJ (okC σ (oSplit S x d y))) := by
  refine ct_intro [some (.ref (ad Ω 368)), some (.int x), some (.int d), some (.int y), none, none, none] (by decide) rfl rfl (Nat.le_of_ble_eq_true rfl) (fun Γ hL hQ => ?_)
  show AtW mX5_split Γ Ω σ 0 [some (.ref (ad Ω 368)), some (.int x), some (.int d), some (.int y), none, none, none] []
  obtain ⟨hv, ⟨pm, h0, hh⟩, hp, ht⟩ := id h
  have hn : vN (qC S) ≤ 16 := hv.1
  have hc : σ (iS 0) 1 = nI (vN (qC S)) := hv.2.1
  refine r_aload_n dX5_split_0 rfl ?_
  refine fX5_0 jX5_split_X5 lX5_split_10 dX5_split_1 ?_
  refine r_iload_n dX5_split_4 rfl ?_
  refine r_callVI (iS 0) hL (ctX3_slotOf l Ω _ 0 (vN (qC S)) (by omega) hn hc _) kX5_split_68 (iS_lt (by omega)) ⟨_, _, _, cel_sp (by omega), rfl, rfl⟩ rfl rfl (Nat.le_of_ble_eq_true rfl) dX5_split_5 ?_
  rw [v_slot hv]
  refine r_istore dX5_split_8 (by decide) rfl ?_
  refine r_iload dX5_split_10 rfl ?_
  refine r_iconst (-1) dX5_split_12 (by decide) ?_
  refine r_icmp_eq 23 dX5_split_13 (by decide) (fun c13 => ?_) (fun c13 => ?_)
  ·
    have ek := loc_none hn c13
    refine r_iconst (-1) dX5_split_23 (by decide) ?_
    exact r_iret hQ rfl dX5_split_24 (reJ_of (okC_of (oSplit_no (Or.inl ek)) h (fun _ _ => rfl)))
  ·
    obtain ⟨k, hk, ek, e2⟩ := loc_some c13
    rw [e2]
    refine r_iload_n dX5_split_16 rfl ?_
    refine r_callSI hL (ctX5_isDirection l Ω _ _) kX5_split_84 rfl rfl (Nat.le_of_ble_eq_true rfl) dX5_split_17 ?_
    refine r_if_ne 25 dX5_split_20 (by decide) (fun c20 => ?_) (fun c20 => ?_)
    ·
      replace c20 := bI_t c20
      obtain ⟨e, he, rfl⟩ := dir_ix c20
      refine r_aload_n dX5_split_25 rfl ?_
      refine fX5_0 jX5_split_X5 lX5_split_10 dX5_split_26 ?_
      refine fX3_0 0 (by omega) jX5_split_X3 lX5_split_72 dX5_split_29 ?_
      refine r_iload dX5_split_32 rfl ?_
      refine r_aaldB 0 (by omega) k rfl (by omega) dX5_split_34 ?_
      refine r_astore dX5_split_35 (by decide) rfl ?_
      refine r_iload_n dX5_split_37 rfl ?_
      refine r_aload dX5_split_38 rfl ?_
      refine fX0_1 (bx 0 k) (bx_lt (by omega) (by omega)) jX5_split_X0 lX5_split_88 dX5_split_40 ?_
      refine r_iload_n dX5_split_43 rfl ?_
      refine ldL (bx 0 k) (bx_lt (by omega) (by omega)) e rfl (by omega) dX5_split_44 ?_
      rw [v_lo hv hk e he]
      refine r_icmp_le 59 dX5_split_45 (by decide) (fun c45 => ?_) (fun c45 => ?_)
      ·
        replace c45 := Int32.not_lt.mpr c45
        refine r_bipush (-2) dX5_split_59 (by decide) ?_
        exact r_iret hQ rfl dX5_split_61 (reJ_of (okC_of (by rw [oSplit_at ek c20, nI_clamp (by omega), if_pos (by simp [c45])]) h (fun _ _ => rfl)))
      ·
        replace c45 := Int32.not_le.mp c45
        refine r_iload_n dX5_split_48 rfl ?_
        refine r_aload dX5_split_49 rfl ?_
        refine fX0_2 (bx 0 k) (bx_lt (by omega) (by omega)) jX5_split_X0 lX5_split_92 dX5_split_51 ?_
        refine r_iload_n dX5_split_54 rfl ?_
        refine ldH (bx 0 k) (bx_lt (by omega) (by omega)) e rfl (by omega) dX5_split_55 ?_
        rw [v_hi hv hk e he]
        refine r_icmp_lt 62 dX5_split_56 (by decide) (fun c56 => ?_) (fun c56 => ?_)
        ·
          refine r_aload_n dX5_split_62 rfl ?_
          refine fX5_0 jX5_split_X5 lX5_split_10 dX5_split_63 ?_
          refine r_callVI (iS 0) hL (ctX3_isFull l Ω _ 0 (vN (qC S)) (by omega) hn hc) kX5_split_106 (iS_lt (by omega)) ⟨_, _, _, cel_sp (by omega), rfl, rfl⟩ rfl rfl (Nat.le_of_ble_eq_true rfl) dX5_split_66 ?_
          refine r_if_eq 75 dX5_split_69 (by decide) (fun c69 => ?_) (fun c69 => ?_)
          ·
            replace c69 := bI_f c69
            refine r_aload_n dX5_split_75 rfl ?_
            refine fX5_1 jX5_split_X5 lX5_split_16 dX5_split_76 ?_
            refine r_aload_n dX5_split_79 rfl ?_
            refine fX5_0 jX5_split_X5 lX5_split_10 dX5_split_80 ?_
            refine r_callVV (iS 1) hL (ctX3_copyFrom l Ω σ 1 0 _ (by omega) (by omega) (by omega) hn hc) kX5_split_57 (iS_lt (by omega)) ⟨_, _, _, cel_sp (by omega), rfl, rfl⟩ rfl rfl (Nat.le_of_ble_eq_true rfl) dX5_split_83 ?_
            intro σ1 hσ1
            have k1 : keepC σ σ1 := keepC_fr hσ1.2
            have v1 : isV σ1 1 (qC S) := isV_sp hv hσ1.1
            refine r_aload_n dX5_split_86 rfl ?_
            refine fX5_1 jX5_split_X5 lX5_split_16 dX5_split_87 ?_
            refine r_iload dX5_split_90 rfl ?_
            refine r_iload_n dX5_split_92 rfl ?_
            refine r_iload_n dX5_split_93 rfl ?_
            refine r_callVJ (iS 1) hL (ctX3_cutInTwo l Ω σ1 1 (vN (qC S)) (by omega) hn v1.2.1 k e y hk he (by rw [v1.2.2.1]; exact hx0)) kX5_split_110 (iS_lt (by omega)) ⟨_, _, _, cel_sp (by omega), rfl, rfl⟩ rfl rfl (Nat.le_of_ble_eq_true rfl) dX5_split_94 ?_
            intro r σ2 hσ2
            have h16 : vN (qC S) < 16 := by have := of_decide_eq_false c69; omega
            obtain ⟨rfl, v2⟩ := isV_cut v1 h16 hσ2 hk
            have k2 : keepC σ σ2 := keepC_tr k1 (keepC_fr (hσ2.2 h16).2.2.2.2.2.2.2.2)
            refine r_istore dX5_split_97 (by decide) rfl ?_
            refine r_aload_n dX5_split_99 rfl ?_
            refine r_callVV (368) hL (ctX5_adoptTrial l Ω σ2 S (isC_kc h k2) _ v2) kX5_split_65 (by omega) ⟨_, _, _, rfl, rfl, rfl⟩ rfl rfl (Nat.le_of_ble_eq_true rfl) dX5_split_100 ?_
            intro σ3 hσ3
            refine r_iload dX5_split_103 rfl ?_
            exact r_iret hQ rfl dX5_split_105 (reJ_of (okC_of (by rw [oSplit_at ek c20, nI_clamp (by omega), if_neg (by simp [c45]), if_neg (by simp [c56]), if_neg (of_decide_eq_false c69)]) hσ3.1 (keepM_tr (keepM_kc k2) hσ3.2.2)))
          ·
            replace c69 := bI_t c69
            refine r_bipush (-3) dX5_split_72 (by decide) ?_
            exact r_iret hQ rfl dX5_split_74 (reJ_of (okC_of (by rw [oSplit_at ek c20, nI_clamp (by omega), if_neg (by simp [c45]), if_neg (by simp [c56]), if_pos (of_decide_eq_true c69)]) h (fun _ _ => rfl)))
        ·
          refine r_bipush (-2) dX5_split_59 (by decide) ?_
          exact r_iret hQ rfl dX5_split_61 (reJ_of (okC_of (by rw [oSplit_at ek c20, nI_clamp (by omega), if_neg (by simp [c45]), if_pos (by simp [c56])]) h (fun _ _ => rfl)))
    ·
      replace c20 := bI_f c20
      refine r_iconst (-1) dX5_split_23 (by decide) ?_
      exact r_iret hQ rfl dX5_split_24 (reJ_of (okC_of (oSplit_no (Or.inr c20)) h (fun _ _ => rfl)))

set_option maxRecDepth 100000 in
set_option maxHeartbeats 4000000 in
theorem ctX5_set (l : Launch) (Ω : Om) (σ : Sg) (S : StV) (h : isC σ S) (s x : Int32) : CtW l yX5_set wsX5_set (rmD 5) Ω [.ref (ad Ω 368), .int s, .int x] σ (reJ (okC σ (oSet S s x))) := by
  refine ct_intro [some (.ref (ad Ω 368)), some (.int s), some (.int x), none] (by decide) rfl rfl (Nat.le_of_ble_eq_true rfl) (fun Γ hL hQ => ?_)
  show AtW mX5_set Γ Ω σ 0 [some (.ref (ad Ω 368)), some (.int s), some (.int x), none] []
  obtain ⟨hv, ⟨pm, h0, hh⟩, hp, ht⟩ := id h
  have hn : vN (qC S) ≤ 16 := hv.1
  have hc : σ (iS 0) 1 = nI (vN (qC S)) := hv.2.1
  refine r_iload_n dX5_set_0 rfl ?_
  refine r_if_eq 6 dX5_set_1 (by decide) (fun c1 => ?_) (fun c1 => ?_)
  ·
    refine r_iload_n dX5_set_6 rfl ?_
    refine r_if_lt 15 dX5_set_7 (by decide) (fun c7 => ?_) (fun c7 => ?_)
    ·
      refine r_bipush (-2) dX5_set_15 (by decide) ?_
      exact r_iret hQ rfl dX5_set_17 (reJ_of (okC_of (by rw [oSet, if_neg (fun q => q c1), if_pos c7]) h (fun _ _ => rfl)))
    ·
      refine r_iload_n dX5_set_10 rfl ?_
      refine r_iconst 2 dX5_set_11 (by decide) ?_
      refine r_icmp_le 18 dX5_set_12 (by decide) (fun c12 => ?_) (fun c12 => ?_)
      ·
        replace c12 := Int32.not_lt.mpr c12
        refine r_aload_n dX5_set_18 rfl ?_
        refine fX5_0 jX5_set_X5 lX5_set_10 dX5_set_19 ?_
        refine fX3_4 0 (by omega) jX5_set_X3 lX5_set_132 dX5_set_22 ?_
        rw [show σ (iS 0) 4 = vRu (qC S) from hv.2.2.2.2.1]
        refine r_istore_n dX5_set_25 (by decide) rfl ?_
        refine r_iload_n dX5_set_26 rfl ?_
        refine r_iload_n dX5_set_27 rfl ?_
        refine r_icmp_ne 34 dX5_set_28 (by decide) (fun c28 => ?_) (fun c28 => ?_)
        ·
          refine r_aload_n dX5_set_34 rfl ?_
          refine fX5_1 jX5_set_X5 lX5_set_16 dX5_set_35 ?_
          refine r_aload_n dX5_set_38 rfl ?_
          refine fX5_0 jX5_set_X5 lX5_set_10 dX5_set_39 ?_
          refine r_callVV (iS 1) hL (ctX3_copyFrom l Ω σ 1 0 _ (by omega) (by omega) (by omega) hn hc) kX5_set_57 (iS_lt (by omega)) ⟨_, _, _, cel_sp (by omega), rfl, rfl⟩ rfl rfl (Nat.le_of_ble_eq_true rfl) dX5_set_42 ?_
          intro σ1 hσ1
          have k1 : keepC σ σ1 := keepC_fr hσ1.2
          have v1 : isV σ1 1 (qC S) := isV_sp hv hσ1.1
          refine r_aload_n dX5_set_45 rfl ?_
          refine fX5_1 jX5_set_X5 lX5_set_16 dX5_set_46 ?_
          refine r_iload_n dX5_set_49 rfl ?_
          refine pX3_4 1 (by omega) jX5_set_X3 lX5_set_132 dX5_set_50 ?_
          refine r_aload_n dX5_set_53 rfl ?_
          refine r_callVV (368) hL (ctX5_adoptTrial l Ω _ S (isC_kc h (keepC_tr k1 keepC_ru)) (ruV (qC S) x) (isV_ru v1)) kX5_set_65 (by omega) ⟨_, _, _, rfl, rfl, rfl⟩ rfl rfl (Nat.le_of_ble_eq_true rfl) dX5_set_54 ?_
          intro σ3 hσ3
          refine r_iload_n dX5_set_57 rfl ?_
          exact r_iret hQ rfl dX5_set_58 (reJ_of (okC_of (by rw [oSet, if_neg (fun q => q c1), if_neg c7, if_neg c12, if_neg c28]) hσ3.1 (keepM_tr (keepM_kc (keepC_tr k1 keepC_ru)) hσ3.2.2)))
        ·
          refine r_bipush (-5) dX5_set_31 (by decide) ?_
          exact r_iret hQ rfl dX5_set_33 (reJ_of (okC_of (by rw [oSet, if_neg (fun q => q c1), if_neg c7, if_neg c12, if_pos c28]) h (fun _ _ => rfl)))
      ·
        replace c12 := Int32.not_le.mp c12
        refine r_bipush (-2) dX5_set_15 (by decide) ?_
        exact r_iret hQ rfl dX5_set_17 (reJ_of (okC_of (by rw [oSet, if_neg (fun q => q c1), if_neg c7, if_pos c12]) h (fun _ _ => rfl)))
  ·
    refine r_iconst (-1) dX5_set_4 (by decide) ?_
    exact r_iret hQ rfl dX5_set_5 (reJ_of (okC_of (by rw [oSet, if_pos c1]) h (fun _ _ => rfl)))

set_option maxRecDepth 100000 in
set_option maxHeartbeats 4000000 in
theorem ctX5_box (l : Launch) (Ω : Om) (σ : Sg) (S : StV) (h : isC σ S) (r : Int32) : CtW l yX5_box wsX5_box (rmD 0) Ω [.ref (ad Ω 368), .int r] σ (reJ (okC σ (oBox S r))) := by
  refine ct_intro [some (.ref (ad Ω 368)), some (.int r)] (by decide) rfl rfl (Nat.le_of_ble_eq_true rfl) (fun Γ hL hQ => ?_)
  show AtW mX5_box Γ Ω σ 0 [some (.ref (ad Ω 368)), some (.int r)] []
  obtain ⟨hv, ⟨pm, h0, hh⟩, hp, ht⟩ := id h
  have hn : vN (qC S) ≤ 16 := hv.1
  have hc : σ (iS 0) 1 = nI (vN (qC S)) := hv.2.1
  refine r_iload_n dX5_box_0 rfl ?_
  refine r_if_ge 7 dX5_box_1 (by decide) (fun c1 => ?_) (fun c1 => ?_)
  ·
    replace c1 := Int32.not_lt.mpr c1
    refine r_iload_n dX5_box_7 rfl ?_
    refine r_aload_n dX5_box_8 rfl ?_
    refine fX5_0 jX5_box_X5 lX5_box_10 dX5_box_9 ?_
    refine fX3_1 0 (by omega) jX5_box_X3 lX5_box_118 dX5_box_12 ?_
    rw [hc]
    refine r_icmp_ge 33 dX5_box_15 (by decide) (fun c15 => ?_) (fun c15 => ?_)
    ·
      replace c15 := Int32.not_lt.mpr c15
      refine r_bipush (-5) dX5_box_33 (by decide) ?_
      exact r_iret hQ rfl dX5_box_35 (reJ_of (okC_of (by rw [oBox, if_neg c1, if_neg c15]) h (fun _ _ => rfl)))
    ·
      replace c15 := Int32.not_le.mp c15
      obtain ⟨k, hk, rfl⟩ := slot_ix c1 c15 (by omega)
      refine r_aload_n dX5_box_18 rfl ?_
      refine fX5_0 jX5_box_X5 lX5_box_10 dX5_box_19 ?_
      refine fX3_0 0 (by omega) jX5_box_X3 lX5_box_72 dX5_box_22 ?_
      refine r_iload_n dX5_box_25 rfl ?_
      refine r_aaldB 0 (by omega) k rfl (by omega) dX5_box_26 ?_
      refine fX0_0 (bx 0 k) (bx_lt (by omega) (by omega)) jX5_box_X0 lX5_box_156 dX5_box_27 ?_
      rw [(hv.2.2.2.2.2 k hk).1]
      refine r_goto 35 dX5_box_30 (by decide) ?_
      exact r_iret hQ rfl dX5_box_35 (reJ_of (okC_of (by rw [oBox, if_neg c1, if_pos c15, nI_clamp (by omega)]) h (fun _ _ => rfl)))
  ·
    replace c1 := Int32.not_le.mp c1
    refine r_bipush (-2) dX5_box_4 (by decide) ?_
    exact r_iret hQ rfl dX5_box_6 (reJ_of (okC_of (by rw [oBox, if_pos c1]) h (fun _ _ => rfl)))

set_option maxRecDepth 100000 in
set_option maxHeartbeats 4000000 in
theorem ctX5_end (l : Launch) (Ω : Om) (σ : Sg) (S : StV) (h : isC σ S) (x d y : Int32) : CtW l yX5_end wsX5_end (rmD 1) Ω [.ref (ad Ω 368), .int x, .int d, .int y] σ (reJ (okC σ (oEnd S x d y))) := by
  refine ct_intro [some (.ref (ad Ω 368)), some (.int x), some (.int d), some (.int y), none, none] (by decide) rfl rfl (Nat.le_of_ble_eq_true rfl) (fun Γ hL hQ => ?_)
  show AtW mX5_end Γ Ω σ 0 [some (.ref (ad Ω 368)), some (.int x), some (.int d), some (.int y), none, none] []
  obtain ⟨hv, ⟨pm, h0, hh⟩, hp, ht⟩ := id h
  have hn : vN (qC S) ≤ 16 := hv.1
  have hc : σ (iS 0) 1 = nI (vN (qC S)) := hv.2.1
  refine r_aload_n dX5_end_0 rfl ?_
  refine fX5_0 jX5_end_X5 lX5_end_10 dX5_end_1 ?_
  refine r_iload_n dX5_end_4 rfl ?_
  refine r_callVI (iS 0) hL (ctX3_slotOf l Ω _ 0 (vN (qC S)) (by omega) hn hc _) kX5_end_68 (iS_lt (by omega)) ⟨_, _, _, cel_sp (by omega), rfl, rfl⟩ rfl rfl (Nat.le_of_ble_eq_true rfl) dX5_end_5 ?_
  rw [v_slot hv]
  refine r_istore dX5_end_8 (by decide) rfl ?_
  refine r_iload dX5_end_10 rfl ?_
  refine r_iconst (-1) dX5_end_12 (by decide) ?_
  refine r_icmp_eq 23 dX5_end_13 (by decide) (fun c13 => ?_) (fun c13 => ?_)
  ·
    have ek := loc_none hn c13
    refine r_iconst (-1) dX5_end_23 (by decide) ?_
    exact r_iret hQ rfl dX5_end_24 (reJ_of (okC_of (oEnd_no (Or.inl ek)) h (fun _ _ => rfl)))
  ·
    obtain ⟨k, hk, ek, e2⟩ := loc_some c13
    rw [e2]
    refine r_iload_n dX5_end_16 rfl ?_
    refine r_callSI hL (ctX5_isDirection l Ω _ _) kX5_end_84 rfl rfl (Nat.le_of_ble_eq_true rfl) dX5_end_17 ?_
    refine r_if_ne 25 dX5_end_20 (by decide) (fun c20 => ?_) (fun c20 => ?_)
    ·
      replace c20 := bI_t c20
      obtain ⟨e, he, rfl⟩ := dir_ix c20
      refine r_aload_n dX5_end_25 rfl ?_
      refine fX5_0 jX5_end_X5 lX5_end_10 dX5_end_26 ?_
      refine fX3_0 0 (by omega) jX5_end_X3 lX5_end_72 dX5_end_29 ?_
      refine r_iload dX5_end_32 rfl ?_
      refine r_aaldB 0 (by omega) k rfl (by omega) dX5_end_34 ?_
      refine r_astore dX5_end_35 (by decide) rfl ?_
      refine r_iload_n dX5_end_37 rfl ?_
      refine r_if_eq 51 dX5_end_38 (by decide) (fun c38 => ?_) (fun c38 => ?_)
      ·
        refine r_aload dX5_end_51 rfl ?_
        refine fX0_1 (bx 0 k) (bx_lt (by omega) (by omega)) jX5_end_X0 lX5_end_88 dX5_end_53 ?_
        refine r_iload_n dX5_end_56 rfl ?_
        refine ldL (bx 0 k) (bx_lt (by omega) (by omega)) e rfl (by omega) dX5_end_57 ?_
        rw [v_lo hv hk e he]
        exact r_iret hQ rfl dX5_end_58 (reJ_of (okC_of (by rw [oEnd_at ek c20, if_pos c38, nI_clamp (by omega)]) h (fun _ _ => rfl)))
      ·
        refine r_aload dX5_end_41 rfl ?_
        refine fX0_2 (bx 0 k) (bx_lt (by omega) (by omega)) jX5_end_X0 lX5_end_92 dX5_end_43 ?_
        refine r_iload_n dX5_end_46 rfl ?_
        refine ldH (bx 0 k) (bx_lt (by omega) (by omega)) e rfl (by omega) dX5_end_47 ?_
        rw [v_hi hv hk e he]
        refine r_goto 58 dX5_end_48 (by decide) ?_
        exact r_iret hQ rfl dX5_end_58 (reJ_of (okC_of (by rw [oEnd_at ek c20, if_neg c38, nI_clamp (by omega)]) h (fun _ _ => rfl)))
    ·
      replace c20 := bI_f c20
      refine r_iconst (-1) dX5_end_23 (by decide) ?_
      exact r_iret hQ rfl dX5_end_24 (reJ_of (okC_of (oEnd_no (Or.inr c20)) h (fun _ _ => rfl)))
end
section
set_option maxRecDepth 100000 in
set_option maxHeartbeats 4000000 in
theorem ctX5_enter (l : Launch) (Ω : Om) (σ : Sg) (v : SpV) (hv : isV σ 1 v) (x y z a b c : Int32) : CtW l yX5_enter wsX5_enter (rmD 3) Ω [.ref (ad Ω 368), .ref (ad Ω (iS 1)), .int x, .int y, .int z, .int a, .int b, .int c] σ (reJ (enI σ v x y z a b c)) := by
  refine ct_intro [some (.ref (ad Ω 368)), some (.ref (ad Ω (iS 1))), some (.int x), some (.int y), some (.int z), some (.int a), some (.int b), some (.int c), none] (by decide) rfl rfl (Nat.le_of_ble_eq_true rfl) (fun Γ hL hQ => ?_)
  show AtW mX5_enter Γ Ω σ 0 [some (.ref (ad Ω 368)), some (.ref (ad Ω (iS 1))), some (.int x), some (.int y), some (.int z), some (.int a), some (.int b), some (.int c), none] []
  refine r_aload_n dX5_enter_0 rfl ?_
  refine fX5_8 jX5_enter_X5 lX5_enter_49 dX5_enter_1 ?_
  refine r_iconst 0 dX5_enter_4 (by decide) ?_
  refine r_iload_n dX5_enter_5 rfl ?_
  refine r_iload dX5_enter_6 rfl ?_
  refine r_callVJ (iBo 112) hL (ctX0_lay l Ω _ 112 0 _ _ (by omega) (by omega)) kX5_enter_221 (iB_lt (by omega)) ⟨_, _, _, cel_box (by omega), rfl, rfl⟩ rfl rfl (Nat.le_of_ble_eq_true rfl) dX5_enter_8 ?_
  intro r0 τ0 hτ0
  obtain ⟨rfl, rfl⟩ := hτ0
  refine r_if_eq 47 dX5_enter_11 (by decide) (fun c11 => ?_) (fun c11 => ?_)
  ·
    replace c11 := bI_f c11
    rw [if_neg (by simp [c11])]
    refine r_iconst 0 dX5_enter_47 (by decide) ?_
    refine r_istore dX5_enter_48 (by decide) rfl ?_
    refine r_iload dX5_enter_50 rfl ?_
    refine r_if_ne 58 dX5_enter_52 (by decide) (fun c52 => absurd c52 (by decide)) (fun c52 => ?_)
    refine r_bipush (-2) dX5_enter_55 (by decide) ?_
    exact r_iret hQ rfl dX5_enter_57 (reJ_of ⟨(ent_r1 (Or.inl c11)).1.symm, keepC_rfl σ, fun q => absurd q (by rw [(ent_r1 (Or.inl c11)).2]; decide)⟩)
  ·
    replace c11 := bI_t c11
    rw [if_pos c11]
    refine r_aload_n dX5_enter_14 rfl ?_
    refine fX5_8 jX5_enter_X5 lX5_enter_49 dX5_enter_15 ?_
    refine r_iconst 1 dX5_enter_18 (by decide) ?_
    refine r_iload_n dX5_enter_19 rfl ?_
    refine r_iload dX5_enter_20 rfl ?_
    refine r_callVJ (iBo 112) hL (ctX0_lay l Ω _ 112 1 _ _ (by omega) (by omega)) kX5_enter_221 (iB_lt (by omega)) ⟨_, _, _, cel_box (by omega), rfl, rfl⟩ rfl rfl (Nat.le_of_ble_eq_true rfl) dX5_enter_22 ?_
    intro r0 τ0 hτ0
    obtain ⟨rfl, rfl⟩ := hτ0
    refine r_if_eq 47 dX5_enter_25 (by decide) (fun c25 => ?_) (fun c25 => ?_)
    ·
      replace c25 := bI_f c25
      rw [if_neg (by simp [c25])]
      refine r_iconst 0 dX5_enter_47 (by decide) ?_
      refine r_istore dX5_enter_48 (by decide) rfl ?_
      refine r_iload dX5_enter_50 rfl ?_
      refine r_if_ne 58 dX5_enter_52 (by decide) (fun c52 => absurd c52 (by decide)) (fun c52 => ?_)
      refine r_bipush (-2) dX5_enter_55 (by decide) ?_
      exact r_iret hQ rfl dX5_enter_57 (reJ_of ⟨(ent_r1 (Or.inr (Or.inl c25))).1.symm, keepC_nc, fun q => absurd q (by rw [(ent_r1 (Or.inr (Or.inl c25))).2]; decide)⟩)
    ·
      replace c25 := bI_t c25
      rw [if_pos c25]
      refine r_aload_n dX5_enter_28 rfl ?_
      refine fX5_8 jX5_enter_X5 lX5_enter_49 dX5_enter_29 ?_
      refine r_iconst 2 dX5_enter_32 (by decide) ?_
      refine r_iload dX5_enter_33 rfl ?_
      refine r_iload dX5_enter_35 rfl ?_
      refine r_callVJ (iBo 112) hL (ctX0_lay l Ω _ 112 2 _ _ (by omega) (by omega)) kX5_enter_221 (iB_lt (by omega)) ⟨_, _, _, cel_box (by omega), rfl, rfl⟩ rfl rfl (Nat.le_of_ble_eq_true rfl) dX5_enter_37 ?_
      intro r0 τ0 hτ0
      obtain ⟨rfl, rfl⟩ := hτ0
      refine r_if_eq 47 dX5_enter_40 (by decide) (fun c40 => ?_) (fun c40 => ?_)
      ·
        replace c40 := bI_f c40
        rw [if_neg (by simp [c40])]
        refine r_iconst 0 dX5_enter_47 (by decide) ?_
        refine r_istore dX5_enter_48 (by decide) rfl ?_
        refine r_iload dX5_enter_50 rfl ?_
        refine r_if_ne 58 dX5_enter_52 (by decide) (fun c52 => absurd c52 (by decide)) (fun c52 => ?_)
        refine r_bipush (-2) dX5_enter_55 (by decide) ?_
        exact r_iret hQ rfl dX5_enter_57 (reJ_of ⟨(ent_r1 (Or.inr (Or.inr c40))).1.symm, keepC_tr keepC_nc keepC_nc, fun q => absurd q (by rw [(ent_r1 (Or.inr (Or.inr c40))).2]; decide)⟩)
      ·
        replace c40 := bI_t c40
        rw [if_pos c40]
        obtain ⟨τ, eτ, k0, v0, hl⟩ := lay3 hv x y z a b c
        rw [eτ]
        refine r_iconst 1 dX5_enter_43 (by decide) ?_
        refine r_goto 48 dX5_enter_44 (by decide) ?_
        refine r_istore dX5_enter_48 (by decide) rfl ?_
        refine r_iload dX5_enter_50 rfl ?_
        refine r_if_ne 58 dX5_enter_52 (by decide) (fun c52 => ?_) (fun c52 => absurd c52 (by decide))
        refine r_aload_n dX5_enter_58 rfl ?_
        refine r_aload_n dX5_enter_59 rfl ?_
        refine fX5_8 jX5_enter_X5 lX5_enter_49 dX5_enter_60 ?_
        refine r_iconst (-1) dX5_enter_63 (by decide) ?_
        refine r_callVI (iS 1) hL (ctX3_isCutBy l Ω τ 1 (vN v) (by omega) hv.1 v0.2.1 112 (by omega) _) kX5_enter_99 (iS_lt (by omega)) ⟨_, _, _, cel_sp (by omega), rfl, rfl⟩ rfl rfl (Nat.le_of_ble_eq_true rfl) dX5_enter_64 ?_
        rw [v_entcut v0 hl]
        have er : entR x y z a b c = true := by unfold entR; rw [c11, c25, c40]; rfl
        refine r_if_eq 73 dX5_enter_67 (by decide) (fun c67 => ?_) (fun c67 => ?_)
        ·
          replace c67 := bI_f c67
          refine r_aload_n dX5_enter_73 rfl ?_
          refine r_callVI (iS 1) hL (ctX3_isFull l Ω _ 1 (vN v) (by omega) hv.1 v0.2.1) kX5_enter_106 (iS_lt (by omega)) ⟨_, _, _, cel_sp (by omega), rfl, rfl⟩ rfl rfl (Nat.le_of_ble_eq_true rfl) dX5_enter_74 ?_
          refine r_if_eq 85 dX5_enter_77 (by decide) (fun c77 => ?_) (fun c77 => ?_)
          ·
            replace c77 := bI_f c77
            refine r_aload_n dX5_enter_85 rfl ?_
            refine r_aload_n dX5_enter_86 rfl ?_
            refine fX5_8 jX5_enter_X5 lX5_enter_49 dX5_enter_87 ?_
            refine r_callVJ (iS 1) hL (ctX3_append l Ω _ 1 (vN v) (by omega) hv.1 v0.2.1 112 (by omega)) kX5_enter_225 (iS_lt (by omega)) ⟨_, _, _, cel_sp (by omega), rfl, rfl⟩ rfl rfl (Nat.le_of_ble_eq_true rfl) dX5_enter_90 ?_
            intro r σ4 hσ4
            have h16 : vN v < 16 := by have h := of_decide_eq_false c77; have := hv.1; omega
            obtain ⟨rfl, v4⟩ := isV_ap v0 h16 hl hσ4 (by omega)
            exact r_iret hQ rfl dX5_enter_93 (reJ_of ⟨by unfold entA; simp [er, c67, of_decide_eq_false c77], keepC_tr k0 (keepC_ap h16 hσ4), fun _ => v4⟩)
          ·
            replace c77 := bI_t c77
            refine r_bipush (-3) dX5_enter_80 (by decide) ?_
            refine r_goto 93 dX5_enter_82 (by decide) ?_
            exact r_iret hQ rfl dX5_enter_93 (reJ_of ⟨by unfold entA; simp [er, c67, of_decide_eq_true c77], k0, fun q => by unfold entOk at q; simp [er, c67, of_decide_eq_true c77] at q⟩)
        ·
          replace c67 := bI_t c67
          refine r_bipush (-4) dX5_enter_70 (by decide) ?_
          exact r_iret hQ rfl dX5_enter_72 (reJ_of ⟨by unfold entA; simp [er, c67], k0, fun q => by unfold entOk at q; simp [er, c67] at q⟩)

set_option maxRecDepth 100000 in
set_option maxHeartbeats 4000000 in
theorem ctX5_add (l : Launch) (Ω : Om) (σ : Sg) (S : StV) (h : isC σ S) (hx0 : ¬ vX (qC S) < 0) (x y z a b c : Int32) : CtW l yX5_add wsX5_add (rmD 5) Ω [.ref (ad Ω 368), .int x, .int y, .int z, .int a, .int b, .int c] σ (reJ (okC σ (oAdd S x y z a b c))) := by
  refine ct_intro [some (.ref (ad Ω 368)), some (.int x), some (.int y), some (.int z), some (.int a), some (.int b), some (.int c), none] (by decide) rfl rfl (Nat.le_of_ble_eq_true rfl) (fun Γ hL hQ => ?_)
  show AtW mX5_add Γ Ω σ 0 [some (.ref (ad Ω 368)), some (.int x), some (.int y), some (.int z), some (.int a), some (.int b), some (.int c), none] []
  obtain ⟨hv, ⟨pm, h0, hh⟩, hp, ht⟩ := id h
  have hn : vN (qC S) ≤ 16 := hv.1
  have hc : σ (iS 0) 1 = nI (vN (qC S)) := hv.2.1
  refine r_aload_n dX5_add_0 rfl ?_
  refine fX5_1 jX5_add_X5 lX5_add_16 dX5_add_1 ?_
  refine r_aload_n dX5_add_4 rfl ?_
  refine fX5_0 jX5_add_X5 lX5_add_10 dX5_add_5 ?_
  refine r_callVV (iS 1) hL (ctX3_copyFrom l Ω σ 1 0 _ (by omega) (by omega) (by omega) hn hc) kX5_add_57 (iS_lt (by omega)) ⟨_, _, _, cel_sp (by omega), rfl, rfl⟩ rfl rfl (Nat.le_of_ble_eq_true rfl) dX5_add_8 ?_
  intro σ1 hσ1
  have k1 : keepC σ σ1 := keepC_fr hσ1.2
  have v1 : isV σ1 1 (qC S) := isV_sp hv hσ1.1
  refine r_aload_n dX5_add_11 rfl ?_
  refine r_aload_n dX5_add_12 rfl ?_
  refine fX5_1 jX5_add_X5 lX5_add_16 dX5_add_13 ?_
  refine r_iload_n dX5_add_16 rfl ?_
  refine r_iload_n dX5_add_17 rfl ?_
  refine r_iload_n dX5_add_18 rfl ?_
  refine r_iload dX5_add_19 rfl ?_
  refine r_iload dX5_add_21 rfl ?_
  refine r_iload dX5_add_23 rfl ?_
  refine r_callVJ (368) hL (ctX5_enter l Ω _ (qC S) v1 _ _ _ _ _ _) kX5_add_61 (by omega) ⟨_, _, _, rfl, rfl, rfl⟩ rfl rfl (Nat.le_of_ble_eq_true rfl) dX5_add_25 ?_
  intro r σ2 hσ2
  have k2 : keepC σ σ2 := keepC_tr k1 hσ2.2.1
  rw [hσ2.1]
  refine r_istore dX5_add_28 (by decide) rfl ?_
  refine r_iload dX5_add_30 rfl ?_
  refine r_if_lt 39 dX5_add_32 (by decide) (fun c32 => ?_) (fun c32 => ?_)
  ·
    refine r_iload dX5_add_39 rfl ?_
    exact r_iret hQ rfl dX5_add_41 (reJ_of (okC_of (by rw [oAdd, if_neg (by rw [ent_neg hx0 c32]; decide)]) (isC_kc h k2) (keepM_kc k2)))
  ·
    obtain ⟨eo, ea⟩ := ent_pos c32
    refine r_aload_n dX5_add_35 rfl ?_
    refine r_callVV (368) hL (ctX5_adoptTrial l Ω σ2 S (isC_kc h k2) _ (hσ2.2.2 eo)) kX5_add_65 (by omega) ⟨_, _, _, rfl, rfl, rfl⟩ rfl rfl (Nat.le_of_ble_eq_true rfl) dX5_add_36 ?_
    intro σ3 hσ3
    refine r_iload dX5_add_39 rfl ?_
    exact r_iret hQ rfl dX5_add_41 (reJ_of (okC_of (by rw [oAdd, if_pos eo, ea]) hσ3.1 (keepM_tr (keepM_kc k2) hσ3.2.2)))

set_option maxRecDepth 100000 in
set_option maxHeartbeats 4000000 in
theorem ctX5_look (l : Launch) (Ω : Om) (σ : Sg) (v : SpV) (hv : isV σ 0 v) : CtW l yX5_look wsX5_look (rmD 6) Ω [.ref (ad Ω 368)] σ (reA (ad Ω (iP 0)) (fun σ1 => pcV v 0 σ1 ∧ keepC σ σ1)) := by
  refine ct_intro [some (.ref (ad Ω 368))] (by decide) rfl rfl (Nat.le_of_ble_eq_true rfl) (fun Γ hL hQ => ?_)
  show AtW mX5_look Γ Ω σ 0 [some (.ref (ad Ω 368))] []
  refine r_aload_n dX5_look_0 rfl ?_
  refine fX5_6 jX5_look_X5 lX5_look_39 dX5_look_1 ?_
  refine r_aload_n dX5_look_4 rfl ?_
  refine fX5_0 jX5_look_X5 lX5_look_10 dX5_look_5 ?_
  refine r_callVV (iP 0) hL (ctX2_look l Ω _ 0 0 (vN v) (by omega) (by omega) hv.1 hv.2.1) kX5_look_125 (iP_lt (by omega)) ⟨_, _, _, cel_pic (by omega), rfl, rfl⟩ rfl rfl (Nat.le_of_ble_eq_true rfl) dX5_look_8 ?_
  intro σ1 hσ1
  refine r_aload_n dX5_look_11 rfl ?_
  refine fX5_6 jX5_look_X5 lX5_look_39 dX5_look_12 ?_
  exact r_aret hQ rfl dX5_look_15 (⟨rfl, (pcV_of hv hσ1).1, keepC_pic (by omega) (pcV_of hv hσ1).2⟩)

set_option maxRecDepth 100000 in
set_option maxHeartbeats 4000000 in
theorem ctX5_breakOne (l : Launch) (Ω : Om) (σ : Sg) (v : SpV) (hv : isV σ 1 v) (hx0 : ¬ vX v < 0) : CtW l yX5_breakOne wsX5_breakOne (rmD 6) Ω [.ref (ad Ω 368), .ref (ad Ω (iS 1))] σ (reJ (bkI σ v)) := by
  refine ct_intro [some (.ref (ad Ω 368)), some (.ref (ad Ω (iS 1))), none, none, none, none] (by decide) rfl rfl (Nat.le_of_ble_eq_true rfl) (fun Γ hL hQ => ?_)
  show AtW mX5_breakOne Γ Ω σ 0 [some (.ref (ad Ω 368)), some (.ref (ad Ω (iS 1))), none, none, none, none] []
  have hn : vN v ≤ 16 := hv.1
  refine r_aload_n dX5_breakOne_0 rfl ?_
  refine fX5_6 jX5_breakOne_X5 lX5_breakOne_39 dX5_breakOne_1 ?_
  refine r_aload_n dX5_breakOne_4 rfl ?_
  refine r_callVV (iP 0) hL (ctX2_look l Ω _ 0 1 (vN v) (by omega) (by omega) hv.1 hv.2.1) kX5_breakOne_125 (iP_lt (by omega)) ⟨_, _, _, cel_pic (by omega), rfl, rfl⟩ rfl rfl (Nat.le_of_ble_eq_true rfl) dX5_breakOne_5 ?_
  intro σ1 hσ1
  obtain ⟨hpv, hpf⟩ := pcV_of hv hσ1
  have v1 := isV_pic hv (by omega) hpf
  have k1 := keepC_pic (by omega) hpf
  refine r_aload_n dX5_breakOne_8 rfl ?_
  refine fX5_6 jX5_breakOne_X5 lX5_breakOne_39 dX5_breakOne_9 ?_
  refine r_aload_n dX5_breakOne_12 rfl ?_
  refine r_callVI (iP 0) hL (ctX2_greatestInRings l Ω σ1 0 1 (vN v) (by omega) (by omega) hv.1 hpv.1) kX5_breakOne_227 (iP_lt (by omega)) ⟨_, _, _, cel_pic (by omega), rfl, rfl⟩ rfl rfl (Nat.le_of_ble_eq_true rfl) dX5_breakOne_13 ?_
  rw [grO_v v1 (fun k hk => (hpv.2.1 k hk).2.1)]
  refine r_istore_n dX5_breakOne_16 (by decide) rfl ?_
  refine r_iload_n dX5_breakOne_17 rfl ?_
  refine r_iconst (-1) dX5_breakOne_18 (by decide) ?_
  refine r_icmp_ne 25 dX5_breakOne_19 (by decide) (fun c19 => ?_) (fun c19 => ?_)
  ·
    obtain ⟨k, hk, ek⟩ := gr_some c19
    rw [ek]
    have hd := brD_lt v k
    refine r_aload_n dX5_breakOne_25 rfl ?_
    refine fX3_0 1 (by omega) jX5_breakOne_X3 lX5_breakOne_72 dX5_breakOne_26 ?_
    refine r_iload_n dX5_breakOne_29 rfl ?_
    refine r_aaldB 1 (by omega) k rfl (by omega) dX5_breakOne_30 ?_
    refine r_astore_n dX5_breakOne_31 (by decide) rfl ?_
    refine r_aload_n dX5_breakOne_32 rfl ?_
    refine r_callVI (iBo (bx 1 k)) hL (ctX0_longestDirection l Ω _ (bx 1 k) (bx_lt (by omega) (by omega))) kX5_breakOne_230 (iB_lt (bx_lt (by omega) (by omega))) ⟨_, _, _, cel_box (bx_lt (by omega) (by omega)), rfl, rfl⟩ rfl rfl (Nat.le_of_ble_eq_true rfl) dX5_breakOne_33 ?_
    rw [v_lgd v1 hk]
    refine r_istore dX5_breakOne_36 (by decide) rfl ?_
    refine r_aload_n dX5_breakOne_38 rfl ?_
    refine r_iload dX5_breakOne_39 rfl ?_
    refine r_callVI (iBo (bx 1 k)) hL (ctX0_size l Ω _ (bx 1 k) (brD v k) (bx_lt (by omega) (by omega)) hd) kX5_breakOne_233 (iB_lt (bx_lt (by omega) (by omega))) ⟨_, _, _, cel_box (bx_lt (by omega) (by omega)), rfl, rfl⟩ rfl rfl (Nat.le_of_ble_eq_true rfl) dX5_breakOne_41 ?_
    rw [v_sz v1 hk hd]
    refine r_istore dX5_breakOne_44 (by decide) rfl ?_
    refine r_iload dX5_breakOne_46 rfl ?_
    refine r_iconst 1 dX5_breakOne_48 (by decide) ?_
    refine r_icmp_gt 55 dX5_breakOne_49 (by decide) (fun c49 => ?_) (fun c49 => ?_)
    ·
      refine r_aload_n dX5_breakOne_55 rfl ?_
      refine r_callVI (iS 1) hL (ctX3_isFull l Ω σ1 1 (vN v) (by omega) hv.1 v1.2.1) kX5_breakOne_106 (iS_lt (by omega)) ⟨_, _, _, cel_sp (by omega), rfl, rfl⟩ rfl rfl (Nat.le_of_ble_eq_true rfl) dX5_breakOne_56 ?_
      refine r_if_eq 65 dX5_breakOne_59 (by decide) (fun c59 => ?_) (fun c59 => ?_)
      ·
        replace c59 := bI_f c59
        refine r_aload_n dX5_breakOne_65 rfl ?_
        refine r_iload_n dX5_breakOne_66 rfl ?_
        refine r_iload dX5_breakOne_67 rfl ?_
        refine r_aload_n dX5_breakOne_69 rfl ?_
        refine fX0_1 (bx 1 k) (bx_lt (by omega) (by omega)) jX5_breakOne_X0 lX5_breakOne_88 dX5_breakOne_70 ?_
        refine r_iload dX5_breakOne_73 rfl ?_
        refine ldL (bx 1 k) (bx_lt (by omega) (by omega)) (brD v k) rfl (by omega) dX5_breakOne_75 ?_
        rw [v_lo v1 hk _ hd]
        refine r_iload dX5_breakOne_76 rfl ?_
        refine r_iconst 2 dX5_breakOne_78 (by decide) ?_
        refine r_idiv dX5_breakOne_79 (by decide) ?_
        refine r_iadd dX5_breakOne_80 ?_
        refine r_callVJ (iS 1) hL (ctX3_cutInTwo l Ω σ1 1 (vN v) (by omega) hv.1 v1.2.1 k (brD v k) _ hk hd (by rw [v1.2.2.1]; exact hx0)) kX5_breakOne_110 (iS_lt (by omega)) ⟨_, _, _, cel_sp (by omega), rfl, rfl⟩ rfl rfl (Nat.le_of_ble_eq_true rfl) dX5_breakOne_81 ?_
        intro r σ2 hσ2
        have h16 : vN v < 16 := by have h := of_decide_eq_false c59; have := hv.1; omega
        obtain ⟨rfl, v2⟩ := isV_cut v1 h16 hσ2 hk
        exact r_iret hQ rfl dX5_breakOne_84 (reJ_of ⟨(br_yes ek c49 (of_decide_eq_false c59)).1.symm, keepC_tr k1 (keepC_fr (hσ2.2 h16).2.2.2.2.2.2.2.2), Or.inr ⟨_, (br_yes ek c49 (of_decide_eq_false c59)).2, v2⟩⟩)
      ·
        replace c59 := bI_t c59
        refine r_bipush (-3) dX5_breakOne_62 (by decide) ?_
        exact r_iret hQ rfl dX5_breakOne_64 (reJ_of ⟨(br_full ek c49 (of_decide_eq_true c59)).1.symm, k1, Or.inl (br_full ek c49 (of_decide_eq_true c59)).2⟩)
    ·
      refine r_bipush (-4) dX5_breakOne_52 (by decide) ?_
      exact r_iret hQ rfl dX5_breakOne_54 (reJ_of ⟨(br_one ek c49).1.symm, k1, Or.inl (br_one ek c49).2⟩)
  ·
    refine r_bipush (-5) dX5_breakOne_22 (by decide) ?_
    exact r_iret hQ rfl dX5_breakOne_24 (reJ_of ⟨(br_none (gr_none hv.1 c19)).1.symm, k1, Or.inl (br_none (gr_none hv.1 c19)).2⟩)

set_option maxRecDepth 100000 in
set_option maxHeartbeats 4000000 in
theorem ctX5_breakRing (l : Launch) (Ω : Om) (σ : Sg) (S : StV) (h : isC σ S) (hx0 : ¬ vX (qC S) < 0) : CtW l yX5_breakRing wsX5_breakRing (rmD 7) Ω [.ref (ad Ω 368)] σ (reJ (okC σ (oBreak S))) := by
  refine ct_intro [some (.ref (ad Ω 368)), none] (by decide) rfl rfl (Nat.le_of_ble_eq_true rfl) (fun Γ hL hQ => ?_)
  show AtW mX5_breakRing Γ Ω σ 0 [some (.ref (ad Ω 368)), none] []
  obtain ⟨hv, ⟨pm, h0, hh⟩, hp, ht⟩ := id h
  have hn : vN (qC S) ≤ 16 := hv.1
  have hc : σ (iS 0) 1 = nI (vN (qC S)) := hv.2.1
  refine r_aload_n dX5_breakRing_0 rfl ?_
  refine fX5_1 jX5_breakRing_X5 lX5_breakRing_16 dX5_breakRing_1 ?_
  refine r_aload_n dX5_breakRing_4 rfl ?_
  refine fX5_0 jX5_breakRing_X5 lX5_breakRing_10 dX5_breakRing_5 ?_
  refine r_callVV (iS 1) hL (ctX3_copyFrom l Ω σ 1 0 _ (by omega) (by omega) (by omega) hn hc) kX5_breakRing_57 (iS_lt (by omega)) ⟨_, _, _, cel_sp (by omega), rfl, rfl⟩ rfl rfl (Nat.le_of_ble_eq_true rfl) dX5_breakRing_8 ?_
  intro σ1 hσ1
  have k1 : keepC σ σ1 := keepC_fr hσ1.2
  have v1 : isV σ1 1 (qC S) := isV_sp hv hσ1.1
  refine r_aload_n dX5_breakRing_11 rfl ?_
  refine r_aload_n dX5_breakRing_12 rfl ?_
  refine fX5_1 jX5_breakRing_X5 lX5_breakRing_16 dX5_breakRing_13 ?_
  refine r_callVJ (368) hL (ctX5_breakOne l Ω σ1 (qC S) v1 (by exact hx0)) kX5_breakRing_114 (by omega) ⟨_, _, _, rfl, rfl, rfl⟩ rfl rfl (Nat.le_of_ble_eq_true rfl) dX5_breakRing_16 ?_
  intro r σ2 hσ2
  obtain ⟨rfl, k2, hb⟩ := hσ2
  replace k2 := keepC_tr k1 k2
  refine r_istore_n dX5_breakRing_19 (by decide) rfl ?_
  refine r_iload_n dX5_breakRing_20 rfl ?_
  refine r_if_lt 28 dX5_breakRing_21 (by decide) (fun c21 => ?_) (fun c21 => ?_)
  ·
    have eo : brO (qC S) = none := by rcases br_cases (qC S) with q | ⟨k, _, _, _, e, _⟩; exact q.1; exact absurd (e ▸ c21) hx0
    refine r_iload_n dX5_breakRing_28 rfl ?_
    exact r_iret hQ rfl dX5_breakRing_29 (reJ_of (okC_of (by rw [oBreak, eo]) (isC_kc h k2) (keepM_kc k2)))
  ·
    obtain ⟨w, eo, v2⟩ : ∃ w, brO (qC S) = some w ∧ isV σ2 1 w := by rcases hb with q | q; exact absurd (br_neg q) c21; exact q
    refine r_aload_n dX5_breakRing_24 rfl ?_
    refine r_callVV (368) hL (ctX5_adoptTrial l Ω σ2 S (isC_kc h k2) w v2) kX5_breakRing_65 (by omega) ⟨_, _, _, rfl, rfl, rfl⟩ rfl rfl (Nat.le_of_ble_eq_true rfl) dX5_breakRing_25 ?_
    intro σ3 hσ3
    refine r_iload_n dX5_breakRing_28 rfl ?_
    exact r_iret hQ rfl dX5_breakRing_29 (reJ_of (okC_of (by rw [oBreak, eo]) hσ3.1 (keepM_tr (keepM_kc k2) hσ3.2.2)))

set_option maxRecDepth 100000 in
set_option maxHeartbeats 4000000 in
theorem ctX5_breaks (l : Launch) (Ω : Om) (σ : Sg) (S : StV) (h : isC σ S) (m0 : Nat) (hm0 : m0 < 2 ^ 30) (hx0 : vX (qC S) = nI m0) : CtW l yX5_breaks wsX5_breaks (rmD 7) Ω [.ref (ad Ω 368)] σ (reJ (okC σ (oBreaks S))) := by
  refine ct_intro [some (.ref (ad Ω 368)), none, none] (by decide) rfl rfl (Nat.le_of_ble_eq_true rfl) (fun Γ hL hQ => ?_)
  show AtW mX5_breaks Γ Ω σ 0 [some (.ref (ad Ω 368)), none, none] []
  obtain ⟨hv, ⟨pm, h0, hh⟩, hp, ht⟩ := id h
  have hn : vN (qC S) ≤ 16 := hv.1
  have hc : σ (iS 0) 1 = nI (vN (qC S)) := hv.2.1
  refine r_aload_n dX5_breaks_0 rfl ?_
  refine fX5_1 jX5_breaks_X5 lX5_breaks_16 dX5_breaks_1 ?_
  refine r_aload_n dX5_breaks_4 rfl ?_
  refine fX5_0 jX5_breaks_X5 lX5_breaks_10 dX5_breaks_5 ?_
  refine r_callVV (iS 1) hL (ctX3_copyFrom l Ω σ 1 0 _ (by omega) (by omega) (by omega) hn hc) kX5_breaks_57 (iS_lt (by omega)) ⟨_, _, _, cel_sp (by omega), rfl, rfl⟩ rfl rfl (Nat.le_of_ble_eq_true rfl) dX5_breaks_8 ?_
  intro σ1 hσ1
  have k1 : keepC σ σ1 := keepC_fr hσ1.2
  have v1 : isV σ1 1 (qC S) := isV_sp hv hσ1.1
  refine r_iconst 0 dX5_breaks_11 (by decide) ?_
  refine r_istore_n dX5_breaks_12 (by decide) rfl ?_
  have L1 : ∀ (N : Nat) (j : Nat) (τ : Sg) (w : SpV) (v2 : Option Value), j ≤ 17 → keepC σ τ → isV τ 1 w → vX w = nI (m0 + j) → bksA w j (17 - j) = bksA (qC S) 0 17 → 17 < j + N → AtW mX5_breaks Γ Ω τ 13 [some (.ref (ad Ω 368)), some (.int (nI j)), v2] [] := by
    intro N
    induction N with
    | zero =>
      intro j τ w v2 hj hk hw hxw hf hN
      exact absurd hN (by omega)
    | succ N ih =>
      intro j τ w v2 hj hk hw hxw hf hN
      refine r_iload_n dX5_breaks_13 rfl ?_
      refine r_bipush 16 dX5_breaks_14 (by decide) ?_
      refine r_icmp_gt 48 dX5_breaks_16 (by decide) (fun c16 => ?_) (fun c16 => ?_)
      ·
        have n16 := (nI_ltI (a := 16) (b := j) (by omega) (by omega)).mp c16
        refine r_bipush (-3) dX5_breaks_48 (by decide) ?_
        have ek : j = 17 := by omega
        subst ek
        exact r_iret hQ rfl dX5_breaks_50 (reJ_of (okC_of (by rw [oBreaks, ← hf]; rfl) (isC_kc h hk) (keepM_kc hk)))
      ·
        have n16 := Nat.not_lt.mp (fun q => c16 ((nI_ltI (a := 16) (b := j) (by omega) (by omega)).mpr q))
        have em : 17 - j = (16 - j) + 1 := by omega
        rw [em] at hf
        refine r_aload_n dX5_breaks_19 rfl ?_
        refine r_aload_n dX5_breaks_20 rfl ?_
        refine fX5_1 jX5_breaks_X5 lX5_breaks_16 dX5_breaks_21 ?_
        refine r_callVJ (368) hL (ctX5_breakOne l Ω τ w hw (by rw [hxw]; exact nI_pos (by omega))) kX5_breaks_114 (by omega) ⟨_, _, _, rfl, rfl, rfl⟩ rfl rfl (Nat.le_of_ble_eq_true rfl) dX5_breaks_24 ?_
        intro r σ2 hσ2
        obtain ⟨rfl, k2, hb⟩ := hσ2
        replace k2 := keepC_tr hk k2
        refine r_istore_n dX5_breaks_27 (by decide) rfl ?_
        refine r_iload_n dX5_breaks_28 rfl ?_
        refine r_bipush (-5) dX5_breaks_29 (by decide) ?_
        refine r_icmp_ne 36 dX5_breaks_31 (by decide) (fun c31 => ?_) (fun c31 => ?_)
        ·
          refine r_iload_n dX5_breaks_36 rfl ?_
          refine r_if_ge 42 dX5_breaks_37 (by decide) (fun c37 => ?_) (fun c37 => ?_)
          ·
            replace c37 := Int32.not_lt.mpr c37
            obtain ⟨k, ek, hk9, h16, e9, eo⟩ : ∃ k, grV w = some k ∧ k < vN w ∧ ¬ vN w = 16 ∧ brA w = vX w ∧ brO w = some (brV w k) := by rcases br_cases w with q | q; exact absurd (br_neg q.1) c37; exact q
            obtain ⟨w2, eo2, v2w⟩ : ∃ w2, brO w = some w2 ∧ isV σ2 1 w2 := by rcases hb with q | q; exact absurd (q.symm.trans eo) (by simp); exact q
            have e2 : w2 = brV w k := Option.some.inj (eo2.symm.trans eo)
            have hx2 : vX w2 = nI (m0 + (j + 1)) := by rw [e2]; show vX w + 1 = _; rw [hxw, nI_1]; rfl
            have hf2 : bksA w2 (j + 1) (17 - (j + 1)) = bksA (qC S) 0 17 := by rw [← hf, bksA, eo2, show 17 - (j + 1) = 16 - j by omega]
            refine r_iinc (nI (j + 1)) dX5_breaks_42 rfl (nI_1 j) (by decide) rfl ?_
            refine r_goto 13 dX5_breaks_45 (by decide) ?_
            exact ih (j + 1) σ2 w2 _ (by omega) k2 v2w hx2 hf2 (by omega)
          ·
            replace c37 := Int32.not_le.mp c37
            have eo : brO w = none := by rcases br_cases w with q | ⟨k, _, _, _, e, _⟩; exact q.1; exact absurd c37 (by rw [e, hxw]; exact nI_pos (by omega))
            refine r_iload_n dX5_breaks_40 rfl ?_
            exact r_iret hQ rfl dX5_breaks_41 (reJ_of (okC_of (by rw [oBreaks, ← hf, bksA, eo]; simp only; rw [if_neg c31]) (isC_kc h k2) (keepM_kc k2)))
        ·
          have eo : brO w = none := by rcases br_cases w with q | ⟨k, _, _, _, e, _⟩; exact q.1; exact absurd (e.symm.trans c31) (by rw [hxw]; exact nI_nm5 (by omega))
          refine r_iload_n dX5_breaks_34 rfl ?_
          exact r_iret hQ rfl dX5_breaks_35 (reJ_of (okC_of (by rw [oBreaks, ← hf, bksA, eo]; simp only; rw [if_pos c31]) (isC_kc h k2) (keepM_kc k2)))
  exact L1 18 0 σ1 _ none (by omega) k1 v1 hx0 rfl (by omega)

set_option maxRecDepth 100000 in
set_option maxHeartbeats 4000000 in
theorem ctX5_turn (l : Launch) (Ω : Om) (σ : Sg) (S : StV) (h : isC σ S) : CtW l yX5_turn wsX5_turn (rmD 6) Ω [.ref (ad Ω 368)] σ (reJ (okC σ (oTurn S))) := by
  refine ct_intro [some (.ref (ad Ω 368)), none] (by decide) rfl rfl (Nat.le_of_ble_eq_true rfl) (fun Γ hL hQ => ?_)
  show AtW mX5_turn Γ Ω σ 0 [some (.ref (ad Ω 368)), none] []
  obtain ⟨hv, ⟨pm, h0, hh⟩, hp, ht⟩ := id h
  have hn : vN (qC S) ≤ 16 := hv.1
  have hc : σ (iS 0) 1 = nI (vN (qC S)) := hv.2.1
  refine r_aload_n dX5_turn_0 rfl ?_
  refine fX5_0 jX5_turn_X5 lX5_turn_10 dX5_turn_1 ?_
  refine fX3_1 0 (by omega) jX5_turn_X3 lX5_turn_118 dX5_turn_4 ?_
  rw [hc]
  refine r_if_ne 13 dX5_turn_7 (by decide) (fun c7 => ?_) (fun c7 => ?_)
  ·
    refine r_aload_n dX5_turn_13 rfl ?_
    refine fX5_1 jX5_turn_X5 lX5_turn_16 dX5_turn_14 ?_
    refine r_aload_n dX5_turn_17 rfl ?_
    refine fX5_0 jX5_turn_X5 lX5_turn_10 dX5_turn_18 ?_
    refine r_callVV (iS 1) hL (ctX3_copyFrom l Ω σ 1 0 _ (by omega) (by omega) (by omega) hn hc) kX5_turn_57 (iS_lt (by omega)) ⟨_, _, _, cel_sp (by omega), rfl, rfl⟩ rfl rfl (Nat.le_of_ble_eq_true rfl) dX5_turn_21 ?_
    intro σ1 hσ1
    have k1 : keepC σ σ1 := keepC_fr hσ1.2
    have v1 : isV σ1 1 (qC S) := isV_sp hv hσ1.1
    refine r_aload_n dX5_turn_24 rfl ?_
    refine fX5_1 jX5_turn_X5 lX5_turn_16 dX5_turn_25 ?_
    refine r_callVV (iS 1) hL (ctX3_quarterTurn l Ω _ 1 (vN (qC S)) (by omega) hn v1.2.1) kX5_turn_122 (iS_lt (by omega)) ⟨_, _, _, cel_sp (by omega), rfl, rfl⟩ rfl rfl (Nat.le_of_ble_eq_true rfl) dX5_turn_28 ?_
    intro σ2 hσ2
    have v2 : isV σ2 1 (qtV (qC S)) := isV_qt (by omega) v1 hσ2
    have k2 : keepC σ σ2 := keepC_tr k1 (keepC_qt hσ2)
    have u2 : isV σ2 0 (qC S) := isV_kc (by omega) (by omega) hv k2
    refine r_aload_n dX5_turn_31 rfl ?_
    refine fX5_6 jX5_turn_X5 lX5_turn_39 dX5_turn_32 ?_
    refine r_aload_n dX5_turn_35 rfl ?_
    refine fX5_0 jX5_turn_X5 lX5_turn_10 dX5_turn_36 ?_
    refine r_callVV (iP 0) hL (ctX2_look l Ω σ2 0 0 _ (by omega) (by omega) hn u2.2.1) kX5_turn_125 (iP_lt (by omega)) ⟨_, _, _, cel_pic (by omega), rfl, rfl⟩ rfl rfl (Nat.le_of_ble_eq_true rfl) dX5_turn_39 ?_
    intro σ3 hσ3
    obtain ⟨p3, f3⟩ := pcV_of u2 hσ3
    have v3w := isV_pic v2 (by omega) f3
    refine r_aload_n dX5_turn_42 rfl ?_
    refine fX5_7 jX5_turn_X5 lX5_turn_43 dX5_turn_43 ?_
    refine r_aload_n dX5_turn_46 rfl ?_
    refine fX5_1 jX5_turn_X5 lX5_turn_16 dX5_turn_47 ?_
    refine r_callVV (iP 1) hL (ctX2_look l Ω σ3 1 1 _ (by omega) (by omega) v3w.1 v3w.2.1) kX5_turn_125 (iP_lt (by omega)) ⟨_, _, _, cel_pic (by omega), rfl, rfl⟩ rfl rfl (Nat.le_of_ble_eq_true rfl) dX5_turn_50 ?_
    intro σ4 hσ4
    obtain ⟨p4, f4⟩ := pcV_of v3w hσ4
    have k4 : keepC σ σ4 := keepC_tr k2 (keepC_tr (keepC_pic (by omega) f3) (keepC_pic (by omega) f4))
    have v4 := isV_pic v3w (by omega) f4
    refine r_aload_n dX5_turn_53 rfl ?_
    refine fX5_6 jX5_turn_X5 lX5_turn_39 dX5_turn_54 ?_
    refine r_aload_n dX5_turn_57 rfl ?_
    refine fX5_7 jX5_turn_X5 lX5_turn_43 dX5_turn_58 ?_
    refine r_callVI (iP 0) hL (ctX2_hidingsNotIn l Ω σ4 0 (vN (qC S)) (by omega) hn (by rw [f4 _ (by unfold iP; omega)]; exact p3.1) 1 (by omega)) kX5_turn_128 (iP_lt (by omega)) ⟨_, _, _, cel_pic (by omega), rfl, rfl⟩ rfl rfl (Nat.le_of_ble_eq_true rfl) dX5_turn_61 ?_
    rw [sumI_c (q := fun k => bcI (HV (qC S) k &&& (HV (qtV (qC S)) k ^^^ -1))) (fun k hk => by rw [f4 (iP 0 + 1) (by unfold iP; omega), (p3.2.1 k hk).1, (p4.2.1 k hk).1])]
    refine r_istore_n dX5_turn_64 (by decide) rfl ?_
    refine r_aload_n dX5_turn_65 rfl ?_
    refine r_callVV (368) hL (ctX5_adoptTrial l Ω σ4 S (isC_kc h k4) _ v4) kX5_turn_65 (by omega) ⟨_, _, _, rfl, rfl, rfl⟩ rfl rfl (Nat.le_of_ble_eq_true rfl) dX5_turn_66 ?_
    intro σ3 hσ3
    refine r_iload_n dX5_turn_69 rfl ?_
    exact r_iret hQ rfl dX5_turn_70 (reJ_of (okC_of (by rw [oTurn, if_neg (fun q => c7 (by rw [q]; rfl))]) hσ3.1 (keepM_tr (keepM_kc k4) hσ3.2.2)))
  ·
    refine r_bipush (-5) dX5_turn_10 (by decide) ?_
    exact r_iret hQ rfl dX5_turn_12 (reJ_of (okC_of (by rw [oTurn, if_pos (by by_cases q : vN (qC S) = 0; exact q; exact absurd c7 (nI_ne0 (by omega) (by omega)))]) h (fun _ _ => rfl)))

set_option maxRecDepth 100000 in
set_option maxHeartbeats 4000000 in
theorem ctX5_drawn (l : Launch) (Ω : Om) (σ : Sg) (S : StV) (h : isC σ S) (x : Int32) : CtW l yX5_drawn wsX5_drawn (rmD 7) Ω [.ref (ad Ω 368), .int x] σ (reJ (okC σ (oDrawn S x))) := by
  refine ct_intro [some (.ref (ad Ω 368)), some (.int x), none] (by decide) rfl rfl (Nat.le_of_ble_eq_true rfl) (fun Γ hL hQ => ?_)
  show AtW mX5_drawn Γ Ω σ 0 [some (.ref (ad Ω 368)), some (.int x), none] []
  obtain ⟨hv, ⟨pm, h0, hh⟩, hp, ht⟩ := id h
  have hn : vN (qC S) ≤ 16 := hv.1
  have hc : σ (iS 0) 1 = nI (vN (qC S)) := hv.2.1
  refine r_iload_n dX5_drawn_0 rfl ?_
  refine r_if_ge 7 dX5_drawn_1 (by decide) (fun c1 => ?_) (fun c1 => ?_)
  ·
    replace c1 := Int32.not_lt.mpr c1
    refine r_aload_n dX5_drawn_7 rfl ?_
    refine r_callVA (368) hL (ctX5_look l Ω _ _ hv) kX5_drawn_159 (by omega) ⟨_, _, _, rfl, rfl, rfl⟩ rfl rfl (Nat.le_of_ble_eq_true rfl) dX5_drawn_8 ?_
    intro σ1 hσ1
    have hle : DCv (qC S) ≤ vN (qC S) := ffi_le _ _
    have u1 : isV σ1 0 (qC S) := isV_kc (by omega) (by omega) hv hσ1.2
    refine r_iload_n dX5_drawn_11 rfl ?_
    refine r_callVI (iP 0) hL (ctX2_slotDrawn l Ω _ 0 (DCv (qC S)) (by omega) (by omega) hσ1.1.2.2.2.1 _) kX5_drawn_187 (iP_lt (by omega)) ⟨_, _, _, cel_pic (by omega), rfl, rfl⟩ rfl rfl (Nat.le_of_ble_eq_true rfl) dX5_drawn_12 ?_
    refine r_istore_n dX5_drawn_15 (by decide) rfl ?_
    refine r_iload_n dX5_drawn_16 rfl ?_
    refine r_iconst (-1) dX5_drawn_17 (by decide) ?_
    refine r_icmp_ne 26 dX5_drawn_18 (by decide) (fun c18 => ?_) (fun c18 => ?_)
    ·
      obtain ⟨j, b, hj, hb, rfl, eo, e2⟩ := dr_some hn hσ1.1.2.2.2.2 c1 c18
      rw [e2]
      refine r_aload_n dX5_drawn_26 rfl ?_
      refine fX5_0 jX5_drawn_X5 lX5_drawn_10 dX5_drawn_27 ?_
      refine fX3_0 0 (by omega) jX5_drawn_X3 lX5_drawn_72 dX5_drawn_30 ?_
      refine r_iload_n dX5_drawn_33 rfl ?_
      refine r_aaldB 0 (by omega) b rfl (by omega) dX5_drawn_34 ?_
      refine fX0_0 (bx 0 b) (bx_lt (by omega) (by omega)) jX5_drawn_X0 lX5_drawn_156 dX5_drawn_35 ?_
      rw [(u1.2.2.2.2.2 b hb).1]
      exact r_iret hQ rfl dX5_drawn_38 (reJ_of (okC_of (by rw [oDrawn, if_neg c1, if_pos (nI_lt hj (by omega)), nI_clamp (by omega), eo, nI_clamp (by omega)]) (isC_kc h hσ1.2) (keepM_kc hσ1.2)))
    ·
      have n18 := dr_none hn hσ1.1.2.2.2.2 c1 c18
      refine r_bipush (-5) dX5_drawn_21 (by decide) ?_
      refine r_goto 38 dX5_drawn_23 (by decide) ?_
      exact r_iret hQ rfl dX5_drawn_38 (reJ_of (okC_of (by rw [oDrawn, if_neg c1, if_neg n18]) (isC_kc h hσ1.2) (keepM_kc hσ1.2)))
  ·
    replace c1 := Int32.not_le.mp c1
    refine r_bipush (-2) dX5_drawn_4 (by decide) ?_
    exact r_iret hQ rfl dX5_drawn_6 (reJ_of (okC_of (by rw [oDrawn, if_pos c1]) h (fun _ _ => rfl)))

set_option maxRecDepth 100000 in
set_option maxHeartbeats 4000000 in
theorem ctX5_waitsFor (l : Launch) (Ω : Om) (σ : Sg) (S : StV) (h : isC σ S) (x : Int32) : CtW l yX5_waitsFor wsX5_waitsFor (rmD 7) Ω [.ref (ad Ω 368), .int x] σ (reJ (okC σ (oWaits S x))) := by
  refine ct_intro [some (.ref (ad Ω 368)), some (.int x), none, none] (by decide) rfl rfl (Nat.le_of_ble_eq_true rfl) (fun Γ hL hQ => ?_)
  show AtW mX5_waitsFor Γ Ω σ 0 [some (.ref (ad Ω 368)), some (.int x), none, none] []
  obtain ⟨hv, ⟨pm, h0, hh⟩, hp, ht⟩ := id h
  have hn : vN (qC S) ≤ 16 := hv.1
  have hc : σ (iS 0) 1 = nI (vN (qC S)) := hv.2.1
  refine r_aload_n dX5_waitsFor_0 rfl ?_
  refine fX5_0 jX5_waitsFor_X5 lX5_waitsFor_10 dX5_waitsFor_1 ?_
  refine r_iload_n dX5_waitsFor_4 rfl ?_
  refine r_callVI (iS 0) hL (ctX3_slotOf l Ω _ 0 (vN (qC S)) (by omega) hn hc _) kX5_waitsFor_68 (iS_lt (by omega)) ⟨_, _, _, cel_sp (by omega), rfl, rfl⟩ rfl rfl (Nat.le_of_ble_eq_true rfl) dX5_waitsFor_5 ?_
  rw [v_slot hv]
  refine r_istore_n dX5_waitsFor_8 (by decide) rfl ?_
  refine r_iload_n dX5_waitsFor_9 rfl ?_
  refine r_iconst (-1) dX5_waitsFor_10 (by decide) ?_
  refine r_icmp_ne 16 dX5_waitsFor_11 (by decide) (fun c11 => ?_) (fun c11 => ?_)
  ·
    obtain ⟨k, hk, ek, e2⟩ := loc_some c11
    rw [e2]
    refine r_aload_n dX5_waitsFor_16 rfl ?_
    refine r_callVA (368) hL (ctX5_look l Ω _ _ hv) kX5_waitsFor_159 (by omega) ⟨_, _, _, rfl, rfl, rfl⟩ rfl rfl (Nat.le_of_ble_eq_true rfl) dX5_waitsFor_17 ?_
    intro σ1 hσ1
    have u1 : isV σ1 0 (qC S) := isV_kc (by omega) (by omega) hv hσ1.2
    refine r_iload_n dX5_waitsFor_20 rfl ?_
    refine r_callVI (iP 0) hL (ctX2_firstNotDrawnUnder l Ω _ 0 (vN (qC S)) (by omega) hn hσ1.1.1 k (by omega)) kX5_waitsFor_215 (iP_lt (by omega)) ⟨_, _, _, cel_pic (by omega), rfl, rfl⟩ rfl rfl (Nat.le_of_ble_eq_true rfl) dX5_waitsFor_21 ?_
    rw [waI_v hσ1.1 hk]
    refine r_istore_n dX5_waitsFor_24 (by decide) rfl ?_
    refine r_iload_n dX5_waitsFor_25 rfl ?_
    refine r_iconst (-1) dX5_waitsFor_26 (by decide) ?_
    refine r_icmp_ne 35 dX5_waitsFor_27 (by decide) (fun c27 => ?_) (fun c27 => ?_)
    ·
      obtain ⟨b, hb, e3⟩ : ∃ b, b < vN (qC S) ∧ waI (qC S) k = nI b := fI_some c27
      rw [e3]
      refine r_aload_n dX5_waitsFor_35 rfl ?_
      refine fX5_0 jX5_waitsFor_X5 lX5_waitsFor_10 dX5_waitsFor_36 ?_
      refine fX3_0 0 (by omega) jX5_waitsFor_X3 lX5_waitsFor_72 dX5_waitsFor_39 ?_
      refine r_iload_n dX5_waitsFor_42 rfl ?_
      refine r_aaldB 0 (by omega) b rfl (by omega) dX5_waitsFor_43 ?_
      refine fX0_0 (bx 0 b) (bx_lt (by omega) (by omega)) jX5_waitsFor_X0 lX5_waitsFor_156 dX5_waitsFor_44 ?_
      rw [(u1.2.2.2.2.2 b hb).1]
      exact r_iret hQ rfl dX5_waitsFor_47 (reJ_of (okC_of (by rw [oWaits, ek]; simp only; rw [if_neg c27, e3, nI_clamp (by omega)]) (isC_kc h hσ1.2) (keepM_kc hσ1.2)))
    ·
      refine r_bipush (-5) dX5_waitsFor_30 (by decide) ?_
      refine r_goto 47 dX5_waitsFor_32 (by decide) ?_
      exact r_iret hQ rfl dX5_waitsFor_47 (reJ_of (okC_of (by rw [oWaits, ek]; simp only; rw [if_pos c27]) (isC_kc h hσ1.2) (keepM_kc hσ1.2)))
  ·
    have ek := loc_none hn c11
    refine r_iconst (-1) dX5_waitsFor_14 (by decide) ?_
    exact r_iret hQ rfl dX5_waitsFor_15 (reJ_of (okC_of (by rw [oWaits, ek]) h (fun _ _ => rfl)))

set_option maxRecDepth 100000 in
set_option maxHeartbeats 4000000 in
theorem ctX5_drawnWithout (l : Launch) (Ω : Om) (σ : Sg) (S : StV) (h : isC σ S) (x : Int32) : CtW l yX5_drawnWithout wsX5_drawnWithout (rmD 6) Ω [.ref (ad Ω 368), .int x] σ (reJ (okC σ (oWithout S x))) := by
  refine ct_intro [some (.ref (ad Ω 368)), some (.int x), none] (by decide) rfl rfl (Nat.le_of_ble_eq_true rfl) (fun Γ hL hQ => ?_)
  show AtW mX5_drawnWithout Γ Ω σ 0 [some (.ref (ad Ω 368)), some (.int x), none] []
  obtain ⟨hv, ⟨pm, h0, hh⟩, hp, ht⟩ := id h
  have hn : vN (qC S) ≤ 16 := hv.1
  have hc : σ (iS 0) 1 = nI (vN (qC S)) := hv.2.1
  refine r_aload_n dX5_drawnWithout_0 rfl ?_
  refine fX5_0 jX5_drawnWithout_X5 lX5_drawnWithout_10 dX5_drawnWithout_1 ?_
  refine r_iload_n dX5_drawnWithout_4 rfl ?_
  refine r_callVI (iS 0) hL (ctX3_slotOf l Ω _ 0 (vN (qC S)) (by omega) hn hc _) kX5_drawnWithout_68 (iS_lt (by omega)) ⟨_, _, _, cel_sp (by omega), rfl, rfl⟩ rfl rfl (Nat.le_of_ble_eq_true rfl) dX5_drawnWithout_5 ?_
  rw [v_slot hv]
  refine r_istore_n dX5_drawnWithout_8 (by decide) rfl ?_
  refine r_iload_n dX5_drawnWithout_9 rfl ?_
  refine r_iconst (-1) dX5_drawnWithout_10 (by decide) ?_
  refine r_icmp_ne 16 dX5_drawnWithout_11 (by decide) (fun c11 => ?_) (fun c11 => ?_)
  ·
    obtain ⟨k, hk, ek, e2⟩ := loc_some c11
    rw [e2]
    refine r_aload_n dX5_drawnWithout_16 rfl ?_
    refine fX5_1 jX5_drawnWithout_X5 lX5_drawnWithout_16 dX5_drawnWithout_17 ?_
    refine r_aload_n dX5_drawnWithout_20 rfl ?_
    refine fX5_0 jX5_drawnWithout_X5 lX5_drawnWithout_10 dX5_drawnWithout_21 ?_
    refine r_callVV (iS 1) hL (ctX3_copyFrom l Ω σ 1 0 _ (by omega) (by omega) (by omega) hn hc) kX5_drawnWithout_57 (iS_lt (by omega)) ⟨_, _, _, cel_sp (by omega), rfl, rfl⟩ rfl rfl (Nat.le_of_ble_eq_true rfl) dX5_drawnWithout_24 ?_
    intro σ1 hσ1
    have k1 : keepC σ σ1 := keepC_fr hσ1.2
    have v1 : isV σ1 1 (qC S) := isV_sp hv hσ1.1
    refine r_aload_n dX5_drawnWithout_27 rfl ?_
    refine fX5_1 jX5_drawnWithout_X5 lX5_drawnWithout_16 dX5_drawnWithout_28 ?_
    refine r_iload_n dX5_drawnWithout_31 rfl ?_
    refine r_callVV (iS 1) hL (ctX3_takeOut l Ω _ 1 (vN (qC S)) (by omega) hn v1.2.1 k hk) kX5_drawnWithout_80 (iS_lt (by omega)) ⟨_, _, _, cel_sp (by omega), rfl, rfl⟩ rfl rfl (Nat.le_of_ble_eq_true rfl) dX5_drawnWithout_32 ?_
    intro σ2 hσ2
    have v2 := isV_take v1 hk hσ2
    have k2 := keepC_tr k1 (keepC_fr hσ2.2.2.2)
    refine r_aload_n dX5_drawnWithout_35 rfl ?_
    refine fX5_6 jX5_drawnWithout_X5 lX5_drawnWithout_39 dX5_drawnWithout_36 ?_
    refine r_aload_n dX5_drawnWithout_39 rfl ?_
    refine fX5_1 jX5_drawnWithout_X5 lX5_drawnWithout_16 dX5_drawnWithout_40 ?_
    refine r_callVV (iP 0) hL (ctX2_look l Ω σ2 0 1 _ (by omega) (by omega) v2.1 v2.2.1) kX5_drawnWithout_125 (iP_lt (by omega)) ⟨_, _, _, cel_pic (by omega), rfl, rfl⟩ rfl rfl (Nat.le_of_ble_eq_true rfl) dX5_drawnWithout_43 ?_
    intro σ3 hσ3
    obtain ⟨p3, f3⟩ := pcV_of v2 hσ3
    have k3 := keepC_tr k2 (keepC_pic (by omega) f3)
    refine r_aload_n dX5_drawnWithout_46 rfl ?_
    refine fX5_6 jX5_drawnWithout_X5 lX5_drawnWithout_39 dX5_drawnWithout_47 ?_
    refine fX2_5 0 (by omega) jX5_drawnWithout_X2 lX5_drawnWithout_196 dX5_drawnWithout_50 ?_
    rw [p3.2.2.2.1]
    exact r_iret hQ rfl dX5_drawnWithout_53 (reJ_of (okC_of (by rw [oWithout, ek]) (isC_kc h k3) (keepM_kc k3)))
  ·
    have ek := loc_none hn c11
    refine r_iconst (-1) dX5_drawnWithout_14 (by decide) ?_
    exact r_iret hQ rfl dX5_drawnWithout_15 (reJ_of (okC_of (by rw [oWithout, ek]) h (fun _ _ => rfl)))

set_option maxRecDepth 100000 in
set_option maxHeartbeats 4000000 in
theorem ctX5_pair (l : Launch) (Ω : Om) (σ : Sg) (S : StV) (h : isC σ S) (x y : Int32) : CtW l yX5_pair wsX5_pair (rmD 3) Ω [.ref (ad Ω 368), .int x, .int y] σ (reJ (okC σ (oPair S x y))) := by
  refine ct_intro [some (.ref (ad Ω 368)), some (.int x), some (.int y), none, none, none, none] (by decide) rfl rfl (Nat.le_of_ble_eq_true rfl) (fun Γ hL hQ => ?_)
  show AtW mX5_pair Γ Ω σ 0 [some (.ref (ad Ω 368)), some (.int x), some (.int y), none, none, none, none] []
  obtain ⟨hv, ⟨pm, h0, hh⟩, hp, ht⟩ := id h
  have hn : vN (qC S) ≤ 16 := hv.1
  have hc : σ (iS 0) 1 = nI (vN (qC S)) := hv.2.1
  refine r_aload_n dX5_pair_0 rfl ?_
  refine fX5_0 jX5_pair_X5 lX5_pair_10 dX5_pair_1 ?_
  refine r_iload_n dX5_pair_4 rfl ?_
  refine r_callVI (iS 0) hL (ctX3_slotOf l Ω _ 0 (vN (qC S)) (by omega) hn hc _) kX5_pair_68 (iS_lt (by omega)) ⟨_, _, _, cel_sp (by omega), rfl, rfl⟩ rfl rfl (Nat.le_of_ble_eq_true rfl) dX5_pair_5 ?_
  rw [v_slot hv]
  refine r_istore_n dX5_pair_8 (by decide) rfl ?_
  refine r_aload_n dX5_pair_9 rfl ?_
  refine fX5_0 jX5_pair_X5 lX5_pair_10 dX5_pair_10 ?_
  refine r_iload_n dX5_pair_13 rfl ?_
  refine r_callVI (iS 0) hL (ctX3_slotOf l Ω _ 0 (vN (qC S)) (by omega) hn hc _) kX5_pair_68 (iS_lt (by omega)) ⟨_, _, _, cel_sp (by omega), rfl, rfl⟩ rfl rfl (Nat.le_of_ble_eq_true rfl) dX5_pair_14 ?_
  rw [v_slot hv]
  refine r_istore dX5_pair_17 (by decide) rfl ?_
  refine r_iload_n dX5_pair_19 rfl ?_
  refine r_iconst (-1) dX5_pair_20 (by decide) ?_
  refine r_icmp_eq 30 dX5_pair_21 (by decide) (fun c21 => ?_) (fun c21 => ?_)
  ·
    have ek := loc_none hn c21
    refine r_iconst (-1) dX5_pair_30 (by decide) ?_
    exact r_iret hQ rfl dX5_pair_31 (reJ_of (okC_of (by rw [oPair, ek]) h (fun _ _ => rfl)))
  ·
    obtain ⟨a, ha, ek, e2⟩ := loc_some c21
    rw [e2]
    refine r_iload dX5_pair_24 rfl ?_
    refine r_iconst (-1) dX5_pair_26 (by decide) ?_
    refine r_icmp_ne 32 dX5_pair_27 (by decide) (fun c27 => ?_) (fun c27 => ?_)
    ·
      obtain ⟨b, hb, ek2, e3⟩ := loc_some c27
      rw [e3]
      refine r_iload_n dX5_pair_32 rfl ?_
      refine r_iload dX5_pair_33 rfl ?_
      refine r_icmp_ne 41 dX5_pair_35 (by decide) (fun c35 => ?_) (fun c35 => ?_)
      ·
        have n35 : ¬ a = b := fun q => c35 ((nI_eq (a := a) (b := b) (by omega) (by omega)).mpr q)
        refine r_aload_n dX5_pair_41 rfl ?_
        refine fX5_0 jX5_pair_X5 lX5_pair_10 dX5_pair_42 ?_
        refine fX3_0 0 (by omega) jX5_pair_X3 lX5_pair_72 dX5_pair_45 ?_
        refine r_iload_n dX5_pair_48 rfl ?_
        refine r_aaldB 0 (by omega) a rfl (by omega) dX5_pair_49 ?_
        refine r_aload_n dX5_pair_50 rfl ?_
        refine fX5_0 jX5_pair_X5 lX5_pair_10 dX5_pair_51 ?_
        refine fX3_0 0 (by omega) jX5_pair_X3 lX5_pair_72 dX5_pair_54 ?_
        refine r_iload dX5_pair_57 rfl ?_
        refine r_aaldB 0 (by omega) b rfl (by omega) dX5_pair_59 ?_
        refine r_callVI (iBo (bx 0 a)) hL (ctX0_directionOfHiding l Ω _ (bx 0 a) (bx 0 b) (bx_lt (by omega) (by omega)) (bx_lt (by omega) (by omega))) kX5_pair_183 (iB_lt (bx_lt (by omega) (by omega))) ⟨_, _, _, cel_box (bx_lt (by omega) (by omega)), rfl, rfl⟩ rfl rfl (Nat.le_of_ble_eq_true rfl) dX5_pair_60 ?_
        rw [show dhB (σ (iL (bx 0 a))) (σ (iH (bx 0 a))) (σ (iL (bx 0 b))) (σ (iH (bx 0 b))) = dhV (qC S) a b from dhB_c (v_lo hv ha) (v_hi hv ha) (v_lo hv hb) (v_hi hv hb)]
        refine r_istore dX5_pair_63 (by decide) rfl ?_
        refine r_iload dX5_pair_65 rfl ?_
        refine r_iconst (-1) dX5_pair_67 (by decide) ?_
        refine r_icmp_eq 76 dX5_pair_68 (by decide) (fun c68 => ?_) (fun c68 => ?_)
        ·
          refine r_aload_n dX5_pair_76 rfl ?_
          refine fX5_0 jX5_pair_X5 lX5_pair_10 dX5_pair_77 ?_
          refine fX3_0 0 (by omega) jX5_pair_X3 lX5_pair_72 dX5_pair_80 ?_
          refine r_iload dX5_pair_83 rfl ?_
          refine r_aaldB 0 (by omega) b rfl (by omega) dX5_pair_85 ?_
          refine r_aload_n dX5_pair_86 rfl ?_
          refine fX5_0 jX5_pair_X5 lX5_pair_10 dX5_pair_87 ?_
          refine fX3_0 0 (by omega) jX5_pair_X3 lX5_pair_72 dX5_pair_90 ?_
          refine r_iload_n dX5_pair_93 rfl ?_
          refine r_aaldB 0 (by omega) a rfl (by omega) dX5_pair_94 ?_
          refine r_callVI (iBo (bx 0 b)) hL (ctX0_directionOfHiding l Ω _ (bx 0 b) (bx 0 a) (bx_lt (by omega) (by omega)) (bx_lt (by omega) (by omega))) kX5_pair_183 (iB_lt (bx_lt (by omega) (by omega))) ⟨_, _, _, cel_box (bx_lt (by omega) (by omega)), rfl, rfl⟩ rfl rfl (Nat.le_of_ble_eq_true rfl) dX5_pair_95 ?_
          rw [show dhB (σ (iL (bx 0 b))) (σ (iH (bx 0 b))) (σ (iL (bx 0 a))) (σ (iH (bx 0 a))) = dhV (qC S) b a from dhB_c (v_lo hv hb) (v_hi hv hb) (v_lo hv ha) (v_hi hv ha)]
          refine r_istore dX5_pair_98 (by decide) rfl ?_
          refine r_iload dX5_pair_100 rfl ?_
          refine r_iconst (-1) dX5_pair_102 (by decide) ?_
          refine r_icmp_eq 113 dX5_pair_103 (by decide) (fun c103 => ?_) (fun c103 => ?_)
          ·
            refine r_iconst 0 dX5_pair_113 (by decide) ?_
            exact r_iret hQ rfl dX5_pair_114 (reJ_of (okC_of (by rw [oPair, ek, ek2]; simp only; rw [if_neg n35, if_neg (fun q => q c68), if_neg (fun q => q c103)]) h (fun _ _ => rfl)))
          ·
            refine r_iconst 4 dX5_pair_106 (by decide) ?_
            refine r_iload dX5_pair_107 rfl ?_
            refine r_iadd dX5_pair_109 ?_
            refine r_goto 114 dX5_pair_110 (by decide) ?_
            exact r_iret hQ rfl dX5_pair_114 (reJ_of (okC_of (by rw [oPair, ek, ek2]; simp only; rw [if_neg n35, if_neg (fun q => q c68), if_pos c103]) h (fun _ _ => rfl)))
        ·
          refine r_iconst 1 dX5_pair_71 (by decide) ?_
          refine r_iload dX5_pair_72 rfl ?_
          refine r_iadd dX5_pair_74 ?_
          exact r_iret hQ rfl dX5_pair_75 (reJ_of (okC_of (by rw [oPair, ek, ek2]; simp only; rw [if_neg n35, if_pos c68]) h (fun _ _ => rfl)))
      ·
        have n35 := (nI_eq (a := a) (b := b) (by omega) (by omega)).mp c35
        refine r_bipush (-2) dX5_pair_38 (by decide) ?_
        exact r_iret hQ rfl dX5_pair_40 (reJ_of (okC_of (by rw [oPair, ek, ek2]; simp only; rw [if_pos n35]) h (fun _ _ => rfl)))
    ·
      have ek2 := loc_none hn c27
      refine r_iconst (-1) dX5_pair_30 (by decide) ?_
      exact r_iret hQ rfl dX5_pair_31 (reJ_of (okC_of (by rw [oPair, ek, ek2]) h (fun _ _ => rfl)))
end
section
/-! the text: what is read, sign by sign -/
def sgB (pl : Nat) : Int32 := if pl = 2 then 58 else if pl = 5 then 59 else 44
def wdG (v d : Int32) (isz : Bool) : Int32 := if v = -1 then (if isz && decide (d = 0) then -2 else d) else if v = 0 then -2 else if (if isz then 12 else 31) < v * 10 + d then -2 else v * 10 + d
def dgtB (x : Int32) : Bool := !decide (x < 48) && !decide (57 < x)
/-- behind some signs: the place in a box, the number begun (-1 without), how many numbers, which -/
abbrev RdV : Type := Nat × Int32 × Nat × (Nat → Int32)
def rdN (q : RdV) (x : Int32) : Option RdV :=
  if dgtB x then (if wdG q.2.1 (x - 48) (decide (3 ≤ q.1)) = -2 then none else some (q.1, wdG q.2.1 (x - 48) (decide (3 ≤ q.1)), q.2.2.1, q.2.2.2))
  else if q.2.1 = -1 then none else if x = sgB q.1 then some (if q.1 + 1 < 6 then q.1 + 1 else 0, -1, q.2.2.1 + 1, upd q.2.2.2 q.2.2.1 q.2.1) else none
def rdS (t : Nat → Int32) : Nat → Option RdV
  | 0 => some (0, -1, 0, fun _ => 0)
  | i + 1 => match rdS t i with
    | none => none
    | some q => rdN q (t i)
/-- the fault of a text of L signs; -1 without one -/
def rdE (q : RdV) (L : Nat) : Int32 := if q.2.1 = -1 then nI L else if q.1 + 1 < 6 then nI L else -1
def rdF (t : Nat → Int32) (L : Nat) : Int32 := match rdS t L with
  | none => nI (ffi (fun i => (rdS t (i + 1)).isNone) L)
  | some q => rdE q L
theorem rdS_none {t : Nat → Int32} {i : Nat} (h : rdS t i = none) : ∀ j, rdS t (i + j) = none
  | 0 => h
  | j + 1 => by
    show rdS t ((i + j) + 1) = none
    rw [rdS, rdS_none h j]
theorem rdF_at {t : Nat → Int32} {L i : Nat} {q : RdV} (hi : i < L) (h : rdS t i = some q) (h1 : rdN q (t i) = none) : rdF t L = nI i := by
  have e : rdS t (i + 1) = none := by rw [rdS, h]; exact h1
  have e2 := rdS_none e (L - (i + 1))
  rw [show i + 1 + (L - (i + 1)) = L by omega] at e2
  unfold rdF
  rw [e2]
  simp only
  rw [ff_hit (k := i) (fun j hj => ?_) (by rw [e]; rfl) hi]
  cases e3 : rdS t (j + 1) with
  | some _ => rfl
  | none =>
    have := rdS_none e3 (i - (j + 1))
    rw [show j + 1 + (i - (j + 1)) = i by omega, h] at this
    cases this
theorem rdF_end {t : Nat → Int32} {L : Nat} {q : RdV} (h : rdS t L = some q) : rdF t L = rdE q L := by
  unfold rdF
  rw [h]
/-- how many numbers there can be -/
theorem rdS_cnt {t : Nat → Int32} : ∀ {i : Nat} {q : RdV}, rdS t i = some q → q.1 < 6 ∧ 2 * q.2.2.1 + (if q.2.1 = -1 then 0 else 1) ≤ i
  | 0, q, h => by
    cases h
    simp
  | i + 1, q, h => by
    rw [rdS] at h
    cases e : rdS t i with
    | none => rw [e] at h; cases h
    | some r =>
      rw [e] at h
      simp only at h
      obtain ⟨h1, h2⟩ := rdS_cnt e
      unfold rdN at h
      by_cases d : dgtB (t i) = true
      · rw [if_pos d] at h
        by_cases w : wdG r.2.1 (t i - 48) (decide (3 ≤ r.1)) = -2
        · rw [if_pos w] at h
          cases h
        · rw [if_neg w] at h
          cases h
          refine ⟨h1, ?_⟩
          simp only
          split at h2 <;> split <;> omega
      · rw [if_neg d] at h
        by_cases v : r.2.1 = -1
        · rw [if_pos v] at h
          cases h
        · rw [if_neg v] at h h2
          by_cases s : t i = sgB r.1
          · rw [if_pos s] at h
            cases h
            refine ⟨?_, ?_⟩
            · simp only
              split <;> omega
            · simp only [if_true]
              omega
          · rw [if_neg s] at h
            cases h
/-- what only the reading of the text changes -/
def keepT (σ σ1 : Sg) : Prop := (∀ q, q ≠ 365 → q ≠ 367 → σ1 q = σ q) ∧ ∀ i, i ≠ 3 → σ1 365 i = σ 365 i
theorem keepT_rfl (σ : Sg) : keepT σ σ := ⟨fun _ _ _ => rfl, fun _ _ => rfl⟩
theorem isC_kt {σ σ1 : Sg} {S : StV} (h : isC σ S) (hk : keepT σ σ1) : isC σ1 S := by
  obtain ⟨h1, ⟨pm, h2, h3⟩, h4, h5⟩ := h
  have e : ∀ t v, t < 7 → isV σ t v → isV σ1 t v := by
    intro t v ht hv
    refine isV_keep hv (hk.1 _ (by unfold iS; omega) (by unfold iS; omega)) (fun j hj => ?_)
    have hb := bx_lt ht hj
    exact ⟨hk.1 _ (by unfold iBo; omega) (by unfold iBo; omega), hk.1 _ (by unfold iL; omega) (by unfold iL; omega), hk.1 _ (by unfold iH; omega) (by unfold iH; omega)⟩
  refine ⟨e 0 _ (by omega) h1, ⟨pm, hOk_eq h2 (hk.1 _ (by omega) (by omega)) (hk.1 _ (by omega) (by omega)), fun i hi => ?_⟩, ?_, ?_⟩
  · have := h2.2.2.1 i (by have := h2.2.1; omega)
    exact e _ _ this.2.2 (h3 i hi)
  · unfold snaC
    rw [hk.1 368 (by omega) (by omega)]
    rcases h4 with ⟨a, v, b, c⟩ | h4
    · exact Or.inl ⟨a, v, b, e 2 _ (by omega) c⟩
    · exact Or.inr h4
  · unfold txtC
    rw [hk.2 1 (by omega), hk.1 366 (by omega) (by omega)]
    exact h5
/-- the numbers that are read: how many, which -/
def rdC (σ : Sg) (c : Nat) (vs : Nat → Int32) : Prop := σ 365 3 = nI c ∧ ∀ j, j < c → σ 367 j = vs j
def rdI (t : Nat → Int32) (σ : Sg) (i : Nat) (τ : Sg) (q : RdV) : Prop := rdS t i = some q ∧ rdC τ q.2.2.1 q.2.2.2 ∧ keepT σ τ
def reI (σ : Sg) (t : Nat → Int32) (L : Nat) (r : Int32) (σ1 : Sg) : Prop := r = rdF t L ∧ keepT σ σ1 ∧ (r = -1 → ∃ q, rdS t L = some q ∧ ¬ q.2.1 = -1 ∧ ¬ q.1 + 1 < 6 ∧ rdC σ1 (q.2.2.1 + 1) (upd q.2.2.2 q.2.2.1 q.2.1))
def stoI (σ : Sg) (c : Nat) (x : Int32) (σ1 : Sg) : Prop := σ1 = upS (upS σ 367 c x) 365 3 (nI (c + 1))
theorem stI_keep {σ τ σ1 : Sg} {c : Nat} {x : Int32} (hk : keepT σ τ) (h : stoI τ c x σ1) : keepT σ σ1 := by
  rw [h]
  refine ⟨fun q a b => ?_, fun i hi => ?_⟩
  · rw [up_ne a, up_ne b]
    exact hk.1 q a b
  · rw [up_get, if_neg (by simp [hi]), up_ne (by omega)]
    exact hk.2 i hi
theorem stI_rdC {σ σ1 : Sg} {c : Nat} {x : Int32} {vs : Nat → Int32} (h0 : rdC σ c vs) (h : stoI σ c x σ1) : rdC σ1 (c + 1) (upd vs c x) := by
  rw [h]
  refine ⟨by rw [up_get, if_pos ⟨rfl, rfl⟩], fun j hj => ?_⟩
  rw [up_ne (by omega), up_get]
  unfold upd
  by_cases e : j = c
  · simp [e]
  · simp [e, h0.2 j (by omega)]
theorem rdI_dig {t : Nat → Int32} {σ τ : Sg} {i : Nat} {q : RdV} (h : rdI t σ i τ q) (hd : dgtB (t i) = true) (hw : ¬ wdG q.2.1 (t i - 48) (decide (3 ≤ q.1)) = -2) : rdI t σ (i + 1) τ (q.1, wdG q.2.1 (t i - 48) (decide (3 ≤ q.1)), q.2.2.1, q.2.2.2) := by
  refine ⟨?_, h.2.1, h.2.2⟩
  rw [rdS, h.1]
  simp only [rdN]
  rw [if_pos hd, if_neg hw]
theorem rdI_sep {t : Nat → Int32} {σ τ σ1 : Sg} {i : Nat} {q : RdV} (h : rdI t σ i τ q) (hd : dgtB (t i) = false) (hv : ¬ q.2.1 = -1) (hs : t i = sgB q.1) (h1 : stoI τ q.2.2.1 q.2.1 σ1) : rdI t σ (i + 1) σ1 (if q.1 + 1 < 6 then q.1 + 1 else 0, -1, q.2.2.1 + 1, upd q.2.2.2 q.2.2.1 q.2.1) := by
  refine ⟨?_, stI_rdC h.2.1 h1, stI_keep h.2.2 h1⟩
  rw [rdS, h.1]
  simp only [rdN]
  rw [if_neg (by simp [hd]), if_neg hv, if_pos hs]
theorem rdN_dig {q : RdV} {x : Int32} (hd : dgtB x = true) (hw : wdG q.2.1 (x - 48) (decide (3 ≤ q.1)) = -2) : rdN q x = none := by
  unfold rdN
  rw [if_pos hd, if_pos hw]
theorem rdN_no {q : RdV} {x : Int32} (hd : dgtB x = false) (h : q.2.1 = -1 ∨ ¬ x = sgB q.1) : rdN q x = none := by
  unfold rdN
  rw [if_neg (by simp [hd])]
  by_cases a : q.2.1 = -1
  · rw [if_pos a]
  · rw [if_neg a]
    rcases h with h | h
    · exact absurd h a
    · rw [if_neg h]
/-! the boxes of the text, one after the other -/
def bxT (vs : Nat → Int32) (i j : Nat) : Int32 := vs (6 * i + j)
def ent6 (v : SpV) (vs : Nat → Int32) (i : Nat) : Bool := entOk v (bxT vs i 0) (bxT vs i 1) (bxT vs i 2) (bxT vs i 3) (bxT vs i 4) (bxT vs i 5)
def entA6 (v : SpV) (vs : Nat → Int32) (i : Nat) : Int32 := entA v (bxT vs i 0) (bxT vs i 1) (bxT vs i 2) (bxT vs i 3) (bxT vs i 4) (bxT vs i 5)
def entV6 (v : SpV) (vs : Nat → Int32) (i : Nat) : SpV := entV v (bxT vs i 0) (bxT vs i 1) (bxT vs i 2) (bxT vs i 3) (bxT vs i 4) (bxT vs i 5)
/-- the first error and no space, or 0 and the space -/
def aaF (vs : Nat → Int32) : Nat → Nat → SpV → Int32 × Option SpV
  | 0, _, w => (0, some w)
  | m + 1, i, w => if ent6 w vs i then aaF vs m (i + 1) (entV6 w vs i) else (entA6 w vs i, none)
def txB (S : StV) : Nat := match rdS (qT S) (qL S) with
  | none => 0
  | some q => (q.2.2.1 + 1) / 6
def txV (S : StV) : Nat → Int32 := match rdS (qT S) (qL S) with
  | none => fun _ => 0
  | some q => upd q.2.2.2 q.2.2.1 q.2.1
def oAddAll (S : StV) : Int32 × StV := if rdF (qT S) (qL S) = -1 then (match aaF (txV S) (txB S) 0 (qC S) with
    | (r, none) => (r, S)
    | (_, some w) => (nI (txB S), pushS S w)) else (-100 - rdF (qT S) (qL S), S)
theorem type_ok {σ : Sg} {S : StV} {x : Int32} (h : isC σ S) (hL : qL S < 80) : okC σ (oType S x) (nI (qL S + 1)) (upS (upS σ 366 (qL S) x) 365 1 (nI (qL S + 1))) := by
  rw [oType, if_pos hL]
  obtain ⟨h1, ⟨pm, h2, h3⟩, h4, h5⟩ := h
  have f : ∀ q, q ≠ 365 → q ≠ 366 → upS (upS σ 366 (qL S) x) 365 1 (nI (qL S + 1)) q = σ q := fun q a b => by rw [up_ne a, up_ne b]
  have e : ∀ t v, t < 7 → isV σ t v → isV (upS (upS σ 366 (qL S) x) 365 1 (nI (qL S + 1))) t v := by
    intro t v ht hv
    refine isV_keep hv (f _ (by unfold iS; omega) (by unfold iS; omega)) (fun j hj => ?_)
    have hb := bx_lt ht hj
    exact ⟨f _ (by unfold iBo; omega) (by unfold iBo; omega), f _ (by unfold iL; omega) (by unfold iL; omega), f _ (by unfold iH; omega) (by unfold iH; omega)⟩
  refine ⟨rfl, ⟨e 0 _ (by omega) h1, ⟨pm, hOk_eq h2 (f _ (by omega) (by omega)) (f _ (by omega) (by omega)), fun i hi => ?_⟩, ?_, ?_, ?_, fun i hi => ?_⟩, fun q hq => f q (by omega) (by omega)⟩
  · have := h2.2.2.1 i (by have := h2.2.1; exact Nat.lt_of_lt_of_le hi this)
    exact e _ _ this.2.2 (h3 i hi)
  · show snaC _ (qP S)
    unfold snaC
    rw [f 368 (by omega) (by omega)]
    rcases h4 with ⟨a, v, b, c⟩ | h4
    · exact Or.inl ⟨a, v, b, e 2 _ (by omega) c⟩
    · exact Or.inr h4
  · rw [up_get, if_pos ⟨rfl, rfl⟩]
  · show qL S + 1 ≤ 80
    omega
  · have hi' : i < qL S + 1 := hi
    rw [up_ne (by omega), up_get]
    show _ = (if i = qL S then x else qT S i)
    by_cases q : i = qL S
    · simp [q]
    · rw [if_neg (by simp [q]), if_neg q]
      exact h5.2.2 i (by omega)
theorem clear_ok {σ : Sg} {S : StV} (h : isC σ S) : okC σ (oClear S) (nI (qL S)) (upS σ 365 1 0) := by
  obtain ⟨h1, ⟨pm, h2, h3⟩, h4, h5⟩ := h
  have f : ∀ q, q ≠ 365 → upS σ 365 1 0 q = σ q := fun q a => up_ne a
  have e : ∀ t v, t < 7 → isV σ t v → isV (upS σ 365 1 0) t v := by
    intro t v ht hv
    refine isV_keep hv (f _ (by unfold iS; omega)) (fun j hj => ?_)
    have hb := bx_lt ht hj
    exact ⟨f _ (by unfold iBo; omega), f _ (by unfold iL; omega), f _ (by unfold iH; omega)⟩
  refine ⟨rfl, ⟨e 0 _ (by omega) h1, ⟨pm, hOk_eq h2 (f _ (by omega)) (f _ (by omega)), fun i hi => ?_⟩, ?_, ?_, ?_, fun i hi => absurd hi (Nat.not_lt_zero i)⟩, fun q hq => f q (by omega)⟩
  · have := h2.2.2.1 i (by have := h2.2.1; exact Nat.lt_of_lt_of_le hi this)
    exact e _ _ this.2.2 (h3 i hi)
  · show snaC _ (qP S)
    unfold snaC
    rw [f 368 (by omega)]
    rcases h4 with ⟨a, v, b, c⟩ | h4
    · exact Or.inl ⟨a, v, b, e 2 _ (by omega) c⟩
    · exact Or.inr h4
  · rw [up_get, if_pos ⟨rfl, rfl⟩]
    rfl
  · exact Nat.zero_le _
theorem txB_at {S : StV} {q : RdV} (h : rdS (qT S) (qL S) = some q) : txB S = (q.2.2.1 + 1) / 6 ∧ txV S = upd q.2.2.2 q.2.2.1 q.2.1 := by
  unfold txB txV
  rw [h]
  exact ⟨rfl, rfl⟩
theorem aa_ok {S : StV} {r : Int32} {w : SpV} (h : rdF (qT S) (qL S) = -1) (h2 : aaF (txV S) (txB S) 0 (qC S) = (r, some w)) : oAddAll S = (nI (txB S), pushS S w) := by
  rw [oAddAll, if_pos h, h2]
theorem aa_err {S : StV} {r : Int32} (h : rdF (qT S) (qL S) = -1) (h2 : aaF (txV S) (txB S) 0 (qC S) = (r, none)) : oAddAll S = (r, S) := by
  rw [oAddAll, if_pos h, h2]
theorem aa_flt {S : StV} (h : ¬ rdF (qT S) (qL S) = -1) : oAddAll S = (-100 - rdF (qT S) (qL S), S) := by
  rw [oAddAll, if_neg h]
theorem keepT_m {σ σ1 : Sg} (h : keepT σ σ1) : keepM σ σ1 := fun q hq => h.1 q (by omega) (by omega)
theorem rdC_kc {σ σ1 : Sg} {c : Nat} {vs : Nat → Int32} (h : rdC σ c vs) (hk : keepC σ σ1) : rdC σ1 c vs := by
  unfold rdC
  rw [hk 365 (by unfold scr; omega), hk 367 (by unfold scr; omega)]
  exact h
end
section
set_option maxRecDepth 100000 in
set_option maxHeartbeats 4000000 in
theorem ctX5_ofBox (l : Launch) (Ω : Om) (σ : Sg) (S : StV) (h : isC σ S) (hY : ∀ k, k < vN (qC S) → vLo (qC S) k 1 = nI (yA (qC S) k) ∧ vHi (qC S) k 1 = nI (yA (qC S) k + yM (qC S) k) ∧ yA (qC S) k + yM (qC S) k ≤ 64) (x w : Int32) : CtW l yX5_ofBox wsX5_ofBox (rmD 7) Ω [.ref (ad Ω 368), .int x, .int w] σ (reJ (okC σ (oOf S x w))) := by
  refine ct_intro [some (.ref (ad Ω 368)), some (.int x), some (.int w), none] (by decide) rfl rfl (Nat.le_of_ble_eq_true rfl) (fun Γ hL hQ => ?_)
  show AtW mX5_ofBox Γ Ω σ 0 [some (.ref (ad Ω 368)), some (.int x), some (.int w), none] []
  obtain ⟨hv, ⟨pm, h0, hh⟩, hp, ht⟩ := id h
  have hn : vN (qC S) ≤ 16 := hv.1
  have hc : σ (iS 0) 1 = nI (vN (qC S)) := hv.2.1
  refine r_aload_n dX5_ofBox_0 rfl ?_
  refine fX5_0 jX5_ofBox_X5 lX5_ofBox_10 dX5_ofBox_1 ?_
  refine r_iload_n dX5_ofBox_4 rfl ?_
  refine r_callVI (iS 0) hL (ctX3_slotOf l Ω _ 0 (vN (qC S)) (by omega) hn hc _) kX5_ofBox_68 (iS_lt (by omega)) ⟨_, _, _, cel_sp (by omega), rfl, rfl⟩ rfl rfl (Nat.le_of_ble_eq_true rfl) dX5_ofBox_5 ?_
  rw [v_slot hv]
  refine r_istore_n dX5_ofBox_8 (by decide) rfl ?_
  refine r_iload_n dX5_ofBox_9 rfl ?_
  refine r_iconst (-1) dX5_ofBox_10 (by decide) ?_
  refine r_icmp_ne 16 dX5_ofBox_11 (by decide) (fun c11 => ?_) (fun c11 => ?_)
  ·
    obtain ⟨k, hk, ek, e2⟩ := loc_some c11
    rw [e2]
    refine r_iload_n dX5_ofBox_16 rfl ?_
    by_cases w0 : w = 0
    ·
      subst w0
      refine r_tableIn 51 68 dX5_ofBox_17 (by decide) (by decide) (by decide) (by decide) ?_
      refine r_aload_n dX5_ofBox_68 rfl ?_
      refine fX5_0 jX5_ofBox_X5 lX5_ofBox_10 dX5_ofBox_69 ?_
      refine fX3_0 0 (by omega) jX5_ofBox_X3 lX5_ofBox_72 dX5_ofBox_72 ?_
      refine r_iload_n dX5_ofBox_75 rfl ?_
      refine r_aaldB 0 (by omega) k rfl (by omega) dX5_ofBox_76 ?_
      refine r_callVI (iBo (bx 0 k)) hL (ctX0_volume l Ω _ (bx 0 k) (bx_lt (by omega) (by omega))) kX5_ofBox_76 (iB_lt (bx_lt (by omega) (by omega))) ⟨_, _, _, cel_box (bx_lt (by omega) (by omega)), rfl, rfl⟩ rfl rfl (Nat.le_of_ble_eq_true rfl) dX5_ofBox_77 ?_
      rw [v_vo hv hk]
      exact r_iret hQ rfl dX5_ofBox_80 (reJ_of (okC_of (by rw [oOf, ek]; exact congrArg (fun z => (z, S)) (ofA_0 _ _)) h (fun _ _ => rfl)))
    by_cases w1 : w = 1
    ·
      subst w1
      refine r_tableIn 64 81 dX5_ofBox_17 (by decide) (by decide) (by decide) (by decide) ?_
      refine r_aload_n dX5_ofBox_81 rfl ?_
      refine r_callVA (368) hL (ctX5_look l Ω _ _ hv) kX5_ofBox_159 (by omega) ⟨_, _, _, rfl, rfl, rfl⟩ rfl rfl (Nat.le_of_ble_eq_true rfl) dX5_ofBox_82 ?_
      intro σ1 hσ1
      refine r_iload_n dX5_ofBox_85 rfl ?_
      refine r_callVI (iP 0) hL (ctX2_hiddenBy l Ω _ 0 k (by omega) (by omega)) kX5_ofBox_162 (iP_lt (by omega)) ⟨_, _, _, cel_pic (by omega), rfl, rfl⟩ rfl rfl (Nat.le_of_ble_eq_true rfl) dX5_ofBox_86 ?_
      rw [(hσ1.1.2.1 k hk).1]
      exact r_iret hQ rfl dX5_ofBox_89 (reJ_of (okC_of (by rw [oOf, ek]; exact congrArg (fun z => (z, S)) (ofA_1 _ _)) (isC_kc h hσ1.2) (keepM_kc hσ1.2)))
    by_cases w2 : w = 2
    ·
      subst w2
      refine r_tableIn 73 90 dX5_ofBox_17 (by decide) (by decide) (by decide) (by decide) ?_
      refine r_aload_n dX5_ofBox_90 rfl ?_
      refine r_callVA (368) hL (ctX5_look l Ω _ _ hv) kX5_ofBox_159 (by omega) ⟨_, _, _, rfl, rfl, rfl⟩ rfl rfl (Nat.le_of_ble_eq_true rfl) dX5_ofBox_91 ?_
      intro σ1 hσ1
      refine r_iload_n dX5_ofBox_94 rfl ?_
      refine r_callVI (iP 0) hL (ctX2_hidersOf l Ω _ 0 (vN (qC S)) (by omega) hn hσ1.1.1 k (by omega)) kX5_ofBox_165 (iP_lt (by omega)) ⟨_, _, _, cel_pic (by omega), rfl, rfl⟩ rfl rfl (Nat.le_of_ble_eq_true rfl) dX5_ofBox_95 ?_
      rw [cntI_c (q := fun j => hasB (HV (qC S) j) k) (fun j hj => by rw [(hσ1.1.2.1 j hj).1])]
      exact r_iret hQ rfl dX5_ofBox_98 (reJ_of (okC_of (by rw [oOf, ek]; exact congrArg (fun z => (z, S)) (ofA_2 _ _)) (isC_kc h hσ1.2) (keepM_kc hσ1.2)))
    by_cases w3 : w = 3
    ·
      subst w3
      refine r_tableIn 82 99 dX5_ofBox_17 (by decide) (by decide) (by decide) (by decide) ?_
      refine r_aload_n dX5_ofBox_99 rfl ?_
      refine r_callVA (368) hL (ctX5_look l Ω _ _ hv) kX5_ofBox_159 (by omega) ⟨_, _, _, rfl, rfl, rfl⟩ rfl rfl (Nat.le_of_ble_eq_true rfl) dX5_ofBox_100 ?_
      intro σ1 hσ1
      refine fX2_6 0 (by omega) jX5_ofBox_X2 lX5_ofBox_168 dX5_ofBox_103 ?_
      refine r_iload_n dX5_ofBox_106 rfl ?_
      refine ldP4 0 (by omega) k rfl (by omega) dX5_ofBox_107 ?_
      rw [(hσ1.1.2.1 k hk).2.2]
      exact r_iret hQ rfl dX5_ofBox_108 (reJ_of (okC_of (by rw [oOf, ek]; exact congrArg (fun z => (z, S)) (ofA_3 _ _)) (isC_kc h hσ1.2) (keepM_kc hσ1.2)))
    by_cases w4 : w = 4
    ·
      subst w4
      refine r_tableIn 92 109 dX5_ofBox_17 (by decide) (by decide) (by decide) (by decide) ?_
      refine r_aload_n dX5_ofBox_109 rfl ?_
      refine r_callVA (368) hL (ctX5_look l Ω _ _ hv) kX5_ofBox_159 (by omega) ⟨_, _, _, rfl, rfl, rfl⟩ rfl rfl (Nat.le_of_ble_eq_true rfl) dX5_ofBox_110 ?_
      intro σ1 hσ1
      refine r_iload_n dX5_ofBox_113 rfl ?_
      refine r_callVI (iP 0) hL (ctX2_shortestRingOf l Ω _ 0 (vN (qC S)) (by omega) hn hσ1.1.1 k (by omega)) kX5_ofBox_171 (iP_lt (by omega)) ⟨_, _, _, cel_pic (by omega), rfl, rfl⟩ rfl rfl (Nat.le_of_ble_eq_true rfl) dX5_ofBox_114 ?_
      rw [srO_c hk (fun j hj => (hσ1.1.2.1 j hj).1)]
      exact r_iret hQ rfl dX5_ofBox_117 (reJ_of (okC_of (by rw [oOf, ek]; exact congrArg (fun z => (z, S)) (ofA_4 _ _)) (isC_kc h hσ1.2) (keepM_kc hσ1.2)))
    by_cases w5 : w = 5
    ·
      subst w5
      refine r_tableIn 101 118 dX5_ofBox_17 (by decide) (by decide) (by decide) (by decide) ?_
      refine r_aload_n dX5_ofBox_118 rfl ?_
      refine fX5_0 jX5_ofBox_X5 lX5_ofBox_10 dX5_ofBox_119 ?_
      refine r_iload_n dX5_ofBox_122 rfl ?_
      refine r_callVI (iS 0) hL (ctX3_supportsOf l Ω _ 0 (vN (qC S)) (by omega) hn hc k (by omega)) kX5_ofBox_174 (iS_lt (by omega)) ⟨_, _, _, cel_sp (by omega), rfl, rfl⟩ rfl rfl (Nat.le_of_ble_eq_true rfl) dX5_ofBox_123 ?_
      rw [v_sup hv hk]
      exact r_iret hQ rfl dX5_ofBox_126 (reJ_of (okC_of (by rw [oOf, ek]; exact congrArg (fun z => (z, S)) (ofA_5 _ _)) h (fun _ _ => rfl)))
    by_cases w6 : w = 6
    ·
      subst w6
      refine r_tableIn 110 127 dX5_ofBox_17 (by decide) (by decide) (by decide) (by decide) ?_
      refine r_aload_n dX5_ofBox_127 rfl ?_
      refine fX5_0 jX5_ofBox_X5 lX5_ofBox_10 dX5_ofBox_128 ?_
      refine r_iload_n dX5_ofBox_131 rfl ?_
      refine r_callVI (iS 0) hL (ctX3_boxesBelow l Ω _ 0 (vN (qC S)) (by omega) hn hc k (by omega)) kX5_ofBox_177 (iS_lt (by omega)) ⟨_, _, _, cel_sp (by omega), rfl, rfl⟩ rfl rfl (Nat.le_of_ble_eq_true rfl) dX5_ofBox_132 ?_
      rw [v_bel hv hk]
      exact r_iret hQ rfl dX5_ofBox_135 (reJ_of (okC_of (by rw [oOf, ek]; exact congrArg (fun z => (z, S)) (ofA_6 _ _)) h (fun _ _ => rfl)))
    by_cases w7 : w = 7
    ·
      subst w7
      refine r_tableIn 119 136 dX5_ofBox_17 (by decide) (by decide) (by decide) (by decide) ?_
      refine r_aload_n dX5_ofBox_136 rfl ?_
      refine fX5_0 jX5_ofBox_X5 lX5_ofBox_10 dX5_ofBox_137 ?_
      refine r_iload_n dX5_ofBox_140 rfl ?_
      refine r_callVI (iS 0) hL (ctX3_shadowOn l Ω _ 0 (vN (qC S)) (by omega) hn hc k (by omega) (yA (qC S) k) (yM (qC S) k) (hY k hk).2.2 (by rw [v_lo hv hk 1 (by omega)]; exact (hY k hk).1) (by rw [v_hi hv hk 1 (by omega)]; exact (hY k hk).2.1)) kX5_ofBox_180 (iS_lt (by omega)) ⟨_, _, _, cel_sp (by omega), rfl, rfl⟩ rfl rfl (Nat.le_of_ble_eq_true rfl) dX5_ofBox_141 ?_
      rw [sumI_c (q := fun i => bcI (shG (vLo (qC S)) (vHi (qC S)) k (vN (qC S)) (yA (qC S) k + i) &&& rwG (vLo (qC S)) (vHi (qC S)) k)) (fun i hi => by rw [v_shR hv hk, v_rw hv hk])]
      exact r_iret hQ rfl dX5_ofBox_144 (reJ_of (okC_of (by rw [oOf, ek]; exact congrArg (fun z => (z, S)) (ofA_7 _ _)) h (fun _ _ => rfl)))
    by_cases w8 : w = 8
    ·
      subst w8
      refine r_tableIn 128 145 dX5_ofBox_17 (by decide) (by decide) (by decide) (by decide) ?_
      refine r_aload_n dX5_ofBox_145 rfl ?_
      refine fX5_0 jX5_ofBox_X5 lX5_ofBox_10 dX5_ofBox_146 ?_
      refine fX3_0 0 (by omega) jX5_ofBox_X3 lX5_ofBox_72 dX5_ofBox_149 ?_
      refine r_iload_n dX5_ofBox_152 rfl ?_
      refine r_aaldB 0 (by omega) k rfl (by omega) dX5_ofBox_153 ?_
      refine fX0_1 (bx 0 k) (bx_lt (by omega) (by omega)) jX5_ofBox_X0 lX5_ofBox_88 dX5_ofBox_154 ?_
      refine r_iconst 2 dX5_ofBox_157 (by decide) ?_
      refine ldL (bx 0 k) (bx_lt (by omega) (by omega)) 2 rfl (by omega) dX5_ofBox_158 ?_
      rw [v_lo hv hk 2 (by omega)]
      refine r_if_eq 173 dX5_ofBox_159 (by decide) (fun c159 => ?_) (fun c159 => ?_)
      ·
        refine r_iconst 1 dX5_ofBox_173 (by decide) ?_
        refine r_goto 178 dX5_ofBox_174 (by decide) ?_
        exact r_iret hQ rfl dX5_ofBox_178 (reJ_of (okC_of (by rw [oOf, ek]; exact congrArg (fun z => (z, S)) ((ofA_8 _ _).trans (if_pos c159))) h (fun _ _ => rfl)))
      ·
        refine r_aload_n dX5_ofBox_162 rfl ?_
        refine fX5_0 jX5_ofBox_X5 lX5_ofBox_10 dX5_ofBox_163 ?_
        refine r_iload_n dX5_ofBox_166 rfl ?_
        refine r_callVI (iS 0) hL (ctX3_supportsOf l Ω _ 0 (vN (qC S)) (by omega) hn hc k (by omega)) kX5_ofBox_174 (iS_lt (by omega)) ⟨_, _, _, cel_sp (by omega), rfl, rfl⟩ rfl rfl (Nat.le_of_ble_eq_true rfl) dX5_ofBox_167 ?_
        rw [v_sup hv hk]
        refine r_if_le 177 dX5_ofBox_170 (by decide) (fun c170 => ?_) (fun c170 => ?_)
        ·
          replace c170 := Int32.not_lt.mpr c170
          refine r_iconst 0 dX5_ofBox_177 (by decide) ?_
          exact r_iret hQ rfl dX5_ofBox_178 (reJ_of (okC_of (by rw [oOf, ek]; exact congrArg (fun z => (z, S)) ((ofA_8 _ _).trans ((if_neg c159).trans (if_neg c170)))) h (fun _ _ => rfl)))
        ·
          replace c170 := Int32.not_le.mp c170
          refine r_iconst 1 dX5_ofBox_173 (by decide) ?_
          refine r_goto 178 dX5_ofBox_174 (by decide) ?_
          exact r_iret hQ rfl dX5_ofBox_178 (reJ_of (okC_of (by rw [oOf, ek]; exact congrArg (fun z => (z, S)) ((ofA_8 _ _).trans ((if_neg c159).trans (if_pos c170)))) h (fun _ _ => rfl)))
    have hw : ∀ j, j ≤ 8 → ¬ w = nI j := by
      intro j hj
      rcases (show j = 0 ∨ j = 1 ∨ j = 2 ∨ j = 3 ∨ j = 4 ∨ j = 5 ∨ j = 6 ∨ j = 7 ∨ j = 8 by omega) with rfl | rfl | rfl | rfl | rfl | rfl | rfl | rfl | rfl
      · exact w0
      · exact w1
      · exact w2
      · exact w3
      · exact w4
      · exact w5
      · exact w6
      · exact w7
      · exact w8
    refine r_tableOut 179 dX5_ofBox_17 (by simpa using sw_out (m := 8) (by omega) hw) (by decide) ?_
    refine r_bipush (-2) dX5_ofBox_179 (by decide) ?_
    exact r_iret hQ rfl dX5_ofBox_181 (reJ_of (okC_of (by rw [oOf, ek]; exact congrArg (fun z => (z, S)) (ofA_d hw)) h (fun _ _ => rfl)))
  ·
    have ek := loc_none hn c11
    refine r_iconst (-1) dX5_ofBox_14 (by decide) ?_
    exact r_iret hQ rfl dX5_ofBox_15 (reJ_of (okC_of (by rw [oOf, ek]) h (fun _ _ => rfl)))

set_option maxRecDepth 100000 in
set_option maxHeartbeats 4000000 in
theorem ctX5_total (l : Launch) (Ω : Om) (σ : Sg) (S : StV) (h : isC σ S) (hY : ∀ k, k < vN (qC S) → vLo (qC S) k 1 = nI (yA (qC S) k) ∧ vHi (qC S) k 1 = nI (yA (qC S) k + yM (qC S) k) ∧ yA (qC S) k + yM (qC S) k ≤ 64) (w : Int32) : CtW l yX5_total wsX5_total (rmD 7) Ω [.ref (ad Ω 368), .int w] σ (reJ (okC σ (oTotal S w))) := by
  refine ct_intro [some (.ref (ad Ω 368)), some (.int w)] (by decide) rfl rfl (Nat.le_of_ble_eq_true rfl) (fun Γ hL hQ => ?_)
  show AtW mX5_total Γ Ω σ 0 [some (.ref (ad Ω 368)), some (.int w)] []
  obtain ⟨hv, ⟨pm, h0, hh⟩, hp, ht⟩ := id h
  have hn : vN (qC S) ≤ 16 := hv.1
  have hc : σ (iS 0) 1 = nI (vN (qC S)) := hv.2.1
  refine r_iload_n dX5_total_0 rfl ?_
  by_cases w0 : w = 0
  ·
    subst w0
    refine r_tableIn 67 68 dX5_total_1 (by decide) (by decide) (by decide) (by decide) ?_
    refine r_aload_n dX5_total_68 rfl ?_
    refine fX5_0 jX5_total_X5 lX5_total_10 dX5_total_69 ?_
    refine fX3_1 0 (by omega) jX5_total_X3 lX5_total_118 dX5_total_72 ?_
    rw [hc]
    exact r_iret hQ rfl dX5_total_75 (reJ_of (okC_of (congrArg (fun z => (z, S)) (toA_0 S)) h (fun _ _ => rfl)))
  by_cases w1 : w = 1
  ·
    subst w1
    refine r_tableIn 75 76 dX5_total_1 (by decide) (by decide) (by decide) (by decide) ?_
    refine r_aload_n dX5_total_76 rfl ?_
    refine fX5_0 jX5_total_X5 lX5_total_10 dX5_total_77 ?_
    refine fX3_2 0 (by omega) jX5_total_X3 lX5_total_190 dX5_total_80 ?_
    rw [show σ (iS 0) 2 = vX (qC S) from hv.2.2.1]
    exact r_iret hQ rfl dX5_total_83 (reJ_of (okC_of (congrArg (fun z => (z, S)) (toA_1 S)) h (fun _ _ => rfl)))
  by_cases w2 : w = 2
  ·
    subst w2
    refine r_tableIn 83 84 dX5_total_1 (by decide) (by decide) (by decide) (by decide) ?_
    refine r_aload_n dX5_total_84 rfl ?_
    refine r_callVA (368) hL (ctX5_look l Ω _ _ hv) kX5_total_159 (by omega) ⟨_, _, _, rfl, rfl, rfl⟩ rfl rfl (Nat.le_of_ble_eq_true rfl) dX5_total_85 ?_
    intro σ1 hσ1
    refine r_callVI (iP 0) hL (ctX2_hidings l Ω _ 0 (vN (qC S)) (by omega) hn hσ1.1.1) kX5_total_193 (iP_lt (by omega)) ⟨_, _, _, cel_pic (by omega), rfl, rfl⟩ rfl rfl (Nat.le_of_ble_eq_true rfl) dX5_total_88 ?_
    rw [sumI_c (q := fun k => bcI (HV (qC S) k)) (fun j hj => by rw [(hσ1.1.2.1 j hj).1])]
    exact r_iret hQ rfl dX5_total_91 (reJ_of (okC_of (congrArg (fun z => (z, S)) (toA_2 S)) (isC_kc h hσ1.2) (keepM_kc hσ1.2)))
  by_cases w3 : w = 3
  ·
    subst w3
    refine r_tableIn 91 92 dX5_total_1 (by decide) (by decide) (by decide) (by decide) ?_
    refine r_aload_n dX5_total_92 rfl ?_
    refine r_callVA (368) hL (ctX5_look l Ω _ _ hv) kX5_total_159 (by omega) ⟨_, _, _, rfl, rfl, rfl⟩ rfl rfl (Nat.le_of_ble_eq_true rfl) dX5_total_93 ?_
    intro σ1 hσ1
    refine fX2_5 0 (by omega) jX5_total_X2 lX5_total_196 dX5_total_96 ?_
    rw [hσ1.1.2.2.2.1]
    exact r_iret hQ rfl dX5_total_99 (reJ_of (okC_of (congrArg (fun z => (z, S)) (toA_3 S)) (isC_kc h hσ1.2) (keepM_kc hσ1.2)))
  by_cases w4 : w = 4
  ·
    subst w4
    refine r_tableIn 99 100 dX5_total_1 (by decide) (by decide) (by decide) (by decide) ?_
    refine r_aload_n dX5_total_100 rfl ?_
    refine r_callVA (368) hL (ctX5_look l Ω _ _ hv) kX5_total_159 (by omega) ⟨_, _, _, rfl, rfl, rfl⟩ rfl rfl (Nat.le_of_ble_eq_true rfl) dX5_total_101 ?_
    intro σ1 hσ1
    refine r_callVI (iP 0) hL (ctX2_boxesInRings l Ω _ 0 (vN (qC S)) (by omega) hn hσ1.1.1) kX5_total_199 (iP_lt (by omega)) ⟨_, _, _, cel_pic (by omega), rfl, rfl⟩ rfl rfl (Nat.le_of_ble_eq_true rfl) dX5_total_104 ?_
    rw [cntI_c (q := fun k => hasB (CVv (qC S) k) k) (fun j hj => by rw [(hσ1.1.2.1 j hj).2.1])]
    exact r_iret hQ rfl dX5_total_107 (reJ_of (okC_of (congrArg (fun z => (z, S)) (toA_4 S)) (isC_kc h hσ1.2) (keepM_kc hσ1.2)))
  by_cases w5 : w = 5
  ·
    subst w5
    refine r_tableIn 107 108 dX5_total_1 (by decide) (by decide) (by decide) (by decide) ?_
    refine r_aload_n dX5_total_108 rfl ?_
    refine r_callVA (368) hL (ctX5_look l Ω _ _ hv) kX5_total_159 (by omega) ⟨_, _, _, rfl, rfl, rfl⟩ rfl rfl (Nat.le_of_ble_eq_true rfl) dX5_total_109 ?_
    intro σ1 hσ1
    refine r_callVI (iP 0) hL (ctX2_shortestRing l Ω _ 0 (vN (qC S)) (by omega) hn hσ1.1.1) kX5_total_202 (iP_lt (by omega)) ⟨_, _, _, cel_pic (by omega), rfl, rfl⟩ rfl rfl (Nat.le_of_ble_eq_true rfl) dX5_total_112 ?_
    rw [srI_c (fun j hj => (hσ1.1.2.1 j hj).1) _ (Nat.le_refl _)]
    exact r_iret hQ rfl dX5_total_115 (reJ_of (okC_of (congrArg (fun z => (z, S)) (toA_5 S)) (isC_kc h hσ1.2) (keepM_kc hσ1.2)))
  by_cases w6 : w = 6
  ·
    subst w6
    refine r_tableIn 115 116 dX5_total_1 (by decide) (by decide) (by decide) (by decide) ?_
    refine r_aload_n dX5_total_116 rfl ?_
    refine r_callVA (368) hL (ctX5_look l Ω _ _ hv) kX5_total_159 (by omega) ⟨_, _, _, rfl, rfl, rfl⟩ rfl rfl (Nat.le_of_ble_eq_true rfl) dX5_total_117 ?_
    intro σ1 hσ1
    refine r_callVI (iP 0) hL (ctX2_greatestLayer l Ω _ 0 (vN (qC S)) (by omega) hn hσ1.1.1) kX5_total_205 (iP_lt (by omega)) ⟨_, _, _, cel_pic (by omega), rfl, rfl⟩ rfl rfl (Nat.le_of_ble_eq_true rfl) dX5_total_120 ?_
    rw [glI_c (fun j hj => (hσ1.1.2.1 j hj).2.2)]
    exact r_iret hQ rfl dX5_total_123 (reJ_of (okC_of (congrArg (fun z => (z, S)) (toA_6 S)) (isC_kc h hσ1.2) (keepM_kc hσ1.2)))
  by_cases w7 : w = 7
  ·
    subst w7
    refine r_tableIn 123 124 dX5_total_1 (by decide) (by decide) (by decide) (by decide) ?_
    refine r_aload_n dX5_total_124 rfl ?_
    refine fX5_0 jX5_total_X5 lX5_total_10 dX5_total_125 ?_
    refine fX3_3 0 (by omega) jX5_total_X3 lX5_total_208 dX5_total_128 ?_
    rw [show σ (iS 0) 3 = vSp (qC S) from hv.2.2.2.1]
    exact r_iret hQ rfl dX5_total_131 (reJ_of (okC_of (congrArg (fun z => (z, S)) (toA_7 S)) h (fun _ _ => rfl)))
  by_cases w8 : w = 8
  ·
    subst w8
    refine r_tableIn 131 132 dX5_total_1 (by decide) (by decide) (by decide) (by decide) ?_
    refine r_aload_n dX5_total_132 rfl ?_
    refine fX5_0 jX5_total_X5 lX5_total_10 dX5_total_133 ?_
    refine r_callVI (iS 0) hL (ctX3_volume l Ω _ 0 (vN (qC S)) (by omega) hn hc) kX5_total_211 (iS_lt (by omega)) ⟨_, _, _, cel_sp (by omega), rfl, rfl⟩ rfl rfl (Nat.le_of_ble_eq_true rfl) dX5_total_136 ?_
    rw [v_vol hv]
    exact r_iret hQ rfl dX5_total_139 (reJ_of (okC_of (congrArg (fun z => (z, S)) (toA_8 S)) h (fun _ _ => rfl)))
  by_cases w9 : w = 9
  ·
    subst w9
    refine r_tableIn 139 140 dX5_total_1 (by decide) (by decide) (by decide) (by decide) ?_
    refine r_aload_n dX5_total_140 rfl ?_
    refine fX5_0 jX5_total_X5 lX5_total_10 dX5_total_141 ?_
    refine r_callVI (iS 0) hL (ctX3_shadow l Ω _ 0 (vN (qC S)) (by omega) hn hc (yA (qC S)) (yM (qC S)) (fun u hu => ⟨(hY u hu).2.2, by rw [v_lo hv hu 1 (by omega)]; exact (hY u hu).1, by rw [v_hi hv hu 1 (by omega)]; exact (hY u hu).2.1⟩)) kX5_total_212 (iS_lt (by omega)) ⟨_, _, _, cel_sp (by omega), rfl, rfl⟩ rfl rfl (Nat.le_of_ble_eq_true rfl) dX5_total_144 ?_
    rw [sumI_c (q := shaV (qC S)) (fun u hu => sumI_c (fun i hi => by rw [v_shR hv hu, v_rw hv hu]))]
    exact r_iret hQ rfl dX5_total_147 (reJ_of (okC_of (congrArg (fun z => (z, S)) (toA_9 S)) h (fun _ _ => rfl)))
  by_cases w10 : w = 10
  ·
    subst w10
    refine r_tableIn 147 148 dX5_total_1 (by decide) (by decide) (by decide) (by decide) ?_
    refine r_aload_n dX5_total_148 rfl ?_
    refine fX5_0 jX5_total_X5 lX5_total_10 dX5_total_149 ?_
    refine fX3_4 0 (by omega) jX5_total_X3 lX5_total_132 dX5_total_152 ?_
    rw [show σ (iS 0) 4 = vRu (qC S) from hv.2.2.2.2.1]
    exact r_iret hQ rfl dX5_total_155 (reJ_of (okC_of (congrArg (fun z => (z, S)) (toA_10 S)) h (fun _ _ => rfl)))
  by_cases w11 : w = 11
  ·
    subst w11
    refine r_tableIn 155 156 dX5_total_1 (by decide) (by decide) (by decide) (by decide) ?_
    refine r_aload_n dX5_total_156 rfl ?_
    refine fX5_4 jX5_total_X5 lX5_total_25 dX5_total_157 ?_
    refine fX1_1 jX5_total_X1 lX5_total_152 dX5_total_160 ?_
    rw [h0.1]
    exact r_iret hQ rfl dX5_total_163 (reJ_of (okC_of (congrArg (fun z => (z, S)) (toA_11 S)) h (fun _ _ => rfl)))
  by_cases w12 : w = 12
  ·
    subst w12
    refine r_tableIn 163 164 dX5_total_1 (by decide) (by decide) (by decide) (by decide) ?_
    refine r_aload_n dX5_total_164 rfl ?_
    refine fX5_5 jX5_total_X5 lX5_total_32 dX5_total_165 ?_
    refine fX4_1 jX5_total_X4 lX5_total_139 dX5_total_168 ?_
    rw [ht.1]
    exact r_iret hQ rfl dX5_total_171 (reJ_of (okC_of (congrArg (fun z => (z, S)) (toA_12 S)) h (fun _ _ => rfl)))
  have hw : ∀ j, j ≤ 12 → ¬ w = nI j := by
    intro j hj
    rcases (show j = 0 ∨ j = 1 ∨ j = 2 ∨ j = 3 ∨ j = 4 ∨ j = 5 ∨ j = 6 ∨ j = 7 ∨ j = 8 ∨ j = 9 ∨ j = 10 ∨ j = 11 ∨ j = 12 by omega) with rfl | rfl | rfl | rfl | rfl | rfl | rfl | rfl | rfl | rfl | rfl | rfl | rfl
    · exact w0
    · exact w1
    · exact w2
    · exact w3
    · exact w4
    · exact w5
    · exact w6
    · exact w7
    · exact w8
    · exact w9
    · exact w10
    · exact w11
    · exact w12
  refine r_tableOut 172 dX5_total_1 (by simpa using sw_out (m := 12) (by omega) hw) (by decide) ?_
  refine r_bipush (-2) dX5_total_172 (by decide) ?_
  exact r_iret hQ rfl dX5_total_174 (reJ_of (okC_of (congrArg (fun z => (z, S)) (toA_d hw)) h (fun _ _ => rfl)))
end
