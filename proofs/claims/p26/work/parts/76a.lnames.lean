abbrev cL_cell : ByteArray := method_2_code
def yL_cell : MethodName := ⟨RL, "cell", "([II)I"⟩
abbrev cL_low : ByteArray := method_3_code
def yL_low : MethodName := ⟨RL, "low", "(II)I"⟩
abbrev cL_read : ByteArray := method_4_code
def yL_read : MethodName := ⟨RL, "read", "(LHidingBoxes;[I)I"⟩
abbrev cL_isAcross : ByteArray := method_5_code
def yL_isAcross : MethodName := ⟨RL, "isAcross", "([IIII)Z"⟩
abbrev cL_overlap : ByteArray := method_6_code
def yL_overlap : MethodName := ⟨RL, "overlap", "([III)Z"⟩
abbrev cL_by : ByteArray := method_7_code
def yL_by : MethodName := ⟨RL, "by", "([III)I"⟩
abbrev cL_ones : ByteArray := method_8_code
def yL_ones : MethodName := ⟨RL, "ones", "(I)I"⟩
abbrev cL_volume : ByteArray := method_9_code
def yL_volume : MethodName := ⟨RL, "volume", "([II)I"⟩
abbrev cL_isBelow : ByteArray := method_10_code
def yL_isBelow : MethodName := ⟨RL, "isBelow", "([III)Z"⟩
abbrev cL_ring : ByteArray := method_11_code
def yL_ring : MethodName := ⟨RL, "ring", "([III)I"⟩
abbrev cL_drawn : ByteArray := method_12_code
def yL_drawn : MethodName := ⟨RL, "drawn", "(LHidingBoxes;[I[IIIZ)I"⟩
abbrev cL_isBox : ByteArray := method_13_code
def yL_isBox : MethodName := ⟨RL, "isBox", "(LHidingBoxes;[I[III)Z"⟩
abbrev cL_isSo : ByteArray := method_14_code
def yL_isSo : MethodName := ⟨RL, "isSo", "(LHidingBoxes;[I[I)Z"⟩
abbrev cL_act : ByteArray := method_15_code
def yL_act : MethodName := ⟨RL, "act", "(LHidingBoxes;II)I"⟩
def wsL_cell : List Cond := .code yL_cell cL_cell 2 (some .int) :: ([.constant RL 7 (1000000007)])
def wsL_low : List Cond := .code yL_low cL_low 2 (some .int) :: ([.constant RL 8 (2147483647)])
def wsL_read_r1 : List Cond := [Cond.methodLink RL 9 yX5_total, Cond.instanceMethod yX5_total, Cond.selects RX5 yX5_total yX5_total, Cond.initialized RX5, Cond.code yX5_total cX5_total 2 (some .int), Cond.fieldLink RX5 10 "HidingBoxes" "now" "LHidingBoxes$Space;", Cond.fieldLink RX5 118 "HidingBoxes$Space" "count" "I", Cond.fieldLink RX5 190 "HidingBoxes$Space" "nextNumber" "I", Cond.fieldLink RX5 196 "HidingBoxes$Picture" "drawnCount" "I", Cond.fieldLink RX5 208 "HidingBoxes$Space" "splits" "I", Cond.fieldLink RX5 132 "HidingBoxes$Space" "rule" "I", Cond.fieldLink RX5 25 "HidingBoxes" "history" "LHidingBoxes$History;", Cond.fieldLink RX5 152 "HidingBoxes$History" "count" "I", Cond.fieldLink RX5 32 "HidingBoxes" "text" "LHidingBoxes$Text;", Cond.fieldLink RX5 139 "HidingBoxes$Text" "length" "I", Cond.methodLink RX5 159 yX5_look, Cond.instanceMethod yX5_look, Cond.selects RX5 yX5_look yX5_look, Cond.code yX5_look cX5_look 1 (some (.object "HidingBoxes$Picture")), Cond.fieldLink RX5 39 "HidingBoxes" "picture" "LHidingBoxes$Picture;", Cond.methodLink RX5 125 yX2_look, Cond.instanceMethod yX2_look, Cond.selects RX2 yX2_look yX2_look, Cond.initialized RX2]
def wsL_read_r2 : List Cond := [Cond.code yX2_look cX2_look 3 none, Cond.fieldLink RX2 24 "HidingBoxes$Space" "count" "I", Cond.fieldLink RX2 30 "HidingBoxes$Picture" "count" "I", Cond.fieldLink RX2 9 "HidingBoxes$Picture" "hides" "[I", Cond.methodLink RX2 31 yX2_bitsHiddenBy, Cond.static yX2_bitsHiddenBy, Cond.code yX2_bitsHiddenBy cX2_bitsHiddenBy 4 (some .int), Cond.fieldLink RX2 42 "HidingBoxes$Space" "boxes" "[LHidingBoxes$Box;", Cond.methodLink RX2 46 yX0_directionOfHiding, Cond.instanceMethod yX0_directionOfHiding, Cond.selects RX0 yX0_directionOfHiding yX0_directionOfHiding, Cond.initialized RX0, Cond.code yX0_directionOfHiding cX0_directionOfHiding 3 (some .int), Cond.fieldLink RX0 9 "HidingBoxes$Box" "low" "[I", Cond.fieldLink RX0 15 "HidingBoxes$Box" "high" "[I", Cond.methodLink RX0 40 yX0_overlapsOutlineOf, Cond.instanceMethod yX0_overlapsOutlineOf, Cond.selects RX0 yX0_overlapsOutlineOf yX0_overlapsOutlineOf, Cond.code yX0_overlapsOutlineOf cX0_overlapsOutlineOf 2 (some .boolean), Cond.methodLink RX0 36 yX0_meetsInDifference, Cond.instanceMethod yX0_meetsInDifference, Cond.selects RX0 yX0_meetsInDifference yX0_meetsInDifference, Cond.code yX0_meetsInDifference cX0_meetsInDifference 4 (some .boolean), Cond.methodLink RX2 35 yX2_followChains]
def wsL_read_r3 : List Cond := [Cond.instanceMethod yX2_followChains, Cond.selects RX2 yX2_followChains yX2_followChains, Cond.code yX2_followChains cX2_followChains 3 none, Cond.fieldLink RX2 15 "HidingBoxes$Picture" "chains" "[I", Cond.methodLink RX2 52 arraycopyName, Cond.native arraycopyName, Cond.static arraycopyName, Cond.initialized "java/lang/System", Cond.methodLink RX2 58 yX2_hasBit, Cond.static yX2_hasBit, Cond.code yX2_hasBit cX2_hasBit 2 (some .boolean), Cond.methodLink RX2 38 yX2_draw, Cond.instanceMethod yX2_draw, Cond.selects RX2 yX2_draw yX2_draw, Cond.code yX2_draw cX2_draw 4 none, Cond.fieldLink RX2 21 "HidingBoxes$Picture" "layers" "[I", Cond.fieldLink RX2 68 "HidingBoxes$Picture" "drawnBits" "I", Cond.fieldLink RX2 71 "HidingBoxes$Picture" "drawnCount" "I", Cond.fieldLink RX2 18 "HidingBoxes$Picture" "order" "[I", Cond.methodLink RX2 62 yJ7_fill_53178, Cond.static yJ7_fill_53178, Cond.initialized RJ7, Cond.code yJ7_fill_53178 cJ7_fill_53178 4 none, Cond.methodLink RX2 74 yX2_nextToDraw]
def wsL_read_r4 : List Cond := [Cond.instanceMethod yX2_nextToDraw, Cond.selects RX2 yX2_nextToDraw yX2_nextToDraw, Cond.code yX2_nextToDraw cX2_nextToDraw 5 (some .int), Cond.methodLink RX2 82 yX3_weightInDrawing, Cond.instanceMethod yX3_weightInDrawing, Cond.selects RX3 yX3_weightInDrawing yX3_weightInDrawing, Cond.initialized RX3, Cond.code yX3_weightInDrawing cX3_weightInDrawing 2 (some .int), Cond.fieldLink RX3 28 "HidingBoxes$Space" "rule" "I", Cond.fieldLink RX3 11 "HidingBoxes$Space" "boxes" "[LHidingBoxes$Box;", Cond.methodLink RX3 57 yX0_sumOfCorner, Cond.instanceMethod yX0_sumOfCorner, Cond.selects RX0 yX0_sumOfCorner yX0_sumOfCorner, Cond.code yX0_sumOfCorner cX0_sumOfCorner 1 (some .int), Cond.methodLink RX3 61 yX0_volume, Cond.instanceMethod yX0_volume, Cond.selects RX0 yX0_volume yX0_volume, Cond.code yX0_volume cX0_volume 1 (some .int), Cond.methodLink RX0 28 yX0_size, Cond.instanceMethod yX0_size, Cond.selects RX0 yX0_size yX0_size, Cond.code yX0_size cX0_size 2 (some .int), Cond.methodLink RX2 78 yX2_layerAbove, Cond.instanceMethod yX2_layerAbove]
def wsL_read_r5 : List Cond := [Cond.selects RX2 yX2_layerAbove yX2_layerAbove, Cond.code yX2_layerAbove cX2_layerAbove 4 (some .int), Cond.methodLink RX2 85 Lib.Math.max.name, Cond.static Lib.Math.max.name, Cond.initialized "java/lang/Math", Cond.code Lib.Math.max.name Lib.Math.max.code 2 (some .int), Cond.methodLink RX5 193 yX2_hidings, Cond.instanceMethod yX2_hidings, Cond.selects RX2 yX2_hidings yX2_hidings, Cond.code yX2_hidings cX2_hidings 3 (some .int), Cond.methodLink RX2 96 yX2_hiddenBy, Cond.instanceMethod yX2_hiddenBy, Cond.selects RX2 yX2_hiddenBy yX2_hiddenBy, Cond.code yX2_hiddenBy cX2_hiddenBy 2 (some .int), Cond.methodLink RX2 91 yJ6_bitCount_0f7a4, Cond.static yJ6_bitCount_0f7a4, Cond.initialized RJ6, Cond.code yJ6_bitCount_0f7a4 cJ6_bitCount_0f7a4 1 (some .int), Cond.constant RJ6 265 (1431655765), Cond.constant RJ6 266 (858993459), Cond.constant RJ6 267 (252645135), Cond.methodLink RX5 199 yX2_boxesInRings, Cond.instanceMethod yX2_boxesInRings, Cond.selects RX2 yX2_boxesInRings yX2_boxesInRings]
def wsL_read_r6 : List Cond := [Cond.code yX2_boxesInRings cX2_boxesInRings 3 (some .int), Cond.methodLink RX2 99 yX2_isInRing, Cond.instanceMethod yX2_isInRing, Cond.selects RX2 yX2_isInRing yX2_isInRing, Cond.code yX2_isInRing cX2_isInRing 2 (some .boolean), Cond.methodLink RX5 202 yX2_shortestRing, Cond.instanceMethod yX2_shortestRing, Cond.selects RX2 yX2_shortestRing yX2_shortestRing, Cond.code yX2_shortestRing cX2_shortestRing 4 (some .int), Cond.methodLink RX2 103 yX2_shortestRingOf, Cond.instanceMethod yX2_shortestRingOf, Cond.selects RX2 yX2_shortestRingOf yX2_shortestRingOf, Cond.code yX2_shortestRingOf cX2_shortestRingOf 4 (some .int), Cond.methodLink RX2 106 yX2_bitsHiddenByAll, Cond.instanceMethod yX2_bitsHiddenByAll, Cond.selects RX2 yX2_bitsHiddenByAll yX2_bitsHiddenByAll, Cond.code yX2_bitsHiddenByAll cX2_bitsHiddenByAll 4 (some .int), Cond.methodLink RX5 205 yX2_greatestLayer, Cond.instanceMethod yX2_greatestLayer, Cond.selects RX2 yX2_greatestLayer yX2_greatestLayer, Cond.code yX2_greatestLayer cX2_greatestLayer 3 (some .int), Cond.methodLink RX5 211 yX3_volume, Cond.instanceMethod yX3_volume, Cond.selects RX3 yX3_volume yX3_volume]
def wsL_read_r7 : List Cond := [Cond.code yX3_volume cX3_volume 3 (some .int), Cond.fieldLink RX3 18 "HidingBoxes$Space" "count" "I", Cond.methodLink RX5 212 yX3_shadow, Cond.instanceMethod yX3_shadow, Cond.selects RX3 yX3_shadow yX3_shadow, Cond.code yX3_shadow cX3_shadow 3 (some .int), Cond.methodLink RX3 86 yX3_shadowOn, Cond.instanceMethod yX3_shadowOn, Cond.selects RX3 yX3_shadowOn yX3_shadowOn, Cond.code yX3_shadowOn cX3_shadowOn 7 (some .int), Cond.fieldLink RX3 50 "HidingBoxes$Box" "low" "[I", Cond.fieldLink RX3 54 "HidingBoxes$Box" "high" "[I", Cond.methodLink RX3 64 yX0_isBelow, Cond.instanceMethod yX0_isBelow, Cond.selects RX0 yX0_isBelow yX0_isBelow, Cond.code yX0_isBelow cX0_isBelow 2 (some .boolean), Cond.methodLink RX0 32 yX0_meets, Cond.instanceMethod yX0_meets, Cond.selects RX0 yX0_meets yX0_meets, Cond.code yX0_meets cX0_meets 3 (some .boolean), Cond.methodLink RX3 73 yX0_coversRow, Cond.instanceMethod yX0_coversRow, Cond.selects RX0 yX0_coversRow yX0_coversRow, Cond.code yX0_coversRow cX0_coversRow 2 (some .boolean)]
def wsL_read_r8 : List Cond := [Cond.methodLink RX3 77 yX0_rowOfCells, Cond.instanceMethod yX0_rowOfCells, Cond.selects RX0 yX0_rowOfCells yX0_rowOfCells, Cond.code yX0_rowOfCells cX0_rowOfCells 1 (some .int), Cond.methodLink RX3 80 yJ6_bitCount_0f7a4, Cond.methodLink RL 15 yX5_box, Cond.instanceMethod yX5_box, Cond.selects RX5 yX5_box yX5_box, Cond.code yX5_box cX5_box 2 (some .int), Cond.fieldLink RX5 72 "HidingBoxes$Space" "boxes" "[LHidingBoxes$Box;", Cond.fieldLink RX5 156 "HidingBoxes$Box" "number" "I", Cond.methodLink RL 18 yX5_end, Cond.instanceMethod yX5_end, Cond.selects RX5 yX5_end yX5_end, Cond.code yX5_end cX5_end 6 (some .int), Cond.fieldLink RX5 92 "HidingBoxes$Box" "high" "[I", Cond.fieldLink RX5 88 "HidingBoxes$Box" "low" "[I", Cond.methodLink RX5 68 yX3_slotOf, Cond.instanceMethod yX3_slotOf, Cond.selects RX3 yX3_slotOf yX3_slotOf, Cond.code yX3_slotOf cX3_slotOf 3 (some .int), Cond.fieldLink RX3 35 "HidingBoxes$Box" "number" "I", Cond.methodLink RX5 84 yX5_isDirection, Cond.static yX5_isDirection]
def wsL_read_r9 : List Cond := [Cond.code yX5_isDirection cX5_isDirection 1 (some .boolean)]
def wsL_read : List Cond := .code yL_read cL_read 4 (some .int) :: ((wsL_read_r1 ++ (wsL_read_r2 ++ (wsL_read_r3 ++ (wsL_read_r4 ++ (wsL_read_r5 ++ (wsL_read_r6 ++ (wsL_read_r7 ++ (wsL_read_r8 ++ wsL_read_r9)))))))) ++ wsX50 ++ wsX30 ++ wsX20 ++ wsX10 ++ wsX40 ++ wsX00)
def wsL_isAcross : List Cond := .code yL_isAcross cL_isAcross 4 (some .boolean) :: ([])
def wsL_overlap : List Cond := .code yL_overlap cL_overlap 9 (some .boolean) :: ([])
def wsL_by : List Cond := .code yL_by cL_by 4 (some .int) :: ([.methodLink RL 22 yL_overlap, .static yL_overlap, .initialized RL, .code yL_overlap cL_overlap 9 (some .boolean)])
def wsL_ones : List Cond := .code yL_ones cL_ones 3 (some .int) :: ([])
def wsL_volume : List Cond := .code yL_volume cL_volume 2 (some .int) :: ([])
def wsL_isBelow : List Cond := .code yL_isBelow cL_isBelow 3 (some .boolean) :: ([.methodLink RL 28 yL_isAcross, .static yL_isAcross, .initialized RL, .code yL_isAcross cL_isAcross 4 (some .boolean)])
def wsL_ring : List Cond := .code yL_ring cL_ring 7 (some .int) :: ([])
def wsL_drawn_r1 : List Cond := [Cond.methodLink RL 9 yX5_total, Cond.instanceMethod yX5_total, Cond.selects RX5 yX5_total yX5_total, Cond.initialized RX5, Cond.code yX5_total cX5_total 2 (some .int), Cond.fieldLink RX5 10 "HidingBoxes" "now" "LHidingBoxes$Space;", Cond.fieldLink RX5 118 "HidingBoxes$Space" "count" "I", Cond.fieldLink RX5 190 "HidingBoxes$Space" "nextNumber" "I", Cond.fieldLink RX5 196 "HidingBoxes$Picture" "drawnCount" "I", Cond.fieldLink RX5 208 "HidingBoxes$Space" "splits" "I", Cond.fieldLink RX5 132 "HidingBoxes$Space" "rule" "I", Cond.fieldLink RX5 25 "HidingBoxes" "history" "LHidingBoxes$History;", Cond.fieldLink RX5 152 "HidingBoxes$History" "count" "I", Cond.fieldLink RX5 32 "HidingBoxes" "text" "LHidingBoxes$Text;", Cond.fieldLink RX5 139 "HidingBoxes$Text" "length" "I", Cond.methodLink RX5 159 yX5_look, Cond.instanceMethod yX5_look, Cond.selects RX5 yX5_look yX5_look, Cond.code yX5_look cX5_look 1 (some (.object "HidingBoxes$Picture")), Cond.fieldLink RX5 39 "HidingBoxes" "picture" "LHidingBoxes$Picture;", Cond.methodLink RX5 125 yX2_look, Cond.instanceMethod yX2_look, Cond.selects RX2 yX2_look yX2_look, Cond.initialized RX2]
def wsL_drawn_r2 : List Cond := [Cond.code yX2_look cX2_look 3 none, Cond.fieldLink RX2 24 "HidingBoxes$Space" "count" "I", Cond.fieldLink RX2 30 "HidingBoxes$Picture" "count" "I", Cond.fieldLink RX2 9 "HidingBoxes$Picture" "hides" "[I", Cond.methodLink RX2 31 yX2_bitsHiddenBy, Cond.static yX2_bitsHiddenBy, Cond.code yX2_bitsHiddenBy cX2_bitsHiddenBy 4 (some .int), Cond.fieldLink RX2 42 "HidingBoxes$Space" "boxes" "[LHidingBoxes$Box;", Cond.methodLink RX2 46 yX0_directionOfHiding, Cond.instanceMethod yX0_directionOfHiding, Cond.selects RX0 yX0_directionOfHiding yX0_directionOfHiding, Cond.initialized RX0, Cond.code yX0_directionOfHiding cX0_directionOfHiding 3 (some .int), Cond.fieldLink RX0 9 "HidingBoxes$Box" "low" "[I", Cond.fieldLink RX0 15 "HidingBoxes$Box" "high" "[I", Cond.methodLink RX0 40 yX0_overlapsOutlineOf, Cond.instanceMethod yX0_overlapsOutlineOf, Cond.selects RX0 yX0_overlapsOutlineOf yX0_overlapsOutlineOf, Cond.code yX0_overlapsOutlineOf cX0_overlapsOutlineOf 2 (some .boolean), Cond.methodLink RX0 36 yX0_meetsInDifference, Cond.instanceMethod yX0_meetsInDifference, Cond.selects RX0 yX0_meetsInDifference yX0_meetsInDifference, Cond.code yX0_meetsInDifference cX0_meetsInDifference 4 (some .boolean), Cond.methodLink RX2 35 yX2_followChains]
def wsL_drawn_r3 : List Cond := [Cond.instanceMethod yX2_followChains, Cond.selects RX2 yX2_followChains yX2_followChains, Cond.code yX2_followChains cX2_followChains 3 none, Cond.fieldLink RX2 15 "HidingBoxes$Picture" "chains" "[I", Cond.methodLink RX2 52 arraycopyName, Cond.native arraycopyName, Cond.static arraycopyName, Cond.initialized "java/lang/System", Cond.methodLink RX2 58 yX2_hasBit, Cond.static yX2_hasBit, Cond.code yX2_hasBit cX2_hasBit 2 (some .boolean), Cond.methodLink RX2 38 yX2_draw, Cond.instanceMethod yX2_draw, Cond.selects RX2 yX2_draw yX2_draw, Cond.code yX2_draw cX2_draw 4 none, Cond.fieldLink RX2 21 "HidingBoxes$Picture" "layers" "[I", Cond.fieldLink RX2 68 "HidingBoxes$Picture" "drawnBits" "I", Cond.fieldLink RX2 71 "HidingBoxes$Picture" "drawnCount" "I", Cond.fieldLink RX2 18 "HidingBoxes$Picture" "order" "[I", Cond.methodLink RX2 62 yJ7_fill_53178, Cond.static yJ7_fill_53178, Cond.initialized RJ7, Cond.code yJ7_fill_53178 cJ7_fill_53178 4 none, Cond.methodLink RX2 74 yX2_nextToDraw]
def wsL_drawn_r4 : List Cond := [Cond.instanceMethod yX2_nextToDraw, Cond.selects RX2 yX2_nextToDraw yX2_nextToDraw, Cond.code yX2_nextToDraw cX2_nextToDraw 5 (some .int), Cond.methodLink RX2 82 yX3_weightInDrawing, Cond.instanceMethod yX3_weightInDrawing, Cond.selects RX3 yX3_weightInDrawing yX3_weightInDrawing, Cond.initialized RX3, Cond.code yX3_weightInDrawing cX3_weightInDrawing 2 (some .int), Cond.fieldLink RX3 28 "HidingBoxes$Space" "rule" "I", Cond.fieldLink RX3 11 "HidingBoxes$Space" "boxes" "[LHidingBoxes$Box;", Cond.methodLink RX3 57 yX0_sumOfCorner, Cond.instanceMethod yX0_sumOfCorner, Cond.selects RX0 yX0_sumOfCorner yX0_sumOfCorner, Cond.code yX0_sumOfCorner cX0_sumOfCorner 1 (some .int), Cond.methodLink RX3 61 yX0_volume, Cond.instanceMethod yX0_volume, Cond.selects RX0 yX0_volume yX0_volume, Cond.code yX0_volume cX0_volume 1 (some .int), Cond.methodLink RX0 28 yX0_size, Cond.instanceMethod yX0_size, Cond.selects RX0 yX0_size yX0_size, Cond.code yX0_size cX0_size 2 (some .int), Cond.methodLink RX2 78 yX2_layerAbove, Cond.instanceMethod yX2_layerAbove]
def wsL_drawn_r5 : List Cond := [Cond.selects RX2 yX2_layerAbove yX2_layerAbove, Cond.code yX2_layerAbove cX2_layerAbove 4 (some .int), Cond.methodLink RX2 85 Lib.Math.max.name, Cond.static Lib.Math.max.name, Cond.initialized "java/lang/Math", Cond.code Lib.Math.max.name Lib.Math.max.code 2 (some .int), Cond.methodLink RX5 193 yX2_hidings, Cond.instanceMethod yX2_hidings, Cond.selects RX2 yX2_hidings yX2_hidings, Cond.code yX2_hidings cX2_hidings 3 (some .int), Cond.methodLink RX2 96 yX2_hiddenBy, Cond.instanceMethod yX2_hiddenBy, Cond.selects RX2 yX2_hiddenBy yX2_hiddenBy, Cond.code yX2_hiddenBy cX2_hiddenBy 2 (some .int), Cond.methodLink RX2 91 yJ6_bitCount_0f7a4, Cond.static yJ6_bitCount_0f7a4, Cond.initialized RJ6, Cond.code yJ6_bitCount_0f7a4 cJ6_bitCount_0f7a4 1 (some .int), Cond.constant RJ6 265 (1431655765), Cond.constant RJ6 266 (858993459), Cond.constant RJ6 267 (252645135), Cond.methodLink RX5 199 yX2_boxesInRings, Cond.instanceMethod yX2_boxesInRings, Cond.selects RX2 yX2_boxesInRings yX2_boxesInRings]
def wsL_drawn_r6 : List Cond := [Cond.code yX2_boxesInRings cX2_boxesInRings 3 (some .int), Cond.methodLink RX2 99 yX2_isInRing, Cond.instanceMethod yX2_isInRing, Cond.selects RX2 yX2_isInRing yX2_isInRing, Cond.code yX2_isInRing cX2_isInRing 2 (some .boolean), Cond.methodLink RX5 202 yX2_shortestRing, Cond.instanceMethod yX2_shortestRing, Cond.selects RX2 yX2_shortestRing yX2_shortestRing, Cond.code yX2_shortestRing cX2_shortestRing 4 (some .int), Cond.methodLink RX2 103 yX2_shortestRingOf, Cond.instanceMethod yX2_shortestRingOf, Cond.selects RX2 yX2_shortestRingOf yX2_shortestRingOf, Cond.code yX2_shortestRingOf cX2_shortestRingOf 4 (some .int), Cond.methodLink RX2 106 yX2_bitsHiddenByAll, Cond.instanceMethod yX2_bitsHiddenByAll, Cond.selects RX2 yX2_bitsHiddenByAll yX2_bitsHiddenByAll, Cond.code yX2_bitsHiddenByAll cX2_bitsHiddenByAll 4 (some .int), Cond.methodLink RX5 205 yX2_greatestLayer, Cond.instanceMethod yX2_greatestLayer, Cond.selects RX2 yX2_greatestLayer yX2_greatestLayer, Cond.code yX2_greatestLayer cX2_greatestLayer 3 (some .int), Cond.methodLink RX5 211 yX3_volume, Cond.instanceMethod yX3_volume, Cond.selects RX3 yX3_volume yX3_volume]
def wsL_drawn_r7 : List Cond := [Cond.code yX3_volume cX3_volume 3 (some .int), Cond.fieldLink RX3 18 "HidingBoxes$Space" "count" "I", Cond.methodLink RX5 212 yX3_shadow, Cond.instanceMethod yX3_shadow, Cond.selects RX3 yX3_shadow yX3_shadow, Cond.code yX3_shadow cX3_shadow 3 (some .int), Cond.methodLink RX3 86 yX3_shadowOn, Cond.instanceMethod yX3_shadowOn, Cond.selects RX3 yX3_shadowOn yX3_shadowOn, Cond.code yX3_shadowOn cX3_shadowOn 7 (some .int), Cond.fieldLink RX3 50 "HidingBoxes$Box" "low" "[I", Cond.fieldLink RX3 54 "HidingBoxes$Box" "high" "[I", Cond.methodLink RX3 64 yX0_isBelow, Cond.instanceMethod yX0_isBelow, Cond.selects RX0 yX0_isBelow yX0_isBelow, Cond.code yX0_isBelow cX0_isBelow 2 (some .boolean), Cond.methodLink RX0 32 yX0_meets, Cond.instanceMethod yX0_meets, Cond.selects RX0 yX0_meets yX0_meets, Cond.code yX0_meets cX0_meets 3 (some .boolean), Cond.methodLink RX3 73 yX0_coversRow, Cond.instanceMethod yX0_coversRow, Cond.selects RX0 yX0_coversRow yX0_coversRow, Cond.code yX0_coversRow cX0_coversRow 2 (some .boolean)]
def wsL_drawn_r8 : List Cond := [Cond.methodLink RX3 77 yX0_rowOfCells, Cond.instanceMethod yX0_rowOfCells, Cond.selects RX0 yX0_rowOfCells yX0_rowOfCells, Cond.code yX0_rowOfCells cX0_rowOfCells 1 (some .int), Cond.methodLink RX3 80 yJ6_bitCount_0f7a4, Cond.methodLink RL 32 yL_volume, Cond.static yL_volume, Cond.initialized RL, Cond.code yL_volume cL_volume 2 (some .int), Cond.methodLink RL 36 yX5_drawn, Cond.instanceMethod yX5_drawn, Cond.selects RX5 yX5_drawn yX5_drawn, Cond.code yX5_drawn cX5_drawn 3 (some .int), Cond.fieldLink RX5 72 "HidingBoxes$Space" "boxes" "[LHidingBoxes$Box;", Cond.fieldLink RX5 156 "HidingBoxes$Box" "number" "I", Cond.methodLink RX5 187 yX2_slotDrawn, Cond.instanceMethod yX2_slotDrawn, Cond.selects RX2 yX2_slotDrawn yX2_slotDrawn, Cond.code yX2_slotDrawn cX2_slotDrawn 2 (some .int), Cond.methodLink RL 15 yX5_box, Cond.instanceMethod yX5_box, Cond.selects RX5 yX5_box yX5_box, Cond.code yX5_box cX5_box 2 (some .int)]
def wsL_drawn : List Cond := .code yL_drawn cL_drawn 13 (some .int) :: ((wsL_drawn_r1 ++ (wsL_drawn_r2 ++ (wsL_drawn_r3 ++ (wsL_drawn_r4 ++ (wsL_drawn_r5 ++ (wsL_drawn_r6 ++ (wsL_drawn_r7 ++ wsL_drawn_r8))))))) ++ wsX50 ++ wsX30 ++ wsX20 ++ wsX10 ++ wsX40 ++ wsX00)
def wsL_isBox_r1 : List Cond := [Cond.methodLink RL 15 yX5_box, Cond.instanceMethod yX5_box, Cond.selects RX5 yX5_box yX5_box, Cond.initialized RX5, Cond.code yX5_box cX5_box 2 (some .int), Cond.fieldLink RX5 10 "HidingBoxes" "now" "LHidingBoxes$Space;", Cond.fieldLink RX5 118 "HidingBoxes$Space" "count" "I", Cond.fieldLink RX5 72 "HidingBoxes$Space" "boxes" "[LHidingBoxes$Box;", Cond.fieldLink RX5 156 "HidingBoxes$Box" "number" "I", Cond.methodLink RL 39 yL_isBelow, Cond.static yL_isBelow, Cond.initialized RL, Cond.code yL_isBelow cL_isBelow 3 (some .boolean), Cond.methodLink RL 28 yL_isAcross, Cond.static yL_isAcross, Cond.code yL_isAcross cL_isAcross 4 (some .boolean), Cond.methodLink RL 42 yX5_pair, Cond.instanceMethod yX5_pair, Cond.selects RX5 yX5_pair yX5_pair, Cond.code yX5_pair cX5_pair 7 (some .int), Cond.methodLink RX5 68 yX3_slotOf, Cond.instanceMethod yX3_slotOf, Cond.selects RX3 yX3_slotOf yX3_slotOf, Cond.initialized RX3]
def wsL_isBox_r2 : List Cond := [Cond.code yX3_slotOf cX3_slotOf 3 (some .int), Cond.fieldLink RX3 18 "HidingBoxes$Space" "count" "I", Cond.fieldLink RX3 11 "HidingBoxes$Space" "boxes" "[LHidingBoxes$Box;", Cond.fieldLink RX3 35 "HidingBoxes$Box" "number" "I", Cond.methodLink RX5 183 yX0_directionOfHiding, Cond.instanceMethod yX0_directionOfHiding, Cond.selects RX0 yX0_directionOfHiding yX0_directionOfHiding, Cond.initialized RX0, Cond.code yX0_directionOfHiding cX0_directionOfHiding 3 (some .int), Cond.fieldLink RX0 9 "HidingBoxes$Box" "low" "[I", Cond.fieldLink RX0 15 "HidingBoxes$Box" "high" "[I", Cond.methodLink RX0 40 yX0_overlapsOutlineOf, Cond.instanceMethod yX0_overlapsOutlineOf, Cond.selects RX0 yX0_overlapsOutlineOf yX0_overlapsOutlineOf, Cond.code yX0_overlapsOutlineOf cX0_overlapsOutlineOf 2 (some .boolean), Cond.methodLink RX0 36 yX0_meetsInDifference, Cond.instanceMethod yX0_meetsInDifference, Cond.selects RX0 yX0_meetsInDifference yX0_meetsInDifference, Cond.code yX0_meetsInDifference cX0_meetsInDifference 4 (some .boolean), Cond.methodLink RL 46 yL_by, Cond.static yL_by, Cond.code yL_by cL_by 4 (some .int), Cond.methodLink RL 22 yL_overlap, Cond.static yL_overlap]
def wsL_isBox_r3 : List Cond := [Cond.code yL_overlap cL_overlap 9 (some .boolean), Cond.methodLink RL 50 yL_ring, Cond.static yL_ring, Cond.code yL_ring cL_ring 7 (some .int), Cond.methodLink RL 53 yX5_ofBox, Cond.instanceMethod yX5_ofBox, Cond.selects RX5 yX5_ofBox yX5_ofBox, Cond.code yX5_ofBox cX5_ofBox 4 (some .int), Cond.fieldLink RX5 168 "HidingBoxes$Picture" "layers" "[I", Cond.fieldLink RX5 88 "HidingBoxes$Box" "low" "[I", Cond.methodLink RX5 76 yX0_volume, Cond.instanceMethod yX0_volume, Cond.selects RX0 yX0_volume yX0_volume, Cond.code yX0_volume cX0_volume 1 (some .int), Cond.methodLink RX0 28 yX0_size, Cond.instanceMethod yX0_size, Cond.selects RX0 yX0_size yX0_size, Cond.code yX0_size cX0_size 2 (some .int), Cond.methodLink RX5 159 yX5_look, Cond.instanceMethod yX5_look, Cond.selects RX5 yX5_look yX5_look, Cond.code yX5_look cX5_look 1 (some (.object "HidingBoxes$Picture")), Cond.fieldLink RX5 39 "HidingBoxes" "picture" "LHidingBoxes$Picture;", Cond.methodLink RX5 125 yX2_look]
def wsL_isBox_r4 : List Cond := [Cond.instanceMethod yX2_look, Cond.selects RX2 yX2_look yX2_look, Cond.initialized RX2, Cond.code yX2_look cX2_look 3 none, Cond.fieldLink RX2 24 "HidingBoxes$Space" "count" "I", Cond.fieldLink RX2 30 "HidingBoxes$Picture" "count" "I", Cond.fieldLink RX2 9 "HidingBoxes$Picture" "hides" "[I", Cond.methodLink RX2 31 yX2_bitsHiddenBy, Cond.static yX2_bitsHiddenBy, Cond.code yX2_bitsHiddenBy cX2_bitsHiddenBy 4 (some .int), Cond.fieldLink RX2 42 "HidingBoxes$Space" "boxes" "[LHidingBoxes$Box;", Cond.methodLink RX2 46 yX0_directionOfHiding, Cond.methodLink RX2 35 yX2_followChains, Cond.instanceMethod yX2_followChains, Cond.selects RX2 yX2_followChains yX2_followChains, Cond.code yX2_followChains cX2_followChains 3 none, Cond.fieldLink RX2 15 "HidingBoxes$Picture" "chains" "[I", Cond.methodLink RX2 52 arraycopyName, Cond.native arraycopyName, Cond.static arraycopyName, Cond.initialized "java/lang/System", Cond.methodLink RX2 58 yX2_hasBit, Cond.static yX2_hasBit, Cond.code yX2_hasBit cX2_hasBit 2 (some .boolean)]
def wsL_isBox_r5 : List Cond := [Cond.methodLink RX2 38 yX2_draw, Cond.instanceMethod yX2_draw, Cond.selects RX2 yX2_draw yX2_draw, Cond.code yX2_draw cX2_draw 4 none, Cond.fieldLink RX2 21 "HidingBoxes$Picture" "layers" "[I", Cond.fieldLink RX2 68 "HidingBoxes$Picture" "drawnBits" "I", Cond.fieldLink RX2 71 "HidingBoxes$Picture" "drawnCount" "I", Cond.fieldLink RX2 18 "HidingBoxes$Picture" "order" "[I", Cond.methodLink RX2 62 yJ7_fill_53178, Cond.static yJ7_fill_53178, Cond.initialized RJ7, Cond.code yJ7_fill_53178 cJ7_fill_53178 4 none, Cond.methodLink RX2 74 yX2_nextToDraw, Cond.instanceMethod yX2_nextToDraw, Cond.selects RX2 yX2_nextToDraw yX2_nextToDraw, Cond.code yX2_nextToDraw cX2_nextToDraw 5 (some .int), Cond.methodLink RX2 82 yX3_weightInDrawing, Cond.instanceMethod yX3_weightInDrawing, Cond.selects RX3 yX3_weightInDrawing yX3_weightInDrawing, Cond.code yX3_weightInDrawing cX3_weightInDrawing 2 (some .int), Cond.fieldLink RX3 28 "HidingBoxes$Space" "rule" "I", Cond.methodLink RX3 57 yX0_sumOfCorner, Cond.instanceMethod yX0_sumOfCorner, Cond.selects RX0 yX0_sumOfCorner yX0_sumOfCorner]
def wsL_isBox_r6 : List Cond := [Cond.code yX0_sumOfCorner cX0_sumOfCorner 1 (some .int), Cond.methodLink RX3 61 yX0_volume, Cond.methodLink RX2 78 yX2_layerAbove, Cond.instanceMethod yX2_layerAbove, Cond.selects RX2 yX2_layerAbove yX2_layerAbove, Cond.code yX2_layerAbove cX2_layerAbove 4 (some .int), Cond.methodLink RX2 85 Lib.Math.max.name, Cond.static Lib.Math.max.name, Cond.initialized "java/lang/Math", Cond.code Lib.Math.max.name Lib.Math.max.code 2 (some .int), Cond.methodLink RX5 162 yX2_hiddenBy, Cond.instanceMethod yX2_hiddenBy, Cond.selects RX2 yX2_hiddenBy yX2_hiddenBy, Cond.code yX2_hiddenBy cX2_hiddenBy 2 (some .int), Cond.methodLink RX2 91 yJ6_bitCount_0f7a4, Cond.static yJ6_bitCount_0f7a4, Cond.initialized RJ6, Cond.code yJ6_bitCount_0f7a4 cJ6_bitCount_0f7a4 1 (some .int), Cond.constant RJ6 265 (1431655765), Cond.constant RJ6 266 (858993459), Cond.constant RJ6 267 (252645135), Cond.methodLink RX5 165 yX2_hidersOf, Cond.instanceMethod yX2_hidersOf, Cond.selects RX2 yX2_hidersOf yX2_hidersOf]
def wsL_isBox_r7 : List Cond := [Cond.code yX2_hidersOf cX2_hidersOf 4 (some .int), Cond.methodLink RX5 171 yX2_shortestRingOf, Cond.instanceMethod yX2_shortestRingOf, Cond.selects RX2 yX2_shortestRingOf yX2_shortestRingOf, Cond.code yX2_shortestRingOf cX2_shortestRingOf 4 (some .int), Cond.methodLink RX2 106 yX2_bitsHiddenByAll, Cond.instanceMethod yX2_bitsHiddenByAll, Cond.selects RX2 yX2_bitsHiddenByAll yX2_bitsHiddenByAll, Cond.code yX2_bitsHiddenByAll cX2_bitsHiddenByAll 4 (some .int), Cond.methodLink RX5 174 yX3_supportsOf, Cond.instanceMethod yX3_supportsOf, Cond.selects RX3 yX3_supportsOf yX3_supportsOf, Cond.code yX3_supportsOf cX3_supportsOf 5 (some .int), Cond.fieldLink RX3 54 "HidingBoxes$Box" "high" "[I", Cond.fieldLink RX3 50 "HidingBoxes$Box" "low" "[I", Cond.methodLink RX3 64 yX0_isBelow, Cond.instanceMethod yX0_isBelow, Cond.selects RX0 yX0_isBelow yX0_isBelow, Cond.code yX0_isBelow cX0_isBelow 2 (some .boolean), Cond.methodLink RX0 32 yX0_meets, Cond.instanceMethod yX0_meets, Cond.selects RX0 yX0_meets yX0_meets, Cond.code yX0_meets cX0_meets 3 (some .boolean), Cond.methodLink RX5 177 yX3_boxesBelow]
def wsL_isBox_r8 : List Cond := [Cond.instanceMethod yX3_boxesBelow, Cond.selects RX3 yX3_boxesBelow yX3_boxesBelow, Cond.code yX3_boxesBelow cX3_boxesBelow 4 (some .int), Cond.methodLink RX5 180 yX3_shadowOn, Cond.instanceMethod yX3_shadowOn, Cond.selects RX3 yX3_shadowOn yX3_shadowOn, Cond.code yX3_shadowOn cX3_shadowOn 7 (some .int), Cond.methodLink RX3 73 yX0_coversRow, Cond.instanceMethod yX0_coversRow, Cond.selects RX0 yX0_coversRow yX0_coversRow, Cond.code yX0_coversRow cX0_coversRow 2 (some .boolean), Cond.methodLink RX3 77 yX0_rowOfCells, Cond.instanceMethod yX0_rowOfCells, Cond.selects RX0 yX0_rowOfCells yX0_rowOfCells, Cond.code yX0_rowOfCells cX0_rowOfCells 1 (some .int), Cond.methodLink RX3 80 yJ6_bitCount_0f7a4, Cond.methodLink RL 32 yL_volume, Cond.static yL_volume, Cond.code yL_volume cL_volume 2 (some .int), Cond.methodLink RL 56 yL_ones, Cond.static yL_ones, Cond.code yL_ones cL_ones 3 (some .int)]
def wsL_isBox : List Cond := .code yL_isBox cL_isBox 14 (some .boolean) :: ((wsL_isBox_r1 ++ (wsL_isBox_r2 ++ (wsL_isBox_r3 ++ (wsL_isBox_r4 ++ (wsL_isBox_r5 ++ (wsL_isBox_r6 ++ (wsL_isBox_r7 ++ wsL_isBox_r8))))))) ++ wsX50 ++ wsX30 ++ wsX00 ++ wsX20)
def wsL_isSo_r1 : List Cond := [Cond.methodLink RL 59 yL_read, Cond.static yL_read, Cond.initialized RL, Cond.code yL_read cL_read 4 (some .int), Cond.methodLink RL 9 yX5_total, Cond.instanceMethod yX5_total, Cond.selects RX5 yX5_total yX5_total, Cond.initialized RX5, Cond.code yX5_total cX5_total 2 (some .int), Cond.fieldLink RX5 10 "HidingBoxes" "now" "LHidingBoxes$Space;", Cond.fieldLink RX5 118 "HidingBoxes$Space" "count" "I", Cond.fieldLink RX5 190 "HidingBoxes$Space" "nextNumber" "I", Cond.fieldLink RX5 196 "HidingBoxes$Picture" "drawnCount" "I", Cond.fieldLink RX5 208 "HidingBoxes$Space" "splits" "I", Cond.fieldLink RX5 132 "HidingBoxes$Space" "rule" "I", Cond.fieldLink RX5 25 "HidingBoxes" "history" "LHidingBoxes$History;", Cond.fieldLink RX5 152 "HidingBoxes$History" "count" "I", Cond.fieldLink RX5 32 "HidingBoxes" "text" "LHidingBoxes$Text;", Cond.fieldLink RX5 139 "HidingBoxes$Text" "length" "I", Cond.methodLink RX5 159 yX5_look, Cond.instanceMethod yX5_look, Cond.selects RX5 yX5_look yX5_look, Cond.code yX5_look cX5_look 1 (some (.object "HidingBoxes$Picture")), Cond.fieldLink RX5 39 "HidingBoxes" "picture" "LHidingBoxes$Picture;"]
def wsL_isSo_r2 : List Cond := [Cond.methodLink RX5 125 yX2_look, Cond.instanceMethod yX2_look, Cond.selects RX2 yX2_look yX2_look, Cond.initialized RX2, Cond.code yX2_look cX2_look 3 none, Cond.fieldLink RX2 24 "HidingBoxes$Space" "count" "I", Cond.fieldLink RX2 30 "HidingBoxes$Picture" "count" "I", Cond.fieldLink RX2 9 "HidingBoxes$Picture" "hides" "[I", Cond.methodLink RX2 31 yX2_bitsHiddenBy, Cond.static yX2_bitsHiddenBy, Cond.code yX2_bitsHiddenBy cX2_bitsHiddenBy 4 (some .int), Cond.fieldLink RX2 42 "HidingBoxes$Space" "boxes" "[LHidingBoxes$Box;", Cond.methodLink RX2 46 yX0_directionOfHiding, Cond.instanceMethod yX0_directionOfHiding, Cond.selects RX0 yX0_directionOfHiding yX0_directionOfHiding, Cond.initialized RX0, Cond.code yX0_directionOfHiding cX0_directionOfHiding 3 (some .int), Cond.fieldLink RX0 9 "HidingBoxes$Box" "low" "[I", Cond.fieldLink RX0 15 "HidingBoxes$Box" "high" "[I", Cond.methodLink RX0 40 yX0_overlapsOutlineOf, Cond.instanceMethod yX0_overlapsOutlineOf, Cond.selects RX0 yX0_overlapsOutlineOf yX0_overlapsOutlineOf, Cond.code yX0_overlapsOutlineOf cX0_overlapsOutlineOf 2 (some .boolean), Cond.methodLink RX0 36 yX0_meetsInDifference]
def wsL_isSo_r3 : List Cond := [Cond.instanceMethod yX0_meetsInDifference, Cond.selects RX0 yX0_meetsInDifference yX0_meetsInDifference, Cond.code yX0_meetsInDifference cX0_meetsInDifference 4 (some .boolean), Cond.methodLink RX2 35 yX2_followChains, Cond.instanceMethod yX2_followChains, Cond.selects RX2 yX2_followChains yX2_followChains, Cond.code yX2_followChains cX2_followChains 3 none, Cond.fieldLink RX2 15 "HidingBoxes$Picture" "chains" "[I", Cond.methodLink RX2 52 arraycopyName, Cond.native arraycopyName, Cond.static arraycopyName, Cond.initialized "java/lang/System", Cond.methodLink RX2 58 yX2_hasBit, Cond.static yX2_hasBit, Cond.code yX2_hasBit cX2_hasBit 2 (some .boolean), Cond.methodLink RX2 38 yX2_draw, Cond.instanceMethod yX2_draw, Cond.selects RX2 yX2_draw yX2_draw, Cond.code yX2_draw cX2_draw 4 none, Cond.fieldLink RX2 21 "HidingBoxes$Picture" "layers" "[I", Cond.fieldLink RX2 68 "HidingBoxes$Picture" "drawnBits" "I", Cond.fieldLink RX2 71 "HidingBoxes$Picture" "drawnCount" "I", Cond.fieldLink RX2 18 "HidingBoxes$Picture" "order" "[I", Cond.methodLink RX2 62 yJ7_fill_53178]
def wsL_isSo_r4 : List Cond := [Cond.static yJ7_fill_53178, Cond.initialized RJ7, Cond.code yJ7_fill_53178 cJ7_fill_53178 4 none, Cond.methodLink RX2 74 yX2_nextToDraw, Cond.instanceMethod yX2_nextToDraw, Cond.selects RX2 yX2_nextToDraw yX2_nextToDraw, Cond.code yX2_nextToDraw cX2_nextToDraw 5 (some .int), Cond.methodLink RX2 82 yX3_weightInDrawing, Cond.instanceMethod yX3_weightInDrawing, Cond.selects RX3 yX3_weightInDrawing yX3_weightInDrawing, Cond.initialized RX3, Cond.code yX3_weightInDrawing cX3_weightInDrawing 2 (some .int), Cond.fieldLink RX3 28 "HidingBoxes$Space" "rule" "I", Cond.fieldLink RX3 11 "HidingBoxes$Space" "boxes" "[LHidingBoxes$Box;", Cond.methodLink RX3 57 yX0_sumOfCorner, Cond.instanceMethod yX0_sumOfCorner, Cond.selects RX0 yX0_sumOfCorner yX0_sumOfCorner, Cond.code yX0_sumOfCorner cX0_sumOfCorner 1 (some .int), Cond.methodLink RX3 61 yX0_volume, Cond.instanceMethod yX0_volume, Cond.selects RX0 yX0_volume yX0_volume, Cond.code yX0_volume cX0_volume 1 (some .int), Cond.methodLink RX0 28 yX0_size, Cond.instanceMethod yX0_size]
def wsL_isSo_r5 : List Cond := [Cond.selects RX0 yX0_size yX0_size, Cond.code yX0_size cX0_size 2 (some .int), Cond.methodLink RX2 78 yX2_layerAbove, Cond.instanceMethod yX2_layerAbove, Cond.selects RX2 yX2_layerAbove yX2_layerAbove, Cond.code yX2_layerAbove cX2_layerAbove 4 (some .int), Cond.methodLink RX2 85 Lib.Math.max.name, Cond.static Lib.Math.max.name, Cond.initialized "java/lang/Math", Cond.code Lib.Math.max.name Lib.Math.max.code 2 (some .int), Cond.methodLink RX5 193 yX2_hidings, Cond.instanceMethod yX2_hidings, Cond.selects RX2 yX2_hidings yX2_hidings, Cond.code yX2_hidings cX2_hidings 3 (some .int), Cond.methodLink RX2 96 yX2_hiddenBy, Cond.instanceMethod yX2_hiddenBy, Cond.selects RX2 yX2_hiddenBy yX2_hiddenBy, Cond.code yX2_hiddenBy cX2_hiddenBy 2 (some .int), Cond.methodLink RX2 91 yJ6_bitCount_0f7a4, Cond.static yJ6_bitCount_0f7a4, Cond.initialized RJ6, Cond.code yJ6_bitCount_0f7a4 cJ6_bitCount_0f7a4 1 (some .int), Cond.constant RJ6 265 (1431655765), Cond.constant RJ6 266 (858993459)]
def wsL_isSo_r6 : List Cond := [Cond.constant RJ6 267 (252645135), Cond.methodLink RX5 199 yX2_boxesInRings, Cond.instanceMethod yX2_boxesInRings, Cond.selects RX2 yX2_boxesInRings yX2_boxesInRings, Cond.code yX2_boxesInRings cX2_boxesInRings 3 (some .int), Cond.methodLink RX2 99 yX2_isInRing, Cond.instanceMethod yX2_isInRing, Cond.selects RX2 yX2_isInRing yX2_isInRing, Cond.code yX2_isInRing cX2_isInRing 2 (some .boolean), Cond.methodLink RX5 202 yX2_shortestRing, Cond.instanceMethod yX2_shortestRing, Cond.selects RX2 yX2_shortestRing yX2_shortestRing, Cond.code yX2_shortestRing cX2_shortestRing 4 (some .int), Cond.methodLink RX2 103 yX2_shortestRingOf, Cond.instanceMethod yX2_shortestRingOf, Cond.selects RX2 yX2_shortestRingOf yX2_shortestRingOf, Cond.code yX2_shortestRingOf cX2_shortestRingOf 4 (some .int), Cond.methodLink RX2 106 yX2_bitsHiddenByAll, Cond.instanceMethod yX2_bitsHiddenByAll, Cond.selects RX2 yX2_bitsHiddenByAll yX2_bitsHiddenByAll, Cond.code yX2_bitsHiddenByAll cX2_bitsHiddenByAll 4 (some .int), Cond.methodLink RX5 205 yX2_greatestLayer, Cond.instanceMethod yX2_greatestLayer, Cond.selects RX2 yX2_greatestLayer yX2_greatestLayer]
def wsL_isSo_r7 : List Cond := [Cond.code yX2_greatestLayer cX2_greatestLayer 3 (some .int), Cond.methodLink RX5 211 yX3_volume, Cond.instanceMethod yX3_volume, Cond.selects RX3 yX3_volume yX3_volume, Cond.code yX3_volume cX3_volume 3 (some .int), Cond.fieldLink RX3 18 "HidingBoxes$Space" "count" "I", Cond.methodLink RX5 212 yX3_shadow, Cond.instanceMethod yX3_shadow, Cond.selects RX3 yX3_shadow yX3_shadow, Cond.code yX3_shadow cX3_shadow 3 (some .int), Cond.methodLink RX3 86 yX3_shadowOn, Cond.instanceMethod yX3_shadowOn, Cond.selects RX3 yX3_shadowOn yX3_shadowOn, Cond.code yX3_shadowOn cX3_shadowOn 7 (some .int), Cond.fieldLink RX3 50 "HidingBoxes$Box" "low" "[I", Cond.fieldLink RX3 54 "HidingBoxes$Box" "high" "[I", Cond.methodLink RX3 64 yX0_isBelow, Cond.instanceMethod yX0_isBelow, Cond.selects RX0 yX0_isBelow yX0_isBelow, Cond.code yX0_isBelow cX0_isBelow 2 (some .boolean), Cond.methodLink RX0 32 yX0_meets, Cond.instanceMethod yX0_meets, Cond.selects RX0 yX0_meets yX0_meets, Cond.code yX0_meets cX0_meets 3 (some .boolean)]
def wsL_isSo_r8 : List Cond := [Cond.methodLink RX3 73 yX0_coversRow, Cond.instanceMethod yX0_coversRow, Cond.selects RX0 yX0_coversRow yX0_coversRow, Cond.code yX0_coversRow cX0_coversRow 2 (some .boolean), Cond.methodLink RX3 77 yX0_rowOfCells, Cond.instanceMethod yX0_rowOfCells, Cond.selects RX0 yX0_rowOfCells yX0_rowOfCells, Cond.code yX0_rowOfCells cX0_rowOfCells 1 (some .int), Cond.methodLink RX3 80 yJ6_bitCount_0f7a4, Cond.methodLink RL 15 yX5_box, Cond.instanceMethod yX5_box, Cond.selects RX5 yX5_box yX5_box, Cond.code yX5_box cX5_box 2 (some .int), Cond.fieldLink RX5 72 "HidingBoxes$Space" "boxes" "[LHidingBoxes$Box;", Cond.fieldLink RX5 156 "HidingBoxes$Box" "number" "I", Cond.methodLink RL 18 yX5_end, Cond.instanceMethod yX5_end, Cond.selects RX5 yX5_end yX5_end, Cond.code yX5_end cX5_end 6 (some .int), Cond.fieldLink RX5 92 "HidingBoxes$Box" "high" "[I", Cond.fieldLink RX5 88 "HidingBoxes$Box" "low" "[I", Cond.methodLink RX5 68 yX3_slotOf, Cond.instanceMethod yX3_slotOf, Cond.selects RX3 yX3_slotOf yX3_slotOf]
def wsL_isSo_r9 : List Cond := [Cond.code yX3_slotOf cX3_slotOf 3 (some .int), Cond.fieldLink RX3 35 "HidingBoxes$Box" "number" "I", Cond.methodLink RX5 84 yX5_isDirection, Cond.static yX5_isDirection, Cond.code yX5_isDirection cX5_isDirection 1 (some .boolean), Cond.methodLink RL 46 yL_by, Cond.static yL_by, Cond.code yL_by cL_by 4 (some .int), Cond.methodLink RL 22 yL_overlap, Cond.static yL_overlap, Cond.code yL_overlap cL_overlap 9 (some .boolean), Cond.methodLink RL 28 yL_isAcross, Cond.static yL_isAcross, Cond.code yL_isAcross cL_isAcross 4 (some .boolean), Cond.methodLink RL 63 yL_isBox, Cond.static yL_isBox, Cond.code yL_isBox cL_isBox 14 (some .boolean), Cond.methodLink RL 39 yL_isBelow, Cond.static yL_isBelow, Cond.code yL_isBelow cL_isBelow 3 (some .boolean), Cond.methodLink RL 42 yX5_pair, Cond.instanceMethod yX5_pair, Cond.selects RX5 yX5_pair yX5_pair, Cond.code yX5_pair cX5_pair 7 (some .int)]
def wsL_isSo_r10 : List Cond := [Cond.methodLink RX5 183 yX0_directionOfHiding, Cond.methodLink RL 50 yL_ring, Cond.static yL_ring, Cond.code yL_ring cL_ring 7 (some .int), Cond.methodLink RL 53 yX5_ofBox, Cond.instanceMethod yX5_ofBox, Cond.selects RX5 yX5_ofBox yX5_ofBox, Cond.code yX5_ofBox cX5_ofBox 4 (some .int), Cond.fieldLink RX5 168 "HidingBoxes$Picture" "layers" "[I", Cond.methodLink RX5 76 yX0_volume, Cond.methodLink RX5 162 yX2_hiddenBy, Cond.methodLink RX5 165 yX2_hidersOf, Cond.instanceMethod yX2_hidersOf, Cond.selects RX2 yX2_hidersOf yX2_hidersOf, Cond.code yX2_hidersOf cX2_hidersOf 4 (some .int), Cond.methodLink RX5 171 yX2_shortestRingOf, Cond.methodLink RX5 174 yX3_supportsOf, Cond.instanceMethod yX3_supportsOf, Cond.selects RX3 yX3_supportsOf yX3_supportsOf, Cond.code yX3_supportsOf cX3_supportsOf 5 (some .int), Cond.methodLink RX5 177 yX3_boxesBelow, Cond.instanceMethod yX3_boxesBelow, Cond.selects RX3 yX3_boxesBelow yX3_boxesBelow, Cond.code yX3_boxesBelow cX3_boxesBelow 4 (some .int)]
def wsL_isSo_r11 : List Cond := [Cond.methodLink RX5 180 yX3_shadowOn, Cond.methodLink RL 32 yL_volume, Cond.static yL_volume, Cond.code yL_volume cL_volume 2 (some .int), Cond.methodLink RL 56 yL_ones, Cond.static yL_ones, Cond.code yL_ones cL_ones 3 (some .int), Cond.methodLink RL 67 yL_drawn, Cond.static yL_drawn, Cond.code yL_drawn cL_drawn 13 (some .int), Cond.methodLink RL 36 yX5_drawn, Cond.instanceMethod yX5_drawn, Cond.selects RX5 yX5_drawn yX5_drawn, Cond.code yX5_drawn cX5_drawn 3 (some .int), Cond.methodLink RX5 187 yX2_slotDrawn, Cond.instanceMethod yX2_slotDrawn, Cond.selects RX2 yX2_slotDrawn yX2_slotDrawn, Cond.code yX2_slotDrawn cX2_slotDrawn 2 (some .int), Cond.methodLink RL 70 yX5_waitsFor, Cond.instanceMethod yX5_waitsFor, Cond.selects RX5 yX5_waitsFor yX5_waitsFor, Cond.code yX5_waitsFor cX5_waitsFor 4 (some .int), Cond.methodLink RX5 215 yX2_firstNotDrawnUnder, Cond.instanceMethod yX2_firstNotDrawnUnder]
def wsL_isSo_r12 : List Cond := [Cond.selects RX2 yX2_firstNotDrawnUnder yX2_firstNotDrawnUnder, Cond.code yX2_firstNotDrawnUnder cX2_firstNotDrawnUnder 3 (some .int), Cond.methodLink RL 73 yX5_drawnWithout, Cond.instanceMethod yX5_drawnWithout, Cond.selects RX5 yX5_drawnWithout yX5_drawnWithout, Cond.code yX5_drawnWithout cX5_drawnWithout 3 (some .int), Cond.fieldLink RX5 16 "HidingBoxes" "trial" "LHidingBoxes$Space;", Cond.methodLink RX5 57 yX3_copyFrom, Cond.instanceMethod yX3_copyFrom, Cond.selects RX3 yX3_copyFrom yX3_copyFrom, Cond.code yX3_copyFrom cX3_copyFrom 3 none, Cond.fieldLink RX3 22 "HidingBoxes$Space" "nextNumber" "I", Cond.fieldLink RX3 25 "HidingBoxes$Space" "splits" "I", Cond.methodLink RX3 31 yX0_copyFrom, Cond.instanceMethod yX0_copyFrom, Cond.selects RX0 yX0_copyFrom yX0_copyFrom, Cond.code yX0_copyFrom cX0_copyFrom 2 none, Cond.fieldLink RX0 18 "HidingBoxes$Box" "number" "I", Cond.methodLink RX0 22 arraycopyName, Cond.methodLink RX5 80 yX3_takeOut, Cond.instanceMethod yX3_takeOut, Cond.selects RX3 yX3_takeOut yX3_takeOut, Cond.code yX3_takeOut cX3_takeOut 3 none]
def wsL_isSo : List Cond := .code yL_isSo cL_isSo 17 (some .boolean) :: ((wsL_isSo_r1 ++ (wsL_isSo_r2 ++ (wsL_isSo_r3 ++ (wsL_isSo_r4 ++ (wsL_isSo_r5 ++ (wsL_isSo_r6 ++ (wsL_isSo_r7 ++ (wsL_isSo_r8 ++ (wsL_isSo_r9 ++ (wsL_isSo_r10 ++ (wsL_isSo_r11 ++ wsL_isSo_r12))))))))))) ++ wsX50 ++ wsX30 ++ wsX20 ++ wsX10 ++ wsX40 ++ wsX00)
def wsL_act_r1 : List Cond := [Cond.methodLink RL 9 yX5_total, Cond.instanceMethod yX5_total, Cond.selects RX5 yX5_total yX5_total, Cond.initialized RX5, Cond.code yX5_total cX5_total 2 (some .int), Cond.fieldLink RX5 10 "HidingBoxes" "now" "LHidingBoxes$Space;", Cond.fieldLink RX5 118 "HidingBoxes$Space" "count" "I", Cond.fieldLink RX5 190 "HidingBoxes$Space" "nextNumber" "I", Cond.fieldLink RX5 196 "HidingBoxes$Picture" "drawnCount" "I", Cond.fieldLink RX5 208 "HidingBoxes$Space" "splits" "I", Cond.fieldLink RX5 132 "HidingBoxes$Space" "rule" "I", Cond.fieldLink RX5 25 "HidingBoxes" "history" "LHidingBoxes$History;", Cond.fieldLink RX5 152 "HidingBoxes$History" "count" "I", Cond.fieldLink RX5 32 "HidingBoxes" "text" "LHidingBoxes$Text;", Cond.fieldLink RX5 139 "HidingBoxes$Text" "length" "I", Cond.methodLink RX5 159 yX5_look, Cond.instanceMethod yX5_look, Cond.selects RX5 yX5_look yX5_look, Cond.code yX5_look cX5_look 1 (some (.object "HidingBoxes$Picture")), Cond.fieldLink RX5 39 "HidingBoxes" "picture" "LHidingBoxes$Picture;", Cond.methodLink RX5 125 yX2_look, Cond.instanceMethod yX2_look, Cond.selects RX2 yX2_look yX2_look, Cond.initialized RX2]
def wsL_act_r2 : List Cond := [Cond.code yX2_look cX2_look 3 none, Cond.fieldLink RX2 24 "HidingBoxes$Space" "count" "I", Cond.fieldLink RX2 30 "HidingBoxes$Picture" "count" "I", Cond.fieldLink RX2 9 "HidingBoxes$Picture" "hides" "[I", Cond.methodLink RX2 31 yX2_bitsHiddenBy, Cond.static yX2_bitsHiddenBy, Cond.code yX2_bitsHiddenBy cX2_bitsHiddenBy 4 (some .int), Cond.fieldLink RX2 42 "HidingBoxes$Space" "boxes" "[LHidingBoxes$Box;", Cond.methodLink RX2 46 yX0_directionOfHiding, Cond.instanceMethod yX0_directionOfHiding, Cond.selects RX0 yX0_directionOfHiding yX0_directionOfHiding, Cond.initialized RX0, Cond.code yX0_directionOfHiding cX0_directionOfHiding 3 (some .int), Cond.fieldLink RX0 9 "HidingBoxes$Box" "low" "[I", Cond.fieldLink RX0 15 "HidingBoxes$Box" "high" "[I", Cond.methodLink RX0 40 yX0_overlapsOutlineOf, Cond.instanceMethod yX0_overlapsOutlineOf, Cond.selects RX0 yX0_overlapsOutlineOf yX0_overlapsOutlineOf, Cond.code yX0_overlapsOutlineOf cX0_overlapsOutlineOf 2 (some .boolean), Cond.methodLink RX0 36 yX0_meetsInDifference, Cond.instanceMethod yX0_meetsInDifference, Cond.selects RX0 yX0_meetsInDifference yX0_meetsInDifference, Cond.code yX0_meetsInDifference cX0_meetsInDifference 4 (some .boolean), Cond.methodLink RX2 35 yX2_followChains]
def wsL_act_r3 : List Cond := [Cond.instanceMethod yX2_followChains, Cond.selects RX2 yX2_followChains yX2_followChains, Cond.code yX2_followChains cX2_followChains 3 none, Cond.fieldLink RX2 15 "HidingBoxes$Picture" "chains" "[I", Cond.methodLink RX2 52 arraycopyName, Cond.native arraycopyName, Cond.static arraycopyName, Cond.initialized "java/lang/System", Cond.methodLink RX2 58 yX2_hasBit, Cond.static yX2_hasBit, Cond.code yX2_hasBit cX2_hasBit 2 (some .boolean), Cond.methodLink RX2 38 yX2_draw, Cond.instanceMethod yX2_draw, Cond.selects RX2 yX2_draw yX2_draw, Cond.code yX2_draw cX2_draw 4 none, Cond.fieldLink RX2 21 "HidingBoxes$Picture" "layers" "[I", Cond.fieldLink RX2 68 "HidingBoxes$Picture" "drawnBits" "I", Cond.fieldLink RX2 71 "HidingBoxes$Picture" "drawnCount" "I", Cond.fieldLink RX2 18 "HidingBoxes$Picture" "order" "[I", Cond.methodLink RX2 62 yJ7_fill_53178, Cond.static yJ7_fill_53178, Cond.initialized RJ7, Cond.code yJ7_fill_53178 cJ7_fill_53178 4 none, Cond.methodLink RX2 74 yX2_nextToDraw]
def wsL_act_r4 : List Cond := [Cond.instanceMethod yX2_nextToDraw, Cond.selects RX2 yX2_nextToDraw yX2_nextToDraw, Cond.code yX2_nextToDraw cX2_nextToDraw 5 (some .int), Cond.methodLink RX2 82 yX3_weightInDrawing, Cond.instanceMethod yX3_weightInDrawing, Cond.selects RX3 yX3_weightInDrawing yX3_weightInDrawing, Cond.initialized RX3, Cond.code yX3_weightInDrawing cX3_weightInDrawing 2 (some .int), Cond.fieldLink RX3 28 "HidingBoxes$Space" "rule" "I", Cond.fieldLink RX3 11 "HidingBoxes$Space" "boxes" "[LHidingBoxes$Box;", Cond.methodLink RX3 57 yX0_sumOfCorner, Cond.instanceMethod yX0_sumOfCorner, Cond.selects RX0 yX0_sumOfCorner yX0_sumOfCorner, Cond.code yX0_sumOfCorner cX0_sumOfCorner 1 (some .int), Cond.methodLink RX3 61 yX0_volume, Cond.instanceMethod yX0_volume, Cond.selects RX0 yX0_volume yX0_volume, Cond.code yX0_volume cX0_volume 1 (some .int), Cond.methodLink RX0 28 yX0_size, Cond.instanceMethod yX0_size, Cond.selects RX0 yX0_size yX0_size, Cond.code yX0_size cX0_size 2 (some .int), Cond.methodLink RX2 78 yX2_layerAbove, Cond.instanceMethod yX2_layerAbove]
def wsL_act_r5 : List Cond := [Cond.selects RX2 yX2_layerAbove yX2_layerAbove, Cond.code yX2_layerAbove cX2_layerAbove 4 (some .int), Cond.methodLink RX2 85 Lib.Math.max.name, Cond.static Lib.Math.max.name, Cond.initialized "java/lang/Math", Cond.code Lib.Math.max.name Lib.Math.max.code 2 (some .int), Cond.methodLink RX5 193 yX2_hidings, Cond.instanceMethod yX2_hidings, Cond.selects RX2 yX2_hidings yX2_hidings, Cond.code yX2_hidings cX2_hidings 3 (some .int), Cond.methodLink RX2 96 yX2_hiddenBy, Cond.instanceMethod yX2_hiddenBy, Cond.selects RX2 yX2_hiddenBy yX2_hiddenBy, Cond.code yX2_hiddenBy cX2_hiddenBy 2 (some .int), Cond.methodLink RX2 91 yJ6_bitCount_0f7a4, Cond.static yJ6_bitCount_0f7a4, Cond.initialized RJ6, Cond.code yJ6_bitCount_0f7a4 cJ6_bitCount_0f7a4 1 (some .int), Cond.constant RJ6 265 (1431655765), Cond.constant RJ6 266 (858993459), Cond.constant RJ6 267 (252645135), Cond.methodLink RX5 199 yX2_boxesInRings, Cond.instanceMethod yX2_boxesInRings, Cond.selects RX2 yX2_boxesInRings yX2_boxesInRings]
def wsL_act_r6 : List Cond := [Cond.code yX2_boxesInRings cX2_boxesInRings 3 (some .int), Cond.methodLink RX2 99 yX2_isInRing, Cond.instanceMethod yX2_isInRing, Cond.selects RX2 yX2_isInRing yX2_isInRing, Cond.code yX2_isInRing cX2_isInRing 2 (some .boolean), Cond.methodLink RX5 202 yX2_shortestRing, Cond.instanceMethod yX2_shortestRing, Cond.selects RX2 yX2_shortestRing yX2_shortestRing, Cond.code yX2_shortestRing cX2_shortestRing 4 (some .int), Cond.methodLink RX2 103 yX2_shortestRingOf, Cond.instanceMethod yX2_shortestRingOf, Cond.selects RX2 yX2_shortestRingOf yX2_shortestRingOf, Cond.code yX2_shortestRingOf cX2_shortestRingOf 4 (some .int), Cond.methodLink RX2 106 yX2_bitsHiddenByAll, Cond.instanceMethod yX2_bitsHiddenByAll, Cond.selects RX2 yX2_bitsHiddenByAll yX2_bitsHiddenByAll, Cond.code yX2_bitsHiddenByAll cX2_bitsHiddenByAll 4 (some .int), Cond.methodLink RX5 205 yX2_greatestLayer, Cond.instanceMethod yX2_greatestLayer, Cond.selects RX2 yX2_greatestLayer yX2_greatestLayer, Cond.code yX2_greatestLayer cX2_greatestLayer 3 (some .int), Cond.methodLink RX5 211 yX3_volume, Cond.instanceMethod yX3_volume, Cond.selects RX3 yX3_volume yX3_volume]
def wsL_act_r7 : List Cond := [Cond.code yX3_volume cX3_volume 3 (some .int), Cond.fieldLink RX3 18 "HidingBoxes$Space" "count" "I", Cond.methodLink RX5 212 yX3_shadow, Cond.instanceMethod yX3_shadow, Cond.selects RX3 yX3_shadow yX3_shadow, Cond.code yX3_shadow cX3_shadow 3 (some .int), Cond.methodLink RX3 86 yX3_shadowOn, Cond.instanceMethod yX3_shadowOn, Cond.selects RX3 yX3_shadowOn yX3_shadowOn, Cond.code yX3_shadowOn cX3_shadowOn 7 (some .int), Cond.fieldLink RX3 50 "HidingBoxes$Box" "low" "[I", Cond.fieldLink RX3 54 "HidingBoxes$Box" "high" "[I", Cond.methodLink RX3 64 yX0_isBelow, Cond.instanceMethod yX0_isBelow, Cond.selects RX0 yX0_isBelow yX0_isBelow, Cond.code yX0_isBelow cX0_isBelow 2 (some .boolean), Cond.methodLink RX0 32 yX0_meets, Cond.instanceMethod yX0_meets, Cond.selects RX0 yX0_meets yX0_meets, Cond.code yX0_meets cX0_meets 3 (some .boolean), Cond.methodLink RX3 73 yX0_coversRow, Cond.instanceMethod yX0_coversRow, Cond.selects RX0 yX0_coversRow yX0_coversRow, Cond.code yX0_coversRow cX0_coversRow 2 (some .boolean)]
def wsL_act_r8 : List Cond := [Cond.methodLink RX3 77 yX0_rowOfCells, Cond.instanceMethod yX0_rowOfCells, Cond.selects RX0 yX0_rowOfCells yX0_rowOfCells, Cond.code yX0_rowOfCells cX0_rowOfCells 1 (some .int), Cond.methodLink RX3 80 yJ6_bitCount_0f7a4, Cond.methodLink RL 76 yL_low, Cond.static yL_low, Cond.initialized RL, Cond.code yL_low cL_low 2 (some .int), Cond.constant RL 8 (2147483647), Cond.methodLink RL 15 yX5_box, Cond.instanceMethod yX5_box, Cond.selects RX5 yX5_box yX5_box, Cond.code yX5_box cX5_box 2 (some .int), Cond.fieldLink RX5 72 "HidingBoxes$Space" "boxes" "[LHidingBoxes$Box;", Cond.fieldLink RX5 156 "HidingBoxes$Box" "number" "I", Cond.methodLink RL 79 yX5_remove, Cond.instanceMethod yX5_remove, Cond.selects RX5 yX5_remove yX5_remove, Cond.code yX5_remove cX5_remove 4 (some .int), Cond.fieldLink RX5 16 "HidingBoxes" "trial" "LHidingBoxes$Space;", Cond.methodLink RX5 68 yX3_slotOf, Cond.instanceMethod yX3_slotOf, Cond.selects RX3 yX3_slotOf yX3_slotOf]
def wsL_act_r9 : List Cond := [Cond.code yX3_slotOf cX3_slotOf 3 (some .int), Cond.fieldLink RX3 35 "HidingBoxes$Box" "number" "I", Cond.methodLink RX5 76 yX0_volume, Cond.methodLink RX5 57 yX3_copyFrom, Cond.instanceMethod yX3_copyFrom, Cond.selects RX3 yX3_copyFrom yX3_copyFrom, Cond.code yX3_copyFrom cX3_copyFrom 3 none, Cond.fieldLink RX3 22 "HidingBoxes$Space" "nextNumber" "I", Cond.fieldLink RX3 25 "HidingBoxes$Space" "splits" "I", Cond.methodLink RX3 31 yX0_copyFrom, Cond.instanceMethod yX0_copyFrom, Cond.selects RX0 yX0_copyFrom yX0_copyFrom, Cond.code yX0_copyFrom cX0_copyFrom 2 none, Cond.fieldLink RX0 18 "HidingBoxes$Box" "number" "I", Cond.methodLink RX0 22 arraycopyName, Cond.methodLink RX5 80 yX3_takeOut, Cond.instanceMethod yX3_takeOut, Cond.selects RX3 yX3_takeOut yX3_takeOut, Cond.code yX3_takeOut cX3_takeOut 3 none, Cond.methodLink RX5 65 yX5_adoptTrial, Cond.instanceMethod yX5_adoptTrial, Cond.selects RX5 yX5_adoptTrial yX5_adoptTrial, Cond.code yX5_adoptTrial cX5_adoptTrial 1 none, Cond.methodLink RX5 218 yX1_remember]
def wsL_act_r10 : List Cond := [Cond.instanceMethod yX1_remember, Cond.selects RX1 yX1_remember yX1_remember, Cond.initialized RX1, Cond.code yX1_remember cX1_remember 2 none, Cond.fieldLink RX1 18 "HidingBoxes$History" "count" "I", Cond.fieldLink RX1 11 "HidingBoxes$History" "states" "[LHidingBoxes$Space;", Cond.methodLink RX1 22 yX1_dropOldest, Cond.instanceMethod yX1_dropOldest, Cond.selects RX1 yX1_dropOldest yX1_dropOldest, Cond.code yX1_dropOldest cX1_dropOldest 3 none, Cond.methodLink RX1 25 yX3_copyFrom, Cond.methodLink RL 82 yX5_add, Cond.instanceMethod yX5_add, Cond.selects RX5 yX5_add yX5_add, Cond.code yX5_add cX5_add 8 (some .int), Cond.methodLink RX5 61 yX5_enter, Cond.instanceMethod yX5_enter, Cond.selects RX5 yX5_enter yX5_enter, Cond.code yX5_enter cX5_enter 9 (some .int), Cond.fieldLink RX5 49 "HidingBoxes" "newcomer" "LHidingBoxes$Box;", Cond.methodLink RX5 221 yX0_lay, Cond.instanceMethod yX0_lay, Cond.selects RX0 yX0_lay yX0_lay, Cond.code yX0_lay cX0_lay 4 (some .boolean)]
def wsL_act_r11 : List Cond := [Cond.methodLink RX5 99 yX3_isCutBy, Cond.instanceMethod yX3_isCutBy, Cond.selects RX3 yX3_isCutBy yX3_isCutBy, Cond.code yX3_isCutBy cX3_isCutBy 4 (some .boolean), Cond.methodLink RX3 38 yX0_cuts, Cond.instanceMethod yX0_cuts, Cond.selects RX0 yX0_cuts yX0_cuts, Cond.code yX0_cuts cX0_cuts 2 (some .boolean), Cond.methodLink RX5 106 yX3_isFull, Cond.instanceMethod yX3_isFull, Cond.selects RX3 yX3_isFull yX3_isFull, Cond.code yX3_isFull cX3_isFull 1 (some .boolean), Cond.methodLink RX5 225 yX3_append, Cond.instanceMethod yX3_append, Cond.selects RX3 yX3_append yX3_append, Cond.code yX3_append cX3_append 3 (some .int), Cond.methodLink RX3 42 yX3_isFull, Cond.methodLink RL 86 yX5_move, Cond.instanceMethod yX5_move, Cond.selects RX5 yX5_move yX5_move, Cond.code yX5_move cX5_move 6 (some .int), Cond.fieldLink RX5 88 "HidingBoxes$Box" "low" "[I", Cond.fieldLink RX5 92 "HidingBoxes$Box" "high" "[I", Cond.methodLink RX5 84 yX5_isDirection]
def wsL_act_r12 : List Cond := [Cond.static yX5_isDirection, Cond.code yX5_isDirection cX5_isDirection 1 (some .boolean), Cond.methodLink RX5 95 yX0_shift, Cond.instanceMethod yX0_shift, Cond.selects RX0 yX0_shift yX0_shift, Cond.code yX0_shift cX0_shift 3 none, Cond.methodLink RL 90 yX5_fall, Cond.instanceMethod yX5_fall, Cond.selects RX5 yX5_fall yX5_fall, Cond.code yX5_fall cX5_fall 4 (some .int), Cond.methodLink RX5 103 yX3_groundUnder, Cond.instanceMethod yX3_groundUnder, Cond.selects RX3 yX3_groundUnder yX3_groundUnder, Cond.code yX3_groundUnder cX3_groundUnder 4 (some .int), Cond.methodLink RX3 67 Lib.Math.max.name, Cond.methodLink RL 93 yX5_split, Cond.instanceMethod yX5_split, Cond.selects RX5 yX5_split yX5_split, Cond.code yX5_split cX5_split 7 (some .int), Cond.methodLink RX5 110 yX3_cutInTwo, Cond.instanceMethod yX3_cutInTwo, Cond.selects RX3 yX3_cutInTwo yX3_cutInTwo, Cond.code yX3_cutInTwo cX3_cutInTwo 5 (some .int), Cond.methodLink RX3 46 yX3_append]
def wsL_act_r13 : List Cond := [Cond.methodLink RL 96 yX5_breakRing, Cond.instanceMethod yX5_breakRing, Cond.selects RX5 yX5_breakRing yX5_breakRing, Cond.code yX5_breakRing cX5_breakRing 2 (some .int), Cond.methodLink RX5 114 yX5_breakOne, Cond.instanceMethod yX5_breakOne, Cond.selects RX5 yX5_breakOne yX5_breakOne, Cond.code yX5_breakOne cX5_breakOne 6 (some .int), Cond.methodLink RX5 227 yX2_greatestInRings, Cond.instanceMethod yX2_greatestInRings, Cond.selects RX2 yX2_greatestInRings yX2_greatestInRings, Cond.code yX2_greatestInRings cX2_greatestInRings 4 (some .int), Cond.methodLink RX2 109 yX0_volume, Cond.methodLink RX5 230 yX0_longestDirection, Cond.instanceMethod yX0_longestDirection, Cond.selects RX0 yX0_longestDirection yX0_longestDirection, Cond.code yX0_longestDirection cX0_longestDirection 3 (some .int), Cond.methodLink RX5 233 yX0_size, Cond.methodLink RL 100 yX5_turn, Cond.instanceMethod yX5_turn, Cond.selects RX5 yX5_turn yX5_turn, Cond.code yX5_turn cX5_turn 2 (some .int), Cond.fieldLink RX5 43 "HidingBoxes" "turnedPicture" "LHidingBoxes$Picture;", Cond.methodLink RX5 122 yX3_quarterTurn]
def wsL_act_r14 : List Cond := [Cond.instanceMethod yX3_quarterTurn, Cond.selects RX3 yX3_quarterTurn yX3_quarterTurn, Cond.code yX3_quarterTurn cX3_quarterTurn 5 none, Cond.methodLink RX5 128 yX2_hidingsNotIn, Cond.instanceMethod yX2_hidingsNotIn, Cond.selects RX2 yX2_hidingsNotIn yX2_hidingsNotIn, Cond.code yX2_hidingsNotIn cX2_hidingsNotIn 4 (some .int), Cond.methodLink RL 103 yX5_set, Cond.instanceMethod yX5_set, Cond.selects RX5 yX5_set yX5_set, Cond.code yX5_set cX5_set 4 (some .int)]
def wsL_act : List Cond := .code yL_act cL_act 7 (some .int) :: ((wsL_act_r1 ++ (wsL_act_r2 ++ (wsL_act_r3 ++ (wsL_act_r4 ++ (wsL_act_r5 ++ (wsL_act_r6 ++ (wsL_act_r7 ++ (wsL_act_r8 ++ (wsL_act_r9 ++ (wsL_act_r10 ++ (wsL_act_r11 ++ (wsL_act_r12 ++ (wsL_act_r13 ++ wsL_act_r14))))))))))))) ++ wsX50 ++ wsX30 ++ wsX20 ++ wsX10 ++ wsX40 ++ wsX00)
theorem dL_cell_0 : decode cL_cell 0 = .ok (.iload_n 1, 1) := by decide +kernel
theorem dL_cell_1 : decode cL_cell 1 = .ok (.aload_n 0, 1) := by decide +kernel
theorem dL_cell_2 : decode cL_cell 2 = .ok (.arraylength, 1) := by decide +kernel
theorem dL_cell_3 : decode cL_cell 3 = .ok (.if_icmp .ge 9, 3) := by decide +kernel
theorem dL_cell_6 : decode cL_cell 6 = .ok (.aload_n 0, 1) := by decide +kernel
theorem dL_cell_7 : decode cL_cell 7 = .ok (.iload_n 1, 1) := by decide +kernel
theorem dL_cell_8 : decode cL_cell 8 = .ok (.iaload, 1) := by decide +kernel
theorem dL_cell_9 : decode cL_cell 9 = .ok (.goto 9, 3) := by decide +kernel
theorem dL_cell_12 : decode cL_cell 12 = .ok (.ldc 7, 2) := by decide +kernel
theorem dL_cell_14 : decode cL_cell 14 = .ok (.iload_n 1, 1) := by decide +kernel
theorem dL_cell_15 : decode cL_cell 15 = .ok (.iconst 1, 1) := by decide +kernel
theorem dL_cell_16 : decode cL_cell 16 = .ok (.iadd, 1) := by decide +kernel
theorem dL_cell_17 : decode cL_cell 17 = .ok (.imul, 1) := by decide +kernel
theorem dL_cell_18 : decode cL_cell 18 = .ok (.ireturn, 1) := by decide +kernel
theorem dL_low_0 : decode cL_low 0 = .ok (.iload_n 0, 1) := by decide +kernel
theorem dL_low_1 : decode cL_low 1 = .ok (.ldc 8, 2) := by decide +kernel
theorem dL_low_3 : decode cL_low 3 = .ok (.iand, 1) := by decide +kernel
theorem dL_low_4 : decode cL_low 4 = .ok (.iload_n 1, 1) := by decide +kernel
theorem dL_low_5 : decode cL_low 5 = .ok (.irem, 1) := by decide +kernel
theorem dL_low_6 : decode cL_low 6 = .ok (.ireturn, 1) := by decide +kernel
theorem dL_read_0 : decode cL_read 0 = .ok (.aload_n 0, 1) := by decide +kernel
theorem dL_read_1 : decode cL_read 1 = .ok (.iconst 0, 1) := by decide +kernel
theorem dL_read_2 : decode cL_read 2 = .ok (.invokevirtual 9, 3) := by decide +kernel
theorem dL_read_5 : decode cL_read 5 = .ok (.istore_n 2, 1) := by decide +kernel
theorem dL_read_6 : decode cL_read 6 = .ok (.iconst 0, 1) := by decide +kernel
theorem dL_read_7 : decode cL_read 7 = .ok (.istore_n 3, 1) := by decide +kernel
theorem dL_read_8 : decode cL_read 8 = .ok (.iload_n 3, 1) := by decide +kernel
theorem dL_read_9 : decode cL_read 9 = .ok (.bipush 6, 2) := by decide +kernel
theorem dL_read_11 : decode cL_read 11 = .ok (.iload_n 2, 1) := by decide +kernel
theorem dL_read_12 : decode cL_read 12 = .ok (.imul, 1) := by decide +kernel
theorem dL_read_13 : decode cL_read 13 = .ok (.if_icmp .ge 40, 3) := by decide +kernel
theorem dL_read_16 : decode cL_read 16 = .ok (.aload_n 1, 1) := by decide +kernel
theorem dL_read_17 : decode cL_read 17 = .ok (.iload_n 3, 1) := by decide +kernel
theorem dL_read_18 : decode cL_read 18 = .ok (.aload_n 0, 1) := by decide +kernel
theorem dL_read_19 : decode cL_read 19 = .ok (.aload_n 0, 1) := by decide +kernel
theorem dL_read_20 : decode cL_read 20 = .ok (.iload_n 3, 1) := by decide +kernel
theorem dL_read_21 : decode cL_read 21 = .ok (.bipush 6, 2) := by decide +kernel
theorem dL_read_23 : decode cL_read 23 = .ok (.idiv, 1) := by decide +kernel
theorem dL_read_24 : decode cL_read 24 = .ok (.invokevirtual 15, 3) := by decide +kernel
theorem dL_read_27 : decode cL_read 27 = .ok (.iload_n 3, 1) := by decide +kernel
theorem dL_read_28 : decode cL_read 28 = .ok (.iconst 3, 1) := by decide +kernel
theorem dL_read_29 : decode cL_read 29 = .ok (.irem, 1) := by decide +kernel
theorem dL_read_30 : decode cL_read 30 = .ok (.iload_n 3, 1) := by decide +kernel
theorem dL_read_31 : decode cL_read 31 = .ok (.bipush 6, 2) := by decide +kernel
theorem dL_read_33 : decode cL_read 33 = .ok (.irem, 1) := by decide +kernel
theorem dL_read_34 : decode cL_read 34 = .ok (.iconst 2, 1) := by decide +kernel
theorem dL_read_35 : decode cL_read 35 = .ok (.if_icmp .le 7, 3) := by decide +kernel
theorem dL_read_38 : decode cL_read 38 = .ok (.iconst 1, 1) := by decide +kernel
theorem dL_read_39 : decode cL_read 39 = .ok (.goto 4, 3) := by decide +kernel
theorem dL_read_42 : decode cL_read 42 = .ok (.iconst 0, 1) := by decide +kernel
theorem dL_read_43 : decode cL_read 43 = .ok (.invokevirtual 18, 3) := by decide +kernel
theorem dL_read_46 : decode cL_read 46 = .ok (.iastore, 1) := by decide +kernel
theorem dL_read_47 : decode cL_read 47 = .ok (.iinc 3 1, 3) := by decide +kernel
theorem dL_read_50 : decode cL_read 50 = .ok (.goto (-42), 3) := by decide +kernel
theorem dL_read_53 : decode cL_read 53 = .ok (.iload_n 2, 1) := by decide +kernel
theorem dL_read_54 : decode cL_read 54 = .ok (.ireturn, 1) := by decide +kernel
theorem dL_isAcross_0 : decode cL_isAcross 0 = .ok (.aload_n 0, 1) := by decide +kernel
theorem dL_isAcross_1 : decode cL_isAcross 1 = .ok (.bipush 6, 2) := by decide +kernel
theorem dL_isAcross_3 : decode cL_isAcross 3 = .ok (.iload_n 1, 1) := by decide +kernel
theorem dL_isAcross_4 : decode cL_isAcross 4 = .ok (.imul, 1) := by decide +kernel
theorem dL_isAcross_5 : decode cL_isAcross 5 = .ok (.iload_n 3, 1) := by decide +kernel
theorem dL_isAcross_6 : decode cL_isAcross 6 = .ok (.iadd, 1) := by decide +kernel
theorem dL_isAcross_7 : decode cL_isAcross 7 = .ok (.iaload, 1) := by decide +kernel
theorem dL_isAcross_8 : decode cL_isAcross 8 = .ok (.aload_n 0, 1) := by decide +kernel
theorem dL_isAcross_9 : decode cL_isAcross 9 = .ok (.bipush 6, 2) := by decide +kernel
theorem dL_isAcross_11 : decode cL_isAcross 11 = .ok (.iload_n 2, 1) := by decide +kernel
theorem dL_isAcross_12 : decode cL_isAcross 12 = .ok (.imul, 1) := by decide +kernel
theorem dL_isAcross_13 : decode cL_isAcross 13 = .ok (.iconst 3, 1) := by decide +kernel
theorem dL_isAcross_14 : decode cL_isAcross 14 = .ok (.iadd, 1) := by decide +kernel
theorem dL_isAcross_15 : decode cL_isAcross 15 = .ok (.iload_n 3, 1) := by decide +kernel
theorem dL_isAcross_16 : decode cL_isAcross 16 = .ok (.iadd, 1) := by decide +kernel
theorem dL_isAcross_17 : decode cL_isAcross 17 = .ok (.iaload, 1) := by decide +kernel
theorem dL_isAcross_18 : decode cL_isAcross 18 = .ok (.if_icmp .ge 28, 3) := by decide +kernel
theorem dL_isAcross_21 : decode cL_isAcross 21 = .ok (.aload_n 0, 1) := by decide +kernel
theorem dL_isAcross_22 : decode cL_isAcross 22 = .ok (.bipush 6, 2) := by decide +kernel
theorem dL_isAcross_24 : decode cL_isAcross 24 = .ok (.iload_n 2, 1) := by decide +kernel
theorem dL_isAcross_25 : decode cL_isAcross 25 = .ok (.imul, 1) := by decide +kernel
theorem dL_isAcross_26 : decode cL_isAcross 26 = .ok (.iload_n 3, 1) := by decide +kernel
theorem dL_isAcross_27 : decode cL_isAcross 27 = .ok (.iadd, 1) := by decide +kernel
theorem dL_isAcross_28 : decode cL_isAcross 28 = .ok (.iaload, 1) := by decide +kernel
theorem dL_isAcross_29 : decode cL_isAcross 29 = .ok (.aload_n 0, 1) := by decide +kernel
theorem dL_isAcross_30 : decode cL_isAcross 30 = .ok (.bipush 6, 2) := by decide +kernel
theorem dL_isAcross_32 : decode cL_isAcross 32 = .ok (.iload_n 1, 1) := by decide +kernel
theorem dL_isAcross_33 : decode cL_isAcross 33 = .ok (.imul, 1) := by decide +kernel
theorem dL_isAcross_34 : decode cL_isAcross 34 = .ok (.iconst 3, 1) := by decide +kernel
theorem dL_isAcross_35 : decode cL_isAcross 35 = .ok (.iadd, 1) := by decide +kernel
theorem dL_isAcross_36 : decode cL_isAcross 36 = .ok (.iload_n 3, 1) := by decide +kernel
theorem dL_isAcross_37 : decode cL_isAcross 37 = .ok (.iadd, 1) := by decide +kernel
theorem dL_isAcross_38 : decode cL_isAcross 38 = .ok (.iaload, 1) := by decide +kernel
theorem dL_isAcross_39 : decode cL_isAcross 39 = .ok (.if_icmp .ge 7, 3) := by decide +kernel
theorem dL_isAcross_42 : decode cL_isAcross 42 = .ok (.iconst 1, 1) := by decide +kernel
theorem dL_isAcross_43 : decode cL_isAcross 43 = .ok (.goto 4, 3) := by decide +kernel
theorem dL_isAcross_46 : decode cL_isAcross 46 = .ok (.iconst 0, 1) := by decide +kernel
theorem dL_isAcross_47 : decode cL_isAcross 47 = .ok (.ireturn, 1) := by decide +kernel
theorem dL_overlap_0 : decode cL_overlap 0 = .ok (.iconst 1, 1) := by decide +kernel
theorem dL_overlap_1 : decode cL_overlap 1 = .ok (.istore_n 3, 1) := by decide +kernel
theorem dL_overlap_2 : decode cL_overlap 2 = .ok (.iconst 0, 1) := by decide +kernel
theorem dL_overlap_3 : decode cL_overlap 3 = .ok (.istore 4, 2) := by decide +kernel
theorem dL_overlap_5 : decode cL_overlap 5 = .ok (.iload 4, 2) := by decide +kernel
theorem dL_overlap_7 : decode cL_overlap 7 = .ok (.iconst 3, 1) := by decide +kernel
theorem dL_overlap_8 : decode cL_overlap 8 = .ok (.if_icmp .ge 142, 3) := by decide +kernel
theorem dL_overlap_11 : decode cL_overlap 11 = .ok (.iload 4, 2) := by decide +kernel
theorem dL_overlap_13 : decode cL_overlap 13 = .ok (.iconst 2, 1) := by decide +kernel
theorem dL_overlap_14 : decode cL_overlap 14 = .ok (.if_icmp .ne 7, 3) := by decide +kernel
theorem dL_overlap_17 : decode cL_overlap 17 = .ok (.iconst 1, 1) := by decide +kernel
theorem dL_overlap_18 : decode cL_overlap 18 = .ok (.goto 4, 3) := by decide +kernel
theorem dL_overlap_21 : decode cL_overlap 21 = .ok (.iconst 0, 1) := by decide +kernel
theorem dL_overlap_22 : decode cL_overlap 22 = .ok (.istore 5, 2) := by decide +kernel
theorem dL_overlap_24 : decode cL_overlap 24 = .ok (.iload 4, 2) := by decide +kernel
theorem dL_overlap_26 : decode cL_overlap 26 = .ok (.ifCond .ne 7, 3) := by decide +kernel
theorem dL_overlap_29 : decode cL_overlap 29 = .ok (.iconst 1, 1) := by decide +kernel
theorem dL_overlap_30 : decode cL_overlap 30 = .ok (.goto 4, 3) := by decide +kernel
theorem dL_overlap_33 : decode cL_overlap 33 = .ok (.iconst 2, 1) := by decide +kernel
theorem dL_overlap_34 : decode cL_overlap 34 = .ok (.istore 6, 2) := by decide +kernel
theorem dL_overlap_36 : decode cL_overlap 36 = .ok (.aload_n 0, 1) := by decide +kernel
theorem dL_overlap_37 : decode cL_overlap 37 = .ok (.bipush 6, 2) := by decide +kernel
theorem dL_overlap_39 : decode cL_overlap 39 = .ok (.iload_n 1, 1) := by decide +kernel
theorem dL_overlap_40 : decode cL_overlap 40 = .ok (.imul, 1) := by decide +kernel
theorem dL_overlap_41 : decode cL_overlap 41 = .ok (.iload 5, 2) := by decide +kernel
theorem dL_overlap_43 : decode cL_overlap 43 = .ok (.iadd, 1) := by decide +kernel
theorem dL_overlap_44 : decode cL_overlap 44 = .ok (.iaload, 1) := by decide +kernel
theorem dL_overlap_45 : decode cL_overlap 45 = .ok (.aload_n 0, 1) := by decide +kernel
theorem dL_overlap_46 : decode cL_overlap 46 = .ok (.bipush 6, 2) := by decide +kernel
theorem dL_overlap_48 : decode cL_overlap 48 = .ok (.iload_n 1, 1) := by decide +kernel
theorem dL_overlap_49 : decode cL_overlap 49 = .ok (.imul, 1) := by decide +kernel
theorem dL_overlap_50 : decode cL_overlap 50 = .ok (.iconst 3, 1) := by decide +kernel
theorem dL_overlap_51 : decode cL_overlap 51 = .ok (.iadd, 1) := by decide +kernel
theorem dL_overlap_52 : decode cL_overlap 52 = .ok (.iload 6, 2) := by decide +kernel
theorem dL_overlap_54 : decode cL_overlap 54 = .ok (.iadd, 1) := by decide +kernel
theorem dL_overlap_55 : decode cL_overlap 55 = .ok (.iaload, 1) := by decide +kernel
theorem dL_overlap_56 : decode cL_overlap 56 = .ok (.isub, 1) := by decide +kernel
theorem dL_overlap_57 : decode cL_overlap 57 = .ok (.istore 7, 2) := by decide +kernel
theorem dL_overlap_59 : decode cL_overlap 59 = .ok (.aload_n 0, 1) := by decide +kernel
theorem dL_overlap_60 : decode cL_overlap 60 = .ok (.bipush 6, 2) := by decide +kernel
theorem dL_overlap_62 : decode cL_overlap 62 = .ok (.iload_n 1, 1) := by decide +kernel
theorem dL_overlap_63 : decode cL_overlap 63 = .ok (.imul, 1) := by decide +kernel
theorem dL_overlap_64 : decode cL_overlap 64 = .ok (.iconst 3, 1) := by decide +kernel
theorem dL_overlap_65 : decode cL_overlap 65 = .ok (.iadd, 1) := by decide +kernel
theorem dL_overlap_66 : decode cL_overlap 66 = .ok (.iload 5, 2) := by decide +kernel
theorem dL_overlap_68 : decode cL_overlap 68 = .ok (.iadd, 1) := by decide +kernel
theorem dL_overlap_69 : decode cL_overlap 69 = .ok (.iaload, 1) := by decide +kernel
theorem dL_overlap_70 : decode cL_overlap 70 = .ok (.aload_n 0, 1) := by decide +kernel
theorem dL_overlap_71 : decode cL_overlap 71 = .ok (.bipush 6, 2) := by decide +kernel
theorem dL_overlap_73 : decode cL_overlap 73 = .ok (.iload_n 1, 1) := by decide +kernel
theorem dL_overlap_74 : decode cL_overlap 74 = .ok (.imul, 1) := by decide +kernel
theorem dL_overlap_75 : decode cL_overlap 75 = .ok (.iload 6, 2) := by decide +kernel
theorem dL_overlap_77 : decode cL_overlap 77 = .ok (.iadd, 1) := by decide +kernel
theorem dL_overlap_78 : decode cL_overlap 78 = .ok (.iaload, 1) := by decide +kernel
theorem dL_overlap_79 : decode cL_overlap 79 = .ok (.isub, 1) := by decide +kernel
theorem dL_overlap_80 : decode cL_overlap 80 = .ok (.istore 8, 2) := by decide +kernel
theorem dL_overlap_82 : decode cL_overlap 82 = .ok (.iload_n 3, 1) := by decide +kernel
theorem dL_overlap_83 : decode cL_overlap 83 = .ok (.ifCond .eq 59, 3) := by decide +kernel
theorem dL_overlap_86 : decode cL_overlap 86 = .ok (.iload 7, 2) := by decide +kernel
theorem dL_overlap_88 : decode cL_overlap 88 = .ok (.aload_n 0, 1) := by decide +kernel
theorem dL_overlap_89 : decode cL_overlap 89 = .ok (.bipush 6, 2) := by decide +kernel
theorem dL_overlap_91 : decode cL_overlap 91 = .ok (.iload_n 2, 1) := by decide +kernel
theorem dL_overlap_92 : decode cL_overlap 92 = .ok (.imul, 1) := by decide +kernel
theorem dL_overlap_93 : decode cL_overlap 93 = .ok (.iconst 3, 1) := by decide +kernel
theorem dL_overlap_94 : decode cL_overlap 94 = .ok (.iadd, 1) := by decide +kernel
theorem dL_overlap_95 : decode cL_overlap 95 = .ok (.iload 5, 2) := by decide +kernel
theorem dL_overlap_97 : decode cL_overlap 97 = .ok (.iadd, 1) := by decide +kernel
theorem dL_overlap_98 : decode cL_overlap 98 = .ok (.iaload, 1) := by decide +kernel
theorem dL_overlap_99 : decode cL_overlap 99 = .ok (.aload_n 0, 1) := by decide +kernel
theorem dL_overlap_100 : decode cL_overlap 100 = .ok (.bipush 6, 2) := by decide +kernel
theorem dL_overlap_102 : decode cL_overlap 102 = .ok (.iload_n 2, 1) := by decide +kernel
theorem dL_overlap_103 : decode cL_overlap 103 = .ok (.imul, 1) := by decide +kernel
theorem dL_overlap_104 : decode cL_overlap 104 = .ok (.iload 6, 2) := by decide +kernel
theorem dL_overlap_106 : decode cL_overlap 106 = .ok (.iadd, 1) := by decide +kernel
theorem dL_overlap_107 : decode cL_overlap 107 = .ok (.iaload, 1) := by decide +kernel
theorem dL_overlap_108 : decode cL_overlap 108 = .ok (.isub, 1) := by decide +kernel
theorem dL_overlap_109 : decode cL_overlap 109 = .ok (.if_icmp .ge 33, 3) := by decide +kernel
theorem dL_overlap_112 : decode cL_overlap 112 = .ok (.aload_n 0, 1) := by decide +kernel
theorem dL_overlap_113 : decode cL_overlap 113 = .ok (.bipush 6, 2) := by decide +kernel
theorem dL_overlap_115 : decode cL_overlap 115 = .ok (.iload_n 2, 1) := by decide +kernel
theorem dL_overlap_116 : decode cL_overlap 116 = .ok (.imul, 1) := by decide +kernel
theorem dL_overlap_117 : decode cL_overlap 117 = .ok (.iload 5, 2) := by decide +kernel
theorem dL_overlap_119 : decode cL_overlap 119 = .ok (.iadd, 1) := by decide +kernel
theorem dL_overlap_120 : decode cL_overlap 120 = .ok (.iaload, 1) := by decide +kernel
theorem dL_overlap_121 : decode cL_overlap 121 = .ok (.aload_n 0, 1) := by decide +kernel
theorem dL_overlap_122 : decode cL_overlap 122 = .ok (.bipush 6, 2) := by decide +kernel
theorem dL_overlap_124 : decode cL_overlap 124 = .ok (.iload_n 2, 1) := by decide +kernel
theorem dL_overlap_125 : decode cL_overlap 125 = .ok (.imul, 1) := by decide +kernel
theorem dL_overlap_126 : decode cL_overlap 126 = .ok (.iconst 3, 1) := by decide +kernel
theorem dL_overlap_127 : decode cL_overlap 127 = .ok (.iadd, 1) := by decide +kernel
theorem dL_overlap_128 : decode cL_overlap 128 = .ok (.iload 6, 2) := by decide +kernel
theorem dL_overlap_130 : decode cL_overlap 130 = .ok (.iadd, 1) := by decide +kernel
theorem dL_overlap_131 : decode cL_overlap 131 = .ok (.iaload, 1) := by decide +kernel
theorem dL_overlap_132 : decode cL_overlap 132 = .ok (.isub, 1) := by decide +kernel
theorem dL_overlap_133 : decode cL_overlap 133 = .ok (.iload 8, 2) := by decide +kernel
theorem dL_overlap_135 : decode cL_overlap 135 = .ok (.if_icmp .ge 7, 3) := by decide +kernel
theorem dL_overlap_138 : decode cL_overlap 138 = .ok (.iconst 1, 1) := by decide +kernel
theorem dL_overlap_139 : decode cL_overlap 139 = .ok (.goto 4, 3) := by decide +kernel
theorem dL_overlap_142 : decode cL_overlap 142 = .ok (.iconst 0, 1) := by decide +kernel
theorem dL_overlap_143 : decode cL_overlap 143 = .ok (.istore_n 3, 1) := by decide +kernel
theorem dL_overlap_144 : decode cL_overlap 144 = .ok (.iinc 4 1, 3) := by decide +kernel
theorem dL_overlap_147 : decode cL_overlap 147 = .ok (.goto (-142), 3) := by decide +kernel
theorem dL_overlap_150 : decode cL_overlap 150 = .ok (.iload_n 3, 1) := by decide +kernel
theorem dL_overlap_151 : decode cL_overlap 151 = .ok (.ireturn, 1) := by decide +kernel
theorem dL_by_0 : decode cL_by 0 = .ok (.iload_n 1, 1) := by decide +kernel
theorem dL_by_1 : decode cL_by 1 = .ok (.iload_n 2, 1) := by decide +kernel
theorem dL_by_2 : decode cL_by 2 = .ok (.if_icmp .eq 12, 3) := by decide +kernel
theorem dL_by_5 : decode cL_by 5 = .ok (.aload_n 0, 1) := by decide +kernel
theorem dL_by_6 : decode cL_by 6 = .ok (.iload_n 1, 1) := by decide +kernel
theorem dL_by_7 : decode cL_by 7 = .ok (.iload_n 2, 1) := by decide +kernel
theorem dL_by_8 : decode cL_by 8 = .ok (.invokestatic 22, 3) := by decide +kernel
theorem dL_by_11 : decode cL_by 11 = .ok (.ifCond .ne 5, 3) := by decide +kernel
theorem dL_by_14 : decode cL_by 14 = .ok (.iconst 0, 1) := by decide +kernel
theorem dL_by_15 : decode cL_by 15 = .ok (.ireturn, 1) := by decide +kernel
theorem dL_by_16 : decode cL_by 16 = .ok (.iconst 0, 1) := by decide +kernel
theorem dL_by_17 : decode cL_by 17 = .ok (.istore_n 3, 1) := by decide +kernel
theorem dL_by_18 : decode cL_by 18 = .ok (.iload_n 3, 1) := by decide +kernel
theorem dL_by_19 : decode cL_by 19 = .ok (.iconst 3, 1) := by decide +kernel
theorem dL_by_20 : decode cL_by 20 = .ok (.if_icmp .ge 34, 3) := by decide +kernel
theorem dL_by_23 : decode cL_by 23 = .ok (.aload_n 0, 1) := by decide +kernel
theorem dL_by_24 : decode cL_by 24 = .ok (.bipush 6, 2) := by decide +kernel
theorem dL_by_26 : decode cL_by 26 = .ok (.iload_n 1, 1) := by decide +kernel
theorem dL_by_27 : decode cL_by 27 = .ok (.imul, 1) := by decide +kernel
theorem dL_by_28 : decode cL_by 28 = .ok (.iload_n 3, 1) := by decide +kernel
theorem dL_by_29 : decode cL_by 29 = .ok (.iadd, 1) := by decide +kernel
theorem dL_by_30 : decode cL_by 30 = .ok (.iaload, 1) := by decide +kernel
theorem dL_by_31 : decode cL_by 31 = .ok (.aload_n 0, 1) := by decide +kernel
theorem dL_by_32 : decode cL_by 32 = .ok (.bipush 6, 2) := by decide +kernel
theorem dL_by_34 : decode cL_by 34 = .ok (.iload_n 2, 1) := by decide +kernel
theorem dL_by_35 : decode cL_by 35 = .ok (.imul, 1) := by decide +kernel
theorem dL_by_36 : decode cL_by 36 = .ok (.iconst 3, 1) := by decide +kernel
theorem dL_by_37 : decode cL_by 37 = .ok (.iadd, 1) := by decide +kernel
theorem dL_by_38 : decode cL_by 38 = .ok (.iload_n 3, 1) := by decide +kernel
theorem dL_by_39 : decode cL_by 39 = .ok (.iadd, 1) := by decide +kernel
theorem dL_by_40 : decode cL_by 40 = .ok (.iaload, 1) := by decide +kernel
theorem dL_by_41 : decode cL_by 41 = .ok (.if_icmp .lt 7, 3) := by decide +kernel
theorem dL_by_44 : decode cL_by 44 = .ok (.iload_n 3, 1) := by decide +kernel
theorem dL_by_45 : decode cL_by 45 = .ok (.iconst 1, 1) := by decide +kernel
theorem dL_by_46 : decode cL_by 46 = .ok (.iadd, 1) := by decide +kernel
theorem dL_by_47 : decode cL_by 47 = .ok (.ireturn, 1) := by decide +kernel
theorem dL_by_48 : decode cL_by 48 = .ok (.iinc 3 1, 3) := by decide +kernel
theorem dL_by_51 : decode cL_by 51 = .ok (.goto (-33), 3) := by decide +kernel
theorem dL_by_54 : decode cL_by 54 = .ok (.iconst 0, 1) := by decide +kernel
theorem dL_by_55 : decode cL_by 55 = .ok (.ireturn, 1) := by decide +kernel
theorem dL_ones_0 : decode cL_ones 0 = .ok (.iconst 0, 1) := by decide +kernel
theorem dL_ones_1 : decode cL_ones 1 = .ok (.istore_n 1, 1) := by decide +kernel
theorem dL_ones_2 : decode cL_ones 2 = .ok (.iload_n 0, 1) := by decide +kernel
theorem dL_ones_3 : decode cL_ones 3 = .ok (.istore_n 2, 1) := by decide +kernel
theorem dL_ones_4 : decode cL_ones 4 = .ok (.iload_n 2, 1) := by decide +kernel
theorem dL_ones_5 : decode cL_ones 5 = .ok (.ifCond .le 15, 3) := by decide +kernel
theorem dL_ones_8 : decode cL_ones 8 = .ok (.iinc 1 1, 3) := by decide +kernel
theorem dL_ones_11 : decode cL_ones 11 = .ok (.iload_n 2, 1) := by decide +kernel
theorem dL_ones_12 : decode cL_ones 12 = .ok (.iload_n 2, 1) := by decide +kernel
theorem dL_ones_13 : decode cL_ones 13 = .ok (.iconst 1, 1) := by decide +kernel
theorem dL_ones_14 : decode cL_ones 14 = .ok (.isub, 1) := by decide +kernel
theorem dL_ones_15 : decode cL_ones 15 = .ok (.iand, 1) := by decide +kernel
theorem dL_ones_16 : decode cL_ones 16 = .ok (.istore_n 2, 1) := by decide +kernel
theorem dL_ones_17 : decode cL_ones 17 = .ok (.goto (-13), 3) := by decide +kernel
theorem dL_ones_20 : decode cL_ones 20 = .ok (.iload_n 1, 1) := by decide +kernel
theorem dL_ones_21 : decode cL_ones 21 = .ok (.ireturn, 1) := by decide +kernel
theorem dL_volume_0 : decode cL_volume 0 = .ok (.aload_n 0, 1) := by decide +kernel
theorem dL_volume_1 : decode cL_volume 1 = .ok (.bipush 6, 2) := by decide +kernel
theorem dL_volume_3 : decode cL_volume 3 = .ok (.iload_n 1, 1) := by decide +kernel
theorem dL_volume_4 : decode cL_volume 4 = .ok (.imul, 1) := by decide +kernel
theorem dL_volume_5 : decode cL_volume 5 = .ok (.iconst 3, 1) := by decide +kernel
theorem dL_volume_6 : decode cL_volume 6 = .ok (.iadd, 1) := by decide +kernel
theorem dL_volume_7 : decode cL_volume 7 = .ok (.iaload, 1) := by decide +kernel
theorem dL_volume_8 : decode cL_volume 8 = .ok (.aload_n 0, 1) := by decide +kernel
theorem dL_volume_9 : decode cL_volume 9 = .ok (.bipush 6, 2) := by decide +kernel
theorem dL_volume_11 : decode cL_volume 11 = .ok (.iload_n 1, 1) := by decide +kernel
theorem dL_volume_12 : decode cL_volume 12 = .ok (.imul, 1) := by decide +kernel
theorem dL_volume_13 : decode cL_volume 13 = .ok (.iaload, 1) := by decide +kernel
theorem dL_volume_14 : decode cL_volume 14 = .ok (.isub, 1) := by decide +kernel
theorem dL_volume_15 : decode cL_volume 15 = .ok (.aload_n 0, 1) := by decide +kernel
theorem dL_volume_16 : decode cL_volume 16 = .ok (.bipush 6, 2) := by decide +kernel
theorem dL_volume_18 : decode cL_volume 18 = .ok (.iload_n 1, 1) := by decide +kernel
theorem dL_volume_19 : decode cL_volume 19 = .ok (.imul, 1) := by decide +kernel
theorem dL_volume_20 : decode cL_volume 20 = .ok (.iconst 4, 1) := by decide +kernel
theorem dL_volume_21 : decode cL_volume 21 = .ok (.iadd, 1) := by decide +kernel
theorem dL_volume_22 : decode cL_volume 22 = .ok (.iaload, 1) := by decide +kernel
theorem dL_volume_23 : decode cL_volume 23 = .ok (.aload_n 0, 1) := by decide +kernel
theorem dL_volume_24 : decode cL_volume 24 = .ok (.bipush 6, 2) := by decide +kernel
theorem dL_volume_26 : decode cL_volume 26 = .ok (.iload_n 1, 1) := by decide +kernel
theorem dL_volume_27 : decode cL_volume 27 = .ok (.imul, 1) := by decide +kernel
theorem dL_volume_28 : decode cL_volume 28 = .ok (.iconst 1, 1) := by decide +kernel
theorem dL_volume_29 : decode cL_volume 29 = .ok (.iadd, 1) := by decide +kernel
theorem dL_volume_30 : decode cL_volume 30 = .ok (.iaload, 1) := by decide +kernel
theorem dL_volume_31 : decode cL_volume 31 = .ok (.isub, 1) := by decide +kernel
theorem dL_volume_32 : decode cL_volume 32 = .ok (.imul, 1) := by decide +kernel
theorem dL_volume_33 : decode cL_volume 33 = .ok (.aload_n 0, 1) := by decide +kernel
theorem dL_volume_34 : decode cL_volume 34 = .ok (.bipush 6, 2) := by decide +kernel
theorem dL_volume_36 : decode cL_volume 36 = .ok (.iload_n 1, 1) := by decide +kernel
theorem dL_volume_37 : decode cL_volume 37 = .ok (.imul, 1) := by decide +kernel
theorem dL_volume_38 : decode cL_volume 38 = .ok (.iconst 5, 1) := by decide +kernel
theorem dL_volume_39 : decode cL_volume 39 = .ok (.iadd, 1) := by decide +kernel
theorem dL_volume_40 : decode cL_volume 40 = .ok (.iaload, 1) := by decide +kernel
theorem dL_volume_41 : decode cL_volume 41 = .ok (.aload_n 0, 1) := by decide +kernel
theorem dL_volume_42 : decode cL_volume 42 = .ok (.bipush 6, 2) := by decide +kernel
theorem dL_volume_44 : decode cL_volume 44 = .ok (.iload_n 1, 1) := by decide +kernel
theorem dL_volume_45 : decode cL_volume 45 = .ok (.imul, 1) := by decide +kernel
theorem dL_volume_46 : decode cL_volume 46 = .ok (.iconst 2, 1) := by decide +kernel
theorem dL_volume_47 : decode cL_volume 47 = .ok (.iadd, 1) := by decide +kernel
theorem dL_volume_48 : decode cL_volume 48 = .ok (.iaload, 1) := by decide +kernel
theorem dL_volume_49 : decode cL_volume 49 = .ok (.isub, 1) := by decide +kernel
theorem dL_volume_50 : decode cL_volume 50 = .ok (.imul, 1) := by decide +kernel
theorem dL_volume_51 : decode cL_volume 51 = .ok (.ireturn, 1) := by decide +kernel
theorem dL_isBelow_0 : decode cL_isBelow 0 = .ok (.iload_n 1, 1) := by decide +kernel
theorem dL_isBelow_1 : decode cL_isBelow 1 = .ok (.iload_n 2, 1) := by decide +kernel
theorem dL_isBelow_2 : decode cL_isBelow 2 = .ok (.if_icmp .eq 46, 3) := by decide +kernel
theorem dL_isBelow_5 : decode cL_isBelow 5 = .ok (.aload_n 0, 1) := by decide +kernel
theorem dL_isBelow_6 : decode cL_isBelow 6 = .ok (.iload_n 1, 1) := by decide +kernel
theorem dL_isBelow_7 : decode cL_isBelow 7 = .ok (.iload_n 2, 1) := by decide +kernel
theorem dL_isBelow_8 : decode cL_isBelow 8 = .ok (.iconst 0, 1) := by decide +kernel
theorem dL_isBelow_9 : decode cL_isBelow 9 = .ok (.invokestatic 28, 3) := by decide +kernel
theorem dL_isBelow_12 : decode cL_isBelow 12 = .ok (.ifCond .eq 36, 3) := by decide +kernel
theorem dL_isBelow_15 : decode cL_isBelow 15 = .ok (.aload_n 0, 1) := by decide +kernel
theorem dL_isBelow_16 : decode cL_isBelow 16 = .ok (.iload_n 1, 1) := by decide +kernel
theorem dL_isBelow_17 : decode cL_isBelow 17 = .ok (.iload_n 2, 1) := by decide +kernel
theorem dL_isBelow_18 : decode cL_isBelow 18 = .ok (.iconst 1, 1) := by decide +kernel
theorem dL_isBelow_19 : decode cL_isBelow 19 = .ok (.invokestatic 28, 3) := by decide +kernel
theorem dL_isBelow_22 : decode cL_isBelow 22 = .ok (.ifCond .eq 26, 3) := by decide +kernel
theorem dL_isBelow_25 : decode cL_isBelow 25 = .ok (.aload_n 0, 1) := by decide +kernel
theorem dL_isBelow_26 : decode cL_isBelow 26 = .ok (.bipush 6, 2) := by decide +kernel
theorem dL_isBelow_28 : decode cL_isBelow 28 = .ok (.iload_n 1, 1) := by decide +kernel
theorem dL_isBelow_29 : decode cL_isBelow 29 = .ok (.imul, 1) := by decide +kernel
theorem dL_isBelow_30 : decode cL_isBelow 30 = .ok (.iconst 5, 1) := by decide +kernel
theorem dL_isBelow_31 : decode cL_isBelow 31 = .ok (.iadd, 1) := by decide +kernel
theorem dL_isBelow_32 : decode cL_isBelow 32 = .ok (.iaload, 1) := by decide +kernel
theorem dL_isBelow_33 : decode cL_isBelow 33 = .ok (.aload_n 0, 1) := by decide +kernel
theorem dL_isBelow_34 : decode cL_isBelow 34 = .ok (.bipush 6, 2) := by decide +kernel
theorem dL_isBelow_36 : decode cL_isBelow 36 = .ok (.iload_n 2, 1) := by decide +kernel
theorem dL_isBelow_37 : decode cL_isBelow 37 = .ok (.imul, 1) := by decide +kernel
theorem dL_isBelow_38 : decode cL_isBelow 38 = .ok (.iconst 2, 1) := by decide +kernel
theorem dL_isBelow_39 : decode cL_isBelow 39 = .ok (.iadd, 1) := by decide +kernel
theorem dL_isBelow_40 : decode cL_isBelow 40 = .ok (.iaload, 1) := by decide +kernel
theorem dL_isBelow_41 : decode cL_isBelow 41 = .ok (.if_icmp .gt 7, 3) := by decide +kernel
theorem dL_isBelow_44 : decode cL_isBelow 44 = .ok (.iconst 1, 1) := by decide +kernel
theorem dL_isBelow_45 : decode cL_isBelow 45 = .ok (.goto 4, 3) := by decide +kernel
theorem dL_isBelow_48 : decode cL_isBelow 48 = .ok (.iconst 0, 1) := by decide +kernel
theorem dL_isBelow_49 : decode cL_isBelow 49 = .ok (.ireturn, 1) := by decide +kernel
theorem dL_ring_0 : decode cL_ring 0 = .ok (.aload_n 0, 1) := by decide +kernel
theorem dL_ring_1 : decode cL_ring 1 = .ok (.iload_n 2, 1) := by decide +kernel
theorem dL_ring_2 : decode cL_ring 2 = .ok (.iaload, 1) := by decide +kernel
theorem dL_ring_3 : decode cL_ring 3 = .ok (.istore_n 3, 1) := by decide +kernel
theorem dL_ring_4 : decode cL_ring 4 = .ok (.iconst 1, 1) := by decide +kernel
theorem dL_ring_5 : decode cL_ring 5 = .ok (.istore 4, 2) := by decide +kernel
theorem dL_ring_7 : decode cL_ring 7 = .ok (.iload 4, 2) := by decide +kernel
theorem dL_ring_9 : decode cL_ring 9 = .ok (.iload_n 1, 1) := by decide +kernel
theorem dL_ring_10 : decode cL_ring 10 = .ok (.if_icmp .gt 65, 3) := by decide +kernel
theorem dL_ring_13 : decode cL_ring 13 = .ok (.iload_n 3, 1) := by decide +kernel
theorem dL_ring_14 : decode cL_ring 14 = .ok (.iload_n 2, 1) := by decide +kernel
theorem dL_ring_15 : decode cL_ring 15 = .ok (.ishr, 1) := by decide +kernel
theorem dL_ring_16 : decode cL_ring 16 = .ok (.iconst 1, 1) := by decide +kernel
theorem dL_ring_17 : decode cL_ring 17 = .ok (.iand, 1) := by decide +kernel
theorem dL_ring_18 : decode cL_ring 18 = .ok (.iconst 1, 1) := by decide +kernel
theorem dL_ring_19 : decode cL_ring 19 = .ok (.if_icmp .ne 6, 3) := by decide +kernel
theorem dL_ring_22 : decode cL_ring 22 = .ok (.iload 4, 2) := by decide +kernel
theorem dL_ring_24 : decode cL_ring 24 = .ok (.ireturn, 1) := by decide +kernel
theorem dL_ring_25 : decode cL_ring 25 = .ok (.iconst 0, 1) := by decide +kernel
theorem dL_ring_26 : decode cL_ring 26 = .ok (.istore 5, 2) := by decide +kernel
theorem dL_ring_28 : decode cL_ring 28 = .ok (.iconst 0, 1) := by decide +kernel
theorem dL_ring_29 : decode cL_ring 29 = .ok (.istore 6, 2) := by decide +kernel
theorem dL_ring_31 : decode cL_ring 31 = .ok (.iload 6, 2) := by decide +kernel
theorem dL_ring_33 : decode cL_ring 33 = .ok (.iload_n 1, 1) := by decide +kernel
theorem dL_ring_34 : decode cL_ring 34 = .ok (.if_icmp .ge 32, 3) := by decide +kernel
theorem dL_ring_37 : decode cL_ring 37 = .ok (.iload 5, 2) := by decide +kernel
theorem dL_ring_39 : decode cL_ring 39 = .ok (.iload_n 3, 1) := by decide +kernel
theorem dL_ring_40 : decode cL_ring 40 = .ok (.iload 6, 2) := by decide +kernel
theorem dL_ring_42 : decode cL_ring 42 = .ok (.ishr, 1) := by decide +kernel
theorem dL_ring_43 : decode cL_ring 43 = .ok (.iconst 1, 1) := by decide +kernel
theorem dL_ring_44 : decode cL_ring 44 = .ok (.iand, 1) := by decide +kernel
theorem dL_ring_45 : decode cL_ring 45 = .ok (.iconst 1, 1) := by decide +kernel
theorem dL_ring_46 : decode cL_ring 46 = .ok (.if_icmp .ne 10, 3) := by decide +kernel
theorem dL_ring_49 : decode cL_ring 49 = .ok (.aload_n 0, 1) := by decide +kernel
theorem dL_ring_50 : decode cL_ring 50 = .ok (.iload 6, 2) := by decide +kernel
theorem dL_ring_52 : decode cL_ring 52 = .ok (.iaload, 1) := by decide +kernel
