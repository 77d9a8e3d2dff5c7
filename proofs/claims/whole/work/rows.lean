section
-- ===== PART A: goes FIRST, ahead of the names: the tables' words, and 'selects' of the private methods out of them =====
/-- a private method of a class that the tables say can be made, by its rows of tables_1 -/
def lw_okq (q : MethodName × Nat) : Prop := (q.1.cls ≠ "java/lang/invoke/MethodHandle" ∧ q.1.cls ≠ "java/lang/invoke/VarHandle") ∧ Cond.instantiable q.1.cls q.2 ∈ tables_1 ∧ Cond.privateMethod q.1 ∈ tables_1 ∧ Cond.instanceMethod q.1 ∈ tables_1
theorem lw_p0 : lw_okq (⟨"HidingBoxes", "enter", "(LHidingBoxes$Space;IIIIII)I"⟩, 9) := ⟨⟨by decide +kernel, by decide +kernel⟩, List.mem_of_getElem? (i := 13) (by decide +kernel), List.mem_of_getElem? (i := 187) (by decide +kernel), List.mem_of_getElem? (i := 188) (by decide +kernel)⟩
theorem lw_p1 : lw_okq (⟨"HidingBoxes$Box", "meets", "(LHidingBoxes$Box;I)Z"⟩, 3) := ⟨⟨by decide +kernel, by decide +kernel⟩, List.mem_of_getElem? (i := 28) (by decide +kernel), List.mem_of_getElem? (i := 203) (by decide +kernel), List.mem_of_getElem? (i := 204) (by decide +kernel)⟩
theorem lw_p2 : lw_okq (⟨"HidingBoxes", "adoptTrial", "()V"⟩, 9) := ⟨⟨by decide +kernel, by decide +kernel⟩, List.mem_of_getElem? (i := 13) (by decide +kernel), List.mem_of_getElem? (i := 216) (by decide +kernel), List.mem_of_getElem? (i := 217) (by decide +kernel)⟩
theorem lw_p3 : lw_okq (⟨"HidingBoxes$History", "dropOldest", "()V"⟩, 2) := ⟨⟨by decide +kernel, by decide +kernel⟩, List.mem_of_getElem? (i := 74) (by decide +kernel), List.mem_of_getElem? (i := 224) (by decide +kernel), List.mem_of_getElem? (i := 225) (by decide +kernel)⟩
theorem lw_p4 : lw_okq (⟨"HidingBoxes", "breakOne", "(LHidingBoxes$Space;)I"⟩, 9) := ⟨⟨by decide +kernel, by decide +kernel⟩, List.mem_of_getElem? (i := 13) (by decide +kernel), List.mem_of_getElem? (i := 288) (by decide +kernel), List.mem_of_getElem? (i := 289) (by decide +kernel)⟩
theorem lw_p5 : lw_okq (⟨"HidingBoxes$Box", "overlapsOutlineOf", "(LHidingBoxes$Box;)Z"⟩, 3) := ⟨⟨by decide +kernel, by decide +kernel⟩, List.mem_of_getElem? (i := 28) (by decide +kernel), List.mem_of_getElem? (i := 303) (by decide +kernel), List.mem_of_getElem? (i := 304) (by decide +kernel)⟩
theorem lw_p6 : lw_okq (⟨"HidingBoxes$Box", "meetsInDifference", "(LHidingBoxes$Box;II)Z"⟩, 3) := ⟨⟨by decide +kernel, by decide +kernel⟩, List.mem_of_getElem? (i := 28) (by decide +kernel), List.mem_of_getElem? (i := 307) (by decide +kernel), List.mem_of_getElem? (i := 308) (by decide +kernel)⟩
theorem lw_p7 : lw_okq (⟨"HidingBoxes$Picture", "followChains", "()V"⟩, 7) := ⟨⟨by decide +kernel, by decide +kernel⟩, List.mem_of_getElem? (i := 112) (by decide +kernel), List.mem_of_getElem? (i := 311) (by decide +kernel), List.mem_of_getElem? (i := 312) (by decide +kernel)⟩
theorem lw_p8 : lw_okq (⟨"HidingBoxes$Picture", "draw", "(LHidingBoxes$Space;)V"⟩, 7) := ⟨⟨by decide +kernel, by decide +kernel⟩, List.mem_of_getElem? (i := 112) (by decide +kernel), List.mem_of_getElem? (i := 319) (by decide +kernel), List.mem_of_getElem? (i := 320) (by decide +kernel)⟩
theorem lw_p9 : lw_okq (⟨"HidingBoxes$Picture", "nextToDraw", "(LHidingBoxes$Space;)I"⟩, 7) := ⟨⟨by decide +kernel, by decide +kernel⟩, List.mem_of_getElem? (i := 112) (by decide +kernel), List.mem_of_getElem? (i := 326) (by decide +kernel), List.mem_of_getElem? (i := 327) (by decide +kernel)⟩
theorem lw_p10 : lw_okq (⟨"HidingBoxes$Picture", "layerAbove", "(I)I"⟩, 7) := ⟨⟨by decide +kernel, by decide +kernel⟩, List.mem_of_getElem? (i := 112) (by decide +kernel), List.mem_of_getElem? (i := 339) (by decide +kernel), List.mem_of_getElem? (i := 340) (by decide +kernel)⟩
theorem lw_p11 : lw_okq (⟨"HidingBoxes$Picture", "isInRing", "(I)Z"⟩, 7) := ⟨⟨by decide +kernel, by decide +kernel⟩, List.mem_of_getElem? (i := 112) (by decide +kernel), List.mem_of_getElem? (i := 348) (by decide +kernel), List.mem_of_getElem? (i := 349) (by decide +kernel)⟩
theorem lw_p12 : lw_okq (⟨"HidingBoxes$Text", "store", "(I)V"⟩, 4) := ⟨⟨by decide +kernel, by decide +kernel⟩, List.mem_of_getElem? (i := 91) (by decide +kernel), List.mem_of_getElem? (i := 406) (by decide +kernel), List.mem_of_getElem? (i := 407) (by decide +kernel)⟩
theorem lw_p13 : lw_okq (⟨"HidingBoxes", "look", "()LHidingBoxes$Picture;"⟩, 9) := ⟨⟨by decide +kernel, by decide +kernel⟩, List.mem_of_getElem? (i := 13) (by decide +kernel), List.mem_of_getElem? (i := 446) (by decide +kernel), List.mem_of_getElem? (i := 447) (by decide +kernel)⟩
theorem lw_p14 : lw_okq (⟨"HidingBoxes$Picture", "bitsHiddenByAll", "(I)I"⟩, 7) := ⟨⟨by decide +kernel, by decide +kernel⟩, List.mem_of_getElem? (i := 112) (by decide +kernel), List.mem_of_getElem? (i := 462) (by decide +kernel), List.mem_of_getElem? (i := 463) (by decide +kernel)⟩
theorem lw_p15 : lw_okq (⟨"HidingBoxesModel", "push", "([I)V"⟩, 17) := ⟨⟨by decide +kernel, by decide +kernel⟩, List.mem_of_getElem? (i := 547) (by decide +kernel), List.mem_of_getElem? (i := 617) (by decide +kernel), List.mem_of_getElem? (i := 618) (by decide +kernel)⟩
def lw_privs_1 : List (MethodName × Nat) := [(⟨"HidingBoxes", "enter", "(LHidingBoxes$Space;IIIIII)I"⟩, 9), (⟨"HidingBoxes$Box", "meets", "(LHidingBoxes$Box;I)Z"⟩, 3), (⟨"HidingBoxes", "adoptTrial", "()V"⟩, 9), (⟨"HidingBoxes$History", "dropOldest", "()V"⟩, 2), (⟨"HidingBoxes", "breakOne", "(LHidingBoxes$Space;)I"⟩, 9), (⟨"HidingBoxes$Box", "overlapsOutlineOf", "(LHidingBoxes$Box;)Z"⟩, 3), (⟨"HidingBoxes$Box", "meetsInDifference", "(LHidingBoxes$Box;II)Z"⟩, 3), (⟨"HidingBoxes$Picture", "followChains", "()V"⟩, 7), (⟨"HidingBoxes$Picture", "draw", "(LHidingBoxes$Space;)V"⟩, 7), (⟨"HidingBoxes$Picture", "nextToDraw", "(LHidingBoxes$Space;)I"⟩, 7), (⟨"HidingBoxes$Picture", "layerAbove", "(I)I"⟩, 7), (⟨"HidingBoxes$Picture", "isInRing", "(I)Z"⟩, 7), (⟨"HidingBoxes$Text", "store", "(I)V"⟩, 4), (⟨"HidingBoxes", "look", "()LHidingBoxes$Picture;"⟩, 9), (⟨"HidingBoxes$Picture", "bitsHiddenByAll", "(I)I"⟩, 7), (⟨"HidingBoxesModel", "push", "([I)V"⟩, 17)]
theorem lw_r1 : ∀ q ∈ lw_privs_1, lw_okq q := List.forall_mem_cons.mpr ⟨lw_p0, List.forall_mem_cons.mpr ⟨lw_p1, List.forall_mem_cons.mpr ⟨lw_p2, List.forall_mem_cons.mpr ⟨lw_p3, List.forall_mem_cons.mpr ⟨lw_p4, List.forall_mem_cons.mpr ⟨lw_p5, List.forall_mem_cons.mpr ⟨lw_p6, List.forall_mem_cons.mpr ⟨lw_p7, List.forall_mem_cons.mpr ⟨lw_p8, List.forall_mem_cons.mpr ⟨lw_p9, List.forall_mem_cons.mpr ⟨lw_p10, List.forall_mem_cons.mpr ⟨lw_p11, List.forall_mem_cons.mpr ⟨lw_p12, List.forall_mem_cons.mpr ⟨lw_p13, List.forall_mem_cons.mpr ⟨lw_p14, List.forall_mem_cons.mpr ⟨lw_p15, fun _ h => absurd h List.not_mem_nil⟩⟩⟩⟩⟩⟩⟩⟩⟩⟩⟩⟩⟩⟩⟩⟩
theorem lw_p16 : lw_okq (⟨"HidingBoxesModel", "tryBox", "(IIIIII)I"⟩, 17) := ⟨⟨by decide +kernel, by decide +kernel⟩, List.mem_of_getElem? (i := 547) (by decide +kernel), List.mem_of_getElem? (i := 625) (by decide +kernel), List.mem_of_getElem? (i := 626) (by decide +kernel)⟩
theorem lw_p17 : lw_okq (⟨"HidingBoxesModel", "high", "(II)I"⟩, 17) := ⟨⟨by decide +kernel, by decide +kernel⟩, List.mem_of_getElem? (i := 547) (by decide +kernel), List.mem_of_getElem? (i := 632) (by decide +kernel), List.mem_of_getElem? (i := 633) (by decide +kernel)⟩
theorem lw_p18 : lw_okq (⟨"HidingBoxesModel", "low", "(II)I"⟩, 17) := ⟨⟨by decide +kernel, by decide +kernel⟩, List.mem_of_getElem? (i := 547) (by decide +kernel), List.mem_of_getElem? (i := 636) (by decide +kernel), List.mem_of_getElem? (i := 637) (by decide +kernel)⟩
theorem lw_p19 : lw_okq (⟨"HidingBoxesModel", "of", "(II)I"⟩, 17) := ⟨⟨by decide +kernel, by decide +kernel⟩, List.mem_of_getElem? (i := 547) (by decide +kernel), List.mem_of_getElem? (i := 640) (by decide +kernel), List.mem_of_getElem? (i := 641) (by decide +kernel)⟩
theorem lw_p20 : lw_okq (⟨"HidingBoxesModel", "size", "(II)I"⟩, 17) := ⟨⟨by decide +kernel, by decide +kernel⟩, List.mem_of_getElem? (i := 547) (by decide +kernel), List.mem_of_getElem? (i := 644) (by decide +kernel), List.mem_of_getElem? (i := 645) (by decide +kernel)⟩
theorem lw_p21 : lw_okq (⟨"HidingBoxesModel", "putBox", "(IIIIII)I"⟩, 17) := ⟨⟨by decide +kernel, by decide +kernel⟩, List.mem_of_getElem? (i := 547) (by decide +kernel), List.mem_of_getElem? (i := 648) (by decide +kernel), List.mem_of_getElem? (i := 649) (by decide +kernel)⟩
theorem lw_p22 : lw_okq (⟨"HidingBoxesModel", "put", "(III)V"⟩, 17) := ⟨⟨by decide +kernel, by decide +kernel⟩, List.mem_of_getElem? (i := 547) (by decide +kernel), List.mem_of_getElem? (i := 652) (by decide +kernel), List.mem_of_getElem? (i := 653) (by decide +kernel)⟩
theorem lw_p23 : lw_okq (⟨"HidingBoxesModel", "rankOf", "(I)I"⟩, 17) := ⟨⟨by decide +kernel, by decide +kernel⟩, List.mem_of_getElem? (i := 547) (by decide +kernel), List.mem_of_getElem? (i := 660) (by decide +kernel), List.mem_of_getElem? (i := 661) (by decide +kernel)⟩
theorem lw_p24 : lw_okq (⟨"HidingBoxesModel", "volume", "(I)I"⟩, 17) := ⟨⟨by decide +kernel, by decide +kernel⟩, List.mem_of_getElem? (i := 547) (by decide +kernel), List.mem_of_getElem? (i := 664) (by decide +kernel), List.mem_of_getElem? (i := 665) (by decide +kernel)⟩
theorem lw_p25 : lw_okq (⟨"HidingBoxesModel", "cutsAny", "(II)Z"⟩, 17) := ⟨⟨by decide +kernel, by decide +kernel⟩, List.mem_of_getElem? (i := 547) (by decide +kernel), List.mem_of_getElem? (i := 675) (by decide +kernel), List.mem_of_getElem? (i := 676) (by decide +kernel)⟩
theorem lw_p26 : lw_okq (⟨"HidingBoxesModel", "cross", "(III)Z"⟩, 17) := ⟨⟨by decide +kernel, by decide +kernel⟩, List.mem_of_getElem? (i := 547) (by decide +kernel), List.mem_of_getElem? (i := 679) (by decide +kernel), List.mem_of_getElem? (i := 680) (by decide +kernel)⟩
theorem lw_p27 : lw_okq (⟨"HidingBoxesModel", "isBelow", "(II)Z"⟩, 17) := ⟨⟨by decide +kernel, by decide +kernel⟩, List.mem_of_getElem? (i := 547) (by decide +kernel), List.mem_of_getElem? (i := 687) (by decide +kernel), List.mem_of_getElem? (i := 688) (by decide +kernel)⟩
theorem lw_p28 : lw_okq (⟨"HidingBoxesModel", "doSplit", "(III)I"⟩, 17) := ⟨⟨by decide +kernel, by decide +kernel⟩, List.mem_of_getElem? (i := 547) (by decide +kernel), List.mem_of_getElem? (i := 695) (by decide +kernel), List.mem_of_getElem? (i := 696) (by decide +kernel)⟩
theorem lw_p29 : lw_okq (⟨"HidingBoxesModel", "breakAt", "()I"⟩, 17) := ⟨⟨by decide +kernel, by decide +kernel⟩, List.mem_of_getElem? (i := 547) (by decide +kernel), List.mem_of_getElem? (i := 703) (by decide +kernel), List.mem_of_getElem? (i := 704) (by decide +kernel)⟩
theorem lw_p30 : lw_okq (⟨"HidingBoxesModel", "findHiding", "()V"⟩, 17) := ⟨⟨by decide +kernel, by decide +kernel⟩, List.mem_of_getElem? (i := 547) (by decide +kernel), List.mem_of_getElem? (i := 707) (by decide +kernel), List.mem_of_getElem? (i := 708) (by decide +kernel)⟩
theorem lw_p31 : lw_okq (⟨"HidingBoxesModel", "hidesBy", "(II)I"⟩, 17) := ⟨⟨by decide +kernel, by decide +kernel⟩, List.mem_of_getElem? (i := 547) (by decide +kernel), List.mem_of_getElem? (i := 711) (by decide +kernel), List.mem_of_getElem? (i := 712) (by decide +kernel)⟩
def lw_privs_2 : List (MethodName × Nat) := [(⟨"HidingBoxesModel", "tryBox", "(IIIIII)I"⟩, 17), (⟨"HidingBoxesModel", "high", "(II)I"⟩, 17), (⟨"HidingBoxesModel", "low", "(II)I"⟩, 17), (⟨"HidingBoxesModel", "of", "(II)I"⟩, 17), (⟨"HidingBoxesModel", "size", "(II)I"⟩, 17), (⟨"HidingBoxesModel", "putBox", "(IIIIII)I"⟩, 17), (⟨"HidingBoxesModel", "put", "(III)V"⟩, 17), (⟨"HidingBoxesModel", "rankOf", "(I)I"⟩, 17), (⟨"HidingBoxesModel", "volume", "(I)I"⟩, 17), (⟨"HidingBoxesModel", "cutsAny", "(II)Z"⟩, 17), (⟨"HidingBoxesModel", "cross", "(III)Z"⟩, 17), (⟨"HidingBoxesModel", "isBelow", "(II)Z"⟩, 17), (⟨"HidingBoxesModel", "doSplit", "(III)I"⟩, 17), (⟨"HidingBoxesModel", "breakAt", "()I"⟩, 17), (⟨"HidingBoxesModel", "findHiding", "()V"⟩, 17), (⟨"HidingBoxesModel", "hidesBy", "(II)I"⟩, 17)]
theorem lw_r2 : ∀ q ∈ lw_privs_2, lw_okq q := List.forall_mem_cons.mpr ⟨lw_p16, List.forall_mem_cons.mpr ⟨lw_p17, List.forall_mem_cons.mpr ⟨lw_p18, List.forall_mem_cons.mpr ⟨lw_p19, List.forall_mem_cons.mpr ⟨lw_p20, List.forall_mem_cons.mpr ⟨lw_p21, List.forall_mem_cons.mpr ⟨lw_p22, List.forall_mem_cons.mpr ⟨lw_p23, List.forall_mem_cons.mpr ⟨lw_p24, List.forall_mem_cons.mpr ⟨lw_p25, List.forall_mem_cons.mpr ⟨lw_p26, List.forall_mem_cons.mpr ⟨lw_p27, List.forall_mem_cons.mpr ⟨lw_p28, List.forall_mem_cons.mpr ⟨lw_p29, List.forall_mem_cons.mpr ⟨lw_p30, List.forall_mem_cons.mpr ⟨lw_p31, fun _ h => absurd h List.not_mem_nil⟩⟩⟩⟩⟩⟩⟩⟩⟩⟩⟩⟩⟩⟩⟩⟩
theorem lw_p32 : lw_okq (⟨"HidingBoxesModel", "overlap", "(II)Z"⟩, 17) := ⟨⟨by decide +kernel, by decide +kernel⟩, List.mem_of_getElem? (i := 547) (by decide +kernel), List.mem_of_getElem? (i := 715) (by decide +kernel), List.mem_of_getElem? (i := 716) (by decide +kernel)⟩
theorem lw_p33 : lw_okq (⟨"HidingBoxesModel", "reachesBelow", "(IIII)Z"⟩, 17) := ⟨⟨by decide +kernel, by decide +kernel⟩, List.mem_of_getElem? (i := 547) (by decide +kernel), List.mem_of_getElem? (i := 719) (by decide +kernel), List.mem_of_getElem? (i := 720) (by decide +kernel)⟩
theorem lw_p34 : lw_okq (⟨"HidingBoxesModel", "isInRing", "(I)Z"⟩, 17) := ⟨⟨by decide +kernel, by decide +kernel⟩, List.mem_of_getElem? (i := 547) (by decide +kernel), List.mem_of_getElem? (i := 726) (by decide +kernel), List.mem_of_getElem? (i := 727) (by decide +kernel)⟩
theorem lw_p35 : lw_okq (⟨"HidingBoxesModel", "whyNoBreak", "(I)I"⟩, 17) := ⟨⟨by decide +kernel, by decide +kernel⟩, List.mem_of_getElem? (i := 547) (by decide +kernel), List.mem_of_getElem? (i := 730) (by decide +kernel), List.mem_of_getElem? (i := 731) (by decide +kernel)⟩
theorem lw_p36 : lw_okq (⟨"HidingBoxesModel", "greatestDirection", "(I)I"⟩, 17) := ⟨⟨by decide +kernel, by decide +kernel⟩, List.mem_of_getElem? (i := 547) (by decide +kernel), List.mem_of_getElem? (i := 734) (by decide +kernel), List.mem_of_getElem? (i := 735) (by decide +kernel)⟩
theorem lw_p37 : lw_okq (⟨"HidingBoxesModel", "doBreak", "(I)I"⟩, 17) := ⟨⟨by decide +kernel, by decide +kernel⟩, List.mem_of_getElem? (i := 547) (by decide +kernel), List.mem_of_getElem? (i := 738) (by decide +kernel), List.mem_of_getElem? (i := 739) (by decide +kernel)⟩
theorem lw_p38 : lw_okq (⟨"HidingBoxesModel", "findFault", "()I"⟩, 17) := ⟨⟨by decide +kernel, by decide +kernel⟩, List.mem_of_getElem? (i := 547) (by decide +kernel), List.mem_of_getElem? (i := 765) (by decide +kernel), List.mem_of_getElem? (i := 766) (by decide +kernel)⟩
theorem lw_p39 : lw_okq (⟨"HidingBoxesModel", "readBox", "()V"⟩, 17) := ⟨⟨by decide +kernel, by decide +kernel⟩, List.mem_of_getElem? (i := 547) (by decide +kernel), List.mem_of_getElem? (i := 769) (by decide +kernel), List.mem_of_getElem? (i := 770) (by decide +kernel)⟩
theorem lw_p40 : lw_okq (⟨"HidingBoxesModel", "sign", "()I"⟩, 17) := ⟨⟨by decide +kernel, by decide +kernel⟩, List.mem_of_getElem? (i := 547) (by decide +kernel), List.mem_of_getElem? (i := 773) (by decide +kernel), List.mem_of_getElem? (i := 774) (by decide +kernel)⟩
theorem lw_p41 : lw_okq (⟨"HidingBoxesModel", "take", "(Z)V"⟩, 17) := ⟨⟨by decide +kernel, by decide +kernel⟩, List.mem_of_getElem? (i := 547) (by decide +kernel), List.mem_of_getElem? (i := 777) (by decide +kernel), List.mem_of_getElem? (i := 778) (by decide +kernel)⟩
theorem lw_p42 : lw_okq (⟨"HidingBoxesModel", "readNumber", "(II)I"⟩, 17) := ⟨⟨by decide +kernel, by decide +kernel⟩, List.mem_of_getElem? (i := 547) (by decide +kernel), List.mem_of_getElem? (i := 781) (by decide +kernel), List.mem_of_getElem? (i := 782) (by decide +kernel)⟩
theorem lw_p43 : lw_okq (⟨"HidingBoxesModel", "putAside", "()V"⟩, 17) := ⟨⟨by decide +kernel, by decide +kernel⟩, List.mem_of_getElem? (i := 547) (by decide +kernel), List.mem_of_getElem? (i := 785) (by decide +kernel), List.mem_of_getElem? (i := 786) (by decide +kernel)⟩
theorem lw_p44 : lw_okq (⟨"HidingBoxesModel", "putBack", "()V"⟩, 17) := ⟨⟨by decide +kernel, by decide +kernel⟩, List.mem_of_getElem? (i := 547) (by decide +kernel), List.mem_of_getElem? (i := 789) (by decide +kernel), List.mem_of_getElem? (i := 790) (by decide +kernel)⟩
theorem lw_p45 : lw_okq (⟨"HidingBoxesModel", "findLayers", "()V"⟩, 17) := ⟨⟨by decide +kernel, by decide +kernel⟩, List.mem_of_getElem? (i := 547) (by decide +kernel), List.mem_of_getElem? (i := 805) (by decide +kernel), List.mem_of_getElem? (i := 806) (by decide +kernel)⟩
theorem lw_p46 : lw_okq (⟨"HidingBoxesModel", "ringBoxes", "()I"⟩, 17) := ⟨⟨by decide +kernel, by decide +kernel⟩, List.mem_of_getElem? (i := 547) (by decide +kernel), List.mem_of_getElem? (i := 809) (by decide +kernel), List.mem_of_getElem? (i := 810) (by decide +kernel)⟩
theorem lw_p47 : lw_okq (⟨"HidingBoxesModel", "hiders", "(I)I"⟩, 17) := ⟨⟨by decide +kernel, by decide +kernel⟩, List.mem_of_getElem? (i := 547) (by decide +kernel), List.mem_of_getElem? (i := 813) (by decide +kernel), List.mem_of_getElem? (i := 814) (by decide +kernel)⟩
def lw_privs_3 : List (MethodName × Nat) := [(⟨"HidingBoxesModel", "overlap", "(II)Z"⟩, 17), (⟨"HidingBoxesModel", "reachesBelow", "(IIII)Z"⟩, 17), (⟨"HidingBoxesModel", "isInRing", "(I)Z"⟩, 17), (⟨"HidingBoxesModel", "whyNoBreak", "(I)I"⟩, 17), (⟨"HidingBoxesModel", "greatestDirection", "(I)I"⟩, 17), (⟨"HidingBoxesModel", "doBreak", "(I)I"⟩, 17), (⟨"HidingBoxesModel", "findFault", "()I"⟩, 17), (⟨"HidingBoxesModel", "readBox", "()V"⟩, 17), (⟨"HidingBoxesModel", "sign", "()I"⟩, 17), (⟨"HidingBoxesModel", "take", "(Z)V"⟩, 17), (⟨"HidingBoxesModel", "readNumber", "(II)I"⟩, 17), (⟨"HidingBoxesModel", "putAside", "()V"⟩, 17), (⟨"HidingBoxesModel", "putBack", "()V"⟩, 17), (⟨"HidingBoxesModel", "findLayers", "()V"⟩, 17), (⟨"HidingBoxesModel", "ringBoxes", "()I"⟩, 17), (⟨"HidingBoxesModel", "hiders", "(I)I"⟩, 17)]
theorem lw_r3 : ∀ q ∈ lw_privs_3, lw_okq q := List.forall_mem_cons.mpr ⟨lw_p32, List.forall_mem_cons.mpr ⟨lw_p33, List.forall_mem_cons.mpr ⟨lw_p34, List.forall_mem_cons.mpr ⟨lw_p35, List.forall_mem_cons.mpr ⟨lw_p36, List.forall_mem_cons.mpr ⟨lw_p37, List.forall_mem_cons.mpr ⟨lw_p38, List.forall_mem_cons.mpr ⟨lw_p39, List.forall_mem_cons.mpr ⟨lw_p40, List.forall_mem_cons.mpr ⟨lw_p41, List.forall_mem_cons.mpr ⟨lw_p42, List.forall_mem_cons.mpr ⟨lw_p43, List.forall_mem_cons.mpr ⟨lw_p44, List.forall_mem_cons.mpr ⟨lw_p45, List.forall_mem_cons.mpr ⟨lw_p46, List.forall_mem_cons.mpr ⟨lw_p47, fun _ h => absurd h List.not_mem_nil⟩⟩⟩⟩⟩⟩⟩⟩⟩⟩⟩⟩⟩⟩⟩⟩
theorem lw_p48 : lw_okq (⟨"HidingBoxesModel", "shortestRing", "(I)I"⟩, 17) := ⟨⟨by decide +kernel, by decide +kernel⟩, List.mem_of_getElem? (i := 547) (by decide +kernel), List.mem_of_getElem? (i := 817) (by decide +kernel), List.mem_of_getElem? (i := 818) (by decide +kernel)⟩
theorem lw_p49 : lw_okq (⟨"HidingBoxesModel", "hiddenByAny", "(I)I"⟩, 17) := ⟨⟨by decide +kernel, by decide +kernel⟩, List.mem_of_getElem? (i := 547) (by decide +kernel), List.mem_of_getElem? (i := 821) (by decide +kernel), List.mem_of_getElem? (i := 822) (by decide +kernel)⟩
theorem lw_p50 : lw_okq (⟨"HidingBoxesModel", "boxesBelow", "(IZ)I"⟩, 17) := ⟨⟨by decide +kernel, by decide +kernel⟩, List.mem_of_getElem? (i := 547) (by decide +kernel), List.mem_of_getElem? (i := 825) (by decide +kernel), List.mem_of_getElem? (i := 826) (by decide +kernel)⟩
theorem lw_p51 : lw_okq (⟨"HidingBoxesModel", "shadows", "(I)I"⟩, 17) := ⟨⟨by decide +kernel, by decide +kernel⟩, List.mem_of_getElem? (i := 547) (by decide +kernel), List.mem_of_getElem? (i := 829) (by decide +kernel), List.mem_of_getElem? (i := 830) (by decide +kernel)⟩
theorem lw_p52 : lw_okq (⟨"HidingBoxesModel", "covers", "(III)Z"⟩, 17) := ⟨⟨by decide +kernel, by decide +kernel⟩, List.mem_of_getElem? (i := 547) (by decide +kernel), List.mem_of_getElem? (i := 833) (by decide +kernel), List.mem_of_getElem? (i := 834) (by decide +kernel)⟩
theorem lw_p53 : lw_okq (⟨"HidingBoxesModel", "drawAll", "(I)V"⟩, 17) := ⟨⟨by decide +kernel, by decide +kernel⟩, List.mem_of_getElem? (i := 547) (by decide +kernel), List.mem_of_getElem? (i := 845) (by decide +kernel), List.mem_of_getElem? (i := 846) (by decide +kernel)⟩
theorem lw_p54 : lw_okq (⟨"HidingBoxesModel", "weight", "(I)I"⟩, 17) := ⟨⟨by decide +kernel, by decide +kernel⟩, List.mem_of_getElem? (i := 547) (by decide +kernel), List.mem_of_getElem? (i := 849) (by decide +kernel), List.mem_of_getElem? (i := 850) (by decide +kernel)⟩
theorem lw_p55 : lw_okq (⟨"HidingBoxesModel", "shortestOfAll", "()I"⟩, 17) := ⟨⟨by decide +kernel, by decide +kernel⟩, List.mem_of_getElem? (i := 547) (by decide +kernel), List.mem_of_getElem? (i := 857) (by decide +kernel), List.mem_of_getElem? (i := 858) (by decide +kernel)⟩
theorem lw_p56 : lw_okq (⟨"HidingBoxesModel", "drawnSet", "()I"⟩, 17) := ⟨⟨by decide +kernel, by decide +kernel⟩, List.mem_of_getElem? (i := 547) (by decide +kernel), List.mem_of_getElem? (i := 865) (by decide +kernel), List.mem_of_getElem? (i := 866) (by decide +kernel)⟩
def lw_privs_4 : List (MethodName × Nat) := [(⟨"HidingBoxesModel", "shortestRing", "(I)I"⟩, 17), (⟨"HidingBoxesModel", "hiddenByAny", "(I)I"⟩, 17), (⟨"HidingBoxesModel", "boxesBelow", "(IZ)I"⟩, 17), (⟨"HidingBoxesModel", "shadows", "(I)I"⟩, 17), (⟨"HidingBoxesModel", "covers", "(III)Z"⟩, 17), (⟨"HidingBoxesModel", "drawAll", "(I)V"⟩, 17), (⟨"HidingBoxesModel", "weight", "(I)I"⟩, 17), (⟨"HidingBoxesModel", "shortestOfAll", "()I"⟩, 17), (⟨"HidingBoxesModel", "drawnSet", "()I"⟩, 17)]
theorem lw_r4 : ∀ q ∈ lw_privs_4, lw_okq q := List.forall_mem_cons.mpr ⟨lw_p48, List.forall_mem_cons.mpr ⟨lw_p49, List.forall_mem_cons.mpr ⟨lw_p50, List.forall_mem_cons.mpr ⟨lw_p51, List.forall_mem_cons.mpr ⟨lw_p52, List.forall_mem_cons.mpr ⟨lw_p53, List.forall_mem_cons.mpr ⟨lw_p54, List.forall_mem_cons.mpr ⟨lw_p55, List.forall_mem_cons.mpr ⟨lw_p56, fun _ h => absurd h List.not_mem_nil⟩⟩⟩⟩⟩⟩⟩⟩⟩
def lw_privs : List (MethodName × Nat) := lw_privs_1 ++ (lw_privs_2 ++ (lw_privs_3 ++ (lw_privs_4)))
def lw_tbl : List Cond := k2_sels lw_privs ++ tables_1
theorem lw_privs_ok : ∀ q ∈ lw_privs, lw_okq q := by
  show ∀ q ∈ lw_privs_1 ++ (lw_privs_2 ++ (lw_privs_3 ++ (lw_privs_4))), lw_okq q
  exact List.forall_mem_append.mpr ⟨lw_r1, List.forall_mem_append.mpr ⟨lw_r2, List.forall_mem_append.mpr ⟨lw_r3, lw_r4⟩⟩⟩
end
section
theorem goodIn_r {big : List Cond} (ws : List Cond) (ps : List Nat) (hp : ws = ps.filterMap (fun i => big[i]?)) (h : ws.all goodWord = true) : GoodIn big ws := by
  intro w hw
  have h1 := List.all_eq_true.mp h w hw
  rw [hp] at hw
  obtain ⟨i, -, hi⟩ := List.mem_filterMap.mp hw
  have hm : w ∈ big := by first | exact List.mem_of_getElem? hi | exact List.getElem?_mem hi
  exact ⟨hm, good_of_word h1⟩
theorem goodIn_app {big a b : List Cond} (ha : GoodIn big a) (hb : GoodIn big b) : GoodIn big (a ++ b) := fun w h => (List.mem_append.mp h).elim (ha w) (hb w)
theorem goodIn_ca {big a b : List Cond} {c : Cond} (ha : GoodIn big (c :: a)) (hb : GoodIn big b) : GoodIn big (c :: (a ++ b)) := fun w h => (List.mem_cons.mp h).elim (fun e => ha w (List.mem_cons.mpr (Or.inl e))) (fun h => (List.mem_append.mp h).elim (fun h => ha w (List.mem_cons.mpr (Or.inr h))) (hb w))
theorem goodIn_sub {big ws : List Cond} (hm : ∀ w ∈ ws, w ∈ big) (h : ws.all goodWord = true) : GoodIn big ws := fun w hw => ⟨hm w hw, good_of_word (List.all_eq_true.mp h w hw)⟩
def RX0 : String := "HidingBoxes$Box"
def TX0 : u_T := fun k => match k with
  | 0 => ("HidingBoxes$Box", "number", "I", false)
  | 1 => ("HidingBoxes$Box", "low", "[I", true)
  | _ => ("HidingBoxes$Box", "high", "[I", true)
def tyX0 : Nat → FieldType := fun k => match k with
  | 0 => .int
  | 1 => .array .int
  | _ => .array .int
abbrev wsX00 : List Cond := u_ws RX0 TX0 3
theorem nmX0 : ∀ a, a < 3 → ∀ b, b < 3 → a ≠ b → (TX0 a).2.1 ≠ (TX0 b).2.1 := by decide +kernel
theorem tyX0_ok : ∀ k, k < 3 → parseFieldDescriptor (TX0 k).2.2.1 = some (tyX0 k) := by decide +kernel
abbrev cX0_init : ByteArray := prog_2_method_1_code
def yX0_init : MethodName := ⟨RX0, "<init>", "()V"⟩
abbrev cX0_copyFrom : ByteArray := prog_2_method_2_code
def yX0_copyFrom : MethodName := ⟨RX0, "copyFrom", "(LHidingBoxes$Box;)V"⟩
abbrev cX0_lay : ByteArray := prog_2_method_3_code
def yX0_lay : MethodName := ⟨RX0, "lay", "(III)Z"⟩
abbrev cX0_shift : ByteArray := prog_2_method_4_code
def yX0_shift : MethodName := ⟨RX0, "shift", "(II)V"⟩
abbrev cX0_size : ByteArray := prog_2_method_5_code
def yX0_size : MethodName := ⟨RX0, "size", "(I)I"⟩
abbrev cX0_volume : ByteArray := prog_2_method_6_code
def yX0_volume : MethodName := ⟨RX0, "volume", "()I"⟩
abbrev cX0_sumOfCorner : ByteArray := prog_2_method_7_code
def yX0_sumOfCorner : MethodName := ⟨RX0, "sumOfCorner", "()I"⟩
abbrev cX0_longestDirection : ByteArray := prog_2_method_8_code
def yX0_longestDirection : MethodName := ⟨RX0, "longestDirection", "()I"⟩
abbrev cX0_meets : ByteArray := prog_2_method_9_code
def yX0_meets : MethodName := ⟨RX0, "meets", "(LHidingBoxes$Box;I)Z"⟩
abbrev cX0_cuts : ByteArray := prog_2_method_10_code
def yX0_cuts : MethodName := ⟨RX0, "cuts", "(LHidingBoxes$Box;)Z"⟩
abbrev cX0_meetsInDifference : ByteArray := prog_2_method_11_code
def yX0_meetsInDifference : MethodName := ⟨RX0, "meetsInDifference", "(LHidingBoxes$Box;II)Z"⟩
abbrev cX0_overlapsOutlineOf : ByteArray := prog_2_method_12_code
def yX0_overlapsOutlineOf : MethodName := ⟨RX0, "overlapsOutlineOf", "(LHidingBoxes$Box;)Z"⟩
abbrev cX0_directionOfHiding : ByteArray := prog_2_method_13_code
def yX0_directionOfHiding : MethodName := ⟨RX0, "directionOfHiding", "(LHidingBoxes$Box;)I"⟩
abbrev cX0_isBelow : ByteArray := prog_2_method_14_code
def yX0_isBelow : MethodName := ⟨RX0, "isBelow", "(LHidingBoxes$Box;)Z"⟩
abbrev cX0_coversRow : ByteArray := prog_2_method_15_code
def yX0_coversRow : MethodName := ⟨RX0, "coversRow", "(I)Z"⟩
abbrev cX0_rowOfCells : ByteArray := prog_2_method_16_code
def yX0_rowOfCells : MethodName := ⟨RX0, "rowOfCells", "()I"⟩
def RX1 : String := "HidingBoxes$History"
def TX1 : u_T := fun k => match k with
  | 0 => ("HidingBoxes$History", "states", "[LHidingBoxes$Space;", true)
  | _ => ("HidingBoxes$History", "count", "I", false)
def tyX1 : Nat → FieldType := fun k => match k with
  | 0 => .array (.object "HidingBoxes$Space")
  | _ => .int
abbrev wsX10 : List Cond := u_ws RX1 TX1 2
theorem nmX1 : ∀ a, a < 2 → ∀ b, b < 2 → a ≠ b → (TX1 a).2.1 ≠ (TX1 b).2.1 := by decide +kernel
theorem tyX1_ok : ∀ k, k < 2 → parseFieldDescriptor (TX1 k).2.2.1 = some (tyX1 k) := by decide +kernel
abbrev cX1_init : ByteArray := prog_3_method_1_code
def yX1_init : MethodName := ⟨RX1, "<init>", "()V"⟩
abbrev cX1_remember : ByteArray := prog_3_method_2_code
def yX1_remember : MethodName := ⟨RX1, "remember", "(LHidingBoxes$Space;)V"⟩
abbrev cX1_dropOldest : ByteArray := prog_3_method_3_code
def yX1_dropOldest : MethodName := ⟨RX1, "dropOldest", "()V"⟩
abbrev cX1_recall : ByteArray := prog_3_method_4_code
def yX1_recall : MethodName := ⟨RX1, "recall", "(LHidingBoxes$Space;)V"⟩
def RX2 : String := "HidingBoxes$Picture"
def TX2 : u_T := fun k => match k with
  | 0 => ("HidingBoxes$Picture", "count", "I", false)
  | 1 => ("HidingBoxes$Picture", "hides", "[I", true)
  | 2 => ("HidingBoxes$Picture", "chains", "[I", true)
  | 3 => ("HidingBoxes$Picture", "order", "[I", true)
  | 4 => ("HidingBoxes$Picture", "drawnBits", "I", false)
  | 5 => ("HidingBoxes$Picture", "drawnCount", "I", false)
  | _ => ("HidingBoxes$Picture", "layers", "[I", true)
def tyX2 : Nat → FieldType := fun k => match k with
  | 0 => .int
  | 1 => .array .int
  | 2 => .array .int
  | 3 => .array .int
  | 4 => .int
  | 5 => .int
  | _ => .array .int
abbrev wsX20 : List Cond := u_ws RX2 TX2 7
theorem nmX2 : ∀ a, a < 7 → ∀ b, b < 7 → a ≠ b → (TX2 a).2.1 ≠ (TX2 b).2.1 := by decide +kernel
theorem tyX2_ok : ∀ k, k < 7 → parseFieldDescriptor (TX2 k).2.2.1 = some (tyX2 k) := by decide +kernel
abbrev cX2_init : ByteArray := prog_4_method_1_code
def yX2_init : MethodName := ⟨RX2, "<init>", "()V"⟩
abbrev cX2_look : ByteArray := prog_4_method_2_code
def yX2_look : MethodName := ⟨RX2, "look", "(LHidingBoxes$Space;)V"⟩
abbrev cX2_bitsHiddenBy : ByteArray := prog_4_method_3_code
def yX2_bitsHiddenBy : MethodName := ⟨RX2, "bitsHiddenBy", "(LHidingBoxes$Space;I)I"⟩
abbrev cX2_hasBit : ByteArray := prog_4_method_4_code
def yX2_hasBit : MethodName := ⟨RX2, "hasBit", "(II)Z"⟩
abbrev cX2_followChains : ByteArray := prog_4_method_5_code
def yX2_followChains : MethodName := ⟨RX2, "followChains", "()V"⟩
abbrev cX2_draw : ByteArray := prog_4_method_6_code
def yX2_draw : MethodName := ⟨RX2, "draw", "(LHidingBoxes$Space;)V"⟩
abbrev cX2_nextToDraw : ByteArray := prog_4_method_7_code
def yX2_nextToDraw : MethodName := ⟨RX2, "nextToDraw", "(LHidingBoxes$Space;)I"⟩
abbrev cX2_layerAbove : ByteArray := prog_4_method_8_code
def yX2_layerAbove : MethodName := ⟨RX2, "layerAbove", "(I)I"⟩
abbrev cX2_hiddenBy : ByteArray := prog_4_method_9_code
def yX2_hiddenBy : MethodName := ⟨RX2, "hiddenBy", "(I)I"⟩
abbrev cX2_hidersOf : ByteArray := prog_4_method_10_code
def yX2_hidersOf : MethodName := ⟨RX2, "hidersOf", "(I)I"⟩
abbrev cX2_hidings : ByteArray := prog_4_method_11_code
def yX2_hidings : MethodName := ⟨RX2, "hidings", "()I"⟩
abbrev cX2_hidingsNotIn : ByteArray := prog_4_method_12_code
def yX2_hidingsNotIn : MethodName := ⟨RX2, "hidingsNotIn", "(LHidingBoxes$Picture;)I"⟩
abbrev cX2_slotDrawn : ByteArray := prog_4_method_13_code
def yX2_slotDrawn : MethodName := ⟨RX2, "slotDrawn", "(I)I"⟩
abbrev cX2_greatestLayer : ByteArray := prog_4_method_14_code
def yX2_greatestLayer : MethodName := ⟨RX2, "greatestLayer", "()I"⟩
abbrev cX2_firstNotDrawnUnder : ByteArray := prog_4_method_15_code
def yX2_firstNotDrawnUnder : MethodName := ⟨RX2, "firstNotDrawnUnder", "(I)I"⟩
abbrev cX2_isInRing : ByteArray := prog_4_method_16_code
def yX2_isInRing : MethodName := ⟨RX2, "isInRing", "(I)Z"⟩
abbrev cX2_boxesInRings : ByteArray := prog_4_method_17_code
def yX2_boxesInRings : MethodName := ⟨RX2, "boxesInRings", "()I"⟩
abbrev cX2_shortestRing : ByteArray := prog_4_method_18_code
def yX2_shortestRing : MethodName := ⟨RX2, "shortestRing", "()I"⟩
abbrev cX2_shortestRingOf : ByteArray := prog_4_method_19_code
def yX2_shortestRingOf : MethodName := ⟨RX2, "shortestRingOf", "(I)I"⟩
abbrev cX2_bitsHiddenByAll : ByteArray := prog_4_method_20_code
def yX2_bitsHiddenByAll : MethodName := ⟨RX2, "bitsHiddenByAll", "(I)I"⟩
abbrev cX2_greatestInRings : ByteArray := prog_4_method_21_code
def yX2_greatestInRings : MethodName := ⟨RX2, "greatestInRings", "(LHidingBoxes$Space;)I"⟩
def RX3 : String := "HidingBoxes$Space"
def TX3 : u_T := fun k => match k with
  | 0 => ("HidingBoxes$Space", "boxes", "[LHidingBoxes$Box;", true)
  | 1 => ("HidingBoxes$Space", "count", "I", false)
  | 2 => ("HidingBoxes$Space", "nextNumber", "I", false)
  | 3 => ("HidingBoxes$Space", "splits", "I", false)
  | _ => ("HidingBoxes$Space", "rule", "I", false)
def tyX3 : Nat → FieldType := fun k => match k with
  | 0 => .array (.object "HidingBoxes$Box")
  | 1 => .int
  | 2 => .int
  | 3 => .int
  | _ => .int
abbrev wsX30 : List Cond := u_ws RX3 TX3 5
theorem nmX3 : ∀ a, a < 5 → ∀ b, b < 5 → a ≠ b → (TX3 a).2.1 ≠ (TX3 b).2.1 := by decide +kernel
theorem tyX3_ok : ∀ k, k < 5 → parseFieldDescriptor (TX3 k).2.2.1 = some (tyX3 k) := by decide +kernel
abbrev cX3_init : ByteArray := prog_5_method_1_code
def yX3_init : MethodName := ⟨RX3, "<init>", "()V"⟩
abbrev cX3_copyFrom : ByteArray := prog_5_method_2_code
def yX3_copyFrom : MethodName := ⟨RX3, "copyFrom", "(LHidingBoxes$Space;)V"⟩
abbrev cX3_isFull : ByteArray := prog_5_method_3_code
def yX3_isFull : MethodName := ⟨RX3, "isFull", "()Z"⟩
abbrev cX3_slotOf : ByteArray := prog_5_method_4_code
def yX3_slotOf : MethodName := ⟨RX3, "slotOf", "(I)I"⟩
abbrev cX3_isCutBy : ByteArray := prog_5_method_5_code
def yX3_isCutBy : MethodName := ⟨RX3, "isCutBy", "(LHidingBoxes$Box;I)Z"⟩
abbrev cX3_append : ByteArray := prog_5_method_6_code
def yX3_append : MethodName := ⟨RX3, "append", "(LHidingBoxes$Box;)I"⟩
abbrev cX3_takeOut : ByteArray := prog_5_method_7_code
def yX3_takeOut : MethodName := ⟨RX3, "takeOut", "(I)V"⟩
abbrev cX3_cutInTwo : ByteArray := prog_5_method_8_code
def yX3_cutInTwo : MethodName := ⟨RX3, "cutInTwo", "(III)I"⟩
abbrev cX3_quarterTurn : ByteArray := prog_5_method_9_code
def yX3_quarterTurn : MethodName := ⟨RX3, "quarterTurn", "()V"⟩
abbrev cX3_weightInDrawing : ByteArray := prog_5_method_10_code
def yX3_weightInDrawing : MethodName := ⟨RX3, "weightInDrawing", "(I)I"⟩
abbrev cX3_volume : ByteArray := prog_5_method_11_code
def yX3_volume : MethodName := ⟨RX3, "volume", "()I"⟩
abbrev cX3_groundUnder : ByteArray := prog_5_method_12_code
def yX3_groundUnder : MethodName := ⟨RX3, "groundUnder", "(I)I"⟩
abbrev cX3_boxesBelow : ByteArray := prog_5_method_13_code
def yX3_boxesBelow : MethodName := ⟨RX3, "boxesBelow", "(I)I"⟩
abbrev cX3_supportsOf : ByteArray := prog_5_method_14_code
def yX3_supportsOf : MethodName := ⟨RX3, "supportsOf", "(I)I"⟩
abbrev cX3_shadowOn : ByteArray := prog_5_method_15_code
def yX3_shadowOn : MethodName := ⟨RX3, "shadowOn", "(I)I"⟩
abbrev cX3_shadow : ByteArray := prog_5_method_16_code
def yX3_shadow : MethodName := ⟨RX3, "shadow", "()I"⟩
def RX4 : String := "HidingBoxes$Text"
def TX4 : u_T := fun k => match k with
  | 0 => ("HidingBoxes$Text", "signs", "[C", true)
  | 1 => ("HidingBoxes$Text", "length", "I", false)
  | 2 => ("HidingBoxes$Text", "values", "[I", true)
  | _ => ("HidingBoxes$Text", "valueCount", "I", false)
def tyX4 : Nat → FieldType := fun k => match k with
  | 0 => .array .char
  | 1 => .int
  | 2 => .array .int
  | _ => .int
abbrev wsX40 : List Cond := u_ws RX4 TX4 4
theorem nmX4 : ∀ a, a < 4 → ∀ b, b < 4 → a ≠ b → (TX4 a).2.1 ≠ (TX4 b).2.1 := by decide +kernel
theorem tyX4_ok : ∀ k, k < 4 → parseFieldDescriptor (TX4 k).2.2.1 = some (tyX4 k) := by decide +kernel
abbrev cX4_init : ByteArray := prog_6_method_1_code
def yX4_init : MethodName := ⟨RX4, "<init>", "()V"⟩
abbrev cX4_append : ByteArray := prog_6_method_2_code
def yX4_append : MethodName := ⟨RX4, "append", "(C)Z"⟩
abbrev cX4_read : ByteArray := prog_6_method_3_code
def yX4_read : MethodName := ⟨RX4, "read", "()I"⟩
abbrev cX4_withDigit : ByteArray := prog_6_method_4_code
def yX4_withDigit : MethodName := ⟨RX4, "withDigit", "(III)I"⟩
abbrev cX4_signBehind : ByteArray := prog_6_method_5_code
def yX4_signBehind : MethodName := ⟨RX4, "signBehind", "(I)C"⟩
abbrev cX4_store : ByteArray := prog_6_method_6_code
def yX4_store : MethodName := ⟨RX4, "store", "(I)V"⟩
abbrev cX4_boxCount : ByteArray := prog_6_method_7_code
def yX4_boxCount : MethodName := ⟨RX4, "boxCount", "()I"⟩
abbrev cX4_valueOf : ByteArray := prog_6_method_8_code
def yX4_valueOf : MethodName := ⟨RX4, "valueOf", "(II)I"⟩
def RX5 : String := "HidingBoxes"
def TX5 : u_T := fun k => match k with
  | 0 => ("HidingBoxes", "now", "LHidingBoxes$Space;", true)
  | 1 => ("HidingBoxes", "trial", "LHidingBoxes$Space;", true)
  | 2 => ("HidingBoxes", "snapshot", "LHidingBoxes$Space;", true)
  | 3 => ("HidingBoxes", "hasSnapshot", "Z", false)
  | 4 => ("HidingBoxes", "history", "LHidingBoxes$History;", true)
  | 5 => ("HidingBoxes", "text", "LHidingBoxes$Text;", true)
  | 6 => ("HidingBoxes", "picture", "LHidingBoxes$Picture;", true)
  | 7 => ("HidingBoxes", "turnedPicture", "LHidingBoxes$Picture;", true)
  | _ => ("HidingBoxes", "newcomer", "LHidingBoxes$Box;", true)
def tyX5 : Nat → FieldType := fun k => match k with
  | 0 => .object "HidingBoxes$Space"
  | 1 => .object "HidingBoxes$Space"
  | 2 => .object "HidingBoxes$Space"
  | 3 => .boolean
  | 4 => .object "HidingBoxes$History"
  | 5 => .object "HidingBoxes$Text"
  | 6 => .object "HidingBoxes$Picture"
  | 7 => .object "HidingBoxes$Picture"
  | _ => .object "HidingBoxes$Box"
abbrev wsX50 : List Cond := u_ws RX5 TX5 9
theorem nmX5 : ∀ a, a < 9 → ∀ b, b < 9 → a ≠ b → (TX5 a).2.1 ≠ (TX5 b).2.1 := by decide +kernel
theorem tyX5_ok : ∀ k, k < 9 → parseFieldDescriptor (TX5 k).2.2.1 = some (tyX5 k) := by decide +kernel
abbrev cX5_init : ByteArray := prog_1_method_1_code
def yX5_init : MethodName := ⟨RX5, "<init>", "()V"⟩
abbrev cX5_add : ByteArray := prog_1_method_2_code
def yX5_add : MethodName := ⟨RX5, "add", "(IIIIII)I"⟩
abbrev cX5_remove : ByteArray := prog_1_method_3_code
def yX5_remove : MethodName := ⟨RX5, "remove", "(I)I"⟩
abbrev cX5_move : ByteArray := prog_1_method_4_code
def yX5_move : MethodName := ⟨RX5, "move", "(III)I"⟩
abbrev cX5_fall : ByteArray := prog_1_method_5_code
def yX5_fall : MethodName := ⟨RX5, "fall", "(I)I"⟩
abbrev cX5_split : ByteArray := prog_1_method_6_code
def yX5_split : MethodName := ⟨RX5, "split", "(III)I"⟩
abbrev cX5_breakRing : ByteArray := prog_1_method_7_code
def yX5_breakRing : MethodName := ⟨RX5, "breakRing", "()I"⟩
abbrev cX5_turn : ByteArray := prog_1_method_8_code
def yX5_turn : MethodName := ⟨RX5, "turn", "()I"⟩
abbrev cX5_set : ByteArray := prog_1_method_9_code
def yX5_set : MethodName := ⟨RX5, "set", "(II)I"⟩
abbrev cX5_type : ByteArray := prog_1_method_10_code
def yX5_type : MethodName := ⟨RX5, "type", "(C)I"⟩
abbrev cX5_clearText : ByteArray := prog_1_method_11_code
def yX5_clearText : MethodName := ⟨RX5, "clearText", "()I"⟩
abbrev cX5_addAll : ByteArray := prog_1_method_12_code
def yX5_addAll : MethodName := ⟨RX5, "addAll", "()I"⟩
abbrev cX5_undo : ByteArray := prog_1_method_13_code
def yX5_undo : MethodName := ⟨RX5, "undo", "()I"⟩
abbrev cX5_keep : ByteArray := prog_1_method_14_code
def yX5_keep : MethodName := ⟨RX5, "keep", "()I"⟩
abbrev cX5_restore : ByteArray := prog_1_method_15_code
def yX5_restore : MethodName := ⟨RX5, "restore", "()I"⟩
abbrev cX5_box : ByteArray := prog_1_method_16_code
def yX5_box : MethodName := ⟨RX5, "box", "(I)I"⟩
abbrev cX5_end : ByteArray := prog_1_method_17_code
def yX5_end : MethodName := ⟨RX5, "end", "(IIZ)I"⟩
abbrev cX5_ofBox : ByteArray := prog_1_method_18_code
def yX5_ofBox : MethodName := ⟨RX5, "ofBox", "(II)I"⟩
abbrev cX5_pair : ByteArray := prog_1_method_19_code
def yX5_pair : MethodName := ⟨RX5, "pair", "(II)I"⟩
abbrev cX5_drawn : ByteArray := prog_1_method_20_code
def yX5_drawn : MethodName := ⟨RX5, "drawn", "(I)I"⟩
abbrev cX5_total : ByteArray := prog_1_method_21_code
def yX5_total : MethodName := ⟨RX5, "total", "(I)I"⟩
abbrev cX5_waitsFor : ByteArray := prog_1_method_22_code
def yX5_waitsFor : MethodName := ⟨RX5, "waitsFor", "(I)I"⟩
abbrev cX5_breaks : ByteArray := prog_1_method_23_code
def yX5_breaks : MethodName := ⟨RX5, "breaks", "()I"⟩
abbrev cX5_drawnWithout : ByteArray := prog_1_method_24_code
def yX5_drawnWithout : MethodName := ⟨RX5, "drawnWithout", "(I)I"⟩
abbrev cX5_isDirection : ByteArray := prog_1_method_25_code
def yX5_isDirection : MethodName := ⟨RX5, "isDirection", "(I)Z"⟩
abbrev cX5_look : ByteArray := prog_1_method_26_code
def yX5_look : MethodName := ⟨RX5, "look", "()LHidingBoxes$Picture;"⟩
abbrev cX5_adoptTrial : ByteArray := prog_1_method_27_code
def yX5_adoptTrial : MethodName := ⟨RX5, "adoptTrial", "()V"⟩
abbrev cX5_enter : ByteArray := prog_1_method_28_code
def yX5_enter : MethodName := ⟨RX5, "enter", "(LHidingBoxes$Space;IIIIII)I"⟩
abbrev cX5_breakOne : ByteArray := prog_1_method_29_code
def yX5_breakOne : MethodName := ⟨RX5, "breakOne", "(LHidingBoxes$Space;)I"⟩
def RX6 : String := "HidingBoxesModel"
def TX6 : u_T := fun k => match k with
  | 0 => ("HidingBoxesModel", "z", "[I", true)
  | 1 => ("HidingBoxesModel", "aside", "[I", true)
  | 2 => ("HidingBoxesModel", "old", "[I", true)
  | 3 => ("HidingBoxesModel", "states", "I", false)
  | 4 => ("HidingBoxesModel", "kept", "[I", true)
  | 5 => ("HidingBoxesModel", "isKept", "Z", false)
  | 6 => ("HidingBoxesModel", "text", "[I", true)
  | 7 => ("HidingBoxesModel", "length", "I", false)
  | 8 => ("HidingBoxesModel", "hides", "[I", true)
  | 9 => ("HidingBoxesModel", "reaches", "[I", true)
  | 10 => ("HidingBoxesModel", "layers", "[I", true)
  | 11 => ("HidingBoxesModel", "order", "[I", true)
  | 12 => ("HidingBoxesModel", "drawn", "I", false)
  | 13 => ("HidingBoxesModel", "before", "[I", true)
  | 14 => ("HidingBoxesModel", "given", "[I", true)
  | 15 => ("HidingBoxesModel", "place", "I", false)
  | _ => ("HidingBoxesModel", "isWrong", "Z", false)
def tyX6 : Nat → FieldType := fun k => match k with
  | 0 => .array .int
  | 1 => .array .int
  | 2 => .array .int
  | 3 => .int
  | 4 => .array .int
  | 5 => .boolean
  | 6 => .array .int
  | 7 => .int
  | 8 => .array .int
  | 9 => .array .int
  | 10 => .array .int
  | 11 => .array .int
  | 12 => .int
  | 13 => .array .int
  | 14 => .array .int
  | 15 => .int
  | _ => .boolean
abbrev wsX60 : List Cond := u_ws RX6 TX6 17
theorem nmX6 : ∀ a, a < 17 → ∀ b, b < 17 → a ≠ b → (TX6 a).2.1 ≠ (TX6 b).2.1 := by decide +kernel
theorem tyX6_ok : ∀ k, k < 17 → parseFieldDescriptor (TX6 k).2.2.1 = some (tyX6 k) := by decide +kernel
abbrev cX6_init : ByteArray := prog_8_method_1_code
def yX6_init : MethodName := ⟨RX6, "<init>", "()V"⟩
abbrev cX6_in : ByteArray := prog_8_method_3_code
def yX6_in : MethodName := ⟨RX6, "in", "(JII)Z"⟩
abbrev cX6_has : ByteArray := prog_8_method_4_code
def yX6_has : MethodName := ⟨RX6, "has", "(II)Z"⟩
abbrev cX6_ones : ByteArray := prog_8_method_5_code
def yX6_ones : MethodName := ⟨RX6, "ones", "(I)I"⟩
abbrev cX6_of : ByteArray := prog_8_method_6_code
def yX6_of : MethodName := ⟨RX6, "of", "(II)I"⟩
abbrev cX6_put : ByteArray := prog_8_method_7_code
def yX6_put : MethodName := ⟨RX6, "put", "(III)V"⟩
abbrev cX6_low : ByteArray := prog_8_method_8_code
def yX6_low : MethodName := ⟨RX6, "low", "(II)I"⟩
abbrev cX6_size : ByteArray := prog_8_method_9_code
def yX6_size : MethodName := ⟨RX6, "size", "(II)I"⟩
abbrev cX6_high : ByteArray := prog_8_method_10_code
def yX6_high : MethodName := ⟨RX6, "high", "(II)I"⟩
abbrev cX6_volume : ByteArray := prog_8_method_11_code
def yX6_volume : MethodName := ⟨RX6, "volume", "(I)I"⟩
abbrev cX6_rankOf : ByteArray := prog_8_method_12_code
def yX6_rankOf : MethodName := ⟨RX6, "rankOf", "(I)I"⟩
abbrev cX6_isDirection : ByteArray := prog_8_method_13_code
def yX6_isDirection : MethodName := ⟨RX6, "isDirection", "(I)Z"⟩
abbrev cX6_cross : ByteArray := prog_8_method_14_code
def yX6_cross : MethodName := ⟨RX6, "cross", "(III)Z"⟩
abbrev cX6_cutsAny : ByteArray := prog_8_method_15_code
def yX6_cutsAny : MethodName := ⟨RX6, "cutsAny", "(II)Z"⟩
abbrev cX6_reachesBelow : ByteArray := prog_8_method_16_code
def yX6_reachesBelow : MethodName := ⟨RX6, "reachesBelow", "(IIII)Z"⟩
abbrev cX6_overlap : ByteArray := prog_8_method_17_code
def yX6_overlap : MethodName := ⟨RX6, "overlap", "(II)Z"⟩
abbrev cX6_hidesBy : ByteArray := prog_8_method_18_code
def yX6_hidesBy : MethodName := ⟨RX6, "hidesBy", "(II)I"⟩
abbrev cX6_findHiding : ByteArray := prog_8_method_19_code
def yX6_findHiding : MethodName := ⟨RX6, "findHiding", "()V"⟩
abbrev cX6_isInRing : ByteArray := prog_8_method_20_code
def yX6_isInRing : MethodName := ⟨RX6, "isInRing", "(I)Z"⟩
abbrev cX6_ringBoxes : ByteArray := prog_8_method_21_code
def yX6_ringBoxes : MethodName := ⟨RX6, "ringBoxes", "()I"⟩
abbrev cX6_hiddenByAny : ByteArray := prog_8_method_22_code
def yX6_hiddenByAny : MethodName := ⟨RX6, "hiddenByAny", "(I)I"⟩
abbrev cX6_shortestRing : ByteArray := prog_8_method_23_code
def yX6_shortestRing : MethodName := ⟨RX6, "shortestRing", "(I)I"⟩
abbrev cX6_shortestOfAll : ByteArray := prog_8_method_24_code
def yX6_shortestOfAll : MethodName := ⟨RX6, "shortestOfAll", "()I"⟩
abbrev cX6_findLayers : ByteArray := prog_8_method_25_code
def yX6_findLayers : MethodName := ⟨RX6, "findLayers", "()V"⟩
abbrev cX6_weight : ByteArray := prog_8_method_26_code
def yX6_weight : MethodName := ⟨RX6, "weight", "(I)I"⟩
abbrev cX6_drawAll : ByteArray := prog_8_method_27_code
def yX6_drawAll : MethodName := ⟨RX6, "drawAll", "(I)V"⟩
abbrev cX6_drawnSet : ByteArray := prog_8_method_28_code
def yX6_drawnSet : MethodName := ⟨RX6, "drawnSet", "()I"⟩
abbrev cX6_push : ByteArray := prog_8_method_29_code
def yX6_push : MethodName := ⟨RX6, "push", "([I)V"⟩
abbrev cX6_putAside : ByteArray := prog_8_method_30_code
def yX6_putAside : MethodName := ⟨RX6, "putAside", "()V"⟩
abbrev cX6_putBack : ByteArray := prog_8_method_31_code
def yX6_putBack : MethodName := ⟨RX6, "putBack", "()V"⟩
abbrev cX6_undo : ByteArray := prog_8_method_32_code
def yX6_undo : MethodName := ⟨RX6, "undo", "()I"⟩
abbrev cX6_keep : ByteArray := prog_8_method_33_code
def yX6_keep : MethodName := ⟨RX6, "keep", "()I"⟩
abbrev cX6_restore : ByteArray := prog_8_method_34_code
def yX6_restore : MethodName := ⟨RX6, "restore", "()I"⟩
abbrev cX6_tryBox : ByteArray := prog_8_method_35_code
def yX6_tryBox : MethodName := ⟨RX6, "tryBox", "(IIIIII)I"⟩
abbrev cX6_putBox : ByteArray := prog_8_method_36_code
def yX6_putBox : MethodName := ⟨RX6, "putBox", "(IIIIII)I"⟩
abbrev cX6_add : ByteArray := prog_8_method_37_code
def yX6_add : MethodName := ⟨RX6, "add", "(IIIIII)I"⟩
abbrev cX6_remove : ByteArray := prog_8_method_38_code
def yX6_remove : MethodName := ⟨RX6, "remove", "(I)I"⟩
abbrev cX6_move : ByteArray := prog_8_method_39_code
def yX6_move : MethodName := ⟨RX6, "move", "(III)I"⟩
abbrev cX6_isBelow : ByteArray := prog_8_method_40_code
def yX6_isBelow : MethodName := ⟨RX6, "isBelow", "(II)Z"⟩
abbrev cX6_fall : ByteArray := prog_8_method_41_code
def yX6_fall : MethodName := ⟨RX6, "fall", "(I)I"⟩
abbrev cX6_doSplit : ByteArray := prog_8_method_42_code
def yX6_doSplit : MethodName := ⟨RX6, "doSplit", "(III)I"⟩
abbrev cX6_split : ByteArray := prog_8_method_43_code
def yX6_split : MethodName := ⟨RX6, "split", "(III)I"⟩
abbrev cX6_breakAt : ByteArray := prog_8_method_44_code
def yX6_breakAt : MethodName := ⟨RX6, "breakAt", "()I"⟩
abbrev cX6_greatestDirection : ByteArray := prog_8_method_45_code
def yX6_greatestDirection : MethodName := ⟨RX6, "greatestDirection", "(I)I"⟩
abbrev cX6_whyNoBreak : ByteArray := prog_8_method_46_code
def yX6_whyNoBreak : MethodName := ⟨RX6, "whyNoBreak", "(I)I"⟩
abbrev cX6_doBreak : ByteArray := prog_8_method_47_code
def yX6_doBreak : MethodName := ⟨RX6, "doBreak", "(I)I"⟩
abbrev cX6_breakRing : ByteArray := prog_8_method_48_code
def yX6_breakRing : MethodName := ⟨RX6, "breakRing", "()I"⟩
abbrev cX6_turn : ByteArray := prog_8_method_49_code
def yX6_turn : MethodName := ⟨RX6, "turn", "()I"⟩
abbrev cX6_set : ByteArray := prog_8_method_50_code
def yX6_set : MethodName := ⟨RX6, "set", "(II)I"⟩
abbrev cX6_type : ByteArray := prog_8_method_51_code
def yX6_type : MethodName := ⟨RX6, "type", "(C)I"⟩
abbrev cX6_clearText : ByteArray := prog_8_method_52_code
def yX6_clearText : MethodName := ⟨RX6, "clearText", "()I"⟩
abbrev cX6_sign : ByteArray := prog_8_method_53_code
def yX6_sign : MethodName := ⟨RX6, "sign", "()I"⟩
abbrev cX6_take : ByteArray := prog_8_method_54_code
def yX6_take : MethodName := ⟨RX6, "take", "(Z)V"⟩
abbrev cX6_readNumber : ByteArray := prog_8_method_55_code
def yX6_readNumber : MethodName := ⟨RX6, "readNumber", "(II)I"⟩
abbrev cX6_readBox : ByteArray := prog_8_method_56_code
def yX6_readBox : MethodName := ⟨RX6, "readBox", "()V"⟩
abbrev cX6_findFault : ByteArray := prog_8_method_57_code
def yX6_findFault : MethodName := ⟨RX6, "findFault", "()I"⟩
abbrev cX6_addAll : ByteArray := prog_8_method_58_code
def yX6_addAll : MethodName := ⟨RX6, "addAll", "()I"⟩
abbrev cX6_box : ByteArray := prog_8_method_59_code
def yX6_box : MethodName := ⟨RX6, "box", "(I)I"⟩
abbrev cX6_end : ByteArray := prog_8_method_60_code
def yX6_end : MethodName := ⟨RX6, "end", "(IIZ)I"⟩
abbrev cX6_hiders : ByteArray := prog_8_method_61_code
def yX6_hiders : MethodName := ⟨RX6, "hiders", "(I)I"⟩
abbrev cX6_boxesBelow : ByteArray := prog_8_method_62_code
def yX6_boxesBelow : MethodName := ⟨RX6, "boxesBelow", "(IZ)I"⟩
abbrev cX6_covers : ByteArray := prog_8_method_63_code
def yX6_covers : MethodName := ⟨RX6, "covers", "(III)Z"⟩
abbrev cX6_shadows : ByteArray := prog_8_method_64_code
def yX6_shadows : MethodName := ⟨RX6, "shadows", "(I)I"⟩
abbrev cX6_ofBox : ByteArray := prog_8_method_65_code
def yX6_ofBox : MethodName := ⟨RX6, "ofBox", "(II)I"⟩
abbrev cX6_pair : ByteArray := prog_8_method_66_code
def yX6_pair : MethodName := ⟨RX6, "pair", "(II)I"⟩
abbrev cX6_drawn : ByteArray := prog_8_method_67_code
def yX6_drawn : MethodName := ⟨RX6, "drawn", "(I)I"⟩
abbrev cX6_total : ByteArray := prog_8_method_68_code
def yX6_total : MethodName := ⟨RX6, "total", "(I)I"⟩
abbrev cX6_waitsFor : ByteArray := prog_8_method_69_code
def yX6_waitsFor : MethodName := ⟨RX6, "waitsFor", "(I)I"⟩
abbrev cX6_breaks : ByteArray := prog_8_method_70_code
def yX6_breaks : MethodName := ⟨RX6, "breaks", "()I"⟩
abbrev cX6_drawnWithout : ByteArray := prog_8_method_71_code
def yX6_drawnWithout : MethodName := ⟨RX6, "drawnWithout", "(I)I"⟩
def RJ6 : String := "java/lang/Integer"
def TJ6 : u_T := fun k => match k with
  | _ => ("", "", "", false)
def tyJ6 : Nat → FieldType := fun k => match k with
  | _ => .int
abbrev wsJ60 : List Cond := u_ws RJ6 TJ6 0
theorem nmJ6 : ∀ a, a < 0 → ∀ b, b < 0 → a ≠ b → (TJ6 a).2.1 ≠ (TJ6 b).2.1 := by decide +kernel
theorem tyJ6_ok : ∀ k, k < 0 → parseFieldDescriptor (TJ6 k).2.2.1 = some (tyJ6 k) := by decide +kernel
abbrev cJ6_bitCount_0f7a4 : ByteArray := prog_9_method_49_code
def yJ6_bitCount_0f7a4 : MethodName := ⟨RJ6, "bitCount", "(I)I"⟩
def RJ9 : String := "java/lang/Math"
def TJ9 : u_T := fun k => match k with
  | _ => ("", "", "", false)
def tyJ9 : Nat → FieldType := fun k => match k with
  | _ => .int
abbrev wsJ90 : List Cond := u_ws RJ9 TJ9 0
theorem nmJ9 : ∀ a, a < 0 → ∀ b, b < 0 → a ≠ b → (TJ9 a).2.1 ≠ (TJ9 b).2.1 := by decide +kernel
theorem tyJ9_ok : ∀ k, k < 0 → parseFieldDescriptor (TJ9 k).2.2.1 = some (tyJ9 k) := by decide +kernel
abbrev cJ9_max_7cf53 : ByteArray := prog_10_method_65_code
def yJ9_max_7cf53 : MethodName := ⟨RJ9, "max", "(II)I"⟩
def RJ10 : String := "java/lang/System"
def TJ10 : u_T := fun k => match k with
  | _ => ("", "", "", false)
def tyJ10 : Nat → FieldType := fun k => match k with
  | _ => .int
abbrev wsJ100 : List Cond := u_ws RJ10 TJ10 0
theorem nmJ10 : ∀ a, a < 0 → ∀ b, b < 0 → a ≠ b → (TJ10 a).2.1 ≠ (TJ10 b).2.1 := by decide +kernel
theorem tyJ10_ok : ∀ k, k < 0 → parseFieldDescriptor (TJ10 k).2.2.1 = some (tyJ10 k) := by decide +kernel
def RJ7 : String := "java/util/Arrays"
def TJ7 : u_T := fun k => match k with
  | _ => ("", "", "", false)
def tyJ7 : Nat → FieldType := fun k => match k with
  | _ => .int
abbrev wsJ70 : List Cond := u_ws RJ7 TJ7 0
theorem nmJ7 : ∀ a, a < 0 → ∀ b, b < 0 → a ≠ b → (TJ7 a).2.1 ≠ (TJ7 b).2.1 := by decide +kernel
theorem tyJ7_ok : ∀ k, k < 0 → parseFieldDescriptor (TJ7 k).2.2.1 = some (tyJ7 k) := by decide +kernel
abbrev cJ7_fill_53178 : ByteArray := prog_12_method_103_code
def yJ7_fill_53178 : MethodName := ⟨RJ7, "fill", "([II)V"⟩
def RL : String := "HidingBoxesLaw"
abbrev vwCl : List vw_C := [(RX0, TX0, 3), (RX1, TX1, 2), (RX2, TX2, 7), (RX3, TX3, 5), (RX4, TX4, 4), (RX5, TX5, 9), (RX6, TX6, 17)]
end
section
/-! CORE: one world of 381 cells (the class's 369, the reference's 12); the judgement AtW; contracts CtW; its rows -/
/-- what the cells hold: by a cell's number and a place in it -/
abbrev Sg : Type := Nat → Nat → Int32
/-- the classes' numbers and slots; the array classes (0 int, 1 Box, 2 Space, 3 char); the addresses by number -/
abbrev Om : Type := va_G × (Nat → ClassId) × (Nat → Nat)
def ad (Ω : Om) (k : Nat) : Nat := Ω.2.2 k
/-- box b: its cell, its low, its high; space s: its cell, its row; picture p -/
def iBo (b : Nat) : Nat := 3 * b
def iL (b : Nat) : Nat := 3 * b + 1
def iH (b : Nat) : Nat := 3 * b + 2
def iS (s : Nat) : Nat := 339 + 2 * s
def iA (s : Nat) : Nat := 340 + 2 * s
def iP (p : Nat) : Nat := 353 + 5 * p
/-- the box at a slot of a space -/
def bx (s i : Nat) : Nat := 16 * s + i
def upS (σ : Sg) (k i : Nat) (v : Int32) : Sg := fun k' => if k' = k then upd (σ k) i v else σ k'
theorem up_get (σ : Sg) (k i : Nat) (v : Int32) (k' i' : Nat) : upS σ k i v k' i' = if k' = k ∧ i' = i then v else σ k' i' := by
  unfold upS upd
  by_cases h : k' = k
  · subst h
    by_cases h2 : i' = i <;> simp [h2]
  · simp [h]
theorem up_at (σ : Sg) (k i : Nat) (v : Int32) : upS σ k i v k = upd (σ k) i v := by simp [upS]
theorem up_ne {σ : Sg} {k i : Nat} {v : Int32} {k' : Nat} (h : k' ≠ k) : upS σ k i v k' = σ k' := by simp [upS, h]
def zArr (Ω : Om) (σ : Sg) (k n : Nat) : va_E := .inl (Ω.2.1 0, n, .inl (σ k))
def zBox (Ω : Om) (σ : Sg) (k : Nat) : va_E := .inr (0, [.int (σ k 0), .ref (ad Ω (k + 1)), .ref (ad Ω (k + 2))])
def zSp (Ω : Om) (σ : Sg) (k : Nat) : va_E := .inr (3, [.ref (ad Ω (k + 1)), .int (σ k 1), .int (σ k 2), .int (σ k 3), .int (σ k 4)])
def zSpA (Ω : Om) (k : Nat) : va_E := .inl (Ω.2.1 1, 16, .inr (.inr (.inr (.inr (fun i => some (ad Ω (iBo (bx ((k - 340) / 2) i))))))))
def zPic (Ω : Om) (σ : Sg) (k : Nat) : va_E := .inr (2, [.int (σ k 0), .ref (ad Ω (k + 1)), .ref (ad Ω (k + 2)), .ref (ad Ω (k + 3)), .int (σ k 4), .int (σ k 5), .ref (ad Ω (k + 4))])
def zHis (Ω : Om) (σ : Sg) (k : Nat) : va_E := .inr (1, [.ref (ad Ω 364), .int (σ k 1)])
def zHisA (Ω : Om) (σ : Sg) (k : Nat) : va_E := .inl (Ω.2.1 2, 4, .inr (.inr (.inr (.inr (fun i => some (ad Ω (iS (σ k i).toNatClampNeg)))))))
def zTxt (Ω : Om) (σ : Sg) (k : Nat) : va_E := .inr (4, [.ref (ad Ω 366), .int (σ k 1), .ref (ad Ω 367), .int (σ k 3)])
def zCh (Ω : Om) (σ : Sg) (k : Nat) : va_E := .inl (Ω.2.1 3, 80, .inl (σ k))
def zMain (Ω : Om) (σ : Sg) (k : Nat) : va_E := .inr (5, [.ref (ad Ω (iS 0)), .ref (ad Ω (iS 1)), .ref (ad Ω (iS 2)), .int (σ k 3), .ref (ad Ω 363), .ref (ad Ω 365), .ref (ad Ω (iP 0)), .ref (ad Ω (iP 1)), .ref (ad Ω (iBo 112))])
def zMod (Ω : Om) (σ : Sg) (k : Nat) : va_E := .inr (6, [.ref (ad Ω 370), .ref (ad Ω 371), .ref (ad Ω 372), .int (σ k 3), .ref (ad Ω 373), .int (σ k 5), .ref (ad Ω 374), .int (σ k 7), .ref (ad Ω 375), .ref (ad Ω 376), .ref (ad Ω 377), .ref (ad Ω 378), .int (σ k 12), .ref (ad Ω 379), .ref (ad Ω 380), .int (σ k 15), .int (σ k 16)])
def mLen (k : Nat) : Nat := if k = 372 then 464 else if k < 374 then 116 else if k = 374 then 80 else if k = 380 then 6 else 16
def cel (Ω : Om) (σ : Sg) (k : Nat) : va_E :=
  if k < 339 then (if k % 3 = 0 then zBox Ω σ k else zArr Ω σ k 3)
  else if k < 353 then (if k % 2 = 1 then zSp Ω σ k else zSpA Ω k)
  else if k < 363 then (if k = 353 ∨ k = 358 then zPic Ω σ k else zArr Ω σ k 16)
  else if k = 363 then zHis Ω σ k else if k = 364 then zHisA Ω σ k else if k = 365 then zTxt Ω σ k else if k = 366 then zCh Ω σ k else if k = 367 then zArr Ω σ k 41
  else if k = 368 then zMain Ω σ k else if k = 369 then zMod Ω σ k else zArr Ω σ k (mLen k)
theorem cel_box {Ω : Om} {σ : Sg} {b : Nat} (h : b < 113) : cel Ω σ (iBo b) = .inr (0, [.int (σ (iBo b) 0), .ref (ad Ω (iL b)), .ref (ad Ω (iH b))]) := by
  unfold cel iBo
  rw [if_pos (by omega), if_pos (by omega)]
  rfl
theorem cel_low {Ω : Om} {σ : Sg} {b : Nat} (h : b < 113) : cel Ω σ (iL b) = .inl (Ω.2.1 0, 3, .inl (σ (iL b))) := by
  unfold cel iL
  rw [if_pos (by omega), if_neg (by omega)]
  rfl
theorem cel_high {Ω : Om} {σ : Sg} {b : Nat} (h : b < 113) : cel Ω σ (iH b) = .inl (Ω.2.1 0, 3, .inl (σ (iH b))) := by
  unfold cel iH
  rw [if_pos (by omega), if_neg (by omega)]
  rfl
theorem cel_sp {Ω : Om} {σ : Sg} {s : Nat} (h : s < 7) : cel Ω σ (iS s) = .inr (3, [.ref (ad Ω (iA s)), .int (σ (iS s) 1), .int (σ (iS s) 2), .int (σ (iS s) 3), .int (σ (iS s) 4)]) := by
  unfold cel iS iA
  rw [if_neg (by omega), if_pos (by omega), if_pos (by omega)]
  unfold zSp
  rw [show 339 + 2 * s + 1 = 340 + 2 * s by omega]
theorem cel_spA {Ω : Om} {σ : Sg} {s : Nat} (h : s < 7) : cel Ω σ (iA s) = .inl (Ω.2.1 1, 16, .inr (.inr (.inr (.inr (fun i => some (ad Ω (iBo (bx s i)))))))) := by
  unfold cel iA
  rw [if_neg (by omega), if_pos (by omega), if_neg (by omega)]
  unfold zSpA
  rw [show (340 + 2 * s - 340) / 2 = s by omega]
theorem cel_pic {Ω : Om} {σ : Sg} {p : Nat} (h : p < 2) : cel Ω σ (iP p) = .inr (2, [.int (σ (iP p) 0), .ref (ad Ω (iP p + 1)), .ref (ad Ω (iP p + 2)), .ref (ad Ω (iP p + 3)), .int (σ (iP p) 4), .int (σ (iP p) 5), .ref (ad Ω (iP p + 4))]) := by
  unfold cel iP
  rw [if_neg (by omega), if_neg (by omega), if_pos (by omega), if_pos (by omega)]
  rfl
theorem cel_picA {Ω : Om} {σ : Sg} {p j : Nat} (h : p < 2) (h1 : 0 < j) (h2 : j < 5) : cel Ω σ (iP p + j) = .inl (Ω.2.1 0, 16, .inl (σ (iP p + j))) := by
  unfold cel iP
  rw [if_neg (by omega), if_neg (by omega), if_pos (by omega), if_neg (by omega)]
  rfl
theorem cel_marr {Ω : Om} {σ : Sg} {k : Nat} (h : 369 < k) : cel Ω σ k = .inl (Ω.2.1 0, mLen k, .inl (σ k)) := by
  unfold cel
  rw [if_neg (by omega), if_neg (by omega), if_neg (by omega), if_neg (by omega), if_neg (by omega), if_neg (by omega), if_neg (by omega), if_neg (by omega), if_neg (by omega), if_neg (by omega)]
  rfl
theorem cel_congr {Ω : Om} {σ σ' : Sg} {k : Nat} (h : σ' k = σ k) : cel Ω σ' k = cel Ω σ k := by
  unfold cel zBox zArr zSp zPic zHis zHisA zTxt zCh zMain zMod
  simp only [h]
def CW (Ω : Om) (σ : Sg) : va_W := (List.range 381).map fun k => (ad Ω k, cel Ω σ k)
theorem CW_get {Ω : Om} {σ : Sg} {k : Nat} (h : k < 381) : (CW Ω σ)[k]? = some (ad Ω k, cel Ω σ k) := by
  simp [CW, h]
theorem CW_set {Ω : Om} {σ σ' : Sg} {k : Nat} {e : va_E} (ho : ∀ j, j ≠ k → σ' j = σ j) (he : cel Ω σ' k = e) : (CW Ω σ).set k (ad Ω k, e) = CW Ω σ' := by
  subst he
  refine List.ext_getElem? fun j => ?_
  rw [List.getElem?_set]
  by_cases hj : k = j
  · subst hj
    by_cases hk : k < 381
    · rw [if_pos rfl, if_pos (by simp [CW, hk]), CW_get hk]
    · rw [if_pos rfl, if_neg (by simp [CW, hk])]
      simp [CW, hk]
  · rw [if_neg hj]
    by_cases hk : j < 381
    · rw [CW_get hk, CW_get hk, cel_congr (ho j (fun q => hj q.symm))]
    · simp [CW, hk]
theorem CW_D {A : Nat → Prop} {Ω : Om} {σ σ' : Sg} (h : va_D A (CW Ω σ)) : va_D A (CW Ω σ') := by
  have key : ∀ (k : Nat) (q : Nat × va_E), (CW Ω σ')[k]? = some q → ∃ q', (CW Ω σ)[k]? = some q' ∧ q'.1 = q.1 := by
    intro k q hq
    by_cases hk : k < 381
    · rw [CW_get hk] at hq
      exact ⟨_, CW_get hk, by cases hq; rfl⟩
    · simp [CW, hk] at hq
  refine ⟨fun i j p q hp hq e => ?_, fun k q hq => ?_⟩
  · obtain ⟨p', h1, h2⟩ := key i p hp
    obtain ⟨q', h3, h4⟩ := key j q hq
    exact h.1 i j p' q' h1 h3 (by rw [h2, h4, e])
  · obtain ⟨q', h1, h2⟩ := key k q hq
    rw [← h2]
    exact h.2 k q' h1
abbrev Sz0 : Sg := fun _ _ => 0
def tysO (Ω : Om) : List (ClassId × FieldType) := [(Ω.2.1 0, .int), (Ω.2.1 1, .object RX0), (Ω.2.1 2, .object RX3), (Ω.2.1 3, .char)]
/-! locals as a list by place, with holes -/
def lvZ : Nat → List (Option Value) → List (Nat × Value)
  | _, [] => []
  | i, none :: t => lvZ (i + 1) t
  | i, some v :: t => (i, v) :: lvZ (i + 1) t
def lvG : List (Option Value) → Nat → Option Value
  | [], _ => none
  | a :: _, 0 => a
  | _ :: t, i + 1 => lvG t i
def lvS : List (Option Value) → Nat → Option Value → List (Option Value)
  | [], _, _ => []
  | _ :: t, 0, v => v :: t
  | a :: t, i + 1, v => a :: lvS t i v
theorem lvZ_mem : ∀ (lv : List (Option Value)) (k : Nat) (q : Nat × Value), q ∈ lvZ k lv ↔ ∃ j, lvG lv j = some q.2 ∧ q.1 = k + j
  | [], k, q => by simp [lvZ, lvG]
  | none :: t, k, q => by
    rw [lvZ, lvZ_mem t]
    constructor
    · rintro ⟨j, h1, h2⟩
      exact ⟨j + 1, h1, by omega⟩
    · rintro ⟨j, h1, h2⟩
      cases j with
      | zero => simp [lvG] at h1
      | succ j => exact ⟨j, h1, by omega⟩
  | some v :: t, k, q => by
    rw [lvZ, List.mem_cons, lvZ_mem t]
    constructor
    · rintro (rfl | ⟨j, h1, h2⟩)
      · exact ⟨0, rfl, rfl⟩
      · exact ⟨j + 1, h1, by omega⟩
    · rintro ⟨j, h1, h2⟩
      cases j with
      | zero => exact Or.inl (by obtain ⟨a, b⟩ := q; simp [lvG] at h1; simp at h2; rw [h1, h2])
      | succ j => exact Or.inr ⟨j, h1, by omega⟩
theorem lvG_S : ∀ (lv : List (Option Value)) (i j : Nat) (v : Option Value), lvG (lvS lv i v) j = if j = i ∧ i < lv.length then v else lvG lv j
  | [], i, j, v => by simp [lvS, lvG]
  | a :: t, 0, 0, v => by simp [lvS, lvG]
  | a :: t, 0, j + 1, v => by simp [lvS, lvG]
  | a :: t, i + 1, 0, v => by simp [lvS, lvG]
  | a :: t, i + 1, j + 1, v => by
    rw [lvS, lvG, lvG_S t i j v]
    simp [lvG]
def lvH (ls : Array Slot) (n : Nat) (lv : List (Option Value)) : Prop := lv_has ls n (lvZ 0 lv)
theorem lvH_at {ls : Array Slot} {n i : Nat} {lv : List (Option Value)} {v : Value} (h : lvH ls n lv) (hl : lvG lv i = some v) : ls[i]? = some (.val v) :=
  h.2.2 (i, v) ((lvZ_mem lv 0 (i, v)).mpr ⟨i, hl, by omega⟩)
/-- no long stands just ahead -/
def lvK (lv : List (Option Value)) : Nat → Bool
  | 0 => true
  | i + 1 => match lvG lv i with
    | some v => v.category != 2
    | none => true
theorem lvH_set {ls : Array Slot} {n i : Nat} {lv : List (Option Value)} {v : Value} (h : lv_has ls n ((i, v) :: (lvZ 0 lv).filter (fun q => !(q.1 == i) && !(q.1 + 1 == i && q.2.category == 2)))) (hk : lvK lv i = true) : lvH ls n (lvS lv i (some v)) := by
  refine ⟨h.1, h.2.1, fun q hq => ?_⟩
  obtain ⟨j, h1, h2⟩ := (lvZ_mem _ _ _).mp hq
  rw [lvG_S] at h1
  obtain ⟨a, w⟩ := q
  simp only [Nat.zero_add] at h2
  subst h2
  split at h1
  next hc =>
    obtain ⟨rfl, -⟩ := hc
    rw [← Option.some.inj h1]
    exact h.2.2 (a, v) List.mem_cons_self
  next hc =>
    by_cases hai : a = i
    · subst hai
      have : ¬ a < lv.length := fun q => hc ⟨rfl, q⟩
      have hn : ∀ (l : List (Option Value)) (a : Nat), ¬ a < l.length → lvG l a = none := by
        intro l
        induction l with
        | nil => intro a _; rfl
        | cons b t ih =>
          intro a ha
          cases a with
          | zero => simp at ha
          | succ a => exact ih a (by simpa using ha)
      rw [hn lv a this] at h1
      cases h1
    · refine h.2.2 (a, w) (List.mem_cons_of_mem _ (List.mem_filter.mpr ⟨(lvZ_mem _ _ _).mpr ⟨a, h1, by omega⟩, ?_⟩))
      have e1 : (a == i) = false := by simpa using hai
      simp only [e1, Bool.not_false, Bool.true_and]
      by_cases hb : a + 1 = i
      · subst hb
        simp only [lvK] at hk
        simp only at h1
        rw [h1] at hk
        simpa using hk
      · have e2 : (a + 1 == i) = false := by simpa using hb
        simp [e2]
theorem lvH_set2 {ls : Array Slot} {n i : Nat} {lv : List (Option Value)} {v : Value} (h : lv_has ls n ((i, v) :: (lvZ 0 lv).filter (fun q => !(q.1 == i) && (!(q.1 == i + 1) && !(q.1 + 1 == i && q.2.category == 2))))) (hk : lvK lv i = true) : lvH ls n (lvS (lvS lv i (some v)) (i + 1) none) := by
  refine ⟨h.1, h.2.1, fun q hq => ?_⟩
  obtain ⟨j, h1, h2⟩ := (lvZ_mem _ _ _).mp hq
  rw [lvG_S, lvG_S] at h1
  obtain ⟨a, w⟩ := q
  simp only [Nat.zero_add] at h2
  subst h2
  split at h1
  next hc => cases h1
  next hc0 =>
    have hn : ∀ (l : List (Option Value)) (a : Nat), ¬ a < l.length → lvG l a = none := by
      intro l
      induction l with
      | nil => intro a _; rfl
      | cons b t ih =>
        intro a ha
        cases a with
        | zero => simp at ha
        | succ a => exact ih a (by simpa using ha)
    have hlen : ∀ (l : List (Option Value)) (i : Nat) (v : Option Value), (lvS l i v).length = l.length := by
      intro l
      induction l with
      | nil => intro i v; rfl
      | cons b t ih =>
        intro i v
        cases i with
        | zero => rfl
        | succ i => simp [lvS, ih]
    rw [hlen] at hc0
    split at h1
    next hc =>
      obtain ⟨rfl, -⟩ := hc
      rw [← Option.some.inj h1]
      exact h.2.2 (a, v) List.mem_cons_self
    next hc =>
      have g0 : ∀ b, lvG lv b = some w → b < lv.length := fun b hb => Nat.not_le.mp (fun q => by rw [hn lv b (by omega)] at hb; cases hb)
      have hal := g0 a h1
      have hai : a ≠ i := fun e => hc ⟨e, by omega⟩
      have hai1 : a ≠ i + 1 := fun e => hc0 ⟨e, by omega⟩
      refine h.2.2 (a, w) (List.mem_cons_of_mem _ (List.mem_filter.mpr ⟨(lvZ_mem _ _ _).mpr ⟨a, h1, by omega⟩, ?_⟩))
      have e1 : (a == i) = false := by simpa using hai
      have e3 : (a == i + 1) = false := by simpa using hai1
      simp only [e1, e3, Bool.not_false, Bool.true_and]
      by_cases hb : a + 1 = i
      · subst hb
        simp only [lvK] at hk
        simp only at h1
        rw [h1] at hk
        simpa using hk
      · have e2 : (a + 1 == i) = false := by simpa using hb
        simp [e2]
end
section
/-! THE JUDGEMENT AtW: a machine that holds the world at a state σ comes, from a place of a method, to what is wanted; its rows -/
/-- what stays the same while a method runs: program, launch, environment, start, method, arguments, frames below, method, code, what is wanted, cells and slots made, what may change -/
abbrev GmW : Type := Program × Launch × Env × State × MethodId × Array Value × List Frame × Method × Code × (State → Prop) × (Nat × Nat) × (Nat → Prop)
abbrev gP (Γ : GmW) : Program := Γ.1
abbrev gL (Γ : GmW) : Launch := Γ.2.1
abbrev gE (Γ : GmW) : Env := Γ.2.2.1
abbrev gSt (Γ : GmW) : State := Γ.2.2.2.1
abbrev gM (Γ : GmW) : MethodId := Γ.2.2.2.2.1
abbrev gAr (Γ : GmW) : Array Value := Γ.2.2.2.2.2.1
abbrev gB (Γ : GmW) : List Frame := Γ.2.2.2.2.2.2.1
abbrev gMe (Γ : GmW) : Method := Γ.2.2.2.2.2.2.2.1
abbrev gC (Γ : GmW) : Code := Γ.2.2.2.2.2.2.2.2.1
abbrev gQ (Γ : GmW) : State → Prop := Γ.2.2.2.2.2.2.2.2.2.1
abbrev gN (Γ : GmW) : Nat × Nat := Γ.2.2.2.2.2.2.2.2.2.2.1
abbrev gA (Γ : GmW) : Nat → Prop := Γ.2.2.2.2.2.2.2.2.2.2.2
/-- what a method is: its bytes, its class, its words, its locals, its room, its type -/
abbrev MI : Type := ByteArray × String × List Cond × Nat × Room × Option FieldType
abbrev mB (M : MI) : ByteArray := M.1
abbrev mO (M : MI) : String := M.2.1
abbrev mW (M : MI) : List Cond := M.2.2.1
abbrev mN (M : MI) : Nat := M.2.2.2.1
abbrev mR (M : MI) : Room := M.2.2.2.2.1
abbrev mT (M : MI) : Option FieldType := M.2.2.2.2.2
def GdW (M : MI) (Γ : GmW) (Ω : Om) : Prop :=
  (gP Γ).tables.exec = Jvm.exec ∧ (gC Γ).code = mB M ∧ (gC Γ).maxLocals = mN M ∧ (gSt Γ).vm.findClass (mO M) = some (gM Γ).cls ∧ (∀ w ∈ mW M, w.before (gAr Γ) (gSt Γ) = true) ∧ va_K Ω.1 vwCl (tysO Ω) (gSt Γ) ∧ va_D (gA Γ) (CW Ω Sz0) ∧ (∀ q, (gSt Γ).heap.size ≤ q → gA Γ q) ∧ (gMe Γ).sig.returnType = mT M ∧ (gMe Γ).locks = false ∧ (gN Γ).1 ≤ (mR M).cells ∧ (gN Γ).2 ≤ (mR M).slots
def AtW (M : MI) (Γ : GmW) (Ω : Om) (σ : Sg) (pc : Nat) (lv : List (Option Value)) (st : List Value) : Prop :=
  GdW M Γ Ω → ∀ (H : Heap) (locs : List Loc) (ls : Array Slot), va_P Ω.1 vwCl (CW Ω σ) H → va_S (gA Γ) (gSt Γ).heap H locs → lvH ls (mN M) lv → W (gP Γ) (gL Γ) (gE Γ) (mR M) (gSt Γ) (gM Γ) (gAr Γ) (gB Γ) (gMe Γ) (gC Γ) H locs (gN Γ).1 (gN Γ).2 (gQ Γ) (F0 (gM Γ) pc ls st)
section ROWS
variable {M : MI} {Γ : GmW} {Ω : Om} {σ : Sg} {pc : Nat} {lv : List (Option Value)} {st : List Value}
theorem AtW.eqs {σ' : Sg} {pc' : Nat} {lv' : List (Option Value)} {st' : List Value} (h : AtW M Γ Ω σ' pc' lv' st') (h1 : σ = σ') (h2 : pc = pc') (h3 : lv = lv') (h4 : st = st') : AtW M Γ Ω σ pc lv st := by
  subst h1 h2 h3 h4
  exact h
theorem r_iconst {n : Int} (v : Int32) (hd : decode (mB M) pc = .ok (.iconst n, 1)) (hv : Int32.ofInt n = v)
    (k : AtW M Γ Ω σ (pc + 1) lv (.int v :: st)) : AtW M Γ Ω σ pc lv (st) :=
  fun G H locs ls hP hS hl => lv_iconst G.1 G.2.1 hd hv (k G H locs ls hP hS hl)
theorem r_bipush {n : Int} (v : Int32) (hd : decode (mB M) pc = .ok (.bipush n, 2)) (hv : (Int8.ofInt n).toInt32 = v)
    (k : AtW M Γ Ω σ (pc + 2) lv (.int v :: st)) : AtW M Γ Ω σ pc lv (st) :=
  fun G H locs ls hP hS hl => lv_bipush G.1 G.2.1 hd hv (k G H locs ls hP hS hl)
theorem r_sipush {n : Int} (v : Int32) (hd : decode (mB M) pc = .ok (.sipush n, 3)) (hv : (Int16.ofInt n).toInt32 = v)
    (k : AtW M Γ Ω σ (pc + 3) lv (.int v :: st)) : AtW M Γ Ω σ pc lv (st) :=
  fun G H locs ls hP hS hl => lv_sipush G.1 G.2.1 hd hv (k G H locs ls hP hS hl)
theorem r_iload_n {i : Fin 4} {x : Int32} (hd : decode (mB M) pc = .ok (.iload_n i, 1)) (hi : lvG lv (i : Nat) = some (.int x))
    (k : AtW M Γ Ω σ (pc + 1) lv (.int x :: st)) : AtW M Γ Ω σ pc lv (st) :=
  fun G H locs ls hP hS hl => lv_iload_n G.1 G.2.1 hd rfl (lvH_at hl hi) (k G H locs ls hP hS hl)
theorem r_iload {i : Nat} {x : Int32} (hd : decode (mB M) pc = .ok (.iload i, 2)) (hi : lvG lv i = some (.int x))
    (k : AtW M Γ Ω σ (pc + 2) lv (.int x :: st)) : AtW M Γ Ω σ pc lv (st) :=
  fun G H locs ls hP hS hl => lv_iload G.1 G.2.1 hd (lvH_at hl hi) (k G H locs ls hP hS hl)
theorem r_lload_n {i : Fin 4} {x : Int64} (hd : decode (mB M) pc = .ok (.lload_n i, 1)) (hi : lvG lv (i : Nat) = some (.long x))
    (k : AtW M Γ Ω σ (pc + 1) lv (.long x :: st)) : AtW M Γ Ω σ pc lv (st) :=
  fun G H locs ls hP hS hl => lv_lload_n G.1 G.2.1 hd rfl (lvH_at hl hi) (k G H locs ls hP hS hl)
theorem r_lload {i : Nat} {x : Int64} (hd : decode (mB M) pc = .ok (.lload i, 2)) (hi : lvG lv i = some (.long x))
    (k : AtW M Γ Ω σ (pc + 2) lv (.long x :: st)) : AtW M Γ Ω σ pc lv (st) :=
  fun G H locs ls hP hS hl => lv_lload G.1 G.2.1 hd (lvH_at hl hi) (k G H locs ls hP hS hl)
theorem r_aload_n {i : Fin 4} {x : Nat} (hd : decode (mB M) pc = .ok (.aload_n i, 1)) (hi : lvG lv (i : Nat) = some (.ref x))
    (k : AtW M Γ Ω σ (pc + 1) lv (.ref x :: st)) : AtW M Γ Ω σ pc lv (st) :=
  fun G H locs ls hP hS hl => lv_aload_n G.1 G.2.1 hd rfl (lvH_at hl hi) (k G H locs ls hP hS hl)
theorem r_aload {i : Nat} {x : Nat} (hd : decode (mB M) pc = .ok (.aload i, 2)) (hi : lvG lv i = some (.ref x))
    (k : AtW M Γ Ω σ (pc + 2) lv (.ref x :: st)) : AtW M Γ Ω σ pc lv (st) :=
  fun G H locs ls hP hS hl => lv_aload G.1 G.2.1 hd (lvH_at hl hi) (k G H locs ls hP hS hl)
theorem r_istore_n {i : Fin 4} {x : Int32} (hd : decode (mB M) pc = .ok (.istore_n i, 1)) (hn : (i : Nat) < mN M) (hk : lvK lv (i : Nat) = true)
    (k : AtW M Γ Ω σ (pc + 1) (lvS lv (i : Nat) (some (.int x))) st) : AtW M Γ Ω σ pc lv (.int x :: st) :=
  fun G H locs ls hP hS hl => lv_istore_n G.1 G.2.1 hd rfl hl hn rfl (fun ls' hl' => k G H locs ls' hP hS (lvH_set hl' hk))
theorem r_istore {i : Nat} {x : Int32} (hd : decode (mB M) pc = .ok (.istore i, 2)) (hn : i < mN M) (hk : lvK lv i = true)
    (k : AtW M Γ Ω σ (pc + 2) (lvS lv i (some (.int x))) st) : AtW M Γ Ω σ pc lv (.int x :: st) :=
  fun G H locs ls hP hS hl => lv_istore G.1 G.2.1 hd hl hn rfl (fun ls' hl' => k G H locs ls' hP hS (lvH_set hl' hk))
theorem r_astore_n {i : Fin 4} {x : Nat} (hd : decode (mB M) pc = .ok (.astore_n i, 1)) (hn : (i : Nat) < mN M) (hk : lvK lv (i : Nat) = true)
    (k : AtW M Γ Ω σ (pc + 1) (lvS lv (i : Nat) (some (.ref x))) st) : AtW M Γ Ω σ pc lv (.ref x :: st) :=
  fun G H locs ls hP hS hl => lv_astore_n G.1 G.2.1 hd rfl hl hn rfl (fun ls' hl' => k G H locs ls' hP hS (lvH_set hl' hk))
theorem r_astore {i : Nat} {x : Nat} (hd : decode (mB M) pc = .ok (.astore i, 2)) (hn : i < mN M) (hk : lvK lv i = true)
    (k : AtW M Γ Ω σ (pc + 2) (lvS lv i (some (.ref x))) st) : AtW M Γ Ω σ pc lv (.ref x :: st) :=
  fun G H locs ls hP hS hl => lv_astore G.1 G.2.1 hd hl hn rfl (fun ls' hl' => k G H locs ls' hP hS (lvH_set hl' hk))
theorem r_lstore {i : Nat} {x : Int64} (hd : decode (mB M) pc = .ok (.lstore i, 2)) (hn : i + 1 < mN M) (hk : lvK lv i = true)
    (k : AtW M Γ Ω σ (pc + 2) (lvS (lvS lv i (some (.long x))) (i + 1) none) st) : AtW M Γ Ω σ pc lv (.long x :: st) :=
  fun G H locs ls hP hS hl => lv_lstore G.1 G.2.1 hd hl hn rfl (fun ls' hl' => k G H locs ls' hP hS (lvH_set2 hl' hk))
theorem r_iinc {i : Nat} {n : Int} {x : Int32} (v : Int32) (hd : decode (mB M) pc = .ok (.iinc i n, 3)) (hi : lvG lv i = some (.int x)) (hv : x + Int32.ofInt n = v) (hn : i < mN M) (hk : lvK lv i = true)
    (k : AtW M Γ Ω σ (pc + 3) (lvS lv i (some (.int v))) st) : AtW M Γ Ω σ pc lv st := by
  intro G H locs ls hP hS hl
  have hm : (i, Value.int x) ∈ lvZ 0 lv := (lvZ_mem lv 0 (i, .int x)).mpr ⟨i, hi, by omega⟩
  obtain ⟨j, hj⟩ := List.getElem?_of_mem hm
  exact lv_iinc G.1 G.2.1 hd hl hj hv hn rfl (fun ls' hl' => k G H locs ls' hP hS (lvH_set hl' hk))
theorem r_iadd {x y : Int32} (hd : decode (mB M) pc = .ok (.iadd, 1))
    (k : AtW M Γ Ω σ (pc + 1) lv (.int (x + y) :: st)) : AtW M Γ Ω σ pc lv (.int y :: .int x :: st) :=
  fun G H locs ls hP hS hl => lv_iadd G.1 G.2.1 hd (k G H locs ls hP hS hl)
theorem r_isub {x y : Int32} (hd : decode (mB M) pc = .ok (.isub, 1))
    (k : AtW M Γ Ω σ (pc + 1) lv (.int (x - y) :: st)) : AtW M Γ Ω σ pc lv (.int y :: .int x :: st) :=
  fun G H locs ls hP hS hl => lv_isub G.1 G.2.1 hd (k G H locs ls hP hS hl)
theorem r_imul {x y : Int32} (hd : decode (mB M) pc = .ok (.imul, 1))
    (k : AtW M Γ Ω σ (pc + 1) lv (.int (x * y) :: st)) : AtW M Γ Ω σ pc lv (.int y :: .int x :: st) :=
  fun G H locs ls hP hS hl => lv_imul G.1 G.2.1 hd (k G H locs ls hP hS hl)
theorem r_iand {x y : Int32} (hd : decode (mB M) pc = .ok (.iand, 1))
    (k : AtW M Γ Ω σ (pc + 1) lv (.int (x &&& y) :: st)) : AtW M Γ Ω σ pc lv (.int y :: .int x :: st) :=
  fun G H locs ls hP hS hl => lv_iand G.1 G.2.1 hd (k G H locs ls hP hS hl)
theorem r_ior {x y : Int32} (hd : decode (mB M) pc = .ok (.ior, 1))
    (k : AtW M Γ Ω σ (pc + 1) lv (.int (x ||| y) :: st)) : AtW M Γ Ω σ pc lv (.int y :: .int x :: st) :=
  fun G H locs ls hP hS hl => lv_ior G.1 G.2.1 hd (k G H locs ls hP hS hl)
theorem r_ixor {x y : Int32} (hd : decode (mB M) pc = .ok (.ixor, 1))
    (k : AtW M Γ Ω σ (pc + 1) lv (.int (x ^^^ y) :: st)) : AtW M Γ Ω σ pc lv (.int y :: .int x :: st) :=
  fun G H locs ls hP hS hl => lv_ixor G.1 G.2.1 hd (k G H locs ls hP hS hl)
theorem r_ishl {x y : Int32} (hd : decode (mB M) pc = .ok (.ishl, 1))
    (k : AtW M Γ Ω σ (pc + 1) lv (.int (x <<< (y &&& 31)) :: st)) : AtW M Γ Ω σ pc lv (.int y :: .int x :: st) :=
  fun G H locs ls hP hS hl => lv_ishl G.1 G.2.1 hd (k G H locs ls hP hS hl)
theorem r_ishr {x y : Int32} (hd : decode (mB M) pc = .ok (.ishr, 1))
    (k : AtW M Γ Ω σ (pc + 1) lv (.int (x >>> (y &&& 31)) :: st)) : AtW M Γ Ω σ pc lv (.int y :: .int x :: st) :=
  fun G H locs ls hP hS hl => lv_ishr G.1 G.2.1 hd (k G H locs ls hP hS hl)
theorem r_iushr {x y : Int32} (hd : decode (mB M) pc = .ok (.iushr, 1))
    (k : AtW M Γ Ω σ (pc + 1) lv (.int ((x.toUInt32 >>> (y.toUInt32 &&& Int32.toUInt32 31)).toInt32) :: st)) : AtW M Γ Ω σ pc lv (.int y :: .int x :: st) :=
  fun G H locs ls hP hS hl => lv_iushr G.1 G.2.1 hd rfl (k G H locs ls hP hS hl)
theorem r_ineg {x : Int32} (hd : decode (mB M) pc = .ok (.ineg, 1))
    (k : AtW M Γ Ω σ (pc + 1) lv (.int (-x) :: st)) : AtW M Γ Ω σ pc lv (.int x :: st) :=
  fun G H locs ls hP hS hl => lv_ineg G.1 G.2.1 hd (k G H locs ls hP hS hl)
theorem r_idiv {x y : Int32} (hd : decode (mB M) pc = .ok (.idiv, 1)) (hy : ¬ y = 0)
    (k : AtW M Γ Ω σ (pc + 1) lv (.int (x / y) :: st)) : AtW M Γ Ω σ pc lv (.int y :: .int x :: st) :=
  fun G H locs ls hP hS hl => lv_idiv G.1 G.2.1 hd hy (k G H locs ls hP hS hl)
theorem r_ladd {x y : Int64} (hd : decode (mB M) pc = .ok (.ladd, 1))
    (k : AtW M Γ Ω σ (pc + 1) lv (.long (x + y) :: st)) : AtW M Γ Ω σ pc lv (.long y :: .long x :: st) :=
  fun G H locs ls hP hS hl => lv_ladd G.1 G.2.1 hd (k G H locs ls hP hS hl)
theorem r_lcmp {x y : Int64} (hd : decode (mB M) pc = .ok (.lcmp, 1))
    (k : AtW M Γ Ω σ (pc + 1) lv (.int (lg_cmp x y) :: st)) : AtW M Γ Ω σ pc lv (.long y :: .long x :: st) :=
  fun G H locs ls hP hS hl => W.lcmp G.1 G.2.1 hd (k G H locs ls hP hS hl)
theorem r_i2l {x : Int32} (hd : decode (mB M) pc = .ok (.i2l, 1))
    (k : AtW M Γ Ω σ (pc + 1) lv (.long x.toInt64 :: st)) : AtW M Γ Ω σ pc lv (.int x :: st) :=
  fun G H locs ls hP hS hl => lv_i2l G.1 G.2.1 hd rfl (k G H locs ls hP hS hl)
theorem r_l2i {x : Int64} (hd : decode (mB M) pc = .ok (.l2i, 1))
    (k : AtW M Γ Ω σ (pc + 1) lv (.int x.toInt32 :: st)) : AtW M Γ Ω σ pc lv (.long x :: st) :=
  fun G H locs ls hP hS hl => lv_l2i G.1 G.2.1 hd rfl (k G H locs ls hP hS hl)
theorem r_i2c {x : Int32} (hd : decode (mB M) pc = .ok (.i2c, 1))
    (k : AtW M Γ Ω σ (pc + 1) lv (.int (x.toUInt32 % 65536).toInt32 :: st)) : AtW M Γ Ω σ pc lv (.int x :: st) :=
  fun G H locs ls hP hS hl => lv_i2c G.1 G.2.1 hd rfl (k G H locs ls hP hS hl)
theorem r_dup {x : Value} (hd : decode (mB M) pc = .ok (.dup, 1)) (hx : x.category = 1)
    (k : AtW M Γ Ω σ (pc + 1) lv (x :: x :: st)) : AtW M Γ Ω σ pc lv (x :: st) :=
  fun G H locs ls hP hS hl => lv_dup G.1 G.2.1 hd hx (k G H locs ls hP hS hl)
theorem r_pop {x : Value} (hd : decode (mB M) pc = .ok (.pop, 1)) (hx : x.category = 1)
    (k : AtW M Γ Ω σ (pc + 1) lv (st)) : AtW M Γ Ω σ pc lv (x :: st) :=
  fun G H locs ls hP hS hl => lv_pop G.1 G.2.1 hd hx (k G H locs ls hP hS hl)
theorem r_dup2 {x y : Value} (hd : decode (mB M) pc = .ok (.dup2, 1)) (hx : x.category = 1) (hy : y.category = 1)
    (k : AtW M Γ Ω σ (pc + 1) lv (x :: y :: x :: y :: st)) : AtW M Γ Ω σ pc lv (x :: y :: st) :=
  fun G H locs ls hP hS hl => lv_dup2_11 G.1 G.2.1 hd hx hy (k G H locs ls hP hS hl)
theorem r_ldcw {index : Nat} (v : Int32) (hd : decode (mB M) pc = .ok (.ldc_w index, 3)) (hw : Jvm.Cond.constant (mO M) index v ∈ mW M)
    (k : AtW M Γ Ω σ (pc + 3) lv (.int v :: st)) : AtW M Γ Ω σ pc lv (st) :=
  fun G H locs ls hP hS hl => lv_ldcw G.1 G.2.1 G.2.2.2.1 (G.2.2.2.2.1 _ hw) hd (k G H locs ls hP hS hl)
theorem r_goto {off : Int} (tgt : Nat) (hd : decode (mB M) pc = .ok (.goto off, 3)) (ht : (pc : Int) + off = (tgt : Int)) (k : AtW M Γ Ω σ tgt lv st) : AtW M Γ Ω σ pc lv st :=
  fun G H locs ls hP hS hl => lv_goto G.1 G.2.1 hd ht (k G H locs ls hP hS hl)
theorem r_if_eq {x : Int32} {off : Int} (tgt : Nat) (hd : decode (mB M) pc = .ok (.ifCond .eq off, 3)) (ht : (pc : Int) + off = (tgt : Int))
    (kt : x = 0 → AtW M Γ Ω σ tgt lv st) (kf : ¬ x = 0 → AtW M Γ Ω σ (pc + 3) lv st) : AtW M Γ Ω σ pc lv (.int x :: st) :=
  fun G H locs ls hP hS hl => lv_if_eq G.1 G.2.1 hd ht (fun q => kt q G H locs ls hP hS hl) (fun q => kf q G H locs ls hP hS hl)
theorem r_icmp_eq {x y : Int32} {off : Int} (tgt : Nat) (hd : decode (mB M) pc = .ok (.if_icmp .eq off, 3)) (ht : (pc : Int) + off = (tgt : Int))
    (kt : x = y → AtW M Γ Ω σ tgt lv st) (kf : ¬ x = y → AtW M Γ Ω σ (pc + 3) lv st) : AtW M Γ Ω σ pc lv (.int y :: .int x :: st) :=
  fun G H locs ls hP hS hl => lv_icmp_eq G.1 G.2.1 hd ht (fun q => kt q G H locs ls hP hS hl) (fun q => kf q G H locs ls hP hS hl)
theorem r_if_ne {x : Int32} {off : Int} (tgt : Nat) (hd : decode (mB M) pc = .ok (.ifCond .ne off, 3)) (ht : (pc : Int) + off = (tgt : Int))
    (kt : ¬ x = 0 → AtW M Γ Ω σ tgt lv st) (kf : x = 0 → AtW M Γ Ω σ (pc + 3) lv st) : AtW M Γ Ω σ pc lv (.int x :: st) :=
  fun G H locs ls hP hS hl => lv_if_ne G.1 G.2.1 hd ht (fun q => kt q G H locs ls hP hS hl) (fun q => kf q G H locs ls hP hS hl)
theorem r_icmp_ne {x y : Int32} {off : Int} (tgt : Nat) (hd : decode (mB M) pc = .ok (.if_icmp .ne off, 3)) (ht : (pc : Int) + off = (tgt : Int))
    (kt : ¬ x = y → AtW M Γ Ω σ tgt lv st) (kf : x = y → AtW M Γ Ω σ (pc + 3) lv st) : AtW M Γ Ω σ pc lv (.int y :: .int x :: st) :=
  fun G H locs ls hP hS hl => lv_icmp_ne G.1 G.2.1 hd ht (fun q => kt q G H locs ls hP hS hl) (fun q => kf q G H locs ls hP hS hl)
theorem r_if_lt {x : Int32} {off : Int} (tgt : Nat) (hd : decode (mB M) pc = .ok (.ifCond .lt off, 3)) (ht : (pc : Int) + off = (tgt : Int))
    (kt : x < 0 → AtW M Γ Ω σ tgt lv st) (kf : ¬ x < 0 → AtW M Γ Ω σ (pc + 3) lv st) : AtW M Γ Ω σ pc lv (.int x :: st) :=
  fun G H locs ls hP hS hl => lv_if_lt G.1 G.2.1 hd ht (fun q => kt q G H locs ls hP hS hl) (fun q => kf q G H locs ls hP hS hl)
theorem r_icmp_lt {x y : Int32} {off : Int} (tgt : Nat) (hd : decode (mB M) pc = .ok (.if_icmp .lt off, 3)) (ht : (pc : Int) + off = (tgt : Int))
    (kt : x < y → AtW M Γ Ω σ tgt lv st) (kf : ¬ x < y → AtW M Γ Ω σ (pc + 3) lv st) : AtW M Γ Ω σ pc lv (.int y :: .int x :: st) :=
  fun G H locs ls hP hS hl => lv_icmp_lt G.1 G.2.1 hd ht (fun q => kt q G H locs ls hP hS hl) (fun q => kf q G H locs ls hP hS hl)
theorem r_if_ge {x : Int32} {off : Int} (tgt : Nat) (hd : decode (mB M) pc = .ok (.ifCond .ge off, 3)) (ht : (pc : Int) + off = (tgt : Int))
    (kt : 0 ≤ x → AtW M Γ Ω σ tgt lv st) (kf : ¬ 0 ≤ x → AtW M Γ Ω σ (pc + 3) lv st) : AtW M Γ Ω σ pc lv (.int x :: st) :=
  fun G H locs ls hP hS hl => lv_if_ge G.1 G.2.1 hd ht (fun q => kt q G H locs ls hP hS hl) (fun q => kf q G H locs ls hP hS hl)
theorem r_icmp_ge {x y : Int32} {off : Int} (tgt : Nat) (hd : decode (mB M) pc = .ok (.if_icmp .ge off, 3)) (ht : (pc : Int) + off = (tgt : Int))
    (kt : y ≤ x → AtW M Γ Ω σ tgt lv st) (kf : ¬ y ≤ x → AtW M Γ Ω σ (pc + 3) lv st) : AtW M Γ Ω σ pc lv (.int y :: .int x :: st) :=
  fun G H locs ls hP hS hl => lv_icmp_ge G.1 G.2.1 hd ht (fun q => kt q G H locs ls hP hS hl) (fun q => kf q G H locs ls hP hS hl)
theorem r_if_gt {x : Int32} {off : Int} (tgt : Nat) (hd : decode (mB M) pc = .ok (.ifCond .gt off, 3)) (ht : (pc : Int) + off = (tgt : Int))
    (kt : 0 < x → AtW M Γ Ω σ tgt lv st) (kf : ¬ 0 < x → AtW M Γ Ω σ (pc + 3) lv st) : AtW M Γ Ω σ pc lv (.int x :: st) :=
  fun G H locs ls hP hS hl => lv_if_gt G.1 G.2.1 hd ht (fun q => kt q G H locs ls hP hS hl) (fun q => kf q G H locs ls hP hS hl)
theorem r_icmp_gt {x y : Int32} {off : Int} (tgt : Nat) (hd : decode (mB M) pc = .ok (.if_icmp .gt off, 3)) (ht : (pc : Int) + off = (tgt : Int))
    (kt : y < x → AtW M Γ Ω σ tgt lv st) (kf : ¬ y < x → AtW M Γ Ω σ (pc + 3) lv st) : AtW M Γ Ω σ pc lv (.int y :: .int x :: st) :=
  fun G H locs ls hP hS hl => lv_icmp_gt G.1 G.2.1 hd ht (fun q => kt q G H locs ls hP hS hl) (fun q => kf q G H locs ls hP hS hl)
theorem r_if_le {x : Int32} {off : Int} (tgt : Nat) (hd : decode (mB M) pc = .ok (.ifCond .le off, 3)) (ht : (pc : Int) + off = (tgt : Int))
    (kt : x ≤ 0 → AtW M Γ Ω σ tgt lv st) (kf : ¬ x ≤ 0 → AtW M Γ Ω σ (pc + 3) lv st) : AtW M Γ Ω σ pc lv (.int x :: st) :=
  fun G H locs ls hP hS hl => lv_if_le G.1 G.2.1 hd ht (fun q => kt q G H locs ls hP hS hl) (fun q => kf q G H locs ls hP hS hl)
theorem r_icmp_le {x y : Int32} {off : Int} (tgt : Nat) (hd : decode (mB M) pc = .ok (.if_icmp .le off, 3)) (ht : (pc : Int) + off = (tgt : Int))
    (kt : x ≤ y → AtW M Γ Ω σ tgt lv st) (kf : ¬ x ≤ y → AtW M Γ Ω σ (pc + 3) lv st) : AtW M Γ Ω σ pc lv (.int y :: .int x :: st) :=
  fun G H locs ls hP hS hl => lv_icmp_le G.1 G.2.1 hd ht (fun q => kt q G H locs ls hP hS hl) (fun q => kf q G H locs ls hP hS hl)
theorem r_lookup {dflt : Int} {ps : Array (Int × Int)} {len : Nat} {x : Int32} (off : Int) (tgt : Nat) (hd : decode (mB M) pc = .ok (.lookupswitch dflt ps, len)) (hp : (ps.toList.zip (ps.toList.drop 1)).all (fun (a, next) => a.1 < next.1) = true) (ho : Op.lookupswitch.offset ps.toList dflt x.toInt = off) (ht : (pc : Int) + off = (tgt : Int))
    (k : AtW M Γ Ω σ tgt lv st) : AtW M Γ Ω σ pc lv (.int x :: st) :=
  fun G H locs ls hP hS hl => lv_lookup G.1 G.2.1 hd hp ho ht (k G H locs ls hP hS hl)
theorem r_tableOut {dflt lo hi : Int} {offs : Array Int} {len : Nat} {x : Int32} (tgt : Nat) (hd : decode (mB M) pc = .ok (.tableswitch dflt lo hi offs, len)) (h : x.toInt < lo ∨ hi < x.toInt) (ht : (pc : Int) + dflt = (tgt : Int))
    (k : AtW M Γ Ω σ tgt lv st) : AtW M Γ Ω σ pc lv (.int x :: st) :=
  fun G H locs ls hP hS hl => lv_tableOut G.1 G.2.1 hd h ht (k G H locs ls hP hS hl)
theorem r_tableIn {dflt lo hi : Int} {offs : Array Int} {len : Nat} {x : Int32} (off : Int) (tgt : Nat) (hd : decode (mB M) pc = .ok (.tableswitch dflt lo hi offs, len)) (h1 : ¬ x.toInt < lo) (h2 : ¬ hi < x.toInt) (ho : offs[(x.toInt - lo).toNat]? = some off) (ht : (pc : Int) + off = (tgt : Int))
    (k : AtW M Γ Ω σ tgt lv st) : AtW M Γ Ω σ pc lv (.int x :: st) :=
  fun G H locs ls hP hS hl => lv_tableIn G.1 G.2.1 hd h1 h2 ho ht (k G H locs ls hP hS hl)
/-! fields and arrays, by a cell's number -/
theorem r_get {C : String} {T : u_T} {N ci index : Nat} (q0 : Nat) {fs : List Value} (hq : q0 < 381) (he : cel Ω σ q0 = .inr (ci, fs)) (hc : vwCl[ci]? = some (C, T, N)) (k : Nat) (hk : k < N) (hin : ∀ w ∈ u_ws C T N, w ∈ mW M) (hlink : Cond.fieldLink (mO M) index (T k).1 (T k).2.1 (T k).2.2.1 ∈ mW M) {v : Value} (hv : fs[k]? = some v) (hd : decode (mB M) pc = .ok (.getfield index, 3))
    (kk : AtW M Γ Ω σ (pc + 3) lv (v :: st)) : AtW M Γ Ω σ pc lv (.ref (ad Ω q0) :: st) :=
  fun G H locs ls hP hS hl => va_get G.1 G.2.1 G.2.2.2.2.1 hin G.2.2.2.1 G.2.2.2.2.2.1 hP q0 ((CW_get hq).trans (by rw [he])) hc k hk (G.2.2.2.2.1 _ hlink) (fun _ h9 => h9) hv hd (kk G H locs ls hP hS hl)
theorem r_put {C : String} {T : u_T} {N ci index : Nat} (q0 : Nat) {fs : List Value} (hq : q0 < 381) (he : cel Ω σ q0 = .inr (ci, fs)) (hc : vwCl[ci]? = some (C, T, N)) (k : Nat) (hk : k < N) (hin : ∀ w ∈ u_ws C T N, w ∈ mW M) (hlink : Cond.fieldLink (mO M) index (T k).1 (T k).2.1 (T k).2.2.1 ∈ mW M) (ty0 : Nat → FieldType) (hty : ∀ k, k < N → parseFieldDescriptor (T k).2.2.1 = some (ty0 k)) (hnm : ∀ a, a < N → ∀ b, b < N → a ≠ b → (T a).2.1 ≠ (T b).2.1) (hfin : (T k).2.2.2 = false) {ty : FieldType} {x : Int32} (hpd : parseFieldDescriptor (T k).2.2.1 = some ty) (hn : narrow ty (.int x) = .int x) (hfit : fits ty (.int x) = true) (hl0 : k < fs.length)
    (hset : cel Ω (upS σ q0 k x) q0 = .inr (ci, fs.set k (.int x))) (hd : decode (mB M) pc = .ok (.putfield index, 3))
    (kk : AtW M Γ Ω (upS σ q0 k x) (pc + 3) lv st) : AtW M Γ Ω σ pc lv (.int x :: .ref (ad Ω q0) :: st) :=
  fun G H locs ls hP hS hl => va_put G.1 G.2.1 G.2.2.2.2.1 hin ty0 hty hnm G.2.2.2.1 G.2.2.2.2.2.1 hP (CW_D G.2.2.2.2.2.2.1) hS q0 ((CW_get hq).trans (by rw [he])) hc k hk (G.2.2.2.2.1 _ hlink) (fun _ h9 => h9) hfin hpd hn hfit hl0 hd
    (fun H1 locs1 hP1 _ hS1 => kk G H1 locs1 ls (by rw [CW_set (fun j hj => up_ne hj) hset] at hP1; exact hP1) hS1 hl)
theorem r_iald (q0 : Nat) {n : Nat} {f : Nat → Int32} (hq : q0 < 381) (he : cel Ω σ q0 = .inl (Ω.2.1 0, n, .inl f)) {i : Int32} (j : Nat) (hi : i = nI j) (hj : j < n) (hn : n < 500) (hd : decode (mB M) pc = .ok (.iaload, 1))
    (kk : AtW M Γ Ω σ (pc + 1) lv (.int (f j) :: st)) : AtW M Γ Ω σ pc lv (.int i :: .ref (ad Ω q0) :: st) := by
  intro G H locs ls hP hS hl
  subst hi
  refine va_iald G.1 G.2.1 G.2.2.2.2.2.1 hP q0 0 ((CW_get hq).trans (by rw [he])) rfl (vp_in_nI hj (by omega)) hd ?_
  rw [nI_clamp (by omega)]
  exact kk G H locs ls hP hS hl
theorem r_cald {i : Int32} (j : Nat) (hi : i = nI j) (hj : j < 80) (hd : decode (mB M) pc = .ok (.caload, 1))
    (kk : AtW M Γ Ω σ (pc + 1) lv (.int (σ 366 j) :: st)) : AtW M Γ Ω σ pc lv (.int i :: .ref (ad Ω 366) :: st) := by
  intro G H locs ls hP hS hl
  subst hi
  refine va_cald G.1 G.2.1 G.2.2.2.2.2.1 hP 366 3 (f := σ 366) (n := 80) ((CW_get (by omega)).trans rfl) rfl (vp_in_nI hj (by omega)) hd ?_
  rw [nI_clamp (by omega)]
  exact kk G H locs ls hP hS hl
theorem r_iast (q0 : Nat) {n : Nat} (hq : q0 < 381) (he : ∀ σ : Sg, cel Ω σ q0 = .inl (Ω.2.1 0, n, .inl (σ q0))) {i x : Int32} (j : Nat) (hi : i = nI j) (hj : j < n) (hn : n < 500) (hd : decode (mB M) pc = .ok (.iastore, 1))
    (kk : AtW M Γ Ω (upS σ q0 j x) (pc + 1) lv st) : AtW M Γ Ω σ pc lv (.int x :: .int i :: .ref (ad Ω q0) :: st) := by
  intro G H locs ls hP hS hl
  subst hi
  refine va_iast G.1 G.2.1 G.2.2.2.2.2.1 hP (CW_D G.2.2.2.2.2.2.1) hS q0 0 (f := σ q0) ((CW_get hq).trans (by rw [he])) rfl (vp_in_nI hj (by omega)) hd ?_
  rw [nI_clamp (by omega)]
  intro H1 locs1 hP1 _ hS1
  rw [CW_set (σ' := upS σ q0 j x) (fun j hj => up_ne hj) (by rw [he, up_at])] at hP1
  exact kk G H1 locs1 ls hP1 hS1 hl
theorem r_cast {i x : Int32} (j : Nat) (hi : i = nI j) (hj : j < 80) (hx : vp_nar .char x = x) (hd : decode (mB M) pc = .ok (.castore, 1))
    (kk : AtW M Γ Ω (upS σ 366 j x) (pc + 1) lv st) : AtW M Γ Ω σ pc lv (.int x :: .int i :: .ref (ad Ω 366) :: st) := by
  intro G H locs ls hP hS hl
  subst hi
  refine va_cast G.1 G.2.1 G.2.2.2.2.2.1 hP (CW_D G.2.2.2.2.2.2.1) hS 366 3 (f := σ 366) (n := 80) ((CW_get (by omega)).trans rfl) rfl (vp_in_nI hj (by omega)) hd ?_
  rw [nI_clamp (by omega), hx]
  intro H1 locs1 hP1 _ hS1
  rw [CW_set (σ' := upS σ 366 j x) (fun j hj => up_ne hj) (by show Sum.inl _ = _; rw [up_at])] at hP1
  exact kk G H1 locs1 ls hP1 hS1 hl
/-- a box of a space -/
theorem r_aaldB {i : Int32} (s : Nat) (hs : s < 7) (j : Nat) (hi : i = nI j) (hj : j < 16) (hd : decode (mB M) pc = .ok (.aaload, 1))
    (kk : AtW M Γ Ω σ (pc + 1) lv (.ref (ad Ω (iBo (bx s j))) :: st)) : AtW M Γ Ω σ pc lv (.int i :: .ref (ad Ω (iA s)) :: st) := by
  intro G H locs ls hP hS hl
  subst hi
  refine va_aldq G.1 G.2.1 G.2.2.2.2.2.1 hP (iA s) 1 (C := RX0) (n := 16) (f := fun i => some (ad Ω (iBo (bx s i)))) ((CW_get (by unfold iA; omega)).trans (by rw [cel_spA hs])) rfl (vp_in_nI hj (by omega)) hd ?_
  rw [nI_clamp (by omega)]
  exact kk G H locs ls hP hS hl
/-- a state of the history -/
theorem r_aaldS {i : Int32} (j : Nat) (hi : i = nI j) (hj : j < 4) (hd : decode (mB M) pc = .ok (.aaload, 1))
    (kk : AtW M Γ Ω σ (pc + 1) lv (.ref (ad Ω (iS (σ 364 j).toNatClampNeg)) :: st)) : AtW M Γ Ω σ pc lv (.int i :: .ref (ad Ω 364) :: st) := by
  intro G H locs ls hP hS hl
  subst hi
  refine va_aldq G.1 G.2.1 G.2.2.2.2.2.1 hP 364 2 (C := RX3) (n := 4) (f := fun i => some (ad Ω (iS (σ 364 i).toNatClampNeg))) ((CW_get (by omega)).trans rfl) rfl (vp_in_nI hj (by omega)) hd ?_
  rw [nI_clamp (by omega)]
  exact kk G H locs ls hP hS hl
theorem r_aastS {i : Int32} (j : Nat) (hi : i = nI j) (hj : j < 4) (s : Nat) (hs : s < 7) (hd : decode (mB M) pc = .ok (.aastore, 1))
    (kk : AtW M Γ Ω (upS σ 364 j (nI s)) (pc + 1) lv st) : AtW M Γ Ω σ pc lv (.ref (ad Ω (iS s)) :: .int i :: .ref (ad Ω 364) :: st) := by
  intro G H locs ls hP hS hl
  subst hi
  refine va_astq G.1 G.2.1 G.2.2.2.2.2.1 hP (CW_D G.2.2.2.2.2.2.1) hS 364 2 (iS s) 3 (r := (RX3, TX3, 5)) (n := 4) (f := fun i => some (ad Ω (iS (σ 364 i).toNatClampNeg))) ((CW_get (by omega)).trans rfl) rfl ((CW_get (by unfold iS; omega)).trans (by rw [cel_sp hs])) rfl (vp_in_nI hj (by omega)) hd ?_
  rw [nI_clamp (by omega)]
  intro H1 locs1 hP1 _ hS1
  rw [CW_set (σ' := upS σ 364 j (nI s)) (fun j hj => up_ne hj) (by
    show Sum.inl _ = _
    rw [up_at]
    congr 7
    funext i
    unfold upd va_up
    by_cases h : i = j
    · simp only [h, if_true]
      rw [nI_clamp (by omega)]
    · simp only [h, if_false])] at hP1
  exact kk G H1 locs1 ls hP1 hS1 hl
theorem r_alenI (q0 : Nat) {n : Nat} {f : Nat → Int32} (hq : q0 < 381) (he : cel Ω σ q0 = .inl (Ω.2.1 0, n, .inl f)) (hd : decode (mB M) pc = .ok (.arraylength, 1))
    (kk : AtW M Γ Ω σ (pc + 1) lv (.int (nI n) :: st)) : AtW M Γ Ω σ pc lv (.ref (ad Ω q0) :: st) :=
  fun G H locs ls hP hS hl => va_alen G.1 G.2.1 G.2.2.2.2.2.1 hP q0 0 ((CW_get hq).trans (by rw [he])) (x := (n, .inl f)) (ty := .int) rfl rfl hd (kk G H locs ls hP hS hl)
end ROWS
/-! contracts -/
def Wpre (Ω : Om) (σ : Sg) (sz : Nat) (U : State) : Prop := U.heap.size = sz ∧ va_P Ω.1 vwCl (CW Ω σ) U.heap ∧ va_K Ω.1 vwCl (tysO Ω) U ∧ va_D (fun _ => True) (CW Ω Sz0)
def Qd (Ω : Om) (post : Option Value → Sg → Prop) (A : Nat → Prop) : Array Value → State → Outcome → State → Prop := fun _ st oc t => (∃ (rv : Option Value) (σ' : Sg), oc = .returned rv ∧ post rv σ' ∧ va_P Ω.1 vwCl (CW Ω σ') t.heap) ∧ va_F A st t
def aW (Ω : Om) (sz : Nat) : Nat → Prop := va_A (CW Ω Sz0) sz
/-- a method's contract: from the world at σ it returns, and 'post answer σ'' -/
def CtW (l : Launch) (y : MethodName) (ws : List Cond) (rm : Room) (Ω : Om) (av : List Value) (σ : Sg) (post : Option Value → Sg → Prop) : Prop := ∀ sz, Met l y ws rm (va_Pc av (Wpre Ω σ sz)) (Qd Ω post (aW Ω sz)) 0 0 (aW Ω sz)
def RetOk (Γ : GmW) (Ω : Om) (post : Option Value → Sg → Prop) : Prop := gQ Γ = MQ (gB Γ) (Qd Ω post (gA Γ)) (gAr Γ) (gSt Γ) (gN Γ).1 (gN Γ).2 (gA Γ)
theorem ct_intro {l : Launch} {y : MethodName} {ws ws' : List Cond} {rm : Room} {Ω : Om} {av : List Value} {σ : Sg} {post : Option Value → Sg → Prop} {cc : ByteArray} {maxL : Nat} {rt : Option FieldType} (lv0 : List (Option Value))
    (hy : plainName y.cls = true) (hw : ws = .code y cc maxL rt :: ws') (hlv : lvZ 0 lv0 = lv_args 0 av) (hlen : (lg_sl av).length ≤ maxL)
    (body : ∀ Γ : GmW, gL Γ = l → RetOk Γ Ω post → AtW (cc, y.cls, ws, maxL, rm, rt) Γ Ω σ 0 lv0 []) : CtW l y ws rm Ω av σ post := by
  intro sz
  refine Met.ofW (cc := cc) (maxL := maxL) (ret := rt) hy hw ?_
  intro p e s m args below meth c s₁ B hml hv
  obtain ⟨rfl, hsz, hP, hK, hD⟩ := hv
  subst hsz
  rw [lg_entry_eq]
  have hl := lv_entry av hlen
  have h := body (p, l, e, s, m, av.toArray, below, meth, c, MQ below (Qd Ω post (aW Ω s.heap.size)) av.toArray s 0 0 (aW Ω s.heap.size), (0, 0), aW Ω s.heap.size) rfl rfl
  refine h ⟨B.exec, B.bytes, hml, findClass_of_methodNamed B.named, atoms_spec B.pre, hK, hD.self, fun q hq => Or.inr hq, B.returns, B.notSynchronized, Nat.zero_le _, Nat.zero_le _⟩ s.heap [] _ hP va_S.rf ?_
  show lv_has _ _ (lvZ 0 lv0)
  rw [hlv]
  exact hl
section RETS
variable {M : MI} {Γ : GmW} {Ω : Om} {σ : Sg} {pc : Nat} {lv : List (Option Value)} {post : Option Value → Sg → Prop}
theorem r_iret {x : Int32} (hQ : RetOk Γ Ω post) (hT : mT M = some .int) (hd : decode (mB M) pc = .ok (.ireturn, 1)) (hp : post (some (.int x)) σ) : AtW M Γ Ω σ pc lv [.int x] := by
  intro G H locs ls hP hS hl
  rw [hQ]
  exact W.iret G.1 G.2.1 (by rw [← hT]; exact G.2.2.2.2.2.2.2.2.1) (fun t ht _ => ⟨⟨_, σ, rfl, hp, by rw [ht]; exact hP⟩, hS.F ht⟩) hS.2.2 hd G.2.2.2.2.2.2.2.2.2.1
theorem r_zret {x : Int32} (hQ : RetOk Γ Ω post) (hT : mT M = some .boolean) (hx : x = 0 ∨ x = 1) (hd : decode (mB M) pc = .ok (.ireturn, 1)) (hp : post (some (.int x)) σ) : AtW M Γ Ω σ pc lv [.int x] := by
  intro G H locs ls hP hS hl
  rw [hQ]
  exact W.zret G.1 G.2.1 (by rw [← hT]; exact G.2.2.2.2.2.2.2.2.1) (by rcases hx with rfl | rfl <;> rfl) (fun t ht _ => ⟨⟨_, σ, rfl, hp, by rw [ht]; exact hP⟩, hS.F ht⟩) hS.2.2 hd G.2.2.2.2.2.2.2.2.2.1
theorem r_cret {x : Int32} (hQ : RetOk Γ Ω post) (hT : mT M = some .char) (hx : narrow .char (.int x) = .int x) (hd : decode (mB M) pc = .ok (.ireturn, 1)) (hp : post (some (.int x)) σ) : AtW M Γ Ω σ pc lv [.int x] := by
  intro G H locs ls hP hS hl
  rw [hQ]
  exact W.zret G.1 G.2.1 (by rw [← hT]; exact G.2.2.2.2.2.2.2.2.1) hx (fun t ht _ => ⟨⟨_, σ, rfl, hp, by rw [ht]; exact hP⟩, hS.F ht⟩) hS.2.2 hd G.2.2.2.2.2.2.2.2.2.1
theorem r_aret {a : Nat} {C : String} (hQ : RetOk Γ Ω post) (hT : mT M = some (.object C)) (hd : decode (mB M) pc = .ok (.areturn, 1)) (hp : post (some (.ref a)) σ) : AtW M Γ Ω σ pc lv [.ref a] := by
  intro G H locs ls hP hS hl
  rw [hQ]
  exact W.aret G.1 G.2.1 (by rw [← hT]; exact G.2.2.2.2.2.2.2.2.1) (Or.inl ⟨_, rfl⟩) (Or.inr ⟨_, rfl⟩) (fun t ht _ => ⟨⟨_, σ, rfl, hp, by rw [ht]; exact hP⟩, hS.F ht⟩) hS.2.2 hd G.2.2.2.2.2.2.2.2.2.1
theorem r_vret (hQ : RetOk Γ Ω post) (hT : mT M = none) (hd : decode (mB M) pc = .ok (.return_, 1)) (hp : post none σ) : AtW M Γ Ω σ pc lv [] := by
  intro G H locs ls hP hS hl
  rw [hQ]
  exact W.vret G.1 G.2.1 (by rw [← hT]; exact G.2.2.2.2.2.2.2.2.1) (fun t ht _ => ⟨⟨_, σ, rfl, hp, by rw [ht]; exact hP⟩, hS.F ht⟩) hS.2.2 hd G.2.2.2.2.2.2.2.2.2.1
end RETS
/-! calls -/
theorem va_callC {p : Program} {l : Launch} {e : Env} {R : Room} {s : State} {m : MethodId} {args : Array Value} {below : List Frame} {meth : Method} {c : Code} {H : Heap} {locs : List Loc} {cells slots : Nat} {Q : State → Prop}
    {pc : Nat} {ls : Array Slot} {rest st0 : List Value} {a : Array Value} {A0 A1 : Nat → Prop} {H0 : Heap} {free : Addr → Prop} {Ω : Om} {post : Option Value → Sg → Prop}
    (hr : va_Run p l e R s m args below meth c H locs cells slots 0 0 (F0 m pc ls st0) rest (Qd Ω post A1 a) free) (hS : va_S A0 H0 H locs) (hA : ∀ q, q < H.size → A1 q → A0 q) (hf : ∀ q, free q → A0 q)
    (kk : ∀ (rv : Option Value) (σ' : Sg) (H1 : Heap) (locs1 : List Loc), post rv σ' → va_P Ω.1 vwCl (CW Ω σ') H1 → va_S A0 H0 H1 locs1 → W p l e R s m args below meth c H1 locs1 cells slots Q (F0 m (pc + 3) ls (rv.toList ++ rest))) : W p l e R s m args below meth c H locs cells slots Q (F0 m pc ls st0) := by
  intro T hT X
  obtain ⟨v, st₀, t, T', L, h0, X', hL, e1, e2, ⟨⟨rv, σ', hv, hp, hb⟩, hz, hk⟩, st⟩ := hr T hT X
  cases hv
  rw [h0] at hz hk
  obtain ⟨t2, a1, b1⟩ := kk v σ' T'.heap (locs ++ L) hp (by rw [e1]; exact hb)
    ⟨Nat.le_trans hS.1 (by rw [e1]; exact hz), fun q h1 h2 => by rw [e1, hk q (Nat.lt_of_lt_of_le h1 hS.1) (fun z => h2 (hA q (Nat.lt_of_lt_of_le h1 hS.1) z))]; exact hS.2.1 q h1 h2, fun q hq => by
      rcases List.mem_append.mp hq with h | h
      · exact hS.2.2 q h
      · exact hf _ (hL q h)⟩ T' rfl X'
  exact ⟨t2, st t2 a1, b1⟩
theorem aW_sub {Γ : GmW} {M : MI} {Ω : Om} {H : Heap} {locs : List Loc} (G : GdW M Γ Ω) (hS : va_S (gA Γ) (gSt Γ).heap H locs) : ∀ q, aW Ω H.size q → gA Γ q := by
  intro q h
  rcases h with ⟨k, e, h⟩ | h
  · exact G.2.2.2.2.2.2.1.2 k (q, e) h
  · exact G.2.2.2.2.2.2.2.1 q (Nat.le_trans hS.1 h)
theorem blindW {av : List Value} {Ω : Om} {σ : Sg} {sz : Nat} : FrameBlind (va_Pc av (Wpre Ω σ sz)) := by
  intro a U g mk q
  obtain ⟨h0, h1, h2, h3, h4⟩ := q
  exact ⟨h0, h1, h2, va_K.moved (u := U) (U := U.calling g mk a) (Vm.Alike.refl U.vm) h3, h4⟩
/-- what a call needs of the tables and the room, for a virtual and for a static one -/
def CoV (M : MI) (index : Nat) (C : String) (y : MethodName) (ws : List Cond) (rm : Room) (n : Nat) : Prop :=
  ∃ cc maxL rt ws', GoodIn (mW M) (wsV (mO M) index C y ws) ∧ ws = .code y cc maxL rt :: ws' ∧ (y.cls = C ∧ y.cls ≠ "java/lang/invoke/MethodHandle" ∧ y.cls ≠ "java/lang/invoke/VarHandle" ∧ (parseMethodDescriptor y.desc).map (fun d => d.parameters.length) = some n) ∧ (rm.frames + 1 ≤ (mR M).frames ∧ 8 + (maxL + 11) + rm.locals ≤ (mR M).locals) ∧ rm.cells = 0 ∧ rm.slots = 0
def CoS (M : MI) (index : Nat) (y : MethodName) (ws : List Cond) (rm : Room) (n : Nat) : Prop :=
  ∃ cc maxL rt ws', GoodIn (mW M) (va_wsS (mO M) index y ws) ∧ ws = .code y cc maxL rt :: ws' ∧ (y.cls ≠ "java/lang/invoke/MethodHandle" ∧ y.cls ≠ "java/lang/invoke/VarHandle" ∧ (parseMethodDescriptor y.desc).map (fun d => d.parameters.length) = some n) ∧ (rm.frames + 1 ≤ (mR M).frames ∧ 8 + (maxL + 11) + rm.locals ≤ (mR M).locals) ∧ rm.cells = 0 ∧ rm.slots = 0
section CALLS
variable {M : MI} {Γ : GmW} {Ω : Om} {σ : Sg} {pc : Nat} {lv : List (Option Value)} {st : List Value}
theorem r_callV {l : Launch} {y : MethodName} {ws : List Cond} {rm : Room} {C : String} {index n : Nat} {post : Option Value → Sg → Prop} (q0 : Nat) (As rest : List Value) (hL : gL Γ = l) (hC : CtW l y ws rm Ω (.ref (ad Ω q0) :: As) σ post) (hco : CoV M index C y ws rm n)
    (hq : q0 < 381) (hrecv : ∃ ci fs q, cel Ω σ q0 = .inr (ci, fs) ∧ vwCl[ci]? = some q ∧ q.1 = C) (hn : As.length = n) (hs : st = As.reverse ++ .ref (ad Ω q0) :: rest) (hc : (rest.map fun v => v.category).sum ≤ 8) (hd : decode (mB M) pc = .ok (.invokevirtual index, 3))
    (kk : ∀ (rv : Option Value) (σ' : Sg), post rv σ' → AtW M Γ Ω σ' (pc + 3) lv (rv.toList ++ rest)) : AtW M Γ Ω σ pc lv st := by
  intro G H locs ls hP hS hl
  subst hL
  obtain ⟨cc, maxL, rt, ws', g1, g2, g3, g4, g5, g6⟩ := hco
  obtain ⟨ci, fs, q, e1, e2, e3⟩ := hrecv
  subst hs
  have hrun := va_runV (rest := rest) (As := As) (b := ad Ω q0) (p := gP Γ) (l := gL Γ) (e := gE Γ) (R := mR M) (s := gSt Γ) (m := gM Γ) (args := gAr Γ) (below := gB Γ) (meth := gMe Γ) (c := gC Γ) (H := H) (locs := locs) (cells := (gN Γ).1) (slots := (gN Γ).2) (nL := mN M) (n := n) (bytes := cc) (maxL := maxL) (ret := rt) (g := F0 (gM Γ) pc ls (As.reverse ++ .ref (ad Ω q0) :: rest)) ⟨G.1, G.2.1, G.2.2.1, G.2.2.2.1, G.2.2.2.2.1⟩ (hC H.size) (cwV n G.2.2.2.2.1 g1 g2 g5 g6 g3 g4)
    ⟨blindW, by
      have hr := va_recv G.2.2.2.2.2.1 hP (ci := ci) (q0 := q0) (fs := fs) (a := ad Ω q0) e2 ((CW_get hq).trans (by rw [e1]))
      rw [e3] at hr
      exact hr, fun U hU hW => ⟨rfl, by rw [hU], by rw [hU]; exact hP, va_K.moved hW.alike G.2.2.2.2.2.1, G.2.2.2.2.2.2.1.weaken (fun _ _ _ _ => trivial)⟩⟩ rfl hn hl.1 rfl (lv_room hc) hd ⟨G.2.2.2.2.2.2.2.2.2.2.1, G.2.2.2.2.2.2.2.2.2.2.2⟩
  exact va_callC hrun hS (fun q _ h => aW_sub G hS q h) (aW_sub G hS) (fun rv σ' H1 locs1 h1 h2 h3 => kk rv σ' h1 G H1 locs1 ls h2 h3 hl)
theorem r_callS {l : Launch} {y : MethodName} {ws : List Cond} {rm : Room} {index n : Nat} {post : Option Value → Sg → Prop} (As rest : List Value) (hL : gL Γ = l) (hC : CtW l y ws rm Ω As σ post) (hco : CoS M index y ws rm n)
    (hn : As.length = n) (hs : st = As.reverse ++ rest) (hc : (rest.map fun v => v.category).sum ≤ 8) (hd : decode (mB M) pc = .ok (.invokestatic index, 3))
    (kk : ∀ (rv : Option Value) (σ' : Sg), post rv σ' → AtW M Γ Ω σ' (pc + 3) lv (rv.toList ++ rest)) : AtW M Γ Ω σ pc lv st := by
  intro G H locs ls hP hS hl
  subst hL
  obtain ⟨cc, maxL, rt, ws', g1, g2, g3, g4, g5, g6⟩ := hco
  subst hs
  have hrun := va_runS (rest := rest) (As := As) (p := gP Γ) (l := gL Γ) (e := gE Γ) (R := mR M) (s := gSt Γ) (m := gM Γ) (args := gAr Γ) (below := gB Γ) (meth := gMe Γ) (c := gC Γ) (H := H) (locs := locs) (cells := (gN Γ).1) (slots := (gN Γ).2) (nL := mN M) (n := n) (bytes := cc) (maxL := maxL) (ret := rt) (g := F0 (gM Γ) pc ls (As.reverse ++ rest)) ⟨G.1, G.2.1, G.2.2.1, G.2.2.2.1, G.2.2.2.2.1⟩ (hC H.size) (va_cwS n G.2.2.2.2.1 g1 g2 g5 g6 g3 g4)
    ⟨blindW, fun U hU hW => ⟨rfl, by rw [hU], by rw [hU]; exact hP, va_K.moved hW.alike G.2.2.2.2.2.1, G.2.2.2.2.2.2.1.weaken (fun _ _ _ _ => trivial)⟩⟩ rfl hn hl.1 rfl (lv_room hc) hd ⟨G.2.2.2.2.2.2.2.2.2.2.1, G.2.2.2.2.2.2.2.2.2.2.2⟩
  exact va_callC hrun hS (fun q _ h => aW_sub G hS q h) (aW_sub G hS) (fun rv σ' H1 locs1 h1 h2 h3 => kk rv σ' h1 G H1 locs1 ls h2 h3 hl)
end CALLS
/-! the three kinds of contract: an answer, the world as it was; no answer; an answer and another world -/
def roI (f : Int32) (σ : Sg) : Option Value → Sg → Prop := fun rv σ' => rv = some (.int f) ∧ σ' = σ
def reV (g : Sg → Prop) : Option Value → Sg → Prop := fun rv σ' => rv = none ∧ g σ'
def reJ (g : Int32 → Sg → Prop) : Option Value → Sg → Prop := fun rv σ' => ∃ x : Int32, rv = some (.int x) ∧ g x σ'
theorem roI_of {f x : Int32} {σ : Sg} (h : x = f) : roI f σ (some (.int x)) σ := ⟨by rw [h], rfl⟩
theorem reJ_of {g : Int32 → Sg → Prop} {x : Int32} {σ : Sg} (h : g x σ) : reJ g (some (.int x)) σ := ⟨x, rfl, h⟩
theorem reV_of {g : Sg → Prop} {σ : Sg} (h : g σ) : reV g none σ := ⟨rfl, h⟩
theorem iB_lt {b : Nat} (h : b < 113) : iBo b < 381 := by unfold iBo; omega
theorem iS_lt {s : Nat} (h : s < 7) : iS s < 381 := by unfold iS; omega
theorem iP_lt {p : Nat} (h : p < 2) : iP p < 381 := by unfold iP; omega
theorem iL_lt {b : Nat} (h : b < 113) : iL b < 381 := by unfold iL; omega
theorem iH_lt {b : Nat} (h : b < 113) : iH b < 381 := by unfold iH; omega
theorem iPA_lt {p j : Nat} (h : p < 2) (hj : j < 5) : iP p + j < 381 := by unfold iP; omega
def setA (σ : Sg) (k : Nat) (f : Nat → Int32) : Sg := fun k' => if k' = k then f else σ k'
section KINDS
variable {M : MI} {Γ : GmW} {Ω : Om} {σ : Sg} {pc : Nat} {lv : List (Option Value)} {st : List Value}

theorem r_callVI {l : Launch} {y : MethodName} {ws : List Cond} {rm : Room} {C : String} {index n : Nat} {f : Int32} (q0 : Nat) {As rest : List Value} (hL : gL Γ = l) (hC : CtW l y ws rm Ω (.ref (ad Ω q0) :: As) σ (roI f σ)) (hco : CoV M index C y ws rm n)
    (hq : q0 < 381) (hrecv : ∃ ci fs q, cel Ω σ q0 = .inr (ci, fs) ∧ vwCl[ci]? = some q ∧ q.1 = C) (hn : As.length = n) (hs : st = As.reverse ++ .ref (ad Ω q0) :: rest) (hc : (rest.map fun v => v.category).sum ≤ 8) (hd : decode (mB M) pc = .ok (.invokevirtual index, 3))
    (kk : AtW M Γ Ω σ (pc + 3) lv (.int f :: rest)) : AtW M Γ Ω σ pc lv st := r_callV q0 As rest hL hC hco hq hrecv hn hs hc hd (fun rv σ1 h => by obtain ⟨rfl, rfl⟩ := h; exact kk)
theorem r_callSI {l : Launch} {y : MethodName} {ws : List Cond} {rm : Room} {index n : Nat} {f : Int32} {As rest : List Value} (hL : gL Γ = l) (hC : CtW l y ws rm Ω As σ (roI f σ)) (hco : CoS M index y ws rm n)
    (hn : As.length = n) (hs : st = As.reverse ++ rest) (hc : (rest.map fun v => v.category).sum ≤ 8) (hd : decode (mB M) pc = .ok (.invokestatic index, 3))
    (kk : AtW M Γ Ω σ (pc + 3) lv (.int f :: rest)) : AtW M Γ Ω σ pc lv st := r_callS As rest hL hC hco hn hs hc hd (fun rv σ1 h => by obtain ⟨rfl, rfl⟩ := h; exact kk)
theorem r_callVV {l : Launch} {y : MethodName} {ws : List Cond} {rm : Room} {C : String} {index n : Nat} {g : Sg → Prop} (q0 : Nat) {As rest : List Value} (hL : gL Γ = l) (hC : CtW l y ws rm Ω (.ref (ad Ω q0) :: As) σ (reV g)) (hco : CoV M index C y ws rm n)
    (hq : q0 < 381) (hrecv : ∃ ci fs q, cel Ω σ q0 = .inr (ci, fs) ∧ vwCl[ci]? = some q ∧ q.1 = C) (hn : As.length = n) (hs : st = As.reverse ++ .ref (ad Ω q0) :: rest) (hc : (rest.map fun v => v.category).sum ≤ 8) (hd : decode (mB M) pc = .ok (.invokevirtual index, 3))
    (kk : ∀ σ1 : Sg, g σ1 → AtW M Γ Ω σ1 (pc + 3) lv rest) : AtW M Γ Ω σ pc lv st := r_callV q0 As rest hL hC hco hq hrecv hn hs hc hd (fun rv σ1 h => by obtain ⟨rfl, h⟩ := h; exact kk _ h)
theorem r_callSV {l : Launch} {y : MethodName} {ws : List Cond} {rm : Room} {index n : Nat} {g : Sg → Prop} {As rest : List Value} (hL : gL Γ = l) (hC : CtW l y ws rm Ω As σ (reV g)) (hco : CoS M index y ws rm n)
    (hn : As.length = n) (hs : st = As.reverse ++ rest) (hc : (rest.map fun v => v.category).sum ≤ 8) (hd : decode (mB M) pc = .ok (.invokestatic index, 3))
    (kk : ∀ σ1 : Sg, g σ1 → AtW M Γ Ω σ1 (pc + 3) lv rest) : AtW M Γ Ω σ pc lv st := r_callS As rest hL hC hco hn hs hc hd (fun rv σ1 h => by obtain ⟨rfl, h⟩ := h; exact kk _ h)
theorem r_callVJ {l : Launch} {y : MethodName} {ws : List Cond} {rm : Room} {C : String} {index n : Nat} {g : Int32 → Sg → Prop} (q0 : Nat) {As rest : List Value} (hL : gL Γ = l) (hC : CtW l y ws rm Ω (.ref (ad Ω q0) :: As) σ (reJ g)) (hco : CoV M index C y ws rm n)
    (hq : q0 < 381) (hrecv : ∃ ci fs q, cel Ω σ q0 = .inr (ci, fs) ∧ vwCl[ci]? = some q ∧ q.1 = C) (hn : As.length = n) (hs : st = As.reverse ++ .ref (ad Ω q0) :: rest) (hc : (rest.map fun v => v.category).sum ≤ 8) (hd : decode (mB M) pc = .ok (.invokevirtual index, 3))
    (kk : ∀ (x : Int32) (σ1 : Sg), g x σ1 → AtW M Γ Ω σ1 (pc + 3) lv (.int x :: rest)) : AtW M Γ Ω σ pc lv st := r_callV q0 As rest hL hC hco hq hrecv hn hs hc hd (fun rv σ1 h => by obtain ⟨x, rfl, h⟩ := h; exact kk x _ h)
theorem r_callSJ {l : Launch} {y : MethodName} {ws : List Cond} {rm : Room} {index n : Nat} {g : Int32 → Sg → Prop} {As rest : List Value} (hL : gL Γ = l) (hC : CtW l y ws rm Ω As σ (reJ g)) (hco : CoS M index y ws rm n)
    (hn : As.length = n) (hs : st = As.reverse ++ rest) (hc : (rest.map fun v => v.category).sum ≤ 8) (hd : decode (mB M) pc = .ok (.invokestatic index, 3))
    (kk : ∀ (x : Int32) (σ1 : Sg), g x σ1 → AtW M Γ Ω σ1 (pc + 3) lv (.int x :: rest)) : AtW M Γ Ω σ pc lv st := r_callS As rest hL hC hco hn hs hc hd (fun rv σ1 h => by obtain ⟨x, rfl, h⟩ := h; exact kk x _ h)
theorem r_mmax (index : Nat) (h1 : Cond.methodLink (mO M) index Lib.Math.max.name ∈ mW M) (h2 : Cond.static Lib.Math.max.name ∈ mW M) (h3 : Cond.initialized "java/lang/Math" ∈ mW M) (h4 : Cond.code Lib.Math.max.name Lib.Math.max.code 2 (some .int) ∈ mW M) (h5 : 1 ≤ (mR M).frames) (h6 : (st.map fun v => v.category).sum + 13 ≤ (mR M).locals) {x y : Int32} (hd : decode (mB M) pc = .ok (.invokestatic index, 3))
    (kk : AtW M Γ Ω σ (pc + 3) lv (.int (if x < y then y else x) :: st)) : AtW M Γ Ω σ pc lv (.int y :: .int x :: st) :=
  fun G H locs ls hP hS hl => va_mmax G.1 G.2.1 (G.2.2.1.trans hl.1.symm) G.2.2.2.1 (G.2.2.2.2.1 _ h1) (G.2.2.2.2.1 _ h2) (G.2.2.2.2.1 _ h3) (G.2.2.2.2.1 _ h4) h5 h6 G.2.2.2.2.2.2.2.2.2.2.1 G.2.2.2.2.2.2.2.2.2.2.2 hd (kk G H locs ls hP hS hl)
theorem r_copy (index : Nat) (h1 : Cond.methodLink (mO M) index arraycopyName ∈ mW M) (h2 : Cond.native arraycopyName ∈ mW M) (h3 : Cond.static arraycopyName ∈ mW M) (h4 : Cond.initialized "java/lang/System" ∈ mW M) (q0 q1 n0 n1 n : Nat) (hq0 : q0 < 381) (hq1 : q1 < 381) (he0 : cel Ω σ q0 = .inl (Ω.2.1 0, n0, .inl (σ q0))) (he1 : ∀ σ : Sg, cel Ω σ q1 = .inl (Ω.2.1 0, n1, .inl (σ q1))) (hn0 : n ≤ n0) (hn1 : n ≤ n1) (hn : n < 100)
    (h5 : 1 ≤ (mR M).frames) (h6 : (st.map fun v => v.category).sum + (nativeFrameWords "java/lang/System" "arraycopy" 5 + 11) ≤ (mR M).locals) {z : Int32} (hz : z = nI n) (hd : decode (mB M) pc = .ok (.invokestatic index, 3))
    (kk : AtW M Γ Ω (setA σ q1 (va_cpy (σ q0) (σ q1) 0 0 n)) (pc + 3) lv st) : AtW M Γ Ω σ pc lv (.int z :: .int 0 :: .ref (ad Ω q1) :: .int 0 :: .ref (ad Ω q0) :: st) := by
  intro G H locs ls hP hS hl
  subst hz
  have e0 : (0 : Int32).toNatClampNeg = 0 := rfl
  have en : (nI n).toNatClampNeg = n := nI_clamp (by omega)
  have hn0' : ¬ nI n < 0 := nI_pos (by omega)
  refine va_copyi (ty := .int) G.1 G.2.1 (G.2.2.1.trans hl.1.symm) G.2.2.2.1 (G.2.2.2.2.1 _ h1) (G.2.2.2.2.1 _ h2) (G.2.2.2.2.1 _ h3) (G.2.2.2.2.1 _ h4) G.2.2.2.2.2.1 hP (CW_D G.2.2.2.2.2.2.1) hS q0 q1 0 0 (f := σ q0) (g := σ q1) ((CW_get hq0).trans (by rw [he0])) ((CW_get hq1).trans (by rw [he1])) rfl rfl rfl (by decide) (by decide) hn0' (by rw [e0, en]; omega) (by rw [e0, en]; omega) (fun _ _ => rfl) h5 h6 hd ?_
  intro H1 locs1 hP1 _ hS1
  rw [e0, en, CW_set (σ' := setA σ q1 (va_cpy (σ q0) (σ q1) 0 0 n)) (fun j hj => by simp [setA, hj]) (by rw [he1]; simp [setA])] at hP1
  exact kk G H1 locs1 ls hP1 hS1 hl
end KINDS
end
section
/-! PURE: what the methods answer, in numbers -/
def bI (b : Bool) : Int32 := if b then 1 else 0
theorem bI_t {b : Bool} (h : ¬ bI b = 0) : b = true := by cases b <;> simp_all [bI]
theorem bI_f {b : Bool} (h : bI b = 0) : b = false := by cases b <;> simp_all [bI]
theorem bI_01 (b : Bool) : bI b = 0 ∨ bI b = 1 := by cases b <;> simp [bI]
/-- the first index with p, below n; n without one -/
def ffi (p : Nat → Bool) : Nat → Nat
  | 0 => 0
  | n + 1 => if ffi p n < n then ffi p n else if p n then n else n + 1
theorem ff_none {p : Nat → Bool} : ∀ {n : Nat}, (∀ j, j < n → p j = false) → ffi p n = n
  | 0, _ => rfl
  | n + 1, h => by
    have h1 := ff_none (n := n) (fun j hj => h j (by omega))
    rw [ffi, if_neg (by omega), h n (by omega)]
    rfl
theorem ff_hit {p : Nat → Bool} {k : Nat} (h0 : ∀ j, j < k → p j = false) (hk : p k = true) : ∀ {n : Nat}, k < n → ffi p n = k
  | 0, h => by omega
  | n + 1, h => by
    rw [ffi]
    by_cases e : k = n
    · subst e
      rw [if_neg (by rw [ff_none h0]; omega), if_pos hk]
    · have h1 := ff_hit h0 hk (n := n) (by omega)
      rw [if_pos (by omega), h1]
/-- the first index with p as an int; -1 without one -/
def fI (p : Nat → Bool) (n : Nat) : Int32 := if ffi p n < n then nI (ffi p n) else -1
theorem fI_hit {p : Nat → Bool} {k n : Nat} (h0 : ∀ j, j < k → p j = false) (hk : p k = true) (hn : k < n) : fI p n = nI k := by
  unfold fI
  rw [ff_hit h0 hk hn, if_pos hn]
theorem fI_none {p : Nat → Bool} {n : Nat} (h : ∀ j, j < n → p j = false) : fI p n = -1 := by
  unfold fI
  rw [ff_none h, if_neg (by omega)]
/-- some index below n with p; how many; a sum; the bits -/
def anyb (p : Nat → Bool) : Nat → Bool
  | 0 => false
  | n + 1 => anyb p n || p n
theorem anyb_t {p : Nat → Bool} {k : Nat} (hk : p k = true) : ∀ {n : Nat}, k < n → anyb p n = true
  | 0, h => by omega
  | n + 1, h => by
    rw [anyb]
    by_cases e : k = n
    · subst e
      simp [hk]
    · simp [anyb_t hk (n := n) (by omega)]
theorem anyb_f {p : Nat → Bool} : ∀ {n : Nat}, (∀ j, j < n → p j = false) → anyb p n = false
  | 0, _ => rfl
  | n + 1, h => by rw [anyb, anyb_f (n := n) (fun j hj => h j (by omega)), h n (by omega)]; rfl
def cntI (p : Nat → Bool) : Nat → Int32
  | 0 => 0
  | n + 1 => if p n then cntI p n + 1 else cntI p n
def sumI (f : Nat → Int32) : Nat → Int32
  | 0 => 0
  | n + 1 => sumI f n + f n
def bitI (k : Nat) : Int32 := (1 : Int32) <<< (nI k &&& 31)
def orI (p : Nat → Bool) (f : Nat → Int32) : Nat → Int32
  | 0 => 0
  | n + 1 => if p n then orI p f n ||| f n else orI p f n
def hasB (x : Int32) (k : Nat) : Bool := !decide ((x >>> (nI k &&& 31)) &&& 1 = 0)
/-- a box's ends: low, high -/
abbrev V3 : Type := Nat → Int32
def mtB (l1 h1 l2 h2 : V3) (d : Nat) : Bool := decide (l1 d < h2 d) && decide (l2 d < h1 d)
def md (l1 h1 l2 h2 : V3) (d e : Nat) : Bool := decide (l1 d - h1 e < h2 d - l2 e) && decide (l2 d - h2 e < h1 d - l1 e)
def ctBx (l1 h1 l2 h2 : V3) : Bool := mtB l1 h1 l2 h2 0 && mtB l1 h1 l2 h2 1 && mtB l1 h1 l2 h2 2
def ovB (l1 h1 l2 h2 : V3) : Bool := md l1 h1 l2 h2 0 1 && md l1 h1 l2 h2 0 2 && md l1 h1 l2 h2 1 2
def dhB (l1 h1 l2 h2 : V3) : Int32 := if ovB l1 h1 l2 h2 then fI (fun d => !decide (l1 d < h2 d)) 3 else -1
def beB (l1 h1 l2 h2 : V3) : Bool := mtB l1 h1 l2 h2 0 && mtB l1 h1 l2 h2 1 && !decide (l2 2 < h1 2)
def cvB (l1 h1 : V3) (y : Int32) : Bool := !decide (y < l1 1) && decide (y < h1 1)
/-- a range of add -/
def inRg (from_ size : Int32) : Bool := !decide (from_ < 0) && !decide (31 < from_) && !decide (size < 1) && !decide (12 < size) && !decide (32 < from_ + size)
/-- the longest of the directions 0 .. k -/
def lgd (f : Nat → Int32) : Nat → Nat
  | 0 => 0
  | k + 1 => if f (lgd f k) < f (k + 1) then k + 1 else lgd f k
theorem lgd_le (f : Nat → Int32) : ∀ k, lgd f k ≤ k
  | 0 => Nat.le_refl _
  | k + 1 => by
    rw [lgd]
    have := lgd_le f k
    split <;> omega
/-! the boxes of the world -/
def szB (σ : Sg) (b d : Nat) : Int32 := σ (iH b) d - σ (iL b) d
def voB (σ : Sg) (b : Nat) : Int32 := szB σ b 0 * szB σ b 1 * szB σ b 2
def rwB (σ : Sg) (b : Nat) : Int32 := ((1 : Int32) <<< (szB σ b 0 &&& 31) - 1) <<< (σ (iL b) 0 &&& 31)
/-- box b is as box o was; nothing else of the world changed -/
def bxC (σ' : Sg) (b : Nat) (σ : Sg) (o : Nat) : Prop := σ' (iBo b) 0 = σ (iBo o) 0 ∧ (∀ d, d < 3 → σ' (iL b) d = σ (iL o) d ∧ σ' (iH b) d = σ (iH o) d)
def frB (b : Nat) (σ σ' : Sg) : Prop := ∀ k, k ≠ iBo b → k ≠ iL b → k ≠ iH b → σ' k = σ k
theorem nBL (b c : Nat) : iBo b ≠ iL c := by unfold iBo iL; omega
theorem nBH (b c : Nat) : iBo b ≠ iH c := by unfold iBo iH; omega
theorem nLB (b c : Nat) : iL b ≠ iBo c := by unfold iBo iL; omega
theorem nLH (b c : Nat) : iL b ≠ iH c := by unfold iL iH; omega
theorem nHB (b c : Nat) : iH b ≠ iBo c := by unfold iBo iH; omega
theorem nHL (b c : Nat) : iH b ≠ iL c := by unfold iL iH; omega
theorem bx_lt {s k : Nat} (hs : s < 7) (hk : k < 16) : bx s k < 113 := by unfold bx; omega
def us (x y : Int32) : Int32 := (x.toUInt32 >>> (y.toUInt32 &&& Int32.toUInt32 31)).toInt32
/-- Integer.bitCount, as it is computed -/
def bcI (x : Int32) : Int32 :=
  let v1 := x - (us x 1 &&& 1431655765)
  let v2 := (v1 &&& 858993459) + (us v1 2 &&& 858993459)
  let v3 := (v2 + us v2 4) &&& 252645135
  let v4 := v3 + us v3 8
  let v5 := v4 + us v4 16
  v5 &&& 63
theorem fill_step (σ : Sg) (q k : Nat) (x : Int32) : upS (setA σ q (fun i => if i < k then x else σ q i)) q k x = setA σ q (fun i => if i < k + 1 then x else σ q i) := by
  funext a i
  by_cases ha : a = q
  · subst ha
    simp only [up_get, setA, if_true, true_and]
    by_cases hi : i = k
    · subst hi
      simp
    · by_cases h2 : i < k
      · simp [hi, h2, show i < k + 1 by omega]
      · simp [hi, h2, show ¬ i < k + 1 by omega]
  · simp [up_get, setA, ha]
def wtS (σ : Sg) (s k : Nat) : Int32 := if σ (iS s) 4 = 1 then σ (iL (bx s k)) 0 + σ (iL (bx s k)) 1 + σ (iL (bx s k)) 2 else if σ (iS s) 4 = 2 then voB σ (bx s k) else 0
def grS (σ : Sg) (s u : Nat) : Nat → Int32
  | 0 => 0
  | k + 1 => if beB (σ (iL (bx s k))) (σ (iH (bx s k))) (σ (iL (bx s u))) (σ (iH (bx s u))) then (if grS σ s u k < σ (iH (bx s k)) 2 then σ (iH (bx s k)) 2 else grS σ s u k) else grS σ s u k
theorem nSB (s b : Nat) (hb : b < 113) : iS s ≠ iBo b := by unfold iS iBo; omega
theorem nSL (s b : Nat) (hb : b < 113) : iS s ≠ iL b := by unfold iS iL; omega
theorem nSH (s b : Nat) (hb : b < 113) : iS s ≠ iH b := by unfold iS iH; omega
/-- a cell is none of a space's boxes' -/
def outB (s q : Nat) : Prop := ∀ j, j < 16 → q ≠ iBo (bx s j) ∧ q ≠ iL (bx s j) ∧ q ≠ iH (bx s j)
theorem outB_S (s t : Nat) (hs : s < 7) : outB s (iS t) := fun j hj => ⟨nSB _ _ (bx_lt hs hj), nSL _ _ (bx_lt hs hj), nSH _ _ (bx_lt hs hj)⟩
theorem outB_bx {s t j : Nat} (h : s ≠ t) (hj : j < 16) : outB s (iBo (bx t j)) ∧ outB s (iL (bx t j)) ∧ outB s (iH (bx t j)) := by
  refine ⟨fun i hi => ?_, fun i hi => ?_, fun i hi => ?_⟩ <;> unfold iBo iL iH bx <;> omega
theorem bx_ne {s i j : Nat} (h : i ≠ j) : iBo (bx s i) ≠ iBo (bx s j) ∧ iL (bx s i) ≠ iL (bx s j) ∧ iH (bx s i) ≠ iH (bx s j) := by
  unfold iBo iL iH bx; omega
/-- the space s is as the space t was (n boxes); nothing else of the world changed -/
def spC (σ1 : Sg) (s : Nat) (σ : Sg) (t n : Nat) : Prop := (∀ i, 1 ≤ i → i < 5 → σ1 (iS s) i = σ (iS t) i) ∧ ∀ j, j < n → bxC σ1 (bx s j) σ (bx t j)
def frS (s : Nat) (σ σ1 : Sg) : Prop := ∀ q, q ≠ iS s → outB s q → σ1 q = σ q
theorem bxC_in {σ τ : Sg} {b o : Nat} (h0 : τ (iBo o) = σ (iBo o)) (h1 : τ (iL o) = σ (iL o)) (h2 : τ (iH o) = σ (iH o)) {σ1 : Sg} (h : bxC σ1 b τ o) : bxC σ1 b σ o := by
  refine ⟨h.1.trans (by rw [h0]), fun d hd => ⟨(h.2 d hd).1.trans (by rw [h1]), (h.2 d hd).2.trans (by rw [h2])⟩⟩
theorem bxC_keep {σ τ σ1 : Sg} {b o : Nat} (h : bxC τ b σ o) (h0 : σ1 (iBo b) = τ (iBo b)) (h1 : σ1 (iL b) = τ (iL b)) (h2 : σ1 (iH b) = τ (iH b)) : bxC σ1 b σ o := by
  refine ⟨by rw [h0]; exact h.1, fun d hd => ⟨by rw [h1]; exact (h.2 d hd).1, by rw [h2]; exact (h.2 d hd).2⟩⟩
theorem frB_out {s k : Nat} {τ σ1 : Sg} (hk : k < 16) (g2 : frB (bx s k) τ σ1) {q : Nat} (h : outB s q) : σ1 q = τ q := g2 q (h k hk).1 (h k hk).2.1 (h k hk).2.2
theorem frB_oth {s k j : Nat} {τ σ1 : Sg} (g2 : frB (bx s k) τ σ1) (h : j ≠ k) : σ1 (iBo (bx s j)) = τ (iBo (bx s j)) ∧ σ1 (iL (bx s j)) = τ (iL (bx s j)) ∧ σ1 (iH (bx s j)) = τ (iH (bx s j)) :=
  ⟨g2 _ (bx_ne h).1 (nBL _ _) (nBH _ _), g2 _ (nLB _ _) (bx_ne h).2.1 (nLH _ _), g2 _ (nHB _ _) (nHL _ _) (bx_ne h).2.2⟩
theorem spC_step {s t k : Nat} {σ τ σ1 : Sg} (hs : s < 7) (h7 : t < 7) (hst : s ≠ t) (hk : k < 16) (h : spC τ s σ t k) (h3 : frS s σ τ) (g1 : bxC σ1 (bx s k) τ (bx t k)) (g2 : frB (bx s k) τ σ1) : spC σ1 s σ t (k + 1) ∧ frS s σ σ1 := by
  have ht : ∀ q, outB s q → q ≠ iS s → τ q = σ q := fun q a b => h3 q b a
  have hB := outB_bx (s := s) hst hk
  refine ⟨⟨fun i a b => ?_, fun j hj => ?_⟩, fun q a b => ?_⟩
  · rw [frB_out hk g2 (outB_S s s hs)]
    exact h.1 i a b
  · rcases Nat.lt_or_ge j k with q | q
    · obtain ⟨e1, e2, e3⟩ := frB_oth g2 (show j ≠ k by omega)
      exact bxC_keep (h.2 j q) e1 e2 e3
    · have : j = k := by omega
      subst this
      exact bxC_in (ht _ hB.1 (fun e => nSB s _ (bx_lt h7 hk) e.symm)) (ht _ hB.2.1 (fun e => nSL s _ (bx_lt h7 hk) e.symm)) (ht _ hB.2.2 (fun e => nSH s _ (bx_lt h7 hk) e.symm)) g1
  · rw [frB_out hk g2 b]
    exact h3 q a b
def shPd (σ : Sg) (s u y : Nat) : Nat → Bool := fun j => beB (σ (iL (bx s u))) (σ (iH (bx s u))) (σ (iL (bx s j))) (σ (iH (bx s j))) && cvB (σ (iL (bx s j))) (σ (iH (bx s j))) (nI y)
def shR (σ : Sg) (s u n y : Nat) : Int32 := orI (shPd σ s u y) (fun j => rwB σ (bx s j)) n
theorem copy_head (σ : Sg) {s t : Nat} (h : s ≠ t) : spC (upS (upS (upS (upS σ (iS s) 1 (σ (iS t) 1)) (iS s) 2 (upS σ (iS s) 1 (σ (iS t) 1) (iS t) 2)) (iS s) 3 (upS (upS σ (iS s) 1 (σ (iS t) 1)) (iS s) 2 (upS σ (iS s) 1 (σ (iS t) 1) (iS t) 2) (iS t) 3)) (iS s) 4 (upS (upS (upS σ (iS s) 1 (σ (iS t) 1)) (iS s) 2 (upS σ (iS s) 1 (σ (iS t) 1) (iS t) 2)) (iS s) 3 (upS (upS σ (iS s) 1 (σ (iS t) 1)) (iS s) 2 (upS σ (iS s) 1 (σ (iS t) 1) (iS t) 2) (iS t) 3) (iS t) 4)) s σ t 0 ∧ frS s σ (upS (upS (upS (upS σ (iS s) 1 (σ (iS t) 1)) (iS s) 2 (upS σ (iS s) 1 (σ (iS t) 1) (iS t) 2)) (iS s) 3 (upS (upS σ (iS s) 1 (σ (iS t) 1)) (iS s) 2 (upS σ (iS s) 1 (σ (iS t) 1) (iS t) 2) (iS t) 3)) (iS s) 4 (upS (upS (upS σ (iS s) 1 (σ (iS t) 1)) (iS s) 2 (upS σ (iS s) 1 (σ (iS t) 1) (iS t) 2)) (iS s) 3 (upS (upS σ (iS s) 1 (σ (iS t) 1)) (iS s) 2 (upS σ (iS s) 1 (σ (iS t) 1) (iS t) 2) (iS t) 3) (iS t) 4)) := by
  have hne : iS t ≠ iS s := by unfold iS; omega
  refine ⟨⟨fun i h1 h2 => ?_, fun j hj => absurd hj (by omega)⟩, fun q h1 h2 => ?_⟩
  · obtain rfl | rfl | rfl | rfl : i = 1 ∨ i = 2 ∨ i = 3 ∨ i = 4 := by omega
    all_goals simp [up_get, hne]
  · funext i
    simp [up_get, h1]
def apN (σ : Sg) (s o n : Nat) (x : Int32) (σ1 : Sg) : Prop := x = σ (iS s) 2 ∧ σ1 (iS s) 1 = nI (n + 1) ∧ σ1 (iS s) 2 = σ (iS s) 2 + 1 ∧ (∀ i, i ≠ 1 → i ≠ 2 → σ1 (iS s) i = σ (iS s) i) ∧ σ1 (iBo (bx s n)) 0 = σ (iS s) 2 ∧ (∀ d, d < 3 → σ1 (iL (bx s n)) d = σ (iL o) d ∧ σ1 (iH (bx s n)) d = σ (iH o) d) ∧ ∀ q, q ≠ iS s → q ≠ iBo (bx s n) → q ≠ iL (bx s n) → q ≠ iH (bx s n) → σ1 q = σ q
def apS (σ : Sg) (s o n : Nat) (x : Int32) (σ1 : Sg) : Prop := (n = 16 → x = -3 ∧ σ1 = σ) ∧ (n < 16 → apN σ s o n x σ1)
theorem apS_ok {σ σ1 : Sg} {s o n : Nat} (hs : s < 7) (hn : n < 16) (hc : σ (iS s) 1 = nI n) (h1 : bxC σ1 (bx s n) σ o) (h2 : frB (bx s n) σ σ1) : apS σ s o n ((upS (upS (upS σ1 (iBo (bx s n)) 0 (σ1 (iS s) 2)) (iS s) 1 (upS σ1 (iBo (bx s n)) 0 (σ1 (iS s) 2) (iS s) 1 + 1)) (iS s) 2 (upS (upS σ1 (iBo (bx s n)) 0 (σ1 (iS s) 2)) (iS s) 1 (upS σ1 (iBo (bx s n)) 0 (σ1 (iS s) 2) (iS s) 1 + 1) (iS s) 2 + 1)) (iBo (bx s n)) 0) (upS (upS (upS σ1 (iBo (bx s n)) 0 (σ1 (iS s) 2)) (iS s) 1 (upS σ1 (iBo (bx s n)) 0 (σ1 (iS s) 2) (iS s) 1 + 1)) (iS s) 2 (upS (upS σ1 (iBo (bx s n)) 0 (σ1 (iS s) 2)) (iS s) 1 (upS σ1 (iBo (bx s n)) 0 (σ1 (iS s) 2) (iS s) 1 + 1) (iS s) 2 + 1)) := by
  have hb := bx_lt hs hn
  have eS : σ1 (iS s) = σ (iS s) := h2 _ (nSB _ _ hb) (nSL _ _ hb) (nSH _ _ hb)
  have d1 := nSB s (bx s n) hb
  have d2 := nSL s (bx s n) hb
  have d3 := nSH s (bx s n) hb
  refine ⟨fun h => absurd h (by omega), fun _ => ⟨?_, ?_, ?_, fun i a b => ?_, ?_, fun d hd => ?_, fun q a b c d => ?_⟩⟩
  · simp [up_get, eS, d1.symm]
  · simp [up_get, eS, d1, hc, nI_1]
  · simp [up_get, eS, d1]
  · simp [up_get, eS, a, b, d1]
  · simp [up_get, eS, d1.symm]
  · have := h1.2 d hd
    simp [up_get, this.1, this.2, d2.symm, d3.symm, nLB, nHB]
  · funext i
    simp [up_get, a, b, h2 q b c d]
def mvI (g k j : Nat) : Nat := if g ≤ j ∧ j < k then j + 1 else j
theorem bxC_rfl (σ : Sg) (b : Nat) : bxC σ b σ b := ⟨rfl, fun _ _ => ⟨rfl, rfl⟩⟩
theorem bxC_trans {σ τ υ : Sg} {a b c : Nat} (h1 : bxC υ a τ b) (h2 : bxC τ b σ c) : bxC υ a σ c :=
  ⟨h1.1.trans h2.1, fun d hd => ⟨(h1.2 d hd).1.trans (h2.2 d hd).1, (h1.2 d hd).2.trans (h2.2 d hd).2⟩⟩
def tkI (σ : Sg) (s g k : Nat) (τ : Sg) : Prop := (∀ j, j < 16 → bxC τ (bx s j) σ (bx s (mvI g k j))) ∧ ∀ q, outB s q → τ q = σ q
theorem tkI_0 (σ : Sg) (s g : Nat) : tkI σ s g g σ := by
  refine ⟨fun j _ => ?_, fun _ _ => rfl⟩
  have : mvI g g j = j := by unfold mvI; rw [if_neg (by omega)]
  rw [this]
  exact bxC_rfl σ _
theorem tkI_step {σ τ σ1 : Sg} {s g k : Nat} (hk : k + 1 < 16) (hgk : g ≤ k) (h : tkI σ s g k τ) (g1 : bxC σ1 (bx s k) τ (bx s (k + 1))) (g2 : frB (bx s k) τ σ1) : tkI σ s g (k + 1) σ1 := by
  refine ⟨fun j hj => ?_, fun q hq => (frB_out (by omega) g2 hq).trans (h.2 q hq)⟩
  by_cases e : j = k
  · subst e
    have h1 := h.1 (j + 1) hk
    have e1 : mvI g j (j + 1) = j + 1 := by unfold mvI; rw [if_neg (by omega)]
    have e2 : mvI g (j + 1) j = j + 1 := by unfold mvI; rw [if_pos (by omega)]
    rw [e1] at h1
    rw [e2]
    exact bxC_trans g1 h1
  · have e1 : mvI g (k + 1) j = mvI g k j := by
      unfold mvI
      by_cases c : g ≤ j ∧ j < k
      · rw [if_pos c, if_pos (by omega)]
      · rw [if_neg c, if_neg (by omega)]
    rw [e1]
    obtain ⟨x1, x2, x3⟩ := frB_oth g2 e
    exact bxC_keep (h.1 j hj) x1 x2 x3
def tkS (σ : Sg) (s g n : Nat) (σ1 : Sg) : Prop := σ1 (iS s) 1 = nI (n - 1) ∧ (∀ i, i ≠ 1 → σ1 (iS s) i = σ (iS s) i) ∧ (∀ j, j < 16 → bxC σ1 (bx s j) σ (bx s (mvI g (n - 1) j))) ∧ frS s σ σ1
theorem tkS_ok {σ τ : Sg} {s g n : Nat} (hs : s < 7) (hn : 1 ≤ n) (hc : σ (iS s) 1 = nI n) (h : tkI σ s g (n - 1) τ) : tkS σ s g n (upS τ (iS s) 1 (τ (iS s) 1 - 1)) := by
  have eS : τ (iS s) = σ (iS s) := h.2 _ (outB_S s s hs)
  refine ⟨?_, fun i hi => ?_, fun j hj => ?_, fun q a b => ?_⟩
  · obtain ⟨m, rfl⟩ : ∃ m, n = m + 1 := ⟨n - 1, by omega⟩
    rw [up_get, if_pos ⟨rfl, rfl⟩, eS, hc, nI_pred]
    rfl
  · rw [up_get, if_neg (by simp [hi]), eS]
  · have hb := bx_lt hs hj
    exact bxC_keep (h.1 j hj) (up_ne (nSB _ _ hb).symm) (up_ne (nSL _ _ hb).symm) (up_ne (nSH _ _ hb).symm)
  · rw [up_ne a]
    exact h.2 q b
def cuS (σ : Sg) (s k d : Nat) (x : Int32) (n : Nat) (r : Int32) (σ2 : Sg) : Prop := (n = 16 → r = -3 ∧ σ2 = σ) ∧ (n < 16 → r = σ (iS s) 2 ∧ σ2 (iS s) 1 = nI (n + 1) ∧ σ2 (iS s) 2 = σ (iS s) 2 + 1 ∧ σ2 (iS s) 3 = σ (iS s) 3 + 1 ∧ σ2 (iS s) 4 = σ (iS s) 4 ∧ (∀ j, j < n → σ2 (iBo (bx s j)) 0 = σ (iBo (bx s j)) 0 ∧ ∀ e, e < 3 → σ2 (iL (bx s j)) e = σ (iL (bx s j)) e ∧ σ2 (iH (bx s j)) e = if j = k ∧ e = d then x else σ (iH (bx s j)) e) ∧ σ2 (iBo (bx s n)) 0 = σ (iS s) 2 ∧ (∀ e, e < 3 → σ2 (iL (bx s n)) e = (if e = d then x else σ (iL (bx s k)) e) ∧ σ2 (iH (bx s n)) e = σ (iH (bx s k)) e) ∧ frS s σ σ2)
theorem cuS_ok {σ σ1 : Sg} {s k d n : Nat} {x : Int32} (hs : s < 7) (hn : n < 16) (hk : k < n) (hd : d < 3) (hc : σ (iS s) 1 = nI n) (h : apN σ s (bx s k) n (σ (iS s) 2) σ1) : cuS σ s k d x n (σ (iS s) 2) (upS (upS (upS σ1 (iL (bx s n)) d x) (iH (bx s k)) d x) (iS s) 3 (upS (upS σ1 (iL (bx s n)) d x) (iH (bx s k)) d x (iS s) 3 + 1)) := by
  obtain ⟨-, g1, g2, g3, g4, g5, g6⟩ := h
  have n1 : ∀ b, b < 113 → iS s ≠ iL b := fun b hb => nSL s b hb
  have n2 : ∀ b, b < 113 → iS s ≠ iH b := fun b hb => nSH s b hb
  have n0 : ∀ b, b < 113 → iS s ≠ iBo b := fun b hb => nSB s b hb
  have bn := bx_lt hs (show n < 16 by omega)
  have bk := bx_lt hs (show k < 16 by omega)
  refine ⟨fun q => absurd q (by omega), fun _ => ⟨rfl, ?_, ?_, ?_, ?_, fun j hj => ⟨?_, fun e he => ⟨?_, ?_⟩⟩, ?_, fun e he => ⟨?_, ?_⟩, fun q a b => ?_⟩⟩
  · simp [up_get, n1 _ bn, n2 _ bk, g1]
  · simp [up_get, n1 _ bn, n2 _ bk, g2]
  · simp [up_get, n1 _ bn, n2 _ bk, g3]
  · simp [up_get, n1 _ bn, n2 _ bk, g3]
  · have bj := bx_lt hs (show j < 16 by omega)
    simp [up_get, (n0 _ bj).symm, nBL, nBH]
    rw [g6 _ (n0 _ bj).symm (bx_ne (by omega)).1 (nBL _ _) (nBH _ _)]
  · have bj := bx_lt hs (show j < 16 by omega)
    simp [up_get, (n1 _ bj).symm, (bx_ne (s := s) (show j ≠ n by omega)).2.1, nLH]
    rw [g6 _ (n1 _ bj).symm (nLB _ _) (bx_ne (by omega)).2.1 (nLH _ _)]
  · have bj := bx_lt hs (show j < 16 by omega)
    have hg := g6 (iH (bx s j)) (n2 _ bj).symm (nHB _ _) (nHL _ _) (bx_ne (by omega)).2.2
    by_cases e1 : j = k
    · subst e1
      by_cases e2 : e = d
      · simp [up_get, (n2 _ bj).symm, e2]
      · simp [up_get, (n2 _ bj).symm, e2, nHL, hg]
    · simp [up_get, (n2 _ bj).symm, e1, (bx_ne (s := s) e1).2.2, nHL, hg]
  · simp [up_get, (n0 _ bn).symm, nBL, nBH, g4]
  · have := g5 e he
    by_cases e2 : e = d
    · simp [up_get, (n1 _ bn).symm, e2, nLH]
    · simp [up_get, (n1 _ bn).symm, e2, nLH, this.1]
  · have := g5 e he
    simp [up_get, (n2 _ bn).symm, (bx_ne (s := s) (show n ≠ k by omega)).2.2, nHL, this.2]
  · have h1 := b n (by omega)
    have h2 := b k (by omega)
    rw [up_ne a, up_ne h2.2.2, up_ne h1.2.1]
    exact g6 q a h1.1 h1.2.1 h1.2.2
def qtB (σ τ : Sg) (b : Nat) : Prop := τ (iBo b) = σ (iBo b) ∧ τ (iL b) 0 = 32 - σ (iH b) 1 ∧ τ (iH b) 0 = 32 - σ (iL b) 1 ∧ τ (iL b) 1 = σ (iL b) 0 ∧ τ (iH b) 1 = σ (iH b) 0 ∧ τ (iL b) 2 = σ (iL b) 2 ∧ τ (iH b) 2 = σ (iH b) 2
def qtI (σ : Sg) (s k : Nat) (τ : Sg) : Prop := (∀ j, j < k → qtB σ τ (bx s j)) ∧ (∀ j, k ≤ j → j < 16 → τ (iBo (bx s j)) = σ (iBo (bx s j)) ∧ τ (iL (bx s j)) = σ (iL (bx s j)) ∧ τ (iH (bx s j)) = σ (iH (bx s j))) ∧ ∀ q, outB s q → τ q = σ q
theorem qtI_0 (σ : Sg) (s : Nat) : qtI σ s 0 σ := ⟨fun j hj => absurd hj (by omega), fun _ _ _ => ⟨rfl, rfl, rfl⟩, fun _ _ => rfl⟩
theorem qtI_step {σ τ : Sg} {s k : Nat} (hk : k < 16) (h : qtI σ s k τ) : qtI σ s (k + 1) (upS (upS (upS (upS τ (iL (bx s k)) 0 (32 - τ (iH (bx s k)) 1)) (iH (bx s k)) 0 (32 - upS τ (iL (bx s k)) 0 (32 - τ (iH (bx s k)) 1) (iL (bx s k)) 1)) (iL (bx s k)) 1 (τ (iL (bx s k)) 0)) (iH (bx s k)) 1 (τ (iH (bx s k)) 0)) := by
  obtain ⟨e0, e1, e2⟩ := h.2.1 k (Nat.le_refl _) hk
  refine ⟨fun j hj => ?_, fun j a b => ?_, fun q hq => ?_⟩
  · by_cases e : j = k
    · subst e
      refine ⟨?_, ?_, ?_, ?_, ?_, ?_, ?_⟩
      · funext i
        simp [up_get, nBL, nBH, e0]
      all_goals simp [up_get, nLH, nHL, e1, e2]
    · have := h.1 j (by omega)
      have n1 := (bx_ne (s := s) e)
      have f0 : ∀ υ : Sg, ∀ i v, upS υ (iL (bx s k)) i v (iL (bx s j)) = υ (iL (bx s j)) := fun υ i v => up_ne n1.2.1
      have f1 : ∀ υ : Sg, ∀ i v, upS υ (iH (bx s k)) i v (iH (bx s j)) = υ (iH (bx s j)) := fun υ i v => up_ne n1.2.2
      have f2 : ∀ υ : Sg, ∀ i v, upS υ (iH (bx s k)) i v (iL (bx s j)) = υ (iL (bx s j)) := fun υ i v => up_ne (nLH _ _)
      have f3 : ∀ υ : Sg, ∀ i v, upS υ (iL (bx s k)) i v (iH (bx s j)) = υ (iH (bx s j)) := fun υ i v => up_ne (nHL _ _)
      have f4 : ∀ υ : Sg, ∀ i v, upS υ (iL (bx s k)) i v (iBo (bx s j)) = υ (iBo (bx s j)) := fun υ i v => up_ne (nBL _ _)
      have f5 : ∀ υ : Sg, ∀ i v, upS υ (iH (bx s k)) i v (iBo (bx s j)) = υ (iBo (bx s j)) := fun υ i v => up_ne (nBH _ _)
      unfold qtB
      simp only [f0, f1, f2, f3, f4, f5]
      exact this
  · have := h.2.1 j (by omega) b
    have n1 := (bx_ne (s := s) (show j ≠ k by omega))
    rw [up_ne (nBH _ _), up_ne (nBL _ _), up_ne (nBH _ _), up_ne (nBL _ _), up_ne (nLH _ _), up_ne n1.2.1, up_ne (nLH _ _), up_ne n1.2.1, up_ne n1.2.2, up_ne (nHL _ _), up_ne n1.2.2, up_ne (nHL _ _)]
    exact this
  · have := hq k hk
    rw [up_ne this.2.2, up_ne this.2.1, up_ne this.2.2, up_ne this.2.1]
    exact h.2.2 q hq
/-! pictures: sets of boxes as the bits of an int -/
def oI : Option Nat → Int32
  | none => -1
  | some k => nI k
def hdS (σ : Sg) (s a b : Nat) : Bool := !decide (b = a) && !decide (dhB (σ (iL (bx s a))) (σ (iH (bx s a))) (σ (iL (bx s b))) (σ (iH (bx s b))) = -1)
def hmS (σ : Sg) (s n a : Nat) : Int32 := orI (hdS σ s a) bitI n
def wsR (c : Nat → Int32) (w : Nat) : Nat → (Nat → Int32)
  | 0 => c
  | k + 1 => if hasB (wsR c w k k) w then upd (wsR c w k) k (wsR c w k k ||| wsR c w k w) else wsR c w k
def wsO (c : Nat → Int32) (n : Nat) : Nat → (Nat → Int32)
  | 0 => c
  | w + 1 => wsR (wsO c n w) w n
theorem up_setA (σ : Sg) (q k : Nat) (F : Nat → Int32) (v : Int32) : upS (setA σ q F) q k v = setA σ q (upd F k v) := by
  funext a i
  by_cases h : a = q
  · subst h
    simp [upS, setA]
  · simp [upS, setA, h]
theorem setA_at (σ : Sg) (q : Nat) (F : Nat → Int32) : setA σ q F q = F := by simp [setA]
theorem setA_ne {σ : Sg} {q : Nat} {F : Nat → Int32} {a : Nat} (h : a ≠ q) : setA σ q F a = σ a := by simp [setA, h]
theorem setA_self (σ : Sg) (q : Nat) : setA σ q (σ q) = σ := by
  funext a
  by_cases h : a = q <;> simp [setA, h]
theorem setA_setA (σ : Sg) (q : Nat) (F G : Nat → Int32) : setA (setA σ q F) q G = setA σ q G := by
  funext a
  by_cases h : a = q <;> simp [setA, h]
theorem up_as (σ : Sg) (q k : Nat) (v : Int32) : upS σ q k v = setA σ q (upd (σ q) k v) := rfl
/-- who can be drawn, and the best of them among the first ones -/
def canD (h : Nat → Int32) (db : Int32) (k : Nat) : Bool := !hasB db k && decide (h k &&& (db ^^^ -1) = 0)
def bestO (p : Nat → Bool) (lt : Nat → Nat → Bool) : Nat → Option Nat
  | 0 => none
  | k + 1 => if p k && (match bestO p lt k with | none => true | some b => lt k b) then some k else bestO p lt k
theorem bestO_lt {p : Nat → Bool} {lt : Nat → Nat → Bool} : ∀ {k j : Nat}, bestO p lt k = some j → j < k
  | 0, j, h => by simp [bestO] at h
  | k + 1, j, h => by
    rw [bestO] at h
    by_cases c : (p k && (match bestO p lt k with | none => true | some b => lt k b)) = true
    · rw [if_pos c] at h
      cases h
      omega
    · rw [if_neg c] at h
      have := bestO_lt h
      omega
theorem oI_some {p : Nat → Bool} {lt : Nat → Nat → Bool} {k : Nat} {x : Int32} (hx : x = oI (bestO p lt k)) (h : ¬ x = -1) : ∃ j, j < k ∧ bestO p lt k = some j ∧ x = nI j := by
  cases e : bestO p lt k with
  | none => rw [e] at hx; exact absurd hx h
  | some j => rw [e] at hx; exact ⟨j, bestO_lt e, rfl, hx⟩
theorem oI_none {p : Nat → Bool} {lt : Nat → Nat → Bool} {k : Nat} {x : Int32} (hk : k ≤ 16) (hx : x = oI (bestO p lt k)) (h : x = -1) : bestO p lt k = none := by
  cases e : bestO p lt k with
  | none => rfl
  | some j =>
    rw [e, h] at hx
    have h1 : j < 16 := by have := bestO_lt e; omega
    have h2 : (nI j).toInt = (j : Int) := nI_toInt (by omega)
    have h3 : (-1 : Int32).toInt = -1 := by decide
    have h4 : (-1 : Int32) = nI j := hx
    rw [← h4, h3] at h2
    omega
theorem bestO_yes {p : Nat → Bool} {lt : Nat → Nat → Bool} {k : Nat} (h1 : p k = true) (h2 : bestO p lt k = none ∨ ∃ j, bestO p lt k = some j ∧ lt k j = true) : bestO p lt (k + 1) = some k := by
  rw [bestO]
  rcases h2 with e | ⟨j, e, h⟩ <;> simp [h1, e, *]
theorem bestO_no1 {p : Nat → Bool} {lt : Nat → Nat → Bool} {k : Nat} (h1 : p k = false) : bestO p lt (k + 1) = bestO p lt k := by
  rw [bestO]
  simp [h1]
theorem bestO_no2 {p : Nat → Bool} {lt : Nat → Nat → Bool} {k j : Nat} (e : bestO p lt k = some j) (h : lt k j = false) : bestO p lt (k + 1) = bestO p lt k := by
  rw [bestO]
  simp [e, h]
def nxO (n : Nat) (h wt : Nat → Int32) (db : Int32) : Option Nat := bestO (canD h db) (fun k b => decide (wt k < wt b)) n
def layA (lay : Nat → Int32) (x : Int32) : Nat → Int32
  | 0 => 0
  | k + 1 => if hasB x k then (if layA lay x k < lay k + 1 then lay k + 1 else layA lay x k) else layA lay x k
/-- the drawing after some boxes: those drawn, the order, the layers -/
def drS (n : Nat) (h wt : Nat → Int32) (o0 l0 : Nat → Int32) : Nat → Int32 × (Nat → Int32) × (Nat → Int32)
  | 0 => (0, o0, l0)
  | j + 1 => match nxO n h wt (drS n h wt o0 l0 j).1 with
    | none => drS n h wt o0 l0 j
    | some b => ((drS n h wt o0 l0 j).1 ||| bitI b, upd (drS n h wt o0 l0 j).2.1 j (nI b), upd (drS n h wt o0 l0 j).2.2 b (layA (drS n h wt o0 l0 j).2.2 (h b) n))
def drC (n : Nat) (h wt : Nat → Int32) (o0 l0 : Nat → Int32) : Nat := ffi (fun j => (nxO n h wt (drS n h wt o0 l0 j).1).isNone) n
def glI (lay : Nat → Int32) : Nat → Int32
  | 0 => -5
  | k + 1 => if glI lay k < lay k then lay k else glI lay k
def rchI (h : Nat → Int32) (n k : Nat) : Nat → Int32
  | 0 => h k
  | j + 1 => rchI h n k j ||| orI (hasB (rchI h n k j)) h n
def srO (h : Nat → Int32) (n k : Nat) : Int32 := if ffi (fun j => hasB (rchI h n k j) k) n < n then nI (ffi (fun j => hasB (rchI h n k j) k) n + 1) else -5
def srI (h : Nat → Int32) (n : Nat) : Nat → Int32
  | 0 => -5
  | k + 1 => if srO h n k = -5 then srI h n k else if srI h n k = -5 then srO h n k else if srO h n k < srI h n k then srO h n k else srI h n k
def grO (σ : Sg) (s : Nat) (c : Nat → Int32) (n : Nat) : Option Nat := bestO (fun k => hasB (c k) k) (fun k b => decide (voB σ (bx s b) < voB σ (bx s k))) n
theorem slot_ix {x : Int32} {m : Nat} (h0 : ¬ x < 0) (h1 : x < nI m) (hm : m < 2 ^ 31) : ∃ j : Nat, j < m ∧ x = nI j := by
  rcases pk_ix x hm with h | h | h
  · exact absurd h h0
  · exact absurd h1 (Int32.not_lt.mpr h)
  · exact h
theorem nx_some {n : Nat} {h wt : Nat → Int32} {db : Int32} (hq : ¬ oI (nxO n h wt db) = -1) : ∃ b, b < n ∧ nxO n h wt db = some b := by
  cases e : nxO n h wt db with
  | none => rw [e] at hq; exact absurd rfl hq
  | some b => exact ⟨b, bestO_lt e, rfl⟩
theorem nx_none {n : Nat} {h wt : Nat → Int32} {db : Int32} (hn : n ≤ 16) (hq : oI (nxO n h wt db) = -1) : nxO n h wt db = none := oI_none hn rfl hq
theorem chain_no {σ τ : Sg} {q w k : Nat} {c : Nat → Int32} (h : τ = setA σ q (wsR c w k)) (hb : hasB (τ q k) w = false) : τ = setA σ q (wsR c w (k + 1)) := by
  rw [h, setA_at] at hb
  rw [wsR, if_neg (by simp [hb])]
  exact h
theorem chain_yes {σ τ : Sg} {q w k : Nat} {c : Nat → Int32} (h : τ = setA σ q (wsR c w k)) (hb : hasB (τ q k) w = true) : upS τ q k (τ q k ||| τ q w) = setA σ q (wsR c w (k + 1)) := by
  rw [h, setA_at] at hb
  rw [wsR, if_pos hb, h, setA_at, up_setA]
/-- nothing but some cells of a picture changed -/
def wt_same {σ τ : Sg} {s : Nat} (hs : iS s < 353) (h : ∀ q, q < 353 → τ q = σ q) (hb : ∀ k, k < 16 → iH (bx s k) < 353) : ∀ k, k < 16 → wtS τ s k = wtS σ s k := by
  intro k hk
  have h1 := hb k hk
  have h2 : iL (bx s k) < 353 := by unfold iL; unfold iH at h1; omega
  unfold wtS voB szB
  rw [h _ hs, h _ h2, h _ h1]
theorem wt_eq {σ τ : Sg} {s : Nat} (hs : s < 7) (h : ∀ q, q < 353 → τ q = σ q) {k : Nat} (hk : k < 16) : wtS τ s k = wtS σ s k :=
  wt_same (by unfold iS; omega) h (fun k hk => by unfold iH bx; omega) k hk
theorem bestO_congr {p p' : Nat → Bool} {lt lt' : Nat → Nat → Bool} : ∀ {n : Nat}, (∀ k, k < n → p k = p' k) → (∀ k b, k < n → b < n → lt k b = lt' k b) → bestO p lt n = bestO p' lt' n
  | 0, _, _ => rfl
  | n + 1, h1, h2 => by
    have e := bestO_congr (n := n) (fun k hk => h1 k (by omega)) (fun k b hk hb => h2 k b (by omega) (by omega))
    rw [bestO, bestO, e, h1 n (by omega)]
    cases e2 : bestO p' lt' n with
    | none => rfl
    | some b => simp only [h2 n b (by omega) (by have := bestO_lt e2; omega)]
theorem nxO_congr {n : Nat} {h h' wt wt' : Nat → Int32} {db : Int32} (h1 : ∀ k, k < n → h k = h' k) (h2 : ∀ k, k < n → wt k = wt' k) : nxO n h wt db = nxO n h' wt' db :=
  bestO_congr (fun k hk => by unfold canD; rw [h1 k hk]) (fun k b hk hb => by rw [h2 k hk, h2 b hb])
/-- the drawing's cells of a picture -/
def dwC (n : Nat) (h wt o0 l0 : Nat → Int32) (p : Nat) (σ τ : Sg) (j : Nat) : Prop :=
  τ (iP p) 0 = nI n ∧ τ (iP p) 4 = (drS n h wt o0 l0 j).1 ∧ τ (iP p) 5 = nI j ∧ τ (iP p + 3) = (drS n h wt o0 l0 j).2.1 ∧ τ (iP p + 4) = (drS n h wt o0 l0 j).2.2 ∧ (∀ q, q ≠ iP p → q ≠ iP p + 3 → q ≠ iP p + 4 → τ q = σ q) ∧ ∀ i, i < j → (fun j => (nxO n h wt (drS n h wt o0 l0 j).1).isNone) i = false
theorem dw_step {n : Nat} {h wt o0 l0 : Nat → Int32} {p b j : Nat} {σ τ : Sg} (hh : h = τ (iP p + 1)) (hd : dwC n h wt o0 l0 p σ τ j) (hb : nxO n h wt (τ (iP p) 4) = some b) :
    dwC n h wt o0 l0 p σ (upS (upS (upS (upS τ (iP p + 3) j (nI b)) (iP p + 4) b (layA (upS τ (iP p + 3) j (nI b) (iP p + 4)) (upS τ (iP p + 3) j (nI b) (iP p + 1) b) n)) (iP p) 4 (upS (upS τ (iP p + 3) j (nI b)) (iP p + 4) b (layA (upS τ (iP p + 3) j (nI b) (iP p + 4)) (upS τ (iP p + 3) j (nI b) (iP p + 1) b) n) (iP p) 4 ||| bitI b)) (iP p) 5 (upS (upS (upS τ (iP p + 3) j (nI b)) (iP p + 4) b (layA (upS τ (iP p + 3) j (nI b) (iP p + 4)) (upS τ (iP p + 3) j (nI b) (iP p + 1) b) n)) (iP p) 4 (upS (upS τ (iP p + 3) j (nI b)) (iP p + 4) b (layA (upS τ (iP p + 3) j (nI b) (iP p + 4)) (upS τ (iP p + 3) j (nI b) (iP p + 1) b) n) (iP p) 4 ||| bitI b) (iP p) 5 + 1)) (j + 1) := by
  obtain ⟨d0, d1, d2, d3, d4, d5, d6⟩ := hd
  have a3 : iP p ≠ iP p + 3 := by omega
  have a4 : iP p ≠ iP p + 4 := by omega
  have hb2 : nxO n h wt (drS n h wt o0 l0 j).1 = some b := by rw [← d1]; exact hb
  have eS : drS n h wt o0 l0 (j + 1) = ((drS n h wt o0 l0 j).1 ||| bitI b, upd (drS n h wt o0 l0 j).2.1 j (nI b), upd (drS n h wt o0 l0 j).2.2 b (layA (drS n h wt o0 l0 j).2.2 (h b) n)) := by
    rw [drS, hb2]
  refine ⟨?_, ?_, ?_, ?_, ?_, fun q b1 b2 b3 => ?_, lt_s d6 (by simp [hb2])⟩
  · simp [up_get, d0]
  · rw [eS]
    simp [up_get, d1]
  · simp [up_get, d2, nI_1]
  · rw [eS]
    simp only
    rw [up_ne a3.symm, up_ne a3.symm, up_ne (by omega), up_at, d3]
  · rw [eS]
    simp only
    rw [up_ne a4.symm, up_ne a4.symm, up_at, up_ne (by omega), d4, up_ne (by omega), ← hh]
  · rw [up_ne b1, up_ne b1, up_ne b3, up_ne b2]
    exact d5 q b1 b2 b3
theorem drS_stuck {n : Nat} {h wt o0 l0 : Nat → Int32} {j : Nat} (hj : nxO n h wt (drS n h wt o0 l0 j).1 = none) : ∀ i, drS n h wt o0 l0 (j + i) = drS n h wt o0 l0 j
  | 0 => rfl
  | i + 1 => by
    have e := drS_stuck hj i
    show drS n h wt o0 l0 ((j + i) + 1) = _
    rw [drS, e, hj]
def dwI (σ : Sg) (s p n : Nat) (h wt o0 l0 : Nat → Int32) (σ1 : Sg) : Prop :=
  σ1 (iP p) 0 = nI n ∧ σ1 (iP p) 4 = (drS n h wt o0 l0 n).1 ∧ σ1 (iP p) 5 = nI (drC n h wt o0 l0) ∧ σ1 (iP p + 3) = (drS n h wt o0 l0 n).2.1 ∧ σ1 (iP p + 4) = (drS n h wt o0 l0 n).2.2 ∧ ∀ q, q ≠ iP p → q ≠ iP p + 3 → q ≠ iP p + 4 → σ1 q = σ q
theorem dw_end {n : Nat} {h wt o0 l0 : Nat → Int32} {p s : Nat} {σ τ : Sg} (hd : dwC n h wt o0 l0 p σ τ n) : dwI σ s p n h wt o0 l0 τ := by
  obtain ⟨d0, d1, d2, d3, d4, d5, d6⟩ := hd
  refine ⟨d0, d1, ?_, d3, d4, d5⟩
  rw [drC, ff_none d6]
  exact d2
theorem dw_stop {n : Nat} {h wt o0 l0 : Nat → Int32} {p s j : Nat} {σ τ : Sg} (hj : j < n) (hd : dwC n h wt o0 l0 p σ τ j) (hb : nxO n h wt (τ (iP p) 4) = none) : dwI σ s p n h wt o0 l0 τ := by
  obtain ⟨d0, d1, d2, d3, d4, d5, d6⟩ := hd
  have hb2 : nxO n h wt (drS n h wt o0 l0 j).1 = none := by rw [← d1]; exact hb
  have e := drS_stuck (o0 := o0) (l0 := l0) hb2 (n - j)
  rw [show j + (n - j) = n by omega] at e
  refine ⟨d0, by rw [e]; exact d1, ?_, by rw [e]; exact d3, by rw [e]; exact d4, d5⟩
  rw [drC, ff_hit d6 (by simp [hb2]) hj]
  exact d2
theorem dw_head {n : Nat} {h wt : Nat → Int32} {p : Nat} {σ : Sg} (hpc : σ (iP p) 0 = nI n) : dwC n h wt (σ (iP p + 3)) (fun i => if i < 16 then -5 else σ (iP p + 4) i) p σ (upS (upS (setA σ (iP p + 4) (fun i => if i < 16 then -5 else σ (iP p + 4) i)) (iP p) 4 0) (iP p) 5 0) 0 := by
  have a4 : iP p ≠ iP p + 4 := by omega
  refine ⟨?_, ?_, ?_, ?_, ?_, fun q b1 b2 b3 => ?_, fun i hi => absurd hi (by omega)⟩
  · simp [up_get, setA_ne a4, hpc]
  · simp [up_get, drS]
  · simp [up_get]
    rfl
  · rw [up_ne (by omega), up_ne (by omega), setA_ne (by omega)]
    rfl
  · rw [up_ne (by omega), up_ne (by omega), setA_at]
    rfl
  · rw [up_ne b1, up_ne b1, setA_ne b3]
theorem iL_53 {s j : Nat} (hs : s < 7) (hj : j < 16) : iL (bx s j) < 353 := by unfold iL bx; omega
theorem iH_53 {s j : Nat} (hs : s < 7) (hj : j < 16) : iH (bx s j) < 353 := by unfold iH bx; omega
theorem hd_eq {σ τ : Sg} {s : Nat} (hs : s < 7) (h : ∀ q, q < 353 → τ q = σ q) {a j : Nat} (ha : a < 16) (hj : j < 16) : hdS τ s a j = hdS σ s a j := by
  have e1 := h _ (iL_53 hs ha)
  have e2 := h _ (iH_53 hs ha)
  have e3 := h _ (iL_53 hs hj)
  have e4 := h _ (iH_53 hs hj)
  unfold hdS
  rw [e1, e2, e3, e4]
theorem orI_c {p q : Nat → Bool} {f g : Nat → Int32} : ∀ {n : Nat}, (∀ k, k < n → p k = q k) → (∀ k, k < n → f k = g k) → orI p f n = orI q g n
  | 0, _, _ => rfl
  | n + 1, h, h2 => by
    have e := orI_c (n := n) (fun k hk => h k (Nat.lt_succ_of_lt hk)) (fun k hk => h2 k (Nat.lt_succ_of_lt hk))
    show (if p n then orI p f n ||| f n else orI p f n) = (if q n then orI q g n ||| g n else orI q g n)
    rw [e, h n (Nat.lt_succ_self n), h2 n (Nat.lt_succ_self n)]
theorem hm_eq {σ τ : Sg} {s n : Nat} (hs : s < 7) (hn : n ≤ 16) (h : ∀ q, q < 353 → τ q = σ q) {a : Nat} (ha : a < 16) : hmS τ s n a = hmS σ s n a :=
  orI_c (fun j hj => hd_eq hs h ha (Nat.lt_of_lt_of_le hj hn)) (fun _ _ => rfl)
theorem wsR_congr {c c' : Nat → Int32} {n w : Nat} (hw : w < n) (h : ∀ k, k < n → c k = c' k) : ∀ m, m ≤ n → ∀ k, k < n → wsR c w m k = wsR c' w m k
  | 0, _, k, hk => h k hk
  | m + 1, hm, k, hk => by
    have e := wsR_congr hw h m (by omega)
    rw [wsR, wsR, e m (by omega)]
    by_cases q : hasB (wsR c' w m m) w = true
    · rw [if_pos q, if_pos q, e w hw]
      unfold upd
      by_cases q2 : k = m
      · simp [q2]
      · simp [q2, e k hk]
    · rw [if_neg q, if_neg q, e k hk]
theorem wsO_congr {c c' : Nat → Int32} {n : Nat} (h : ∀ k, k < n → c k = c' k) : ∀ w, w ≤ n → ∀ k, k < n → wsO c n w k = wsO c' n w k
  | 0, _, k, hk => h k hk
  | w + 1, hw, k, hk => wsR_congr (by omega) (fun k hk => wsO_congr h w (by omega) k hk) n (Nat.le_refl _) k hk
/-- what a picture holds once it has looked at a space of n boxes -/
def pcI (σ : Sg) (s p n : Nat) (σ1 : Sg) : Prop := ∃ (h o0 l0 : Nat → Int32), (∀ k, k < n → h k = hmS σ s n k) ∧ (∀ i, i < 16 → l0 i = -5) ∧ σ1 (iP p) 0 = nI n ∧ σ1 (iP p + 1) = h ∧ (∀ k, k < n → σ1 (iP p + 2) k = wsO h n n k) ∧ σ1 (iP p) 4 = (drS n h (wtS σ s) o0 l0 n).1 ∧ σ1 (iP p) 5 = nI (drC n h (wtS σ s) o0 l0) ∧ σ1 (iP p + 3) = (drS n h (wtS σ s) o0 l0 n).2.1 ∧ σ1 (iP p + 4) = (drS n h (wtS σ s) o0 l0 n).2.2 ∧ ∀ q, (q < iP p ∨ iP p + 4 < q) → σ1 q = σ q
def lkJ (σ : Sg) (s p n k : Nat) (τ : Sg) : Prop := τ (iP p) 0 = nI n ∧ (∀ j, j < k → τ (iP p + 1) j = hmS σ s n j) ∧ ∀ q, q ≠ iP p → q ≠ iP p + 1 → τ q = σ q
theorem lkJ_step {σ τ : Sg} {s p n k : Nat} (h : lkJ σ s p n k τ) : lkJ σ s p n (k + 1) (upS τ (iP p + 1) k (hmS σ s n k)) := by
  refine ⟨by rw [up_ne (by omega)]; exact h.1, fun j hj => ?_, fun q a b => by rw [up_ne b]; exact h.2.2 q a b⟩
  rw [up_get]
  by_cases e : j = k
  · subst e
    simp
  · simp [e]
    exact h.2.1 j (by omega)
theorem drS_wt {n : Nat} {h wt wt' o0 l0 : Nat → Int32} (e : ∀ k, k < n → wt k = wt' k) : ∀ j, drS n h wt o0 l0 j = drS n h wt' o0 l0 j
  | 0 => rfl
  | j + 1 => by
    rw [drS, drS, drS_wt e j, nxO_congr (fun _ _ => rfl) e]
theorem drC_wt {n : Nat} {h wt wt' o0 l0 : Nat → Int32} (e : ∀ k, k < n → wt k = wt' k) : drC n h wt o0 l0 = drC n h wt' o0 l0 := by
  unfold drC
  congr 1
  funext j
  rw [drS_wt e j, nxO_congr (fun _ _ => rfl) e]
theorem look_ok {σ τ σ1 σ2 : Sg} {s p n : Nat} (hs : s < 7) (hn : n ≤ 16) (hτ : lkJ σ s p n n τ) (h1 : σ1 = setA τ (iP p + 2) (wsO (va_cpy (τ (iP p + 1)) (τ (iP p + 2)) 0 0 16) n n))
    (h2 : dwI σ1 s p n (σ1 (iP p + 1)) (wtS σ1 s) (σ1 (iP p + 3)) (fun i => if i < 16 then -5 else σ1 (iP p + 4) i) σ2) : pcI σ s p n σ2 := by
  obtain ⟨t0, t1, t2⟩ := hτ
  obtain ⟨d0, d1, d2, d3, d4, d5⟩ := h2
  have f1 : ∀ q, q ≠ iP p → q ≠ iP p + 1 → q ≠ iP p + 2 → σ1 q = σ q := fun q a b c => by rw [h1, setA_ne c]; exact t2 q a b
  have ew : ∀ k, k < n → wtS σ1 s k = wtS σ s k := fun k hk => wt_eq hs (fun q hq => f1 q (by unfold iP; omega) (by unfold iP; omega) (by unfold iP; omega)) (by omega)
  have e1 : σ1 (iP p + 1) = τ (iP p + 1) := by rw [h1, setA_ne (by omega)]
  refine ⟨σ1 (iP p + 1), σ1 (iP p + 3), (fun i => if i < 16 then -5 else σ1 (iP p + 4) i), fun k hk => ?_, fun i hi => ?_, d0, ?_, fun k hk => ?_, ?_, ?_, ?_, ?_, fun q hq => ?_⟩
  · rw [e1]
    exact t1 k hk
  · simp [hi]
  · exact d5 _ (by omega) (by omega) (by omega)
  · rw [d5 _ (by omega) (by omega) (by omega), h1, setA_at, ← h1, e1]
    exact wsO_congr (fun k hk => by simp [va_cpy, show k < 16 by omega]) n (Nat.le_refl _) k hk
  · rw [d1, drS_wt ew]
  · rw [d2, drC_wt ew]
  · rw [d3, drS_wt ew]
  · rw [d4, drS_wt ew]
  · rw [d5 q (by omega) (by omega) (by omega)]
    exact f1 q (by omega) (by omega) (by omega)
end
section
/-! VIEW: what a space is, as a value; the same answers in its words -/
/-- boxes, numbers so far, splits, the rule; each box's number, lows and highs -/
abbrev SpV : Type := Nat × Int32 × Int32 × Int32 × (Nat → Int32) × (Nat → Nat → Int32) × (Nat → Nat → Int32)
abbrev vN (v : SpV) : Nat := v.1
abbrev vX (v : SpV) : Int32 := v.2.1
abbrev vSp (v : SpV) : Int32 := v.2.2.1
abbrev vRu (v : SpV) : Int32 := v.2.2.2.1
abbrev vNu (v : SpV) : Nat → Int32 := v.2.2.2.2.1
abbrev vLo (v : SpV) : Nat → Nat → Int32 := v.2.2.2.2.2.1
abbrev vHi (v : SpV) : Nat → Nat → Int32 := v.2.2.2.2.2.2
def isV (σ : Sg) (s : Nat) (v : SpV) : Prop := vN v ≤ 16 ∧ σ (iS s) 1 = nI (vN v) ∧ σ (iS s) 2 = vX v ∧ σ (iS s) 3 = vSp v ∧ σ (iS s) 4 = vRu v ∧ ∀ j, j < vN v → σ (iBo (bx s j)) 0 = vNu v j ∧ ∀ d, d < 3 → σ (iL (bx s j)) d = vLo v j d ∧ σ (iH (bx s j)) d = vHi v j d
theorem isV_sp {σ σ1 : Sg} {s t : Nat} {v : SpV} (h : isV σ t v) (h1 : spC σ1 s σ t (vN v)) : isV σ1 s v := by
  obtain ⟨a, b, c, d, e, f⟩ := h
  refine ⟨a, (h1.1 1 (by omega) (by omega)).trans b, (h1.1 2 (by omega) (by omega)).trans c, (h1.1 3 (by omega) (by omega)).trans d, (h1.1 4 (by omega) (by omega)).trans e, fun j hj => ?_⟩
  have g := h1.2 j hj
  exact ⟨g.1.trans (f j hj).1, fun d hd => ⟨(g.2 d hd).1.trans ((f j hj).2 d hd).1, (g.2 d hd).2.trans ((f j hj).2 d hd).2⟩⟩
/-- a space that nothing touched -/
theorem isV_keep {σ σ1 : Sg} {s : Nat} {v : SpV} (h : isV σ s v) (h1 : σ1 (iS s) = σ (iS s)) (h2 : ∀ j, j < 16 → σ1 (iBo (bx s j)) = σ (iBo (bx s j)) ∧ σ1 (iL (bx s j)) = σ (iL (bx s j)) ∧ σ1 (iH (bx s j)) = σ (iH (bx s j))) : isV σ1 s v := by
  obtain ⟨a, b, c, d, e, f⟩ := h
  refine ⟨a, by rw [h1]; exact b, by rw [h1]; exact c, by rw [h1]; exact d, by rw [h1]; exact e, fun j hj => ?_⟩
  obtain ⟨g0, g1, g2⟩ := h2 j (by omega)
  rw [g0, g1, g2]
  exact f j hj
theorem isV_fr {σ σ1 : Sg} {s t : Nat} {v : SpV} (h : isV σ t v) (hst : s ≠ t) (hs : s < 7) (ht : t < 7) (h1 : frS s σ σ1) : isV σ1 t v := by
  refine isV_keep h (h1 _ (by unfold iS; omega) (outB_S s t hs)) (fun j hj => ?_)
  · have hB := outB_bx (s := s) hst hj
    exact ⟨h1 _ (by unfold iBo iS bx; omega) hB.1, h1 _ (by unfold iL iS bx; omega) hB.2.1, h1 _ (by unfold iH iS bx; omega) hB.2.2⟩
theorem isV_bx {σ σ1 : Sg} {s : Nat} {v : SpV} (h : isV σ s v) (hq : ∀ q, q < 336 → σ1 q = σ q) (h1 : σ1 (iS s) = σ (iS s)) (hs : s < 7) : isV σ1 s v :=
  isV_keep h h1 (fun j hj => ⟨hq _ (by unfold iBo bx; omega), hq _ (by unfold iL bx; omega), hq _ (by unfold iH bx; omega)⟩)
/-! the same functions, of any lows and highs; they look at the first n boxes and at three directions alone -/
def eqL (n : Nat) (f g : Nat → Nat → Int32) : Prop := ∀ j, j < n → ∀ d, d < 3 → f j d = g j d
theorem mtB_c {l1 h1 l2 h2 l1' h1' l2' h2' : V3} {d : Nat} (hd : d < 3) (a : ∀ d, d < 3 → l1 d = l1' d) (b : ∀ d, d < 3 → h1 d = h1' d) (c : ∀ d, d < 3 → l2 d = l2' d) (e : ∀ d, d < 3 → h2 d = h2' d) : mtB l1 h1 l2 h2 d = mtB l1' h1' l2' h2' d := by
  unfold mtB
  rw [a d hd, b d hd, c d hd, e d hd]
theorem ctBx_c {l1 h1 l2 h2 l1' h1' l2' h2' : V3} (a : ∀ d, d < 3 → l1 d = l1' d) (b : ∀ d, d < 3 → h1 d = h1' d) (c : ∀ d, d < 3 → l2 d = l2' d) (e : ∀ d, d < 3 → h2 d = h2' d) : ctBx l1 h1 l2 h2 = ctBx l1' h1' l2' h2' := by
  unfold ctBx
  rw [mtB_c (by omega) a b c e, mtB_c (d := 1) (by omega) a b c e, mtB_c (d := 2) (by omega) a b c e]
theorem md_c {l1 h1 l2 h2 l1' h1' l2' h2' : V3} {d f : Nat} (hd : d < 3) (hf : f < 3) (a : ∀ d, d < 3 → l1 d = l1' d) (b : ∀ d, d < 3 → h1 d = h1' d) (c : ∀ d, d < 3 → l2 d = l2' d) (e : ∀ d, d < 3 → h2 d = h2' d) : md l1 h1 l2 h2 d f = md l1' h1' l2' h2' d f := by
  unfold md
  rw [a d hd, b d hd, c d hd, e d hd, a f hf, b f hf, c f hf, e f hf]
theorem ovB_c {l1 h1 l2 h2 l1' h1' l2' h2' : V3} (a : ∀ d, d < 3 → l1 d = l1' d) (b : ∀ d, d < 3 → h1 d = h1' d) (c : ∀ d, d < 3 → l2 d = l2' d) (e : ∀ d, d < 3 → h2 d = h2' d) : ovB l1 h1 l2 h2 = ovB l1' h1' l2' h2' := by
  unfold ovB
  rw [md_c (d := 0) (f := 1) (by omega) (by omega) a b c e, md_c (d := 0) (f := 2) (by omega) (by omega) a b c e, md_c (d := 1) (f := 2) (by omega) (by omega) a b c e]
theorem ffi_c {p q : Nat → Bool} : ∀ {n : Nat}, (∀ k, k < n → p k = q k) → ffi p n = ffi q n
  | 0, _ => rfl
  | n + 1, h => by rw [ffi, ffi, ffi_c (fun k hk => h k (by omega)), h n (by omega)]
theorem fI_c {p q : Nat → Bool} {n : Nat} (h : ∀ k, k < n → p k = q k) : fI p n = fI q n := by
  unfold fI
  rw [ffi_c h]
theorem anyb_c {p q : Nat → Bool} : ∀ {n : Nat}, (∀ k, k < n → p k = q k) → anyb p n = anyb q n
  | 0, _ => rfl
  | n + 1, h => by rw [anyb, anyb, anyb_c (fun k hk => h k (by omega)), h n (by omega)]
theorem cntI_c {p q : Nat → Bool} : ∀ {n : Nat}, (∀ k, k < n → p k = q k) → cntI p n = cntI q n
  | 0, _ => rfl
  | n + 1, h => by rw [cntI, cntI, cntI_c (fun k hk => h k (by omega)), h n (by omega)]
theorem sumI_c {p q : Nat → Int32} : ∀ {n : Nat}, (∀ k, k < n → p k = q k) → sumI p n = sumI q n
  | 0, _ => rfl
  | n + 1, h => by rw [sumI, sumI, sumI_c (fun k hk => h k (by omega)), h n (by omega)]
theorem dhB_c {l1 h1 l2 h2 l1' h1' l2' h2' : V3} (a : ∀ d, d < 3 → l1 d = l1' d) (b : ∀ d, d < 3 → h1 d = h1' d) (c : ∀ d, d < 3 → l2 d = l2' d) (e : ∀ d, d < 3 → h2 d = h2' d) : dhB l1 h1 l2 h2 = dhB l1' h1' l2' h2' := by
  unfold dhB
  rw [ovB_c a b c e, fI_c (fun k hk => by rw [a k hk, e k hk])]
theorem beB_c {l1 h1 l2 h2 l1' h1' l2' h2' : V3} (a : ∀ d, d < 3 → l1 d = l1' d) (b : ∀ d, d < 3 → h1 d = h1' d) (c : ∀ d, d < 3 → l2 d = l2' d) (e : ∀ d, d < 3 → h2 d = h2' d) : beB l1 h1 l2 h2 = beB l1' h1' l2' h2' := by
  unfold beB
  rw [mtB_c (d := 0) (by omega) a b c e, mtB_c (d := 1) (by omega) a b c e, b 2 (by omega), c 2 (by omega)]
theorem cvB_c {l1 h1 l1' h1' : V3} {y : Int32} (a : ∀ d, d < 3 → l1 d = l1' d) (b : ∀ d, d < 3 → h1 d = h1' d) : cvB l1 h1 y = cvB l1' h1' y := by
  unfold cvB
  rw [a 1 (by omega), b 1 (by omega)]
def hdG (lo hi : Nat → Nat → Int32) (a b : Nat) : Bool := !decide (b = a) && !decide (dhB (lo a) (hi a) (lo b) (hi b) = -1)
def hmG (lo hi : Nat → Nat → Int32) (n a : Nat) : Int32 := orI (hdG lo hi a) bitI n
def szG (lo hi : Nat → Nat → Int32) (k d : Nat) : Int32 := hi k d - lo k d
def voG (lo hi : Nat → Nat → Int32) (k : Nat) : Int32 := szG lo hi k 0 * szG lo hi k 1 * szG lo hi k 2
def wtG (ru : Int32) (lo hi : Nat → Nat → Int32) (k : Nat) : Int32 := if ru = 1 then lo k 0 + lo k 1 + lo k 2 else if ru = 2 then voG lo hi k else 0
def rwG (lo hi : Nat → Nat → Int32) (k : Nat) : Int32 := ((1 : Int32) <<< (szG lo hi k 0 &&& 31) - 1) <<< (lo k 0 &&& 31)
def grG (lo hi : Nat → Nat → Int32) (u : Nat) : Nat → Int32
  | 0 => 0
  | k + 1 => if beB (lo k) (hi k) (lo u) (hi u) then (if grG lo hi u k < hi k 2 then hi k 2 else grG lo hi u k) else grG lo hi u k
def shG (lo hi : Nat → Nat → Int32) (u n y : Nat) : Int32 := orI (fun j => beB (lo u) (hi u) (lo j) (hi j) && cvB (lo j) (hi j) (nI y)) (rwG lo hi) n
section VIEWS
variable {σ : Sg} {s : Nat} {v : SpV}
theorem v_lo (h : isV σ s v) {j : Nat} (hj : j < vN v) : ∀ d, d < 3 → σ (iL (bx s j)) d = vLo v j d := fun d hd => ((h.2.2.2.2.2 j hj).2 d hd).1
theorem v_hi (h : isV σ s v) {j : Nat} (hj : j < vN v) : ∀ d, d < 3 → σ (iH (bx s j)) d = vHi v j d := fun d hd => ((h.2.2.2.2.2 j hj).2 d hd).2
theorem v_slot (h : isV σ s v) (x : Int32) : fI (fun k => decide (σ (iBo (bx s k)) 0 = x)) (vN v) = fI (fun k => decide (vNu v k = x)) (vN v) := fI_c (fun k hk => by rw [(h.2.2.2.2.2 k hk).1])
theorem v_sz (h : isV σ s v) {j d : Nat} (hj : j < vN v) (hd : d < 3) : szB σ (bx s j) d = szG (vLo v) (vHi v) j d := by
  unfold szB szG
  rw [v_lo h hj d hd, v_hi h hj d hd]
theorem v_vo (h : isV σ s v) {j : Nat} (hj : j < vN v) : voB σ (bx s j) = voG (vLo v) (vHi v) j := by
  unfold voB voG
  rw [v_sz h hj (by omega), v_sz h hj (by omega), v_sz h hj (by omega)]
theorem v_rw (h : isV σ s v) {j : Nat} (hj : j < vN v) : rwB σ (bx s j) = rwG (vLo v) (vHi v) j := by
  unfold rwB rwG
  rw [v_sz h hj (by omega), v_lo h hj 0 (by omega)]
theorem v_wt (h : isV σ s v) {j : Nat} (hj : j < vN v) : wtS σ s j = wtG (vRu v) (vLo v) (vHi v) j := by
  unfold wtS wtG
  rw [v_vo h hj, v_lo h hj 0 (by omega), v_lo h hj 1 (by omega), v_lo h hj 2 (by omega), h.2.2.2.2.1]
theorem v_vol (h : isV σ s v) : sumI (fun k => voB σ (bx s k)) (vN v) = sumI (voG (vLo v) (vHi v)) (vN v) := sumI_c (fun k hk => v_vo h hk)
theorem v_be (h : isV σ s v) {a b : Nat} (ha : a < vN v) (hb : b < vN v) : beB (σ (iL (bx s a))) (σ (iH (bx s a))) (σ (iL (bx s b))) (σ (iH (bx s b))) = beB (vLo v a) (vHi v a) (vLo v b) (vHi v b) := beB_c (v_lo h ha) (v_hi h ha) (v_lo h hb) (v_hi h hb)
theorem v_gr (h : isV σ s v) {u : Nat} (hu : u < vN v) : ∀ m, m ≤ vN v → grS σ s u m = grG (vLo v) (vHi v) u m
  | 0, _ => rfl
  | m + 1, hm => by rw [grS, grG, v_gr h hu m (by omega), v_be h (by omega) hu, v_hi h (show m < vN v by omega) 2 (by omega)]
theorem v_bel (h : isV σ s v) {u : Nat} (hu : u < vN v) : cntI (fun k => beB (σ (iL (bx s k))) (σ (iH (bx s k))) (σ (iL (bx s u))) (σ (iH (bx s u)))) (vN v) = cntI (fun k => beB (vLo v k) (vHi v k) (vLo v u) (vHi v u)) (vN v) := cntI_c (fun k hk => v_be h hk hu)
theorem v_sup (h : isV σ s v) {u : Nat} (hu : u < vN v) : cntI (fun k => beB (σ (iL (bx s k))) (σ (iH (bx s k))) (σ (iL (bx s u))) (σ (iH (bx s u))) && decide (σ (iH (bx s k)) 2 = σ (iL (bx s u)) 2)) (vN v) = cntI (fun k => beB (vLo v k) (vHi v k) (vLo v u) (vHi v u) && decide (vHi v k 2 = vLo v u 2)) (vN v) := cntI_c (fun k hk => by rw [v_be h hk hu, v_hi h hk 2 (by omega), v_lo h hu 2 (by omega)])
theorem v_shR (h : isV σ s v) {u y : Nat} (hu : u < vN v) : shR σ s u (vN v) y = shG (vLo v) (vHi v) u (vN v) y := orI_c (fun k hk => by unfold shPd; rw [v_be h hu hk, cvB_c (v_lo h hk) (v_hi h hk)]) (fun k hk => v_rw h hk)
theorem v_hd (h : isV σ s v) {a b : Nat} (ha : a < vN v) (hb : b < vN v) : hdS σ s a b = hdG (vLo v) (vHi v) a b := by
  unfold hdS hdG
  rw [dhB_c (v_lo h ha) (v_hi h ha) (v_lo h hb) (v_hi h hb)]
theorem v_hm (h : isV σ s v) {a : Nat} (ha : a < vN v) : hmS σ s (vN v) a = hmG (vLo v) (vHi v) (vN v) a := orI_c (fun k hk => v_hd h ha hk) (fun _ _ => rfl)
end VIEWS
end
section
theorem zz_last : True := trivial
end
