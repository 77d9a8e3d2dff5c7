section
-- ===== PART A: goes FIRST, ahead of the names: the tables' words, and 'selects' of the private methods out of them =====
/-- a private method of a class that the tables say can be made, by its rows of tables_1 -/
def lw_okq (q : MethodName × Nat) : Prop := (q.1.cls ≠ "java/lang/invoke/MethodHandle" ∧ q.1.cls ≠ "java/lang/invoke/VarHandle") ∧ Cond.instantiable q.1.cls q.2 ∈ tables_1 ∧ Cond.privateMethod q.1 ∈ tables_1 ∧ Cond.instanceMethod q.1 ∈ tables_1
theorem lw_p0 : lw_okq (⟨"HidingBoxes", "enter", "(LHidingBoxes$Space;IIIIII)I"⟩, 9) := ⟨⟨by decide +kernel, by decide +kernel⟩, List.mem_of_getElem? (i := 13) (by decide +kernel), List.mem_of_getElem? (i := 187) (by decide +kernel), List.mem_of_getElem? (i := 188) (by decide +kernel)⟩
theorem lw_p1 : lw_okq (⟨"HidingBoxes$Box", "meets", "(LHidingBoxes$Box;I)Z"⟩, 3) := ⟨⟨by decide +kernel, by decide +kernel⟩, List.mem_of_getElem? (i := 28) (by decide +kernel), List.mem_of_getElem? (i := 203) (by decide +kernel), List.mem_of_getElem? (i := 204) (by decide +kernel)⟩
theorem lw_p2 : lw_okq (⟨"HidingBoxes", "adoptTrial", "()V"⟩, 9) := ⟨⟨by decide +kernel, by decide +kernel⟩, List.mem_of_getElem? (i := 13) (by decide +kernel), List.mem_of_getElem? (i := 216) (by decide +kernel), List.mem_of_getElem? (i := 217) (by decide +kernel)⟩
theorem lw_p3 : lw_okq (⟨"HidingBoxes$History", "dropOldest", "()V"⟩, 2) := ⟨⟨by decide +kernel, by decide +kernel⟩, List.mem_of_getElem? (i := 74) (by decide +kernel), List.mem_of_getElem? (i := 224) (by decide +kernel), List.mem_of_getElem? (i := 225) (by decide +kernel)⟩
theorem lw_p4 : lw_okq (⟨"HidingBoxes", "breakOne", "(LHidingBoxes$Space;)I"⟩, 9) := ⟨⟨by decide +kernel, by decide +kernel⟩, List.mem_of_getElem? (i := 13) (by decide +kernel), List.mem_of_getElem? (i := 288) (by decide +kernel), List.mem_of_getElem? (i := 289) (by decide +kernel)⟩
theorem lw_p5 : lw_okq (⟨"HidingBoxes$Box", "overlapsOutlineOf", "(LHidingBoxes$Box;)Z"⟩, 3) := ⟨⟨by decide +kernel, by decide +kernel⟩, List.mem_of_getElem? (i := 28) (by decide +kernel), List.mem_of_getElem? (i := 303) (by decide +kernel), List.mem_of_getElem? (i := 304) (by decide +kernel)⟩
theorem lw_p6 : lw_okq (⟨"HidingBoxes$Box", "meetsInDifference", "(LHidingBoxes$Box;II)Z"⟩, 3) := ⟨⟨by decide +kernel, by decide +kernel⟩, List.mem_of_getElem? (i := 28) (by decide +kernel), List.mem_of_getElem? (i := 307) (by decide +kernel), List.mem_of_getElem? (i := 308) (by decide +kernel)⟩
theorem lw_p7 : lw_okq (⟨"HidingBoxes$Picture", "followChains", "()V"⟩, 7) := ⟨⟨by decide +kernel, by decide +kernel⟩, List.mem_of_getElem? (i := 112) (by decide +kernel), List.mem_of_getElem? (i := 311) (by decide +kernel), List.mem_of_getElem? (i := 312) (by decide +kernel)⟩
theorem lw_p8 : lw_okq (⟨"HidingBoxes$Picture", "draw", "(LHidingBoxes$Space;)V"⟩, 7) := ⟨⟨by decide +kernel, by decide +kernel⟩, List.mem_of_getElem? (i := 112) (by decide +kernel), List.mem_of_getElem? (i := 319) (by decide +kernel), List.mem_of_getElem? (i := 320) (by decide +kernel)⟩
theorem lw_p9 : lw_okq (⟨"HidingBoxes$Picture", "nextToDraw", "(LHidingBoxes$Space;)I"⟩, 7) := ⟨⟨by decide +kernel, by decide +kernel⟩, List.mem_of_getElem? (i := 112) (by decide +kernel), List.mem_of_getElem? (i := 326) (by decide +kernel), List.mem_of_getElem? (i := 327) (by decide +kernel)⟩
theorem lw_p10 : lw_okq (⟨"HidingBoxes$Picture", "layerAbove", "(I)I"⟩, 7) := ⟨⟨by decide +kernel, by decide +kernel⟩, List.mem_of_getElem? (i := 112) (by decide +kernel), List.mem_of_getElem? (i := 339) (by decide +kernel), List.mem_of_getElem? (i := 340) (by decide +kernel)⟩
theorem lw_p11 : lw_okq (⟨"HidingBoxes$Picture", "isInRing", "(I)Z"⟩, 7) := ⟨⟨by decide +kernel, by decide +kernel⟩, List.mem_of_getElem? (i := 112) (by decide +kernel), List.mem_of_getElem? (i := 348) (by decide +kernel), List.mem_of_getElem? (i := 349) (by decide +kernel)⟩
theorem lw_p12 : lw_okq (⟨"HidingBoxes$Text", "store", "(I)V"⟩, 4) := ⟨⟨by decide +kernel, by decide +kernel⟩, List.mem_of_getElem? (i := 91) (by decide +kernel), List.mem_of_getElem? (i := 406) (by decide +kernel), List.mem_of_getElem? (i := 407) (by decide +kernel)⟩
theorem lw_p13 : lw_okq (⟨"HidingBoxes", "look", "()LHidingBoxes$Picture;"⟩, 9) := ⟨⟨by decide +kernel, by decide +kernel⟩, List.mem_of_getElem? (i := 13) (by decide +kernel), List.mem_of_getElem? (i := 446) (by decide +kernel), List.mem_of_getElem? (i := 447) (by decide +kernel)⟩
theorem lw_p14 : lw_okq (⟨"HidingBoxes$Picture", "bitsHiddenByAll", "(I)I"⟩, 7) := ⟨⟨by decide +kernel, by decide +kernel⟩, List.mem_of_getElem? (i := 112) (by decide +kernel), List.mem_of_getElem? (i := 462) (by decide +kernel), List.mem_of_getElem? (i := 463) (by decide +kernel)⟩
theorem lw_p15 : lw_okq (⟨"HidingBoxesModel", "push", "([I)V"⟩, 17) := ⟨⟨by decide +kernel, by decide +kernel⟩, List.mem_of_getElem? (i := 547) (by decide +kernel), List.mem_of_getElem? (i := 617) (by decide +kernel), List.mem_of_getElem? (i := 618) (by decide +kernel)⟩
def lw_privs_1 : List (MethodName × Nat) := [(⟨"HidingBoxes", "enter", "(LHidingBoxes$Space;IIIIII)I"⟩, 9), (⟨"HidingBoxes$Box", "meets", "(LHidingBoxes$Box;I)Z"⟩, 3), (⟨"HidingBoxes", "adoptTrial", "()V"⟩, 9), (⟨"HidingBoxes$History", "dropOldest", "()V"⟩, 2), (⟨"HidingBoxes", "breakOne", "(LHidingBoxes$Space;)I"⟩, 9), (⟨"HidingBoxes$Box", "overlapsOutlineOf", "(LHidingBoxes$Box;)Z"⟩, 3), (⟨"HidingBoxes$Box", "meetsInDifference", "(LHidingBoxes$Box;II)Z"⟩, 3), (⟨"HidingBoxes$Picture", "followChains", "()V"⟩, 7), (⟨"HidingBoxes$Picture", "draw", "(LHidingBoxes$Space;)V"⟩, 7), (⟨"HidingBoxes$Picture", "nextToDraw", "(LHidingBoxes$Space;)I"⟩, 7), (⟨"HidingBoxes$Picture", "layerAbove", "(I)I"⟩, 7), (⟨"HidingBoxes$Picture", "isInRing", "(I)Z"⟩, 7), (⟨"HidingBoxes$Text", "store", "(I)V"⟩, 4), (⟨"HidingBoxes", "look", "()LHidingBoxes$Picture;"⟩, 9), (⟨"HidingBoxes$Picture", "bitsHiddenByAll", "(I)I"⟩, 7), (⟨"HidingBoxesModel", "push", "([I)V"⟩, 17)]
theorem lw_r1 : ∀ q ∈ lw_privs_1, lw_okq q := List.forall_mem_cons.mpr ⟨lw_p0, List.forall_mem_cons.mpr ⟨lw_p1, List.forall_mem_cons.mpr ⟨lw_p2, List.forall_mem_cons.mpr ⟨lw_p3, List.forall_mem_cons.mpr ⟨lw_p4, List.forall_mem_cons.mpr ⟨lw_p5, List.forall_mem_cons.mpr ⟨lw_p6, List.forall_mem_cons.mpr ⟨lw_p7, List.forall_mem_cons.mpr ⟨lw_p8, List.forall_mem_cons.mpr ⟨lw_p9, List.forall_mem_cons.mpr ⟨lw_p10, List.forall_mem_cons.mpr ⟨lw_p11, List.forall_mem_cons.mpr ⟨lw_p12, List.forall_mem_cons.mpr ⟨lw_p13, List.forall_mem_cons.mpr ⟨lw_p14, List.forall_mem_cons.mpr ⟨lw_p15, fun _ h => absurd h List.not_mem_nil⟩⟩⟩⟩⟩⟩⟩⟩⟩⟩⟩⟩⟩⟩⟩⟩
theorem lw_p16 : lw_okq (⟨"HidingBoxesModel", "tryBox", "(IIIIII)I"⟩, 17) := ⟨⟨by decide +kernel, by decide +kernel⟩, List.mem_of_getElem? (i := 547) (by decide +kernel), List.mem_of_getElem? (i := 625) (by decide +kernel), List.mem_of_getElem? (i := 626) (by decide +kernel)⟩
theorem lw_p17 : lw_okq (⟨"HidingBoxesModel", "high", "(II)I"⟩, 17) := ⟨⟨by decide +kernel, by decide +kernel⟩, List.mem_of_getElem? (i := 547) (by decide +kernel), List.mem_of_getElem? (i := 632) (by decide +kernel), List.mem_of_getElem? (i := 633) (by decide +kernel)⟩
theorem lw_p18 : lw_okq (⟨"HidingBoxesModel", "low", "(II)I"⟩, 17) := ⟨⟨by decide +kernel, by decide +kernel⟩, List.mem_of_getElem? (i := 547) (by decide +kernel), List.mem_of_getElem? (i := 636) (by decide +kernel), List.mem_of_getElem? (i := 637) (by decide +kernel)⟩
theorem lw_p19 : lw_okq (⟨"HidingBoxesModel", "of", "(II)I"⟩, 17) := ⟨⟨by decide +kernel, by decide +kernel⟩, List.mem_of_getElem? (i := 547) (by decide +kernel), List.mem_of_getElem? (i := 640) (by decide +kernel), List.mem_of_getElem? (i := 641) (by decide +kernel)⟩
theorem lw_p20 : lw_okq (⟨"HidingBoxesModel", "size", "(II)I"⟩, 17) := ⟨⟨by decide +kernel, by decide +kernel⟩, List.mem_of_getElem? (i := 547) (by decide +kernel), List.mem_of_getElem? (i := 644) (by decide +kernel), List.mem_of_getElem? (i := 645) (by decide +kernel)⟩
theorem lw_p21 : lw_okq (⟨"HidingBoxesModel", "putBox", "(IIIIII)I"⟩, 17) := ⟨⟨by decide +kernel, by decide +kernel⟩, List.mem_of_getElem? (i := 547) (by decide +kernel), List.mem_of_getElem? (i := 648) (by decide +kernel), List.mem_of_getElem? (i := 649) (by decide +kernel)⟩
theorem lw_p22 : lw_okq (⟨"HidingBoxesModel", "put", "(III)V"⟩, 17) := ⟨⟨by decide +kernel, by decide +kernel⟩, List.mem_of_getElem? (i := 547) (by decide +kernel), List.mem_of_getElem? (i := 652) (by decide +kernel), List.mem_of_getElem? (i := 653) (by decide +kernel)⟩
theorem lw_p23 : lw_okq (⟨"HidingBoxesModel", "rankOf", "(I)I"⟩, 17) := ⟨⟨by decide +kernel, by decide +kernel⟩, List.mem_of_getElem? (i := 547) (by decide +kernel), List.mem_of_getElem? (i := 660) (by decide +kernel), List.mem_of_getElem? (i := 661) (by decide +kernel)⟩
theorem lw_p24 : lw_okq (⟨"HidingBoxesModel", "volume", "(I)I"⟩, 17) := ⟨⟨by decide +kernel, by decide +kernel⟩, List.mem_of_getElem? (i := 547) (by decide +kernel), List.mem_of_getElem? (i := 664) (by decide +kernel), List.mem_of_getElem? (i := 665) (by decide +kernel)⟩
theorem lw_p25 : lw_okq (⟨"HidingBoxesModel", "cutsAny", "(II)Z"⟩, 17) := ⟨⟨by decide +kernel, by decide +kernel⟩, List.mem_of_getElem? (i := 547) (by decide +kernel), List.mem_of_getElem? (i := 675) (by decide +kernel), List.mem_of_getElem? (i := 676) (by decide +kernel)⟩
theorem lw_p26 : lw_okq (⟨"HidingBoxesModel", "cross", "(III)Z"⟩, 17) := ⟨⟨by decide +kernel, by decide +kernel⟩, List.mem_of_getElem? (i := 547) (by decide +kernel), List.mem_of_getElem? (i := 679) (by decide +kernel), List.mem_of_getElem? (i := 680) (by decide +kernel)⟩
theorem lw_p27 : lw_okq (⟨"HidingBoxesModel", "isBelow", "(II)Z"⟩, 17) := ⟨⟨by decide +kernel, by decide +kernel⟩, List.mem_of_getElem? (i := 547) (by decide +kernel), List.mem_of_getElem? (i := 687) (by decide +kernel), List.mem_of_getElem? (i := 688) (by decide +kernel)⟩
theorem lw_p28 : lw_okq (⟨"HidingBoxesModel", "doSplit", "(III)I"⟩, 17) := ⟨⟨by decide +kernel, by decide +kernel⟩, List.mem_of_getElem? (i := 547) (by decide +kernel), List.mem_of_getElem? (i := 695) (by decide +kernel), List.mem_of_getElem? (i := 696) (by decide +kernel)⟩
theorem lw_p29 : lw_okq (⟨"HidingBoxesModel", "breakAt", "()I"⟩, 17) := ⟨⟨by decide +kernel, by decide +kernel⟩, List.mem_of_getElem? (i := 547) (by decide +kernel), List.mem_of_getElem? (i := 703) (by decide +kernel), List.mem_of_getElem? (i := 704) (by decide +kernel)⟩
theorem lw_p30 : lw_okq (⟨"HidingBoxesModel", "findHiding", "()V"⟩, 17) := ⟨⟨by decide +kernel, by decide +kernel⟩, List.mem_of_getElem? (i := 547) (by decide +kernel), List.mem_of_getElem? (i := 707) (by decide +kernel), List.mem_of_getElem? (i := 708) (by decide +kernel)⟩
theorem lw_p31 : lw_okq (⟨"HidingBoxesModel", "hidesBy", "(II)I"⟩, 17) := ⟨⟨by decide +kernel, by decide +kernel⟩, List.mem_of_getElem? (i := 547) (by decide +kernel), List.mem_of_getElem? (i := 711) (by decide +kernel), List.mem_of_getElem? (i := 712) (by decide +kernel)⟩
def lw_privs_2 : List (MethodName × Nat) := [(⟨"HidingBoxesModel", "tryBox", "(IIIIII)I"⟩, 17), (⟨"HidingBoxesModel", "high", "(II)I"⟩, 17), (⟨"HidingBoxesModel", "low", "(II)I"⟩, 17), (⟨"HidingBoxesModel", "of", "(II)I"⟩, 17), (⟨"HidingBoxesModel", "size", "(II)I"⟩, 17), (⟨"HidingBoxesModel", "putBox", "(IIIIII)I"⟩, 17), (⟨"HidingBoxesModel", "put", "(III)V"⟩, 17), (⟨"HidingBoxesModel", "rankOf", "(I)I"⟩, 17), (⟨"HidingBoxesModel", "volume", "(I)I"⟩, 17), (⟨"HidingBoxesModel", "cutsAny", "(II)Z"⟩, 17), (⟨"HidingBoxesModel", "cross", "(III)Z"⟩, 17), (⟨"HidingBoxesModel", "isBelow", "(II)Z"⟩, 17), (⟨"HidingBoxesModel", "doSplit", "(III)I"⟩, 17), (⟨"HidingBoxesModel", "breakAt", "()I"⟩, 17), (⟨"HidingBoxesModel", "findHiding", "()V"⟩, 17), (⟨"HidingBoxesModel", "hidesBy", "(II)I"⟩, 17)]
theorem lw_r2 : ∀ q ∈ lw_privs_2, lw_okq q := List.forall_mem_cons.mpr ⟨lw_p16, List.forall_mem_cons.mpr ⟨lw_p17, List.forall_mem_cons.mpr ⟨lw_p18, List.forall_mem_cons.mpr ⟨lw_p19, List.forall_mem_cons.mpr ⟨lw_p20, List.forall_mem_cons.mpr ⟨lw_p21, List.forall_mem_cons.mpr ⟨lw_p22, List.forall_mem_cons.mpr ⟨lw_p23, List.forall_mem_cons.mpr ⟨lw_p24, List.forall_mem_cons.mpr ⟨lw_p25, List.forall_mem_cons.mpr ⟨lw_p26, List.forall_mem_cons.mpr ⟨lw_p27, List.forall_mem_cons.mpr ⟨lw_p28, List.forall_mem_cons.mpr ⟨lw_p29, List.forall_mem_cons.mpr ⟨lw_p30, List.forall_mem_cons.mpr ⟨lw_p31, fun _ h => absurd h List.not_mem_nil⟩⟩⟩⟩⟩⟩⟩⟩⟩⟩⟩⟩⟩⟩⟩⟩
theorem lw_p32 : lw_okq (⟨"HidingBoxesModel", "overlap", "(II)Z"⟩, 17) := ⟨⟨by decide +kernel, by decide +kernel⟩, List.mem_of_getElem? (i := 547) (by decide +kernel), List.mem_of_getElem? (i := 715) (by decide +kernel), List.mem_of_getElem? (i := 716) (by decide +kernel)⟩
theorem lw_p33 : lw_okq (⟨"HidingBoxesModel", "reachesBelow", "(IIII)Z"⟩, 17) := ⟨⟨by decide +kernel, by decide +kernel⟩, List.mem_of_getElem? (i := 547) (by decide +kernel), List.mem_of_getElem? (i := 719) (by decide +kernel), List.mem_of_getElem? (i := 720) (by decide +kernel)⟩
theorem lw_p34 : lw_okq (⟨"HidingBoxesModel", "isInRing", "(I)Z"⟩, 17) := ⟨⟨by decide +kernel, by decide +kernel⟩, List.mem_of_getElem? (i := 547) (by decide +kernel), List.mem_of_getElem? (i := 726) (by decide +kernel), List.mem_of_getElem? (i := 727) (by decide +kernel)⟩
theorem lw_p35 : lw_okq (⟨"HidingBoxesModel", "whyNoBreak", "(I)I"⟩, 17) := ⟨⟨by decide +kernel, by decide +kernel⟩, List.mem_of_getElem? (i := 547) (by decide +kernel), List.mem_of_getElem? (i := 730) (by decide +kernel), List.mem_of_getElem? (i := 731) (by decide +kernel)⟩
theorem lw_p36 : lw_okq (⟨"HidingBoxesModel", "greatestDirection", "(I)I"⟩, 17) := ⟨⟨by decide +kernel, by decide +kernel⟩, List.mem_of_getElem? (i := 547) (by decide +kernel), List.mem_of_getElem? (i := 734) (by decide +kernel), List.mem_of_getElem? (i := 735) (by decide +kernel)⟩
theorem lw_p37 : lw_okq (⟨"HidingBoxesModel", "doBreak", "(I)I"⟩, 17) := ⟨⟨by decide +kernel, by decide +kernel⟩, List.mem_of_getElem? (i := 547) (by decide +kernel), List.mem_of_getElem? (i := 738) (by decide +kernel), List.mem_of_getElem? (i := 739) (by decide +kernel)⟩
theorem lw_p38 : lw_okq (⟨"HidingBoxesModel", "findFault", "()I"⟩, 17) := ⟨⟨by decide +kernel, by decide +kernel⟩, List.mem_of_getElem? (i := 547) (by decide +kernel), List.mem_of_getElem? (i := 765) (by decide +kernel), List.mem_of_getElem? (i := 766) (by decide +kernel)⟩
theorem lw_p39 : lw_okq (⟨"HidingBoxesModel", "readBox", "()V"⟩, 17) := ⟨⟨by decide +kernel, by decide +kernel⟩, List.mem_of_getElem? (i := 547) (by decide +kernel), List.mem_of_getElem? (i := 769) (by decide +kernel), List.mem_of_getElem? (i := 770) (by decide +kernel)⟩
theorem lw_p40 : lw_okq (⟨"HidingBoxesModel", "sign", "()I"⟩, 17) := ⟨⟨by decide +kernel, by decide +kernel⟩, List.mem_of_getElem? (i := 547) (by decide +kernel), List.mem_of_getElem? (i := 773) (by decide +kernel), List.mem_of_getElem? (i := 774) (by decide +kernel)⟩
theorem lw_p41 : lw_okq (⟨"HidingBoxesModel", "take", "(Z)V"⟩, 17) := ⟨⟨by decide +kernel, by decide +kernel⟩, List.mem_of_getElem? (i := 547) (by decide +kernel), List.mem_of_getElem? (i := 777) (by decide +kernel), List.mem_of_getElem? (i := 778) (by decide +kernel)⟩
theorem lw_p42 : lw_okq (⟨"HidingBoxesModel", "readNumber", "(II)I"⟩, 17) := ⟨⟨by decide +kernel, by decide +kernel⟩, List.mem_of_getElem? (i := 547) (by decide +kernel), List.mem_of_getElem? (i := 781) (by decide +kernel), List.mem_of_getElem? (i := 782) (by decide +kernel)⟩
theorem lw_p43 : lw_okq (⟨"HidingBoxesModel", "putAside", "()V"⟩, 17) := ⟨⟨by decide +kernel, by decide +kernel⟩, List.mem_of_getElem? (i := 547) (by decide +kernel), List.mem_of_getElem? (i := 785) (by decide +kernel), List.mem_of_getElem? (i := 786) (by decide +kernel)⟩
theorem lw_p44 : lw_okq (⟨"HidingBoxesModel", "putBack", "()V"⟩, 17) := ⟨⟨by decide +kernel, by decide +kernel⟩, List.mem_of_getElem? (i := 547) (by decide +kernel), List.mem_of_getElem? (i := 789) (by decide +kernel), List.mem_of_getElem? (i := 790) (by decide +kernel)⟩
theorem lw_p45 : lw_okq (⟨"HidingBoxesModel", "findLayers", "()V"⟩, 17) := ⟨⟨by decide +kernel, by decide +kernel⟩, List.mem_of_getElem? (i := 547) (by decide +kernel), List.mem_of_getElem? (i := 805) (by decide +kernel), List.mem_of_getElem? (i := 806) (by decide +kernel)⟩
theorem lw_p46 : lw_okq (⟨"HidingBoxesModel", "ringBoxes", "()I"⟩, 17) := ⟨⟨by decide +kernel, by decide +kernel⟩, List.mem_of_getElem? (i := 547) (by decide +kernel), List.mem_of_getElem? (i := 809) (by decide +kernel), List.mem_of_getElem? (i := 810) (by decide +kernel)⟩
theorem lw_p47 : lw_okq (⟨"HidingBoxesModel", "hiders", "(I)I"⟩, 17) := ⟨⟨by decide +kernel, by decide +kernel⟩, List.mem_of_getElem? (i := 547) (by decide +kernel), List.mem_of_getElem? (i := 813) (by decide +kernel), List.mem_of_getElem? (i := 814) (by decide +kernel)⟩
def lw_privs_3 : List (MethodName × Nat) := [(⟨"HidingBoxesModel", "overlap", "(II)Z"⟩, 17), (⟨"HidingBoxesModel", "reachesBelow", "(IIII)Z"⟩, 17), (⟨"HidingBoxesModel", "isInRing", "(I)Z"⟩, 17), (⟨"HidingBoxesModel", "whyNoBreak", "(I)I"⟩, 17), (⟨"HidingBoxesModel", "greatestDirection", "(I)I"⟩, 17), (⟨"HidingBoxesModel", "doBreak", "(I)I"⟩, 17), (⟨"HidingBoxesModel", "findFault", "()I"⟩, 17), (⟨"HidingBoxesModel", "readBox", "()V"⟩, 17), (⟨"HidingBoxesModel", "sign", "()I"⟩, 17), (⟨"HidingBoxesModel", "take", "(Z)V"⟩, 17), (⟨"HidingBoxesModel", "readNumber", "(II)I"⟩, 17), (⟨"HidingBoxesModel", "putAside", "()V"⟩, 17), (⟨"HidingBoxesModel", "putBack", "()V"⟩, 17), (⟨"HidingBoxesModel", "findLayers", "()V"⟩, 17), (⟨"HidingBoxesModel", "ringBoxes", "()I"⟩, 17), (⟨"HidingBoxesModel", "hiders", "(I)I"⟩, 17)]
theorem lw_r3 : ∀ q ∈ lw_privs_3, lw_okq q := List.forall_mem_cons.mpr ⟨lw_p32, List.forall_mem_cons.mpr ⟨lw_p33, List.forall_mem_cons.mpr ⟨lw_p34, List.forall_mem_cons.mpr ⟨lw_p35, List.forall_mem_cons.mpr ⟨lw_p36, List.forall_mem_cons.mpr ⟨lw_p37, List.forall_mem_cons.mpr ⟨lw_p38, List.forall_mem_cons.mpr ⟨lw_p39, List.forall_mem_cons.mpr ⟨lw_p40, List.forall_mem_cons.mpr ⟨lw_p41, List.forall_mem_cons.mpr ⟨lw_p42, List.forall_mem_cons.mpr ⟨lw_p43, List.forall_mem_cons.mpr ⟨lw_p44, List.forall_mem_cons.mpr ⟨lw_p45, List.forall_mem_cons.mpr ⟨lw_p46, List.forall_mem_cons.mpr ⟨lw_p47, fun _ h => absurd h List.not_mem_nil⟩⟩⟩⟩⟩⟩⟩⟩⟩⟩⟩⟩⟩⟩⟩⟩
theorem lw_p48 : lw_okq (⟨"HidingBoxesModel", "shortestRing", "(I)I"⟩, 17) := ⟨⟨by decide +kernel, by decide +kernel⟩, List.mem_of_getElem? (i := 547) (by decide +kernel), List.mem_of_getElem? (i := 817) (by decide +kernel), List.mem_of_getElem? (i := 818) (by decide +kernel)⟩
theorem lw_p49 : lw_okq (⟨"HidingBoxesModel", "hiddenByAny", "(I)I"⟩, 17) := ⟨⟨by decide +kernel, by decide +kernel⟩, List.mem_of_getElem? (i := 547) (by decide +kernel), List.mem_of_getElem? (i := 821) (by decide +kernel), List.mem_of_getElem? (i := 822) (by decide +kernel)⟩
theorem lw_p50 : lw_okq (⟨"HidingBoxesModel", "boxesBelow", "(IZ)I"⟩, 17) := ⟨⟨by decide +kernel, by decide +kernel⟩, List.mem_of_getElem? (i := 547) (by decide +kernel), List.mem_of_getElem? (i := 825) (by decide +kernel), List.mem_of_getElem? (i := 826) (by decide +kernel)⟩
theorem lw_p51 : lw_okq (⟨"HidingBoxesModel", "shadows", "(I)I"⟩, 17) := ⟨⟨by decide +kernel, by decide +kernel⟩, List.mem_of_getElem? (i := 547) (by decide +kernel), List.mem_of_getElem? (i := 829) (by decide +kernel), List.mem_of_getElem? (i := 830) (by decide +kernel)⟩
theorem lw_p52 : lw_okq (⟨"HidingBoxesModel", "covers", "(III)Z"⟩, 17) := ⟨⟨by decide +kernel, by decide +kernel⟩, List.mem_of_getElem? (i := 547) (by decide +kernel), List.mem_of_getElem? (i := 833) (by decide +kernel), List.mem_of_getElem? (i := 834) (by decide +kernel)⟩
theorem lw_p53 : lw_okq (⟨"HidingBoxesModel", "drawAll", "(I)V"⟩, 17) := ⟨⟨by decide +kernel, by decide +kernel⟩, List.mem_of_getElem? (i := 547) (by decide +kernel), List.mem_of_getElem? (i := 845) (by decide +kernel), List.mem_of_getElem? (i := 846) (by decide +kernel)⟩
theorem lw_p54 : lw_okq (⟨"HidingBoxesModel", "weight", "(I)I"⟩, 17) := ⟨⟨by decide +kernel, by decide +kernel⟩, List.mem_of_getElem? (i := 547) (by decide +kernel), List.mem_of_getElem? (i := 849) (by decide +kernel), List.mem_of_getElem? (i := 850) (by decide +kernel)⟩
theorem lw_p55 : lw_okq (⟨"HidingBoxesModel", "shortestOfAll", "()I"⟩, 17) := ⟨⟨by decide +kernel, by decide +kernel⟩, List.mem_of_getElem? (i := 547) (by decide +kernel), List.mem_of_getElem? (i := 857) (by decide +kernel), List.mem_of_getElem? (i := 858) (by decide +kernel)⟩
theorem lw_p56 : lw_okq (⟨"HidingBoxesModel", "drawnSet", "()I"⟩, 17) := ⟨⟨by decide +kernel, by decide +kernel⟩, List.mem_of_getElem? (i := 547) (by decide +kernel), List.mem_of_getElem? (i := 865) (by decide +kernel), List.mem_of_getElem? (i := 866) (by decide +kernel)⟩
def lw_privs_4 : List (MethodName × Nat) := [(⟨"HidingBoxesModel", "shortestRing", "(I)I"⟩, 17), (⟨"HidingBoxesModel", "hiddenByAny", "(I)I"⟩, 17), (⟨"HidingBoxesModel", "boxesBelow", "(IZ)I"⟩, 17), (⟨"HidingBoxesModel", "shadows", "(I)I"⟩, 17), (⟨"HidingBoxesModel", "covers", "(III)Z"⟩, 17), (⟨"HidingBoxesModel", "drawAll", "(I)V"⟩, 17), (⟨"HidingBoxesModel", "weight", "(I)I"⟩, 17), (⟨"HidingBoxesModel", "shortestOfAll", "()I"⟩, 17), (⟨"HidingBoxesModel", "drawnSet", "()I"⟩, 17)]
theorem lw_r4 : ∀ q ∈ lw_privs_4, lw_okq q := List.forall_mem_cons.mpr ⟨lw_p48, List.forall_mem_cons.mpr ⟨lw_p49, List.forall_mem_cons.mpr ⟨lw_p50, List.forall_mem_cons.mpr ⟨lw_p51, List.forall_mem_cons.mpr ⟨lw_p52, List.forall_mem_cons.mpr ⟨lw_p53, List.forall_mem_cons.mpr ⟨lw_p54, List.forall_mem_cons.mpr ⟨lw_p55, List.forall_mem_cons.mpr ⟨lw_p56, fun _ h => absurd h List.not_mem_nil⟩⟩⟩⟩⟩⟩⟩⟩⟩
def lw_privs : List (MethodName × Nat) := lw_privs_1 ++ (lw_privs_2 ++ (lw_privs_3 ++ (lw_privs_4)))
def lw_tbl : List Cond := k2_sels lw_privs ++ tables_1
theorem lw_privs_ok : ∀ q ∈ lw_privs, lw_okq q := by
  show ∀ q ∈ lw_privs_1 ++ (lw_privs_2 ++ (lw_privs_3 ++ (lw_privs_4))), lw_okq q
  exact List.forall_mem_append.mpr ⟨lw_r1, List.forall_mem_append.mpr ⟨lw_r2, List.forall_mem_append.mpr ⟨lw_r3, lw_r4⟩⟩⟩
end
section
/-! ===== BEGIN words of one list among another's, by their places ===== -/
theorem goodIn_r {big : List Cond} (ws : List Cond) (ps : List Nat) (hp : ws = ps.filterMap (fun i => big[i]?)) (h : ws.all goodWord = true) : GoodIn big ws := by
  intro w hw
  have h1 := List.all_eq_true.mp h w hw
  rw [hp] at hw
  obtain ⟨i, -, hi⟩ := List.mem_filterMap.mp hw
  have hm : w ∈ big := by first | exact List.mem_of_getElem? hi | exact List.getElem?_mem hi
  exact ⟨hm, good_of_word h1⟩
theorem goodIn_app {big a b : List Cond} (ha : GoodIn big a) (hb : GoodIn big b) : GoodIn big (a ++ b) := fun w h => (List.mem_append.mp h).elim (ha w) (hb w)
theorem goodIn_ca {big a b : List Cond} {c : Cond} (ha : GoodIn big (c :: a)) (hb : GoodIn big b) : GoodIn big (c :: (a ++ b)) := fun w h => (List.mem_cons.mp h).elim (fun e => ha w (List.mem_cons.mpr (Or.inl e))) (fun h => (List.mem_append.mp h).elim (fun h => ha w (List.mem_cons.mpr (Or.inr h))) (hb w))
theorem goodIn_sub {big ws : List Cond} (hm : ∀ w ∈ ws, w ∈ big) (h : ws.all goodWord = true) : GoodIn big ws := fun w hw => ⟨hm w hw, good_of_word (List.all_eq_true.mp h w hw)⟩
/-! ===== END ===== -/
end
section
/-! ===== BEGIN printed: names, fields, word lists, decode rows ===== -/
def RX0 : String := "HidingBoxes$Box"
def TX0 : u_T := fun k => match k with
  | 0 => ("HidingBoxes$Box", "number", "I", false)
  | 1 => ("HidingBoxes$Box", "low", "[I", true)
  | _ => ("HidingBoxes$Box", "high", "[I", true)
def tyX0 : Nat → FieldType := fun k => match k with
  | 0 => .int
  | 1 => .array .int
  | _ => .array .int
abbrev wsX00 : List Cond := u_ws RX0 TX0 3
theorem nmX0 : ∀ a, a < 3 → ∀ b, b < 3 → a ≠ b → (TX0 a).2.1 ≠ (TX0 b).2.1 := by decide +kernel
theorem tyX0_ok : ∀ k, k < 3 → parseFieldDescriptor (TX0 k).2.2.1 = some (tyX0 k) := by decide +kernel
abbrev cX0_init : ByteArray := prog_2_method_1_code
def yX0_init : MethodName := ⟨RX0, "<init>", "()V"⟩
abbrev cX0_copyFrom : ByteArray := prog_2_method_2_code
def yX0_copyFrom : MethodName := ⟨RX0, "copyFrom", "(LHidingBoxes$Box;)V"⟩
abbrev cX0_lay : ByteArray := prog_2_method_3_code
def yX0_lay : MethodName := ⟨RX0, "lay", "(III)Z"⟩
abbrev cX0_shift : ByteArray := prog_2_method_4_code
def yX0_shift : MethodName := ⟨RX0, "shift", "(II)V"⟩
abbrev cX0_size : ByteArray := prog_2_method_5_code
def yX0_size : MethodName := ⟨RX0, "size", "(I)I"⟩
abbrev cX0_volume : ByteArray := prog_2_method_6_code
def yX0_volume : MethodName := ⟨RX0, "volume", "()I"⟩
abbrev cX0_sumOfCorner : ByteArray := prog_2_method_7_code
def yX0_sumOfCorner : MethodName := ⟨RX0, "sumOfCorner", "()I"⟩
abbrev cX0_longestDirection : ByteArray := prog_2_method_8_code
def yX0_longestDirection : MethodName := ⟨RX0, "longestDirection", "()I"⟩
abbrev cX0_meets : ByteArray := prog_2_method_9_code
def yX0_meets : MethodName := ⟨RX0, "meets", "(LHidingBoxes$Box;I)Z"⟩
abbrev cX0_cuts : ByteArray := prog_2_method_10_code
def yX0_cuts : MethodName := ⟨RX0, "cuts", "(LHidingBoxes$Box;)Z"⟩
abbrev cX0_meetsInDifference : ByteArray := prog_2_method_11_code
def yX0_meetsInDifference : MethodName := ⟨RX0, "meetsInDifference", "(LHidingBoxes$Box;II)Z"⟩
abbrev cX0_overlapsOutlineOf : ByteArray := prog_2_method_12_code
def yX0_overlapsOutlineOf : MethodName := ⟨RX0, "overlapsOutlineOf", "(LHidingBoxes$Box;)Z"⟩
abbrev cX0_directionOfHiding : ByteArray := prog_2_method_13_code
def yX0_directionOfHiding : MethodName := ⟨RX0, "directionOfHiding", "(LHidingBoxes$Box;)I"⟩
abbrev cX0_isBelow : ByteArray := prog_2_method_14_code
def yX0_isBelow : MethodName := ⟨RX0, "isBelow", "(LHidingBoxes$Box;)Z"⟩
abbrev cX0_coversRow : ByteArray := prog_2_method_15_code
def yX0_coversRow : MethodName := ⟨RX0, "coversRow", "(I)Z"⟩
abbrev cX0_rowOfCells : ByteArray := prog_2_method_16_code
def yX0_rowOfCells : MethodName := ⟨RX0, "rowOfCells", "()I"⟩
def RX1 : String := "HidingBoxes$History"
def TX1 : u_T := fun k => match k with
  | 0 => ("HidingBoxes$History", "states", "[LHidingBoxes$Space;", true)
  | _ => ("HidingBoxes$History", "count", "I", false)
def tyX1 : Nat → FieldType := fun k => match k with
  | 0 => .array (.object "HidingBoxes$Space")
  | _ => .int
abbrev wsX10 : List Cond := u_ws RX1 TX1 2
theorem nmX1 : ∀ a, a < 2 → ∀ b, b < 2 → a ≠ b → (TX1 a).2.1 ≠ (TX1 b).2.1 := by decide +kernel
theorem tyX1_ok : ∀ k, k < 2 → parseFieldDescriptor (TX1 k).2.2.1 = some (tyX1 k) := by decide +kernel
abbrev cX1_init : ByteArray := prog_3_method_1_code
def yX1_init : MethodName := ⟨RX1, "<init>", "()V"⟩
abbrev cX1_remember : ByteArray := prog_3_method_2_code
def yX1_remember : MethodName := ⟨RX1, "remember", "(LHidingBoxes$Space;)V"⟩
abbrev cX1_dropOldest : ByteArray := prog_3_method_3_code
def yX1_dropOldest : MethodName := ⟨RX1, "dropOldest", "()V"⟩
abbrev cX1_recall : ByteArray := prog_3_method_4_code
def yX1_recall : MethodName := ⟨RX1, "recall", "(LHidingBoxes$Space;)V"⟩
def RX2 : String := "HidingBoxes$Picture"
def TX2 : u_T := fun k => match k with
  | 0 => ("HidingBoxes$Picture", "count", "I", false)
  | 1 => ("HidingBoxes$Picture", "hides", "[I", true)
  | 2 => ("HidingBoxes$Picture", "chains", "[I", true)
  | 3 => ("HidingBoxes$Picture", "order", "[I", true)
  | 4 => ("HidingBoxes$Picture", "drawnBits", "I", false)
  | 5 => ("HidingBoxes$Picture", "drawnCount", "I", false)
  | _ => ("HidingBoxes$Picture", "layers", "[I", true)
def tyX2 : Nat → FieldType := fun k => match k with
  | 0 => .int
  | 1 => .array .int
  | 2 => .array .int
  | 3 => .array .int
  | 4 => .int
  | 5 => .int
  | _ => .array .int
abbrev wsX20 : List Cond := u_ws RX2 TX2 7
theorem nmX2 : ∀ a, a < 7 → ∀ b, b < 7 → a ≠ b → (TX2 a).2.1 ≠ (TX2 b).2.1 := by decide +kernel
theorem tyX2_ok : ∀ k, k < 7 → parseFieldDescriptor (TX2 k).2.2.1 = some (tyX2 k) := by decide +kernel
abbrev cX2_init : ByteArray := prog_4_method_1_code
def yX2_init : MethodName := ⟨RX2, "<init>", "()V"⟩
abbrev cX2_look : ByteArray := prog_4_method_2_code
def yX2_look : MethodName := ⟨RX2, "look", "(LHidingBoxes$Space;)V"⟩
abbrev cX2_bitsHiddenBy : ByteArray := prog_4_method_3_code
def yX2_bitsHiddenBy : MethodName := ⟨RX2, "bitsHiddenBy", "(LHidingBoxes$Space;I)I"⟩
abbrev cX2_hasBit : ByteArray := prog_4_method_4_code
def yX2_hasBit : MethodName := ⟨RX2, "hasBit", "(II)Z"⟩
abbrev cX2_followChains : ByteArray := prog_4_method_5_code
def yX2_followChains : MethodName := ⟨RX2, "followChains", "()V"⟩
abbrev cX2_draw : ByteArray := prog_4_method_6_code
def yX2_draw : MethodName := ⟨RX2, "draw", "(LHidingBoxes$Space;)V"⟩
abbrev cX2_nextToDraw : ByteArray := prog_4_method_7_code
def yX2_nextToDraw : MethodName := ⟨RX2, "nextToDraw", "(LHidingBoxes$Space;)I"⟩
abbrev cX2_layerAbove : ByteArray := prog_4_method_8_code
def yX2_layerAbove : MethodName := ⟨RX2, "layerAbove", "(I)I"⟩
abbrev cX2_hiddenBy : ByteArray := prog_4_method_9_code
def yX2_hiddenBy : MethodName := ⟨RX2, "hiddenBy", "(I)I"⟩
abbrev cX2_hidersOf : ByteArray := prog_4_method_10_code
def yX2_hidersOf : MethodName := ⟨RX2, "hidersOf", "(I)I"⟩
abbrev cX2_hidings : ByteArray := prog_4_method_11_code
def yX2_hidings : MethodName := ⟨RX2, "hidings", "()I"⟩
abbrev cX2_hidingsNotIn : ByteArray := prog_4_method_12_code
def yX2_hidingsNotIn : MethodName := ⟨RX2, "hidingsNotIn", "(LHidingBoxes$Picture;)I"⟩
abbrev cX2_slotDrawn : ByteArray := prog_4_method_13_code
def yX2_slotDrawn : MethodName := ⟨RX2, "slotDrawn", "(I)I"⟩
abbrev cX2_greatestLayer : ByteArray := prog_4_method_14_code
def yX2_greatestLayer : MethodName := ⟨RX2, "greatestLayer", "()I"⟩
abbrev cX2_firstNotDrawnUnder : ByteArray := prog_4_method_15_code
def yX2_firstNotDrawnUnder : MethodName := ⟨RX2, "firstNotDrawnUnder", "(I)I"⟩
abbrev cX2_isInRing : ByteArray := prog_4_method_16_code
def yX2_isInRing : MethodName := ⟨RX2, "isInRing", "(I)Z"⟩
abbrev cX2_boxesInRings : ByteArray := prog_4_method_17_code
def yX2_boxesInRings : MethodName := ⟨RX2, "boxesInRings", "()I"⟩
abbrev cX2_shortestRing : ByteArray := prog_4_method_18_code
def yX2_shortestRing : MethodName := ⟨RX2, "shortestRing", "()I"⟩
abbrev cX2_shortestRingOf : ByteArray := prog_4_method_19_code
def yX2_shortestRingOf : MethodName := ⟨RX2, "shortestRingOf", "(I)I"⟩
abbrev cX2_bitsHiddenByAll : ByteArray := prog_4_method_20_code
def yX2_bitsHiddenByAll : MethodName := ⟨RX2, "bitsHiddenByAll", "(I)I"⟩
abbrev cX2_greatestInRings : ByteArray := prog_4_method_21_code
def yX2_greatestInRings : MethodName := ⟨RX2, "greatestInRings", "(LHidingBoxes$Space;)I"⟩
def RX3 : String := "HidingBoxes$Space"
def TX3 : u_T := fun k => match k with
  | 0 => ("HidingBoxes$Space", "boxes", "[LHidingBoxes$Box;", true)
  | 1 => ("HidingBoxes$Space", "count", "I", false)
  | 2 => ("HidingBoxes$Space", "nextNumber", "I", false)
  | 3 => ("HidingBoxes$Space", "splits", "I", false)
  | _ => ("HidingBoxes$Space", "rule", "I", false)
def tyX3 : Nat → FieldType := fun k => match k with
  | 0 => .array (.object "HidingBoxes$Box")
  | 1 => .int
  | 2 => .int
  | 3 => .int
  | _ => .int
abbrev wsX30 : List Cond := u_ws RX3 TX3 5
theorem nmX3 : ∀ a, a < 5 → ∀ b, b < 5 → a ≠ b → (TX3 a).2.1 ≠ (TX3 b).2.1 := by decide +kernel
theorem tyX3_ok : ∀ k, k < 5 → parseFieldDescriptor (TX3 k).2.2.1 = some (tyX3 k) := by decide +kernel
abbrev cX3_init : ByteArray := prog_5_method_1_code
def yX3_init : MethodName := ⟨RX3, "<init>", "()V"⟩
abbrev cX3_copyFrom : ByteArray := prog_5_method_2_code
def yX3_copyFrom : MethodName := ⟨RX3, "copyFrom", "(LHidingBoxes$Space;)V"⟩
abbrev cX3_isFull : ByteArray := prog_5_method_3_code
def yX3_isFull : MethodName := ⟨RX3, "isFull", "()Z"⟩
abbrev cX3_slotOf : ByteArray := prog_5_method_4_code
def yX3_slotOf : MethodName := ⟨RX3, "slotOf", "(I)I"⟩
abbrev cX3_isCutBy : ByteArray := prog_5_method_5_code
def yX3_isCutBy : MethodName := ⟨RX3, "isCutBy", "(LHidingBoxes$Box;I)Z"⟩
abbrev cX3_append : ByteArray := prog_5_method_6_code
def yX3_append : MethodName := ⟨RX3, "append", "(LHidingBoxes$Box;)I"⟩
abbrev cX3_takeOut : ByteArray := prog_5_method_7_code
def yX3_takeOut : MethodName := ⟨RX3, "takeOut", "(I)V"⟩
abbrev cX3_cutInTwo : ByteArray := prog_5_method_8_code
def yX3_cutInTwo : MethodName := ⟨RX3, "cutInTwo", "(III)I"⟩
abbrev cX3_quarterTurn : ByteArray := prog_5_method_9_code
def yX3_quarterTurn : MethodName := ⟨RX3, "quarterTurn", "()V"⟩
abbrev cX3_weightInDrawing : ByteArray := prog_5_method_10_code
def yX3_weightInDrawing : MethodName := ⟨RX3, "weightInDrawing", "(I)I"⟩
abbrev cX3_volume : ByteArray := prog_5_method_11_code
def yX3_volume : MethodName := ⟨RX3, "volume", "()I"⟩
abbrev cX3_groundUnder : ByteArray := prog_5_method_12_code
def yX3_groundUnder : MethodName := ⟨RX3, "groundUnder", "(I)I"⟩
abbrev cX3_boxesBelow : ByteArray := prog_5_method_13_code
def yX3_boxesBelow : MethodName := ⟨RX3, "boxesBelow", "(I)I"⟩
abbrev cX3_supportsOf : ByteArray := prog_5_method_14_code
def yX3_supportsOf : MethodName := ⟨RX3, "supportsOf", "(I)I"⟩
abbrev cX3_shadowOn : ByteArray := prog_5_method_15_code
def yX3_shadowOn : MethodName := ⟨RX3, "shadowOn", "(I)I"⟩
abbrev cX3_shadow : ByteArray := prog_5_method_16_code
def yX3_shadow : MethodName := ⟨RX3, "shadow", "()I"⟩
def RX4 : String := "HidingBoxes$Text"
def TX4 : u_T := fun k => match k with
  | 0 => ("HidingBoxes$Text", "signs", "[C", true)
  | 1 => ("HidingBoxes$Text", "length", "I", false)
  | 2 => ("HidingBoxes$Text", "values", "[I", true)
  | _ => ("HidingBoxes$Text", "valueCount", "I", false)
def tyX4 : Nat → FieldType := fun k => match k with
  | 0 => .array .char
  | 1 => .int
  | 2 => .array .int
  | _ => .int
abbrev wsX40 : List Cond := u_ws RX4 TX4 4
theorem nmX4 : ∀ a, a < 4 → ∀ b, b < 4 → a ≠ b → (TX4 a).2.1 ≠ (TX4 b).2.1 := by decide +kernel
theorem tyX4_ok : ∀ k, k < 4 → parseFieldDescriptor (TX4 k).2.2.1 = some (tyX4 k) := by decide +kernel
abbrev cX4_init : ByteArray := prog_6_method_1_code
def yX4_init : MethodName := ⟨RX4, "<init>", "()V"⟩
abbrev cX4_append : ByteArray := prog_6_method_2_code
def yX4_append : MethodName := ⟨RX4, "append", "(C)Z"⟩
abbrev cX4_read : ByteArray := prog_6_method_3_code
def yX4_read : MethodName := ⟨RX4, "read", "()I"⟩
abbrev cX4_withDigit : ByteArray := prog_6_method_4_code
def yX4_withDigit : MethodName := ⟨RX4, "withDigit", "(III)I"⟩
abbrev cX4_signBehind : ByteArray := prog_6_method_5_code
def yX4_signBehind : MethodName := ⟨RX4, "signBehind", "(I)C"⟩
abbrev cX4_store : ByteArray := prog_6_method_6_code
def yX4_store : MethodName := ⟨RX4, "store", "(I)V"⟩
abbrev cX4_boxCount : ByteArray := prog_6_method_7_code
def yX4_boxCount : MethodName := ⟨RX4, "boxCount", "()I"⟩
abbrev cX4_valueOf : ByteArray := prog_6_method_8_code
def yX4_valueOf : MethodName := ⟨RX4, "valueOf", "(II)I"⟩
def RX5 : String := "HidingBoxes"
def TX5 : u_T := fun k => match k with
  | 0 => ("HidingBoxes", "now", "LHidingBoxes$Space;", true)
  | 1 => ("HidingBoxes", "trial", "LHidingBoxes$Space;", true)
  | 2 => ("HidingBoxes", "snapshot", "LHidingBoxes$Space;", true)
  | 3 => ("HidingBoxes", "hasSnapshot", "Z", false)
  | 4 => ("HidingBoxes", "history", "LHidingBoxes$History;", true)
  | 5 => ("HidingBoxes", "text", "LHidingBoxes$Text;", true)
  | 6 => ("HidingBoxes", "picture", "LHidingBoxes$Picture;", true)
  | 7 => ("HidingBoxes", "turnedPicture", "LHidingBoxes$Picture;", true)
  | _ => ("HidingBoxes", "newcomer", "LHidingBoxes$Box;", true)
def tyX5 : Nat → FieldType := fun k => match k with
  | 0 => .object "HidingBoxes$Space"
  | 1 => .object "HidingBoxes$Space"
  | 2 => .object "HidingBoxes$Space"
  | 3 => .boolean
  | 4 => .object "HidingBoxes$History"
  | 5 => .object "HidingBoxes$Text"
  | 6 => .object "HidingBoxes$Picture"
  | 7 => .object "HidingBoxes$Picture"
  | _ => .object "HidingBoxes$Box"
abbrev wsX50 : List Cond := u_ws RX5 TX5 9
theorem nmX5 : ∀ a, a < 9 → ∀ b, b < 9 → a ≠ b → (TX5 a).2.1 ≠ (TX5 b).2.1 := by decide +kernel
theorem tyX5_ok : ∀ k, k < 9 → parseFieldDescriptor (TX5 k).2.2.1 = some (tyX5 k) := by decide +kernel
abbrev cX5_init : ByteArray := prog_1_method_1_code
def yX5_init : MethodName := ⟨RX5, "<init>", "()V"⟩
abbrev cX5_add : ByteArray := prog_1_method_2_code
def yX5_add : MethodName := ⟨RX5, "add", "(IIIIII)I"⟩
abbrev cX5_remove : ByteArray := prog_1_method_3_code
def yX5_remove : MethodName := ⟨RX5, "remove", "(I)I"⟩
abbrev cX5_move : ByteArray := prog_1_method_4_code
def yX5_move : MethodName := ⟨RX5, "move", "(III)I"⟩
abbrev cX5_fall : ByteArray := prog_1_method_5_code
def yX5_fall : MethodName := ⟨RX5, "fall", "(I)I"⟩
abbrev cX5_split : ByteArray := prog_1_method_6_code
def yX5_split : MethodName := ⟨RX5, "split", "(III)I"⟩
abbrev cX5_breakRing : ByteArray := prog_1_method_7_code
def yX5_breakRing : MethodName := ⟨RX5, "breakRing", "()I"⟩
abbrev cX5_turn : ByteArray := prog_1_method_8_code
def yX5_turn : MethodName := ⟨RX5, "turn", "()I"⟩
abbrev cX5_set : ByteArray := prog_1_method_9_code
def yX5_set : MethodName := ⟨RX5, "set", "(II)I"⟩
abbrev cX5_type : ByteArray := prog_1_method_10_code
def yX5_type : MethodName := ⟨RX5, "type", "(C)I"⟩
abbrev cX5_clearText : ByteArray := prog_1_method_11_code
def yX5_clearText : MethodName := ⟨RX5, "clearText", "()I"⟩
abbrev cX5_addAll : ByteArray := prog_1_method_12_code
def yX5_addAll : MethodName := ⟨RX5, "addAll", "()I"⟩
abbrev cX5_undo : ByteArray := prog_1_method_13_code
def yX5_undo : MethodName := ⟨RX5, "undo", "()I"⟩
abbrev cX5_keep : ByteArray := prog_1_method_14_code
def yX5_keep : MethodName := ⟨RX5, "keep", "()I"⟩
abbrev cX5_restore : ByteArray := prog_1_method_15_code
def yX5_restore : MethodName := ⟨RX5, "restore", "()I"⟩
abbrev cX5_box : ByteArray := prog_1_method_16_code
def yX5_box : MethodName := ⟨RX5, "box", "(I)I"⟩
abbrev cX5_end : ByteArray := prog_1_method_17_code
def yX5_end : MethodName := ⟨RX5, "end", "(IIZ)I"⟩
abbrev cX5_ofBox : ByteArray := prog_1_method_18_code
def yX5_ofBox : MethodName := ⟨RX5, "ofBox", "(II)I"⟩
abbrev cX5_pair : ByteArray := prog_1_method_19_code
def yX5_pair : MethodName := ⟨RX5, "pair", "(II)I"⟩
abbrev cX5_drawn : ByteArray := prog_1_method_20_code
def yX5_drawn : MethodName := ⟨RX5, "drawn", "(I)I"⟩
abbrev cX5_total : ByteArray := prog_1_method_21_code
def yX5_total : MethodName := ⟨RX5, "total", "(I)I"⟩
abbrev cX5_waitsFor : ByteArray := prog_1_method_22_code
def yX5_waitsFor : MethodName := ⟨RX5, "waitsFor", "(I)I"⟩
abbrev cX5_breaks : ByteArray := prog_1_method_23_code
def yX5_breaks : MethodName := ⟨RX5, "breaks", "()I"⟩
abbrev cX5_drawnWithout : ByteArray := prog_1_method_24_code
def yX5_drawnWithout : MethodName := ⟨RX5, "drawnWithout", "(I)I"⟩
abbrev cX5_isDirection : ByteArray := prog_1_method_25_code
def yX5_isDirection : MethodName := ⟨RX5, "isDirection", "(I)Z"⟩
abbrev cX5_look : ByteArray := prog_1_method_26_code
def yX5_look : MethodName := ⟨RX5, "look", "()LHidingBoxes$Picture;"⟩
abbrev cX5_adoptTrial : ByteArray := prog_1_method_27_code
def yX5_adoptTrial : MethodName := ⟨RX5, "adoptTrial", "()V"⟩
abbrev cX5_enter : ByteArray := prog_1_method_28_code
def yX5_enter : MethodName := ⟨RX5, "enter", "(LHidingBoxes$Space;IIIIII)I"⟩
abbrev cX5_breakOne : ByteArray := prog_1_method_29_code
def yX5_breakOne : MethodName := ⟨RX5, "breakOne", "(LHidingBoxes$Space;)I"⟩
def RX6 : String := "HidingBoxesModel"
def TX6 : u_T := fun k => match k with
  | 0 => ("HidingBoxesModel", "z", "[I", true)
  | 1 => ("HidingBoxesModel", "aside", "[I", true)
  | 2 => ("HidingBoxesModel", "old", "[I", true)
  | 3 => ("HidingBoxesModel", "states", "I", false)
  | 4 => ("HidingBoxesModel", "kept", "[I", true)
  | 5 => ("HidingBoxesModel", "isKept", "Z", false)
  | 6 => ("HidingBoxesModel", "text", "[I", true)
  | 7 => ("HidingBoxesModel", "length", "I", false)
  | 8 => ("HidingBoxesModel", "hides", "[I", true)
  | 9 => ("HidingBoxesModel", "reaches", "[I", true)
  | 10 => ("HidingBoxesModel", "layers", "[I", true)
  | 11 => ("HidingBoxesModel", "order", "[I", true)
  | 12 => ("HidingBoxesModel", "drawn", "I", false)
  | 13 => ("HidingBoxesModel", "before", "[I", true)
  | 14 => ("HidingBoxesModel", "given", "[I", true)
  | 15 => ("HidingBoxesModel", "place", "I", false)
  | _ => ("HidingBoxesModel", "isWrong", "Z", false)
def tyX6 : Nat → FieldType := fun k => match k with
  | 0 => .array .int
  | 1 => .array .int
  | 2 => .array .int
  | 3 => .int
  | 4 => .array .int
  | 5 => .boolean
  | 6 => .array .int
  | 7 => .int
  | 8 => .array .int
  | 9 => .array .int
  | 10 => .array .int
  | 11 => .array .int
  | 12 => .int
  | 13 => .array .int
  | 14 => .array .int
  | 15 => .int
  | _ => .boolean
abbrev wsX60 : List Cond := u_ws RX6 TX6 17
theorem nmX6 : ∀ a, a < 17 → ∀ b, b < 17 → a ≠ b → (TX6 a).2.1 ≠ (TX6 b).2.1 := by decide +kernel
theorem tyX6_ok : ∀ k, k < 17 → parseFieldDescriptor (TX6 k).2.2.1 = some (tyX6 k) := by decide +kernel
abbrev cX6_init : ByteArray := prog_8_method_1_code
def yX6_init : MethodName := ⟨RX6, "<init>", "()V"⟩
abbrev cX6_in : ByteArray := prog_8_method_3_code
def yX6_in : MethodName := ⟨RX6, "in", "(JII)Z"⟩
abbrev cX6_has : ByteArray := prog_8_method_4_code
def yX6_has : MethodName := ⟨RX6, "has", "(II)Z"⟩
abbrev cX6_ones : ByteArray := prog_8_method_5_code
def yX6_ones : MethodName := ⟨RX6, "ones", "(I)I"⟩
abbrev cX6_of : ByteArray := prog_8_method_6_code
def yX6_of : MethodName := ⟨RX6, "of", "(II)I"⟩
abbrev cX6_put : ByteArray := prog_8_method_7_code
def yX6_put : MethodName := ⟨RX6, "put", "(III)V"⟩
abbrev cX6_low : ByteArray := prog_8_method_8_code
def yX6_low : MethodName := ⟨RX6, "low", "(II)I"⟩
abbrev cX6_size : ByteArray := prog_8_method_9_code
def yX6_size : MethodName := ⟨RX6, "size", "(II)I"⟩
abbrev cX6_high : ByteArray := prog_8_method_10_code
def yX6_high : MethodName := ⟨RX6, "high", "(II)I"⟩
abbrev cX6_volume : ByteArray := prog_8_method_11_code
def yX6_volume : MethodName := ⟨RX6, "volume", "(I)I"⟩
abbrev cX6_rankOf : ByteArray := prog_8_method_12_code
def yX6_rankOf : MethodName := ⟨RX6, "rankOf", "(I)I"⟩
abbrev cX6_isDirection : ByteArray := prog_8_method_13_code
def yX6_isDirection : MethodName := ⟨RX6, "isDirection", "(I)Z"⟩
abbrev cX6_cross : ByteArray := prog_8_method_14_code
def yX6_cross : MethodName := ⟨RX6, "cross", "(III)Z"⟩
abbrev cX6_cutsAny : ByteArray := prog_8_method_15_code
def yX6_cutsAny : MethodName := ⟨RX6, "cutsAny", "(II)Z"⟩
abbrev cX6_reachesBelow : ByteArray := prog_8_method_16_code
def yX6_reachesBelow : MethodName := ⟨RX6, "reachesBelow", "(IIII)Z"⟩
abbrev cX6_overlap : ByteArray := prog_8_method_17_code
def yX6_overlap : MethodName := ⟨RX6, "overlap", "(II)Z"⟩
abbrev cX6_hidesBy : ByteArray := prog_8_method_18_code
def yX6_hidesBy : MethodName := ⟨RX6, "hidesBy", "(II)I"⟩
abbrev cX6_findHiding : ByteArray := prog_8_method_19_code
def yX6_findHiding : MethodName := ⟨RX6, "findHiding", "()V"⟩
abbrev cX6_isInRing : ByteArray := prog_8_method_20_code
def yX6_isInRing : MethodName := ⟨RX6, "isInRing", "(I)Z"⟩
abbrev cX6_ringBoxes : ByteArray := prog_8_method_21_code
def yX6_ringBoxes : MethodName := ⟨RX6, "ringBoxes", "()I"⟩
abbrev cX6_hiddenByAny : ByteArray := prog_8_method_22_code
def yX6_hiddenByAny : MethodName := ⟨RX6, "hiddenByAny", "(I)I"⟩
abbrev cX6_shortestRing : ByteArray := prog_8_method_23_code
def yX6_shortestRing : MethodName := ⟨RX6, "shortestRing", "(I)I"⟩
abbrev cX6_shortestOfAll : ByteArray := prog_8_method_24_code
def yX6_shortestOfAll : MethodName := ⟨RX6, "shortestOfAll", "()I"⟩
abbrev cX6_findLayers : ByteArray := prog_8_method_25_code
def yX6_findLayers : MethodName := ⟨RX6, "findLayers", "()V"⟩
abbrev cX6_weight : ByteArray := prog_8_method_26_code
def yX6_weight : MethodName := ⟨RX6, "weight", "(I)I"⟩
abbrev cX6_drawAll : ByteArray := prog_8_method_27_code
def yX6_drawAll : MethodName := ⟨RX6, "drawAll", "(I)V"⟩
abbrev cX6_drawnSet : ByteArray := prog_8_method_28_code
def yX6_drawnSet : MethodName := ⟨RX6, "drawnSet", "()I"⟩
abbrev cX6_push : ByteArray := prog_8_method_29_code
def yX6_push : MethodName := ⟨RX6, "push", "([I)V"⟩
abbrev cX6_putAside : ByteArray := prog_8_method_30_code
def yX6_putAside : MethodName := ⟨RX6, "putAside", "()V"⟩
abbrev cX6_putBack : ByteArray := prog_8_method_31_code
def yX6_putBack : MethodName := ⟨RX6, "putBack", "()V"⟩
abbrev cX6_undo : ByteArray := prog_8_method_32_code
def yX6_undo : MethodName := ⟨RX6, "undo", "()I"⟩
abbrev cX6_keep : ByteArray := prog_8_method_33_code
def yX6_keep : MethodName := ⟨RX6, "keep", "()I"⟩
abbrev cX6_restore : ByteArray := prog_8_method_34_code
def yX6_restore : MethodName := ⟨RX6, "restore", "()I"⟩
abbrev cX6_tryBox : ByteArray := prog_8_method_35_code
def yX6_tryBox : MethodName := ⟨RX6, "tryBox", "(IIIIII)I"⟩
abbrev cX6_putBox : ByteArray := prog_8_method_36_code
def yX6_putBox : MethodName := ⟨RX6, "putBox", "(IIIIII)I"⟩
abbrev cX6_add : ByteArray := prog_8_method_37_code
def yX6_add : MethodName := ⟨RX6, "add", "(IIIIII)I"⟩
abbrev cX6_remove : ByteArray := prog_8_method_38_code
def yX6_remove : MethodName := ⟨RX6, "remove", "(I)I"⟩
abbrev cX6_move : ByteArray := prog_8_method_39_code
def yX6_move : MethodName := ⟨RX6, "move", "(III)I"⟩
abbrev cX6_isBelow : ByteArray := prog_8_method_40_code
def yX6_isBelow : MethodName := ⟨RX6, "isBelow", "(II)Z"⟩
abbrev cX6_fall : ByteArray := prog_8_method_41_code
def yX6_fall : MethodName := ⟨RX6, "fall", "(I)I"⟩
abbrev cX6_doSplit : ByteArray := prog_8_method_42_code
def yX6_doSplit : MethodName := ⟨RX6, "doSplit", "(III)I"⟩
abbrev cX6_split : ByteArray := prog_8_method_43_code
def yX6_split : MethodName := ⟨RX6, "split", "(III)I"⟩
abbrev cX6_breakAt : ByteArray := prog_8_method_44_code
def yX6_breakAt : MethodName := ⟨RX6, "breakAt", "()I"⟩
abbrev cX6_greatestDirection : ByteArray := prog_8_method_45_code
def yX6_greatestDirection : MethodName := ⟨RX6, "greatestDirection", "(I)I"⟩
abbrev cX6_whyNoBreak : ByteArray := prog_8_method_46_code
def yX6_whyNoBreak : MethodName := ⟨RX6, "whyNoBreak", "(I)I"⟩
abbrev cX6_doBreak : ByteArray := prog_8_method_47_code
def yX6_doBreak : MethodName := ⟨RX6, "doBreak", "(I)I"⟩
abbrev cX6_breakRing : ByteArray := prog_8_method_48_code
def yX6_breakRing : MethodName := ⟨RX6, "breakRing", "()I"⟩
abbrev cX6_turn : ByteArray := prog_8_method_49_code
def yX6_turn : MethodName := ⟨RX6, "turn", "()I"⟩
abbrev cX6_set : ByteArray := prog_8_method_50_code
def yX6_set : MethodName := ⟨RX6, "set", "(II)I"⟩
abbrev cX6_type : ByteArray := prog_8_method_51_code
def yX6_type : MethodName := ⟨RX6, "type", "(C)I"⟩
abbrev cX6_clearText : ByteArray := prog_8_method_52_code
def yX6_clearText : MethodName := ⟨RX6, "clearText", "()I"⟩
abbrev cX6_sign : ByteArray := prog_8_method_53_code
def yX6_sign : MethodName := ⟨RX6, "sign", "()I"⟩
abbrev cX6_take : ByteArray := prog_8_method_54_code
def yX6_take : MethodName := ⟨RX6, "take", "(Z)V"⟩
abbrev cX6_readNumber : ByteArray := prog_8_method_55_code
def yX6_readNumber : MethodName := ⟨RX6, "readNumber", "(II)I"⟩
abbrev cX6_readBox : ByteArray := prog_8_method_56_code
def yX6_readBox : MethodName := ⟨RX6, "readBox", "()V"⟩
abbrev cX6_findFault : ByteArray := prog_8_method_57_code
def yX6_findFault : MethodName := ⟨RX6, "findFault", "()I"⟩
abbrev cX6_addAll : ByteArray := prog_8_method_58_code
def yX6_addAll : MethodName := ⟨RX6, "addAll", "()I"⟩
abbrev cX6_box : ByteArray := prog_8_method_59_code
def yX6_box : MethodName := ⟨RX6, "box", "(I)I"⟩
abbrev cX6_end : ByteArray := prog_8_method_60_code
def yX6_end : MethodName := ⟨RX6, "end", "(IIZ)I"⟩
abbrev cX6_hiders : ByteArray := prog_8_method_61_code
def yX6_hiders : MethodName := ⟨RX6, "hiders", "(I)I"⟩
abbrev cX6_boxesBelow : ByteArray := prog_8_method_62_code
def yX6_boxesBelow : MethodName := ⟨RX6, "boxesBelow", "(IZ)I"⟩
abbrev cX6_covers : ByteArray := prog_8_method_63_code
def yX6_covers : MethodName := ⟨RX6, "covers", "(III)Z"⟩
abbrev cX6_shadows : ByteArray := prog_8_method_64_code
def yX6_shadows : MethodName := ⟨RX6, "shadows", "(I)I"⟩
abbrev cX6_ofBox : ByteArray := prog_8_method_65_code
def yX6_ofBox : MethodName := ⟨RX6, "ofBox", "(II)I"⟩
abbrev cX6_pair : ByteArray := prog_8_method_66_code
def yX6_pair : MethodName := ⟨RX6, "pair", "(II)I"⟩
abbrev cX6_drawn : ByteArray := prog_8_method_67_code
def yX6_drawn : MethodName := ⟨RX6, "drawn", "(I)I"⟩
abbrev cX6_total : ByteArray := prog_8_method_68_code
def yX6_total : MethodName := ⟨RX6, "total", "(I)I"⟩
abbrev cX6_waitsFor : ByteArray := prog_8_method_69_code
def yX6_waitsFor : MethodName := ⟨RX6, "waitsFor", "(I)I"⟩
abbrev cX6_breaks : ByteArray := prog_8_method_70_code
def yX6_breaks : MethodName := ⟨RX6, "breaks", "()I"⟩
abbrev cX6_drawnWithout : ByteArray := prog_8_method_71_code
def yX6_drawnWithout : MethodName := ⟨RX6, "drawnWithout", "(I)I"⟩
def RJ6 : String := "java/lang/Integer"
def TJ6 : u_T := fun k => match k with
  | _ => ("", "", "", false)
def tyJ6 : Nat → FieldType := fun k => match k with
  | _ => .int
abbrev wsJ60 : List Cond := u_ws RJ6 TJ6 0
theorem nmJ6 : ∀ a, a < 0 → ∀ b, b < 0 → a ≠ b → (TJ6 a).2.1 ≠ (TJ6 b).2.1 := by decide +kernel
theorem tyJ6_ok : ∀ k, k < 0 → parseFieldDescriptor (TJ6 k).2.2.1 = some (tyJ6 k) := by decide +kernel
abbrev cJ6_bitCount_0f7a4 : ByteArray := prog_9_method_49_code
def yJ6_bitCount_0f7a4 : MethodName := ⟨RJ6, "bitCount", "(I)I"⟩
def RJ9 : String := "java/lang/Math"
def TJ9 : u_T := fun k => match k with
  | _ => ("", "", "", false)
def tyJ9 : Nat → FieldType := fun k => match k with
  | _ => .int
abbrev wsJ90 : List Cond := u_ws RJ9 TJ9 0
theorem nmJ9 : ∀ a, a < 0 → ∀ b, b < 0 → a ≠ b → (TJ9 a).2.1 ≠ (TJ9 b).2.1 := by decide +kernel
theorem tyJ9_ok : ∀ k, k < 0 → parseFieldDescriptor (TJ9 k).2.2.1 = some (tyJ9 k) := by decide +kernel
abbrev cJ9_max_7cf53 : ByteArray := prog_10_method_65_code
def yJ9_max_7cf53 : MethodName := ⟨RJ9, "max", "(II)I"⟩
def RJ10 : String := "java/lang/System"
def TJ10 : u_T := fun k => match k with
  | _ => ("", "", "", false)
def tyJ10 : Nat → FieldType := fun k => match k with
  | _ => .int
abbrev wsJ100 : List Cond := u_ws RJ10 TJ10 0
theorem nmJ10 : ∀ a, a < 0 → ∀ b, b < 0 → a ≠ b → (TJ10 a).2.1 ≠ (TJ10 b).2.1 := by decide +kernel
theorem tyJ10_ok : ∀ k, k < 0 → parseFieldDescriptor (TJ10 k).2.2.1 = some (tyJ10 k) := by decide +kernel
def RJ7 : String := "java/util/Arrays"
def TJ7 : u_T := fun k => match k with
  | _ => ("", "", "", false)
def tyJ7 : Nat → FieldType := fun k => match k with
  | _ => .int
abbrev wsJ70 : List Cond := u_ws RJ7 TJ7 0
theorem nmJ7 : ∀ a, a < 0 → ∀ b, b < 0 → a ≠ b → (TJ7 a).2.1 ≠ (TJ7 b).2.1 := by decide +kernel
theorem tyJ7_ok : ∀ k, k < 0 → parseFieldDescriptor (TJ7 k).2.2.1 = some (tyJ7 k) := by decide +kernel
abbrev cJ7_fill_53178 : ByteArray := prog_12_method_103_code
def yJ7_fill_53178 : MethodName := ⟨RJ7, "fill", "([II)V"⟩
def RL : String := "HidingBoxesLaw"
def wsX0_init : List Cond := .code yX0_init cX0_init 1 none :: ([.methodLink RX0 3 objectInit, .instanceMethod objectInit, .code objectInit ⟨#[0xb1]⟩ 1 none, .arrayClass .int, .fieldLink RX0 9 "HidingBoxes$Box" "low" "[I", .fieldLink RX0 15 "HidingBoxes$Box" "high" "[I"] ++ wsX00)
def wsX0_copyFrom : List Cond := .code yX0_copyFrom cX0_copyFrom 2 none :: ([.fieldLink RX0 18 "HidingBoxes$Box" "number" "I", .fieldLink RX0 9 "HidingBoxes$Box" "low" "[I", .methodLink RX0 22 arraycopyName, .native arraycopyName, .static arraycopyName, .initialized "java/lang/System", .fieldLink RX0 15 "HidingBoxes$Box" "high" "[I"] ++ wsX00)
def wsX0_lay : List Cond := .code yX0_lay cX0_lay 4 (some .boolean) :: ([.fieldLink RX0 9 "HidingBoxes$Box" "low" "[I", .fieldLink RX0 15 "HidingBoxes$Box" "high" "[I"] ++ wsX00)
def wsX0_shift : List Cond := .code yX0_shift cX0_shift 3 none :: ([.fieldLink RX0 9 "HidingBoxes$Box" "low" "[I", .fieldLink RX0 15 "HidingBoxes$Box" "high" "[I"] ++ wsX00)
def wsX0_size : List Cond := .code yX0_size cX0_size 2 (some .int) :: ([.fieldLink RX0 15 "HidingBoxes$Box" "high" "[I", .fieldLink RX0 9 "HidingBoxes$Box" "low" "[I"] ++ wsX00)
def wsX0_volume : List Cond := .code yX0_volume cX0_volume 1 (some .int) :: ([.methodLink RX0 28 yX0_size, .instanceMethod yX0_size, .selects RX0 yX0_size yX0_size, .initialized RX0, .code yX0_size cX0_size 2 (some .int), .fieldLink RX0 15 "HidingBoxes$Box" "high" "[I", .fieldLink RX0 9 "HidingBoxes$Box" "low" "[I"] ++ wsX00)
def wsX0_sumOfCorner : List Cond := .code yX0_sumOfCorner cX0_sumOfCorner 1 (some .int) :: ([.fieldLink RX0 9 "HidingBoxes$Box" "low" "[I"] ++ wsX00)
def wsX0_longestDirection : List Cond := .code yX0_longestDirection cX0_longestDirection 3 (some .int) :: ([.methodLink RX0 28 yX0_size, .instanceMethod yX0_size, .selects RX0 yX0_size yX0_size, .initialized RX0, .code yX0_size cX0_size 2 (some .int), .fieldLink RX0 15 "HidingBoxes$Box" "high" "[I", .fieldLink RX0 9 "HidingBoxes$Box" "low" "[I"] ++ wsX00)
def wsX0_meets : List Cond := .code yX0_meets cX0_meets 3 (some .boolean) :: ([.fieldLink RX0 9 "HidingBoxes$Box" "low" "[I", .fieldLink RX0 15 "HidingBoxes$Box" "high" "[I"] ++ wsX00)
def wsX0_cuts : List Cond := .code yX0_cuts cX0_cuts 2 (some .boolean) :: ([.methodLink RX0 32 yX0_meets, .instanceMethod yX0_meets, .selects RX0 yX0_meets yX0_meets, .initialized RX0, .code yX0_meets cX0_meets 3 (some .boolean), .fieldLink RX0 9 "HidingBoxes$Box" "low" "[I", .fieldLink RX0 15 "HidingBoxes$Box" "high" "[I"] ++ wsX00)
def wsX0_meetsInDifference : List Cond := .code yX0_meetsInDifference cX0_meetsInDifference 4 (some .boolean) :: ([.fieldLink RX0 9 "HidingBoxes$Box" "low" "[I", .fieldLink RX0 15 "HidingBoxes$Box" "high" "[I"] ++ wsX00)
def wsX0_overlapsOutlineOf : List Cond := .code yX0_overlapsOutlineOf cX0_overlapsOutlineOf 2 (some .boolean) :: ([.methodLink RX0 36 yX0_meetsInDifference, .instanceMethod yX0_meetsInDifference, .selects RX0 yX0_meetsInDifference yX0_meetsInDifference, .initialized RX0, .code yX0_meetsInDifference cX0_meetsInDifference 4 (some .boolean), .fieldLink RX0 9 "HidingBoxes$Box" "low" "[I", .fieldLink RX0 15 "HidingBoxes$Box" "high" "[I"] ++ wsX00)
def wsX0_directionOfHiding : List Cond := .code yX0_directionOfHiding cX0_directionOfHiding 3 (some .int) :: ([.fieldLink RX0 9 "HidingBoxes$Box" "low" "[I", .fieldLink RX0 15 "HidingBoxes$Box" "high" "[I", .methodLink RX0 40 yX0_overlapsOutlineOf, .instanceMethod yX0_overlapsOutlineOf, .selects RX0 yX0_overlapsOutlineOf yX0_overlapsOutlineOf, .initialized RX0, .code yX0_overlapsOutlineOf cX0_overlapsOutlineOf 2 (some .boolean), .methodLink RX0 36 yX0_meetsInDifference, .instanceMethod yX0_meetsInDifference, .selects RX0 yX0_meetsInDifference yX0_meetsInDifference, .code yX0_meetsInDifference cX0_meetsInDifference 4 (some .boolean)] ++ wsX00)
def wsX0_isBelow : List Cond := .code yX0_isBelow cX0_isBelow 2 (some .boolean) :: ([.fieldLink RX0 15 "HidingBoxes$Box" "high" "[I", .fieldLink RX0 9 "HidingBoxes$Box" "low" "[I", .methodLink RX0 32 yX0_meets, .instanceMethod yX0_meets, .selects RX0 yX0_meets yX0_meets, .initialized RX0, .code yX0_meets cX0_meets 3 (some .boolean)] ++ wsX00)
def wsX0_coversRow : List Cond := .code yX0_coversRow cX0_coversRow 2 (some .boolean) :: ([.fieldLink RX0 9 "HidingBoxes$Box" "low" "[I", .fieldLink RX0 15 "HidingBoxes$Box" "high" "[I"] ++ wsX00)
def wsX0_rowOfCells : List Cond := .code yX0_rowOfCells cX0_rowOfCells 1 (some .int) :: ([.fieldLink RX0 9 "HidingBoxes$Box" "low" "[I", .methodLink RX0 28 yX0_size, .instanceMethod yX0_size, .selects RX0 yX0_size yX0_size, .initialized RX0, .code yX0_size cX0_size 2 (some .int), .fieldLink RX0 15 "HidingBoxes$Box" "high" "[I"] ++ wsX00)
def wsX3_init : List Cond := .code yX3_init cX3_init 2 none :: ([.methodLink RX3 3 objectInit, .instanceMethod objectInit, .code objectInit ⟨#[0xb1]⟩ 1 none, .classLink RX3 9 RX0, .fieldLink RX3 11 "HidingBoxes$Space" "boxes" "[LHidingBoxes$Box;", .instantiable RX0 3, .initialized RX0, .instanceMethod yX0_init, .code yX0_init cX0_init 1 none, .methodLink RX0 3 objectInit, .arrayClass .int, .fieldLink RX0 9 "HidingBoxes$Box" "low" "[I", .fieldLink RX0 15 "HidingBoxes$Box" "high" "[I"] ++ wsX30 ++ wsX00)
def wsX1_init : List Cond := .code yX1_init cX1_init 2 none :: ([.methodLink RX1 3 objectInit, .instanceMethod objectInit, .code objectInit ⟨#[0xb1]⟩ 1 none, .classLink RX1 9 RX3, .fieldLink RX1 11 "HidingBoxes$History" "states" "[LHidingBoxes$Space;", .instantiable RX3 5, .initialized RX3, .methodLink RX1 17 yX3_init, .instanceMethod yX3_init, .code yX3_init cX3_init 2 none, .methodLink RX3 3 objectInit, .classLink RX3 9 RX0, .fieldLink RX3 11 "HidingBoxes$Space" "boxes" "[LHidingBoxes$Box;", .instantiable RX0 3, .initialized RX0, .instanceMethod yX0_init, .code yX0_init cX0_init 1 none, .methodLink RX0 3 objectInit, .arrayClass .int, .fieldLink RX0 9 "HidingBoxes$Box" "low" "[I", .fieldLink RX0 15 "HidingBoxes$Box" "high" "[I"] ++ wsX10 ++ wsX30 ++ wsX00)
def wsX1_dropOldest : List Cond := .code yX1_dropOldest cX1_dropOldest 3 none :: ([.fieldLink RX1 11 "HidingBoxes$History" "states" "[LHidingBoxes$Space;", .fieldLink RX1 18 "HidingBoxes$History" "count" "I"] ++ wsX10)
def wsX3_copyFrom : List Cond := .code yX3_copyFrom cX3_copyFrom 3 none :: ([.fieldLink RX3 18 "HidingBoxes$Space" "count" "I", .fieldLink RX3 22 "HidingBoxes$Space" "nextNumber" "I", .fieldLink RX3 25 "HidingBoxes$Space" "splits" "I", .fieldLink RX3 28 "HidingBoxes$Space" "rule" "I", .fieldLink RX3 11 "HidingBoxes$Space" "boxes" "[LHidingBoxes$Box;", .methodLink RX3 31 yX0_copyFrom, .instanceMethod yX0_copyFrom, .selects RX0 yX0_copyFrom yX0_copyFrom, .initialized RX0, .code yX0_copyFrom cX0_copyFrom 2 none, .fieldLink RX0 18 "HidingBoxes$Box" "number" "I", .fieldLink RX0 9 "HidingBoxes$Box" "low" "[I", .methodLink RX0 22 arraycopyName, .native arraycopyName, .static arraycopyName, .initialized "java/lang/System", .fieldLink RX0 15 "HidingBoxes$Box" "high" "[I"] ++ wsX30 ++ wsX00)
def wsX1_remember_r1 : List Cond := [Cond.fieldLink RX1 18 "HidingBoxes$History" "count" "I", Cond.fieldLink RX1 11 "HidingBoxes$History" "states" "[LHidingBoxes$Space;", Cond.methodLink RX1 22 yX1_dropOldest, Cond.instanceMethod yX1_dropOldest, Cond.selects RX1 yX1_dropOldest yX1_dropOldest, Cond.initialized RX1, Cond.code yX1_dropOldest cX1_dropOldest 3 none, Cond.methodLink RX1 25 yX3_copyFrom, Cond.instanceMethod yX3_copyFrom, Cond.selects RX3 yX3_copyFrom yX3_copyFrom, Cond.initialized RX3, Cond.code yX3_copyFrom cX3_copyFrom 3 none, Cond.fieldLink RX3 18 "HidingBoxes$Space" "count" "I", Cond.fieldLink RX3 22 "HidingBoxes$Space" "nextNumber" "I", Cond.fieldLink RX3 25 "HidingBoxes$Space" "splits" "I", Cond.fieldLink RX3 28 "HidingBoxes$Space" "rule" "I", Cond.fieldLink RX3 11 "HidingBoxes$Space" "boxes" "[LHidingBoxes$Box;", Cond.methodLink RX3 31 yX0_copyFrom, Cond.instanceMethod yX0_copyFrom, Cond.selects RX0 yX0_copyFrom yX0_copyFrom, Cond.initialized RX0, Cond.code yX0_copyFrom cX0_copyFrom 2 none, Cond.fieldLink RX0 18 "HidingBoxes$Box" "number" "I", Cond.fieldLink RX0 9 "HidingBoxes$Box" "low" "[I"]
def wsX1_remember_r2 : List Cond := [Cond.methodLink RX0 22 arraycopyName, Cond.native arraycopyName, Cond.static arraycopyName, Cond.initialized "java/lang/System", Cond.fieldLink RX0 15 "HidingBoxes$Box" "high" "[I"]
def wsX1_remember : List Cond := .code yX1_remember cX1_remember 2 none :: ((wsX1_remember_r1 ++ wsX1_remember_r2) ++ wsX10 ++ wsX30 ++ wsX00)
def wsX1_recall : List Cond := .code yX1_recall cX1_recall 2 none :: ([.fieldLink RX1 18 "HidingBoxes$History" "count" "I", .fieldLink RX1 11 "HidingBoxes$History" "states" "[LHidingBoxes$Space;", .methodLink RX1 25 yX3_copyFrom, .instanceMethod yX3_copyFrom, .selects RX3 yX3_copyFrom yX3_copyFrom, .initialized RX3, .code yX3_copyFrom cX3_copyFrom 3 none, .fieldLink RX3 18 "HidingBoxes$Space" "count" "I", .fieldLink RX3 22 "HidingBoxes$Space" "nextNumber" "I", .fieldLink RX3 25 "HidingBoxes$Space" "splits" "I", .fieldLink RX3 28 "HidingBoxes$Space" "rule" "I", .fieldLink RX3 11 "HidingBoxes$Space" "boxes" "[LHidingBoxes$Box;", .methodLink RX3 31 yX0_copyFrom, .instanceMethod yX0_copyFrom, .selects RX0 yX0_copyFrom yX0_copyFrom, .initialized RX0, .code yX0_copyFrom cX0_copyFrom 2 none, .fieldLink RX0 18 "HidingBoxes$Box" "number" "I", .fieldLink RX0 9 "HidingBoxes$Box" "low" "[I", .methodLink RX0 22 arraycopyName, .native arraycopyName, .static arraycopyName, .initialized "java/lang/System", .fieldLink RX0 15 "HidingBoxes$Box" "high" "[I"] ++ wsX10 ++ wsX30 ++ wsX00)
def wsX2_init : List Cond := .code yX2_init cX2_init 1 none :: ([.methodLink RX2 3 objectInit, .instanceMethod objectInit, .code objectInit ⟨#[0xb1]⟩ 1 none, .arrayClass .int, .fieldLink RX2 9 "HidingBoxes$Picture" "hides" "[I", .fieldLink RX2 15 "HidingBoxes$Picture" "chains" "[I", .fieldLink RX2 18 "HidingBoxes$Picture" "order" "[I", .fieldLink RX2 21 "HidingBoxes$Picture" "layers" "[I"] ++ wsX20)
def wsX2_bitsHiddenBy : List Cond := .code yX2_bitsHiddenBy cX2_bitsHiddenBy 4 (some .int) :: ([.fieldLink RX2 24 "HidingBoxes$Space" "count" "I", .fieldLink RX2 42 "HidingBoxes$Space" "boxes" "[LHidingBoxes$Box;", .methodLink RX2 46 yX0_directionOfHiding, .instanceMethod yX0_directionOfHiding, .selects RX0 yX0_directionOfHiding yX0_directionOfHiding, .initialized RX0, .code yX0_directionOfHiding cX0_directionOfHiding 3 (some .int), .fieldLink RX0 9 "HidingBoxes$Box" "low" "[I", .fieldLink RX0 15 "HidingBoxes$Box" "high" "[I", .methodLink RX0 40 yX0_overlapsOutlineOf, .instanceMethod yX0_overlapsOutlineOf, .selects RX0 yX0_overlapsOutlineOf yX0_overlapsOutlineOf, .code yX0_overlapsOutlineOf cX0_overlapsOutlineOf 2 (some .boolean), .methodLink RX0 36 yX0_meetsInDifference, .instanceMethod yX0_meetsInDifference, .selects RX0 yX0_meetsInDifference yX0_meetsInDifference, .code yX0_meetsInDifference cX0_meetsInDifference 4 (some .boolean)] ++ wsX30 ++ wsX00)
def wsX2_hasBit : List Cond := .code yX2_hasBit cX2_hasBit 2 (some .boolean) :: ([])
def wsX2_followChains : List Cond := .code yX2_followChains cX2_followChains 3 none :: ([.fieldLink RX2 9 "HidingBoxes$Picture" "hides" "[I", .fieldLink RX2 15 "HidingBoxes$Picture" "chains" "[I", .methodLink RX2 52 arraycopyName, .native arraycopyName, .static arraycopyName, .initialized "java/lang/System", .fieldLink RX2 30 "HidingBoxes$Picture" "count" "I", .methodLink RX2 58 yX2_hasBit, .static yX2_hasBit, .initialized RX2, .code yX2_hasBit cX2_hasBit 2 (some .boolean)] ++ wsX20)
def wsJ7_fill_53178 : List Cond := .code yJ7_fill_53178 cJ7_fill_53178 4 none :: ([])
def wsX3_weightInDrawing : List Cond := .code yX3_weightInDrawing cX3_weightInDrawing 2 (some .int) :: ([.fieldLink RX3 28 "HidingBoxes$Space" "rule" "I", .fieldLink RX3 11 "HidingBoxes$Space" "boxes" "[LHidingBoxes$Box;", .methodLink RX3 57 yX0_sumOfCorner, .instanceMethod yX0_sumOfCorner, .selects RX0 yX0_sumOfCorner yX0_sumOfCorner, .initialized RX0, .code yX0_sumOfCorner cX0_sumOfCorner 1 (some .int), .fieldLink RX0 9 "HidingBoxes$Box" "low" "[I", .methodLink RX3 61 yX0_volume, .instanceMethod yX0_volume, .selects RX0 yX0_volume yX0_volume, .code yX0_volume cX0_volume 1 (some .int), .methodLink RX0 28 yX0_size, .instanceMethod yX0_size, .selects RX0 yX0_size yX0_size, .code yX0_size cX0_size 2 (some .int), .fieldLink RX0 15 "HidingBoxes$Box" "high" "[I"] ++ wsX30 ++ wsX00)
def wsX2_nextToDraw_r1 : List Cond := [Cond.fieldLink RX2 30 "HidingBoxes$Picture" "count" "I", Cond.fieldLink RX2 68 "HidingBoxes$Picture" "drawnBits" "I", Cond.fieldLink RX2 9 "HidingBoxes$Picture" "hides" "[I", Cond.methodLink RX2 58 yX2_hasBit, Cond.static yX2_hasBit, Cond.initialized RX2, Cond.code yX2_hasBit cX2_hasBit 2 (some .boolean), Cond.methodLink RX2 82 yX3_weightInDrawing, Cond.instanceMethod yX3_weightInDrawing, Cond.selects RX3 yX3_weightInDrawing yX3_weightInDrawing, Cond.initialized RX3, Cond.code yX3_weightInDrawing cX3_weightInDrawing 2 (some .int), Cond.fieldLink RX3 28 "HidingBoxes$Space" "rule" "I", Cond.fieldLink RX3 11 "HidingBoxes$Space" "boxes" "[LHidingBoxes$Box;", Cond.methodLink RX3 57 yX0_sumOfCorner, Cond.instanceMethod yX0_sumOfCorner, Cond.selects RX0 yX0_sumOfCorner yX0_sumOfCorner, Cond.initialized RX0, Cond.code yX0_sumOfCorner cX0_sumOfCorner 1 (some .int), Cond.fieldLink RX0 9 "HidingBoxes$Box" "low" "[I", Cond.methodLink RX3 61 yX0_volume, Cond.instanceMethod yX0_volume, Cond.selects RX0 yX0_volume yX0_volume, Cond.code yX0_volume cX0_volume 1 (some .int)]
def wsX2_nextToDraw_r2 : List Cond := [Cond.methodLink RX0 28 yX0_size, Cond.instanceMethod yX0_size, Cond.selects RX0 yX0_size yX0_size, Cond.code yX0_size cX0_size 2 (some .int), Cond.fieldLink RX0 15 "HidingBoxes$Box" "high" "[I"]
def wsX2_nextToDraw : List Cond := .code yX2_nextToDraw cX2_nextToDraw 5 (some .int) :: ((wsX2_nextToDraw_r1 ++ wsX2_nextToDraw_r2) ++ wsX20 ++ wsX30 ++ wsX00)
def wsX2_layerAbove : List Cond := .code yX2_layerAbove cX2_layerAbove 4 (some .int) :: ([.fieldLink RX2 30 "HidingBoxes$Picture" "count" "I", .fieldLink RX2 21 "HidingBoxes$Picture" "layers" "[I", .methodLink RX2 85 Lib.Math.max.name, .static Lib.Math.max.name, .initialized "java/lang/Math", .code Lib.Math.max.name Lib.Math.max.code 2 (some .int), .methodLink RX2 58 yX2_hasBit, .static yX2_hasBit, .initialized RX2, .code yX2_hasBit cX2_hasBit 2 (some .boolean)] ++ wsX20)
def wsX2_draw_r1 : List Cond := [Cond.fieldLink RX2 21 "HidingBoxes$Picture" "layers" "[I", Cond.fieldLink RX2 68 "HidingBoxes$Picture" "drawnBits" "I", Cond.fieldLink RX2 71 "HidingBoxes$Picture" "drawnCount" "I", Cond.fieldLink RX2 30 "HidingBoxes$Picture" "count" "I", Cond.fieldLink RX2 18 "HidingBoxes$Picture" "order" "[I", Cond.fieldLink RX2 9 "HidingBoxes$Picture" "hides" "[I", Cond.methodLink RX2 62 yJ7_fill_53178, Cond.static yJ7_fill_53178, Cond.initialized RJ7, Cond.code yJ7_fill_53178 cJ7_fill_53178 4 none, Cond.methodLink RX2 74 yX2_nextToDraw, Cond.instanceMethod yX2_nextToDraw, Cond.selects RX2 yX2_nextToDraw yX2_nextToDraw, Cond.initialized RX2, Cond.code yX2_nextToDraw cX2_nextToDraw 5 (some .int), Cond.methodLink RX2 58 yX2_hasBit, Cond.static yX2_hasBit, Cond.code yX2_hasBit cX2_hasBit 2 (some .boolean), Cond.methodLink RX2 82 yX3_weightInDrawing, Cond.instanceMethod yX3_weightInDrawing, Cond.selects RX3 yX3_weightInDrawing yX3_weightInDrawing, Cond.initialized RX3, Cond.code yX3_weightInDrawing cX3_weightInDrawing 2 (some .int), Cond.fieldLink RX3 28 "HidingBoxes$Space" "rule" "I"]
def wsX2_draw_r2 : List Cond := [Cond.fieldLink RX3 11 "HidingBoxes$Space" "boxes" "[LHidingBoxes$Box;", Cond.methodLink RX3 57 yX0_sumOfCorner, Cond.instanceMethod yX0_sumOfCorner, Cond.selects RX0 yX0_sumOfCorner yX0_sumOfCorner, Cond.initialized RX0, Cond.code yX0_sumOfCorner cX0_sumOfCorner 1 (some .int), Cond.fieldLink RX0 9 "HidingBoxes$Box" "low" "[I", Cond.methodLink RX3 61 yX0_volume, Cond.instanceMethod yX0_volume, Cond.selects RX0 yX0_volume yX0_volume, Cond.code yX0_volume cX0_volume 1 (some .int), Cond.methodLink RX0 28 yX0_size, Cond.instanceMethod yX0_size, Cond.selects RX0 yX0_size yX0_size, Cond.code yX0_size cX0_size 2 (some .int), Cond.fieldLink RX0 15 "HidingBoxes$Box" "high" "[I", Cond.methodLink RX2 78 yX2_layerAbove, Cond.instanceMethod yX2_layerAbove, Cond.selects RX2 yX2_layerAbove yX2_layerAbove, Cond.code yX2_layerAbove cX2_layerAbove 4 (some .int), Cond.methodLink RX2 85 Lib.Math.max.name, Cond.static Lib.Math.max.name, Cond.initialized "java/lang/Math", Cond.code Lib.Math.max.name Lib.Math.max.code 2 (some .int)]
def wsX2_draw : List Cond := .code yX2_draw cX2_draw 4 none :: ((wsX2_draw_r1 ++ wsX2_draw_r2) ++ wsX20 ++ wsX30 ++ wsX00)
def wsX2_look_r1 : List Cond := [Cond.fieldLink RX2 24 "HidingBoxes$Space" "count" "I", Cond.fieldLink RX2 30 "HidingBoxes$Picture" "count" "I", Cond.fieldLink RX2 9 "HidingBoxes$Picture" "hides" "[I", Cond.methodLink RX2 31 yX2_bitsHiddenBy, Cond.static yX2_bitsHiddenBy, Cond.initialized RX2, Cond.code yX2_bitsHiddenBy cX2_bitsHiddenBy 4 (some .int), Cond.fieldLink RX2 42 "HidingBoxes$Space" "boxes" "[LHidingBoxes$Box;", Cond.methodLink RX2 46 yX0_directionOfHiding, Cond.instanceMethod yX0_directionOfHiding, Cond.selects RX0 yX0_directionOfHiding yX0_directionOfHiding, Cond.initialized RX0, Cond.code yX0_directionOfHiding cX0_directionOfHiding 3 (some .int), Cond.fieldLink RX0 9 "HidingBoxes$Box" "low" "[I", Cond.fieldLink RX0 15 "HidingBoxes$Box" "high" "[I", Cond.methodLink RX0 40 yX0_overlapsOutlineOf, Cond.instanceMethod yX0_overlapsOutlineOf, Cond.selects RX0 yX0_overlapsOutlineOf yX0_overlapsOutlineOf, Cond.code yX0_overlapsOutlineOf cX0_overlapsOutlineOf 2 (some .boolean), Cond.methodLink RX0 36 yX0_meetsInDifference, Cond.instanceMethod yX0_meetsInDifference, Cond.selects RX0 yX0_meetsInDifference yX0_meetsInDifference, Cond.code yX0_meetsInDifference cX0_meetsInDifference 4 (some .boolean), Cond.methodLink RX2 35 yX2_followChains]
def wsX2_look_r2 : List Cond := [Cond.instanceMethod yX2_followChains, Cond.selects RX2 yX2_followChains yX2_followChains, Cond.code yX2_followChains cX2_followChains 3 none, Cond.fieldLink RX2 15 "HidingBoxes$Picture" "chains" "[I", Cond.methodLink RX2 52 arraycopyName, Cond.native arraycopyName, Cond.static arraycopyName, Cond.initialized "java/lang/System", Cond.methodLink RX2 58 yX2_hasBit, Cond.static yX2_hasBit, Cond.code yX2_hasBit cX2_hasBit 2 (some .boolean), Cond.methodLink RX2 38 yX2_draw, Cond.instanceMethod yX2_draw, Cond.selects RX2 yX2_draw yX2_draw, Cond.code yX2_draw cX2_draw 4 none, Cond.fieldLink RX2 21 "HidingBoxes$Picture" "layers" "[I", Cond.fieldLink RX2 68 "HidingBoxes$Picture" "drawnBits" "I", Cond.fieldLink RX2 71 "HidingBoxes$Picture" "drawnCount" "I", Cond.fieldLink RX2 18 "HidingBoxes$Picture" "order" "[I", Cond.methodLink RX2 62 yJ7_fill_53178, Cond.static yJ7_fill_53178, Cond.initialized RJ7, Cond.code yJ7_fill_53178 cJ7_fill_53178 4 none, Cond.methodLink RX2 74 yX2_nextToDraw]
def wsX2_look_r3 : List Cond := [Cond.instanceMethod yX2_nextToDraw, Cond.selects RX2 yX2_nextToDraw yX2_nextToDraw, Cond.code yX2_nextToDraw cX2_nextToDraw 5 (some .int), Cond.methodLink RX2 82 yX3_weightInDrawing, Cond.instanceMethod yX3_weightInDrawing, Cond.selects RX3 yX3_weightInDrawing yX3_weightInDrawing, Cond.initialized RX3, Cond.code yX3_weightInDrawing cX3_weightInDrawing 2 (some .int), Cond.fieldLink RX3 28 "HidingBoxes$Space" "rule" "I", Cond.fieldLink RX3 11 "HidingBoxes$Space" "boxes" "[LHidingBoxes$Box;", Cond.methodLink RX3 57 yX0_sumOfCorner, Cond.instanceMethod yX0_sumOfCorner, Cond.selects RX0 yX0_sumOfCorner yX0_sumOfCorner, Cond.code yX0_sumOfCorner cX0_sumOfCorner 1 (some .int), Cond.methodLink RX3 61 yX0_volume, Cond.instanceMethod yX0_volume, Cond.selects RX0 yX0_volume yX0_volume, Cond.code yX0_volume cX0_volume 1 (some .int), Cond.methodLink RX0 28 yX0_size, Cond.instanceMethod yX0_size, Cond.selects RX0 yX0_size yX0_size, Cond.code yX0_size cX0_size 2 (some .int), Cond.methodLink RX2 78 yX2_layerAbove, Cond.instanceMethod yX2_layerAbove]
def wsX2_look_r4 : List Cond := [Cond.selects RX2 yX2_layerAbove yX2_layerAbove, Cond.code yX2_layerAbove cX2_layerAbove 4 (some .int), Cond.methodLink RX2 85 Lib.Math.max.name, Cond.static Lib.Math.max.name, Cond.initialized "java/lang/Math", Cond.code Lib.Math.max.name Lib.Math.max.code 2 (some .int)]
def wsX2_look : List Cond := .code yX2_look cX2_look 3 none :: ((wsX2_look_r1 ++ (wsX2_look_r2 ++ (wsX2_look_r3 ++ wsX2_look_r4))) ++ wsX30 ++ wsX20 ++ wsX00)
def wsJ6_bitCount_0f7a4 : List Cond := .code yJ6_bitCount_0f7a4 cJ6_bitCount_0f7a4 1 (some .int) :: ([.constant RJ6 265 (1431655765), .constant RJ6 266 (858993459), .constant RJ6 267 (252645135)])
def wsX2_hiddenBy : List Cond := .code yX2_hiddenBy cX2_hiddenBy 2 (some .int) :: ([.fieldLink RX2 9 "HidingBoxes$Picture" "hides" "[I", .methodLink RX2 91 yJ6_bitCount_0f7a4, .static yJ6_bitCount_0f7a4, .initialized RJ6, .code yJ6_bitCount_0f7a4 cJ6_bitCount_0f7a4 1 (some .int), .constant RJ6 265 (1431655765), .constant RJ6 266 (858993459), .constant RJ6 267 (252645135)] ++ wsX20)
def wsX2_hidersOf : List Cond := .code yX2_hidersOf cX2_hidersOf 4 (some .int) :: ([.fieldLink RX2 30 "HidingBoxes$Picture" "count" "I", .fieldLink RX2 9 "HidingBoxes$Picture" "hides" "[I", .methodLink RX2 58 yX2_hasBit, .static yX2_hasBit, .initialized RX2, .code yX2_hasBit cX2_hasBit 2 (some .boolean)] ++ wsX20)
def wsX2_hidings : List Cond := .code yX2_hidings cX2_hidings 3 (some .int) :: ([.fieldLink RX2 30 "HidingBoxes$Picture" "count" "I", .methodLink RX2 96 yX2_hiddenBy, .instanceMethod yX2_hiddenBy, .selects RX2 yX2_hiddenBy yX2_hiddenBy, .initialized RX2, .code yX2_hiddenBy cX2_hiddenBy 2 (some .int), .fieldLink RX2 9 "HidingBoxes$Picture" "hides" "[I", .methodLink RX2 91 yJ6_bitCount_0f7a4, .static yJ6_bitCount_0f7a4, .initialized RJ6, .code yJ6_bitCount_0f7a4 cJ6_bitCount_0f7a4 1 (some .int), .constant RJ6 265 (1431655765), .constant RJ6 266 (858993459), .constant RJ6 267 (252645135)] ++ wsX20)
def wsX2_hidingsNotIn : List Cond := .code yX2_hidingsNotIn cX2_hidingsNotIn 4 (some .int) :: ([.fieldLink RX2 30 "HidingBoxes$Picture" "count" "I", .fieldLink RX2 9 "HidingBoxes$Picture" "hides" "[I", .methodLink RX2 91 yJ6_bitCount_0f7a4, .static yJ6_bitCount_0f7a4, .initialized RJ6, .code yJ6_bitCount_0f7a4 cJ6_bitCount_0f7a4 1 (some .int), .constant RJ6 265 (1431655765), .constant RJ6 266 (858993459), .constant RJ6 267 (252645135)] ++ wsX20)
def wsX2_slotDrawn : List Cond := .code yX2_slotDrawn cX2_slotDrawn 2 (some .int) :: ([.fieldLink RX2 71 "HidingBoxes$Picture" "drawnCount" "I", .fieldLink RX2 18 "HidingBoxes$Picture" "order" "[I"] ++ wsX20)
def wsX2_greatestLayer : List Cond := .code yX2_greatestLayer cX2_greatestLayer 3 (some .int) :: ([.fieldLink RX2 30 "HidingBoxes$Picture" "count" "I", .fieldLink RX2 21 "HidingBoxes$Picture" "layers" "[I", .methodLink RX2 85 Lib.Math.max.name, .static Lib.Math.max.name, .initialized "java/lang/Math", .code Lib.Math.max.name Lib.Math.max.code 2 (some .int)] ++ wsX20)
def wsX2_firstNotDrawnUnder : List Cond := .code yX2_firstNotDrawnUnder cX2_firstNotDrawnUnder 3 (some .int) :: ([.fieldLink RX2 30 "HidingBoxes$Picture" "count" "I", .fieldLink RX2 9 "HidingBoxes$Picture" "hides" "[I", .fieldLink RX2 68 "HidingBoxes$Picture" "drawnBits" "I", .methodLink RX2 58 yX2_hasBit, .static yX2_hasBit, .initialized RX2, .code yX2_hasBit cX2_hasBit 2 (some .boolean)] ++ wsX20)
def wsX2_isInRing : List Cond := .code yX2_isInRing cX2_isInRing 2 (some .boolean) :: ([.fieldLink RX2 15 "HidingBoxes$Picture" "chains" "[I", .methodLink RX2 58 yX2_hasBit, .static yX2_hasBit, .initialized RX2, .code yX2_hasBit cX2_hasBit 2 (some .boolean)] ++ wsX20)
def wsX2_boxesInRings : List Cond := .code yX2_boxesInRings cX2_boxesInRings 3 (some .int) :: ([.fieldLink RX2 30 "HidingBoxes$Picture" "count" "I", .methodLink RX2 99 yX2_isInRing, .instanceMethod yX2_isInRing, .selects RX2 yX2_isInRing yX2_isInRing, .initialized RX2, .code yX2_isInRing cX2_isInRing 2 (some .boolean), .fieldLink RX2 15 "HidingBoxes$Picture" "chains" "[I", .methodLink RX2 58 yX2_hasBit, .static yX2_hasBit, .code yX2_hasBit cX2_hasBit 2 (some .boolean)] ++ wsX20)
def wsX2_bitsHiddenByAll : List Cond := .code yX2_bitsHiddenByAll cX2_bitsHiddenByAll 4 (some .int) :: ([.fieldLink RX2 30 "HidingBoxes$Picture" "count" "I", .fieldLink RX2 9 "HidingBoxes$Picture" "hides" "[I", .methodLink RX2 58 yX2_hasBit, .static yX2_hasBit, .initialized RX2, .code yX2_hasBit cX2_hasBit 2 (some .boolean)] ++ wsX20)
def wsX2_shortestRingOf : List Cond := .code yX2_shortestRingOf cX2_shortestRingOf 4 (some .int) :: ([.fieldLink RX2 9 "HidingBoxes$Picture" "hides" "[I", .fieldLink RX2 30 "HidingBoxes$Picture" "count" "I", .methodLink RX2 58 yX2_hasBit, .static yX2_hasBit, .initialized RX2, .code yX2_hasBit cX2_hasBit 2 (some .boolean), .methodLink RX2 106 yX2_bitsHiddenByAll, .instanceMethod yX2_bitsHiddenByAll, .selects RX2 yX2_bitsHiddenByAll yX2_bitsHiddenByAll, .code yX2_bitsHiddenByAll cX2_bitsHiddenByAll 4 (some .int)] ++ wsX20)
def wsX2_shortestRing : List Cond := .code yX2_shortestRing cX2_shortestRing 4 (some .int) :: ([.fieldLink RX2 30 "HidingBoxes$Picture" "count" "I", .methodLink RX2 103 yX2_shortestRingOf, .instanceMethod yX2_shortestRingOf, .selects RX2 yX2_shortestRingOf yX2_shortestRingOf, .initialized RX2, .code yX2_shortestRingOf cX2_shortestRingOf 4 (some .int), .fieldLink RX2 9 "HidingBoxes$Picture" "hides" "[I", .methodLink RX2 58 yX2_hasBit, .static yX2_hasBit, .code yX2_hasBit cX2_hasBit 2 (some .boolean), .methodLink RX2 106 yX2_bitsHiddenByAll, .instanceMethod yX2_bitsHiddenByAll, .selects RX2 yX2_bitsHiddenByAll yX2_bitsHiddenByAll, .code yX2_bitsHiddenByAll cX2_bitsHiddenByAll 4 (some .int)] ++ wsX20)
def wsX2_greatestInRings : List Cond := .code yX2_greatestInRings cX2_greatestInRings 4 (some .int) :: ([.fieldLink RX2 30 "HidingBoxes$Picture" "count" "I", .fieldLink RX2 42 "HidingBoxes$Space" "boxes" "[LHidingBoxes$Box;", .methodLink RX2 99 yX2_isInRing, .instanceMethod yX2_isInRing, .selects RX2 yX2_isInRing yX2_isInRing, .initialized RX2, .code yX2_isInRing cX2_isInRing 2 (some .boolean), .fieldLink RX2 15 "HidingBoxes$Picture" "chains" "[I", .methodLink RX2 58 yX2_hasBit, .static yX2_hasBit, .code yX2_hasBit cX2_hasBit 2 (some .boolean), .methodLink RX2 109 yX0_volume, .instanceMethod yX0_volume, .selects RX0 yX0_volume yX0_volume, .initialized RX0, .code yX0_volume cX0_volume 1 (some .int), .methodLink RX0 28 yX0_size, .instanceMethod yX0_size, .selects RX0 yX0_size yX0_size, .code yX0_size cX0_size 2 (some .int), .fieldLink RX0 15 "HidingBoxes$Box" "high" "[I", .fieldLink RX0 9 "HidingBoxes$Box" "low" "[I"] ++ wsX20 ++ wsX30 ++ wsX00)
def wsX3_isFull : List Cond := .code yX3_isFull cX3_isFull 1 (some .boolean) :: ([.fieldLink RX3 18 "HidingBoxes$Space" "count" "I"] ++ wsX30)
def wsX3_slotOf : List Cond := .code yX3_slotOf cX3_slotOf 3 (some .int) :: ([.fieldLink RX3 18 "HidingBoxes$Space" "count" "I", .fieldLink RX3 11 "HidingBoxes$Space" "boxes" "[LHidingBoxes$Box;", .fieldLink RX3 35 "HidingBoxes$Box" "number" "I"] ++ wsX30 ++ wsX00)
def wsX3_isCutBy : List Cond := .code yX3_isCutBy cX3_isCutBy 4 (some .boolean) :: ([.fieldLink RX3 18 "HidingBoxes$Space" "count" "I", .fieldLink RX3 11 "HidingBoxes$Space" "boxes" "[LHidingBoxes$Box;", .methodLink RX3 38 yX0_cuts, .instanceMethod yX0_cuts, .selects RX0 yX0_cuts yX0_cuts, .initialized RX0, .code yX0_cuts cX0_cuts 2 (some .boolean), .methodLink RX0 32 yX0_meets, .instanceMethod yX0_meets, .selects RX0 yX0_meets yX0_meets, .code yX0_meets cX0_meets 3 (some .boolean), .fieldLink RX0 9 "HidingBoxes$Box" "low" "[I", .fieldLink RX0 15 "HidingBoxes$Box" "high" "[I"] ++ wsX30 ++ wsX00)
def wsX3_append : List Cond := .code yX3_append cX3_append 3 (some .int) :: ([.fieldLink RX3 11 "HidingBoxes$Space" "boxes" "[LHidingBoxes$Box;", .fieldLink RX3 18 "HidingBoxes$Space" "count" "I", .fieldLink RX3 22 "HidingBoxes$Space" "nextNumber" "I", .fieldLink RX3 35 "HidingBoxes$Box" "number" "I", .methodLink RX3 42 yX3_isFull, .instanceMethod yX3_isFull, .selects RX3 yX3_isFull yX3_isFull, .initialized RX3, .code yX3_isFull cX3_isFull 1 (some .boolean), .methodLink RX3 31 yX0_copyFrom, .instanceMethod yX0_copyFrom, .selects RX0 yX0_copyFrom yX0_copyFrom, .initialized RX0, .code yX0_copyFrom cX0_copyFrom 2 none, .fieldLink RX0 18 "HidingBoxes$Box" "number" "I", .fieldLink RX0 9 "HidingBoxes$Box" "low" "[I", .methodLink RX0 22 arraycopyName, .native arraycopyName, .static arraycopyName, .initialized "java/lang/System", .fieldLink RX0 15 "HidingBoxes$Box" "high" "[I"] ++ wsX30 ++ wsX00)
def wsX3_takeOut : List Cond := .code yX3_takeOut cX3_takeOut 3 none :: ([.fieldLink RX3 18 "HidingBoxes$Space" "count" "I", .fieldLink RX3 11 "HidingBoxes$Space" "boxes" "[LHidingBoxes$Box;", .methodLink RX3 31 yX0_copyFrom, .instanceMethod yX0_copyFrom, .selects RX0 yX0_copyFrom yX0_copyFrom, .initialized RX0, .code yX0_copyFrom cX0_copyFrom 2 none, .fieldLink RX0 18 "HidingBoxes$Box" "number" "I", .fieldLink RX0 9 "HidingBoxes$Box" "low" "[I", .methodLink RX0 22 arraycopyName, .native arraycopyName, .static arraycopyName, .initialized "java/lang/System", .fieldLink RX0 15 "HidingBoxes$Box" "high" "[I"] ++ wsX30 ++ wsX00)
def wsX3_cutInTwo_r1 : List Cond := [Cond.fieldLink RX3 11 "HidingBoxes$Space" "boxes" "[LHidingBoxes$Box;", Cond.fieldLink RX3 18 "HidingBoxes$Space" "count" "I", Cond.fieldLink RX3 50 "HidingBoxes$Box" "low" "[I", Cond.fieldLink RX3 54 "HidingBoxes$Box" "high" "[I", Cond.fieldLink RX3 25 "HidingBoxes$Space" "splits" "I", Cond.methodLink RX3 46 yX3_append, Cond.instanceMethod yX3_append, Cond.selects RX3 yX3_append yX3_append, Cond.initialized RX3, Cond.code yX3_append cX3_append 3 (some .int), Cond.fieldLink RX3 22 "HidingBoxes$Space" "nextNumber" "I", Cond.fieldLink RX3 35 "HidingBoxes$Box" "number" "I", Cond.methodLink RX3 42 yX3_isFull, Cond.instanceMethod yX3_isFull, Cond.selects RX3 yX3_isFull yX3_isFull, Cond.code yX3_isFull cX3_isFull 1 (some .boolean), Cond.methodLink RX3 31 yX0_copyFrom, Cond.instanceMethod yX0_copyFrom, Cond.selects RX0 yX0_copyFrom yX0_copyFrom, Cond.initialized RX0, Cond.code yX0_copyFrom cX0_copyFrom 2 none, Cond.fieldLink RX0 18 "HidingBoxes$Box" "number" "I", Cond.fieldLink RX0 9 "HidingBoxes$Box" "low" "[I", Cond.methodLink RX0 22 arraycopyName]
def wsX3_cutInTwo_r2 : List Cond := [Cond.native arraycopyName, Cond.static arraycopyName, Cond.initialized "java/lang/System", Cond.fieldLink RX0 15 "HidingBoxes$Box" "high" "[I"]
def wsX3_cutInTwo : List Cond := .code yX3_cutInTwo cX3_cutInTwo 5 (some .int) :: ((wsX3_cutInTwo_r1 ++ wsX3_cutInTwo_r2) ++ wsX30 ++ wsX00)
def wsX3_quarterTurn : List Cond := .code yX3_quarterTurn cX3_quarterTurn 5 none :: ([.fieldLink RX3 18 "HidingBoxes$Space" "count" "I", .fieldLink RX3 11 "HidingBoxes$Space" "boxes" "[LHidingBoxes$Box;", .fieldLink RX3 50 "HidingBoxes$Box" "low" "[I", .fieldLink RX3 54 "HidingBoxes$Box" "high" "[I"] ++ wsX30 ++ wsX00)
def wsX3_volume : List Cond := .code yX3_volume cX3_volume 3 (some .int) :: ([.fieldLink RX3 18 "HidingBoxes$Space" "count" "I", .fieldLink RX3 11 "HidingBoxes$Space" "boxes" "[LHidingBoxes$Box;", .methodLink RX3 61 yX0_volume, .instanceMethod yX0_volume, .selects RX0 yX0_volume yX0_volume, .initialized RX0, .code yX0_volume cX0_volume 1 (some .int), .methodLink RX0 28 yX0_size, .instanceMethod yX0_size, .selects RX0 yX0_size yX0_size, .code yX0_size cX0_size 2 (some .int), .fieldLink RX0 15 "HidingBoxes$Box" "high" "[I", .fieldLink RX0 9 "HidingBoxes$Box" "low" "[I"] ++ wsX30 ++ wsX00)
def wsX3_groundUnder : List Cond := .code yX3_groundUnder cX3_groundUnder 4 (some .int) :: ([.fieldLink RX3 18 "HidingBoxes$Space" "count" "I", .fieldLink RX3 11 "HidingBoxes$Space" "boxes" "[LHidingBoxes$Box;", .fieldLink RX3 54 "HidingBoxes$Box" "high" "[I", .methodLink RX3 67 Lib.Math.max.name, .static Lib.Math.max.name, .initialized "java/lang/Math", .code Lib.Math.max.name Lib.Math.max.code 2 (some .int), .methodLink RX3 64 yX0_isBelow, .instanceMethod yX0_isBelow, .selects RX0 yX0_isBelow yX0_isBelow, .initialized RX0, .code yX0_isBelow cX0_isBelow 2 (some .boolean), .fieldLink RX0 15 "HidingBoxes$Box" "high" "[I", .fieldLink RX0 9 "HidingBoxes$Box" "low" "[I", .methodLink RX0 32 yX0_meets, .instanceMethod yX0_meets, .selects RX0 yX0_meets yX0_meets, .code yX0_meets cX0_meets 3 (some .boolean)] ++ wsX30 ++ wsX00)
def wsX3_boxesBelow : List Cond := .code yX3_boxesBelow cX3_boxesBelow 4 (some .int) :: ([.fieldLink RX3 18 "HidingBoxes$Space" "count" "I", .fieldLink RX3 11 "HidingBoxes$Space" "boxes" "[LHidingBoxes$Box;", .methodLink RX3 64 yX0_isBelow, .instanceMethod yX0_isBelow, .selects RX0 yX0_isBelow yX0_isBelow, .initialized RX0, .code yX0_isBelow cX0_isBelow 2 (some .boolean), .fieldLink RX0 15 "HidingBoxes$Box" "high" "[I", .fieldLink RX0 9 "HidingBoxes$Box" "low" "[I", .methodLink RX0 32 yX0_meets, .instanceMethod yX0_meets, .selects RX0 yX0_meets yX0_meets, .code yX0_meets cX0_meets 3 (some .boolean)] ++ wsX30 ++ wsX00)
def wsX3_supportsOf : List Cond := .code yX3_supportsOf cX3_supportsOf 5 (some .int) :: ([.fieldLink RX3 11 "HidingBoxes$Space" "boxes" "[LHidingBoxes$Box;", .fieldLink RX3 18 "HidingBoxes$Space" "count" "I", .fieldLink RX3 54 "HidingBoxes$Box" "high" "[I", .fieldLink RX3 50 "HidingBoxes$Box" "low" "[I", .methodLink RX3 64 yX0_isBelow, .instanceMethod yX0_isBelow, .selects RX0 yX0_isBelow yX0_isBelow, .initialized RX0, .code yX0_isBelow cX0_isBelow 2 (some .boolean), .fieldLink RX0 15 "HidingBoxes$Box" "high" "[I", .fieldLink RX0 9 "HidingBoxes$Box" "low" "[I", .methodLink RX0 32 yX0_meets, .instanceMethod yX0_meets, .selects RX0 yX0_meets yX0_meets, .code yX0_meets cX0_meets 3 (some .boolean)] ++ wsX30 ++ wsX00)
def wsX3_shadowOn_r1 : List Cond := [Cond.fieldLink RX3 11 "HidingBoxes$Space" "boxes" "[LHidingBoxes$Box;", Cond.fieldLink RX3 50 "HidingBoxes$Box" "low" "[I", Cond.fieldLink RX3 54 "HidingBoxes$Box" "high" "[I", Cond.fieldLink RX3 18 "HidingBoxes$Space" "count" "I", Cond.methodLink RX3 64 yX0_isBelow, Cond.instanceMethod yX0_isBelow, Cond.selects RX0 yX0_isBelow yX0_isBelow, Cond.initialized RX0, Cond.code yX0_isBelow cX0_isBelow 2 (some .boolean), Cond.fieldLink RX0 15 "HidingBoxes$Box" "high" "[I", Cond.fieldLink RX0 9 "HidingBoxes$Box" "low" "[I", Cond.methodLink RX0 32 yX0_meets, Cond.instanceMethod yX0_meets, Cond.selects RX0 yX0_meets yX0_meets, Cond.code yX0_meets cX0_meets 3 (some .boolean), Cond.methodLink RX3 73 yX0_coversRow, Cond.instanceMethod yX0_coversRow, Cond.selects RX0 yX0_coversRow yX0_coversRow, Cond.code yX0_coversRow cX0_coversRow 2 (some .boolean), Cond.methodLink RX3 77 yX0_rowOfCells, Cond.instanceMethod yX0_rowOfCells, Cond.selects RX0 yX0_rowOfCells yX0_rowOfCells, Cond.code yX0_rowOfCells cX0_rowOfCells 1 (some .int), Cond.methodLink RX0 28 yX0_size]
def wsX3_shadowOn_r2 : List Cond := [Cond.instanceMethod yX0_size, Cond.selects RX0 yX0_size yX0_size, Cond.code yX0_size cX0_size 2 (some .int), Cond.methodLink RX3 80 yJ6_bitCount_0f7a4, Cond.static yJ6_bitCount_0f7a4, Cond.initialized RJ6, Cond.code yJ6_bitCount_0f7a4 cJ6_bitCount_0f7a4 1 (some .int), Cond.constant RJ6 265 (1431655765), Cond.constant RJ6 266 (858993459), Cond.constant RJ6 267 (252645135)]
def wsX3_shadowOn : List Cond := .code yX3_shadowOn cX3_shadowOn 7 (some .int) :: ((wsX3_shadowOn_r1 ++ wsX3_shadowOn_r2) ++ wsX30 ++ wsX00)
def wsX3_shadow_r1 : List Cond := [Cond.fieldLink RX3 18 "HidingBoxes$Space" "count" "I", Cond.methodLink RX3 86 yX3_shadowOn, Cond.instanceMethod yX3_shadowOn, Cond.selects RX3 yX3_shadowOn yX3_shadowOn, Cond.initialized RX3, Cond.code yX3_shadowOn cX3_shadowOn 7 (some .int), Cond.fieldLink RX3 11 "HidingBoxes$Space" "boxes" "[LHidingBoxes$Box;", Cond.fieldLink RX3 50 "HidingBoxes$Box" "low" "[I", Cond.fieldLink RX3 54 "HidingBoxes$Box" "high" "[I", Cond.methodLink RX3 64 yX0_isBelow, Cond.instanceMethod yX0_isBelow, Cond.selects RX0 yX0_isBelow yX0_isBelow, Cond.initialized RX0, Cond.code yX0_isBelow cX0_isBelow 2 (some .boolean), Cond.fieldLink RX0 15 "HidingBoxes$Box" "high" "[I", Cond.fieldLink RX0 9 "HidingBoxes$Box" "low" "[I", Cond.methodLink RX0 32 yX0_meets, Cond.instanceMethod yX0_meets, Cond.selects RX0 yX0_meets yX0_meets, Cond.code yX0_meets cX0_meets 3 (some .boolean), Cond.methodLink RX3 73 yX0_coversRow, Cond.instanceMethod yX0_coversRow, Cond.selects RX0 yX0_coversRow yX0_coversRow, Cond.code yX0_coversRow cX0_coversRow 2 (some .boolean)]
def wsX3_shadow_r2 : List Cond := [Cond.methodLink RX3 77 yX0_rowOfCells, Cond.instanceMethod yX0_rowOfCells, Cond.selects RX0 yX0_rowOfCells yX0_rowOfCells, Cond.code yX0_rowOfCells cX0_rowOfCells 1 (some .int), Cond.methodLink RX0 28 yX0_size, Cond.instanceMethod yX0_size, Cond.selects RX0 yX0_size yX0_size, Cond.code yX0_size cX0_size 2 (some .int), Cond.methodLink RX3 80 yJ6_bitCount_0f7a4, Cond.static yJ6_bitCount_0f7a4, Cond.initialized RJ6, Cond.code yJ6_bitCount_0f7a4 cJ6_bitCount_0f7a4 1 (some .int), Cond.constant RJ6 265 (1431655765), Cond.constant RJ6 266 (858993459), Cond.constant RJ6 267 (252645135)]
def wsX3_shadow : List Cond := .code yX3_shadow cX3_shadow 3 (some .int) :: ((wsX3_shadow_r1 ++ wsX3_shadow_r2) ++ wsX30 ++ wsX00)
def wsX4_init : List Cond := .code yX4_init cX4_init 1 none :: ([.methodLink RX4 3 objectInit, .instanceMethod objectInit, .code objectInit ⟨#[0xb1]⟩ 1 none, .arrayClass .char, .fieldLink RX4 9 "HidingBoxes$Text" "signs" "[C", .arrayClass .int, .fieldLink RX4 15 "HidingBoxes$Text" "values" "[I"] ++ wsX40)
def wsX4_append : List Cond := .code yX4_append cX4_append 2 (some .boolean) :: ([.fieldLink RX4 19 "HidingBoxes$Text" "length" "I", .fieldLink RX4 9 "HidingBoxes$Text" "signs" "[C"] ++ wsX40)
def wsX4_withDigit : List Cond := .code yX4_withDigit cX4_withDigit 6 (some .int) :: ([])
def wsX4_signBehind : List Cond := .code yX4_signBehind cX4_signBehind 1 (some .char) :: ([])
def wsX4_store : List Cond := .code yX4_store cX4_store 2 none :: ([.fieldLink RX4 23 "HidingBoxes$Text" "valueCount" "I", .fieldLink RX4 15 "HidingBoxes$Text" "values" "[I"] ++ wsX40)
def wsX4_read : List Cond := .code yX4_read cX4_read 5 (some .int) :: ([.fieldLink RX4 23 "HidingBoxes$Text" "valueCount" "I", .fieldLink RX4 19 "HidingBoxes$Text" "length" "I", .fieldLink RX4 9 "HidingBoxes$Text" "signs" "[C", .methodLink RX4 26 yX4_withDigit, .static yX4_withDigit, .initialized RX4, .code yX4_withDigit cX4_withDigit 6 (some .int), .methodLink RX4 30 yX4_signBehind, .static yX4_signBehind, .code yX4_signBehind cX4_signBehind 1 (some .char), .methodLink RX4 34 yX4_store, .instanceMethod yX4_store, .selects RX4 yX4_store yX4_store, .code yX4_store cX4_store 2 none, .fieldLink RX4 15 "HidingBoxes$Text" "values" "[I"] ++ wsX40)
def wsX4_boxCount : List Cond := .code yX4_boxCount cX4_boxCount 1 (some .int) :: ([.fieldLink RX4 23 "HidingBoxes$Text" "valueCount" "I"] ++ wsX40)
def wsX4_valueOf : List Cond := .code yX4_valueOf cX4_valueOf 4 (some .int) :: ([.fieldLink RX4 23 "HidingBoxes$Text" "valueCount" "I", .fieldLink RX4 15 "HidingBoxes$Text" "values" "[I"] ++ wsX40)
def wsX5_init_r1 : List Cond := [Cond.methodLink RX5 1 objectInit, Cond.instanceMethod objectInit, Cond.code objectInit ⟨#[0xb1]⟩ 1 none, Cond.classLink RX5 7 RX3, Cond.instantiable RX3 5, Cond.initialized RX3, Cond.fieldLink RX5 10 "HidingBoxes" "now" "LHidingBoxes$Space;", Cond.fieldLink RX5 16 "HidingBoxes" "trial" "LHidingBoxes$Space;", Cond.fieldLink RX5 19 "HidingBoxes" "snapshot" "LHidingBoxes$Space;", Cond.classLink RX5 22 RX1, Cond.instantiable RX1 2, Cond.initialized RX1, Cond.fieldLink RX5 25 "HidingBoxes" "history" "LHidingBoxes$History;", Cond.classLink RX5 29 RX4, Cond.instantiable RX4 4, Cond.initialized RX4, Cond.fieldLink RX5 32 "HidingBoxes" "text" "LHidingBoxes$Text;", Cond.classLink RX5 36 RX2, Cond.instantiable RX2 7, Cond.initialized RX2, Cond.fieldLink RX5 39 "HidingBoxes" "picture" "LHidingBoxes$Picture;", Cond.fieldLink RX5 43 "HidingBoxes" "turnedPicture" "LHidingBoxes$Picture;", Cond.classLink RX5 46 RX0, Cond.instantiable RX0 3]
def wsX5_init_r2 : List Cond := [Cond.initialized RX0, Cond.fieldLink RX5 49 "HidingBoxes" "newcomer" "LHidingBoxes$Box;", Cond.fieldLink RX5 53 "HidingBoxes" "hasSnapshot" "Z", Cond.methodLink RX5 9 yX3_init, Cond.instanceMethod yX3_init, Cond.code yX3_init cX3_init 2 none, Cond.methodLink RX3 3 objectInit, Cond.classLink RX3 9 RX0, Cond.fieldLink RX3 11 "HidingBoxes$Space" "boxes" "[LHidingBoxes$Box;", Cond.instanceMethod yX0_init, Cond.code yX0_init cX0_init 1 none, Cond.methodLink RX0 3 objectInit, Cond.arrayClass .int, Cond.fieldLink RX0 9 "HidingBoxes$Box" "low" "[I", Cond.fieldLink RX0 15 "HidingBoxes$Box" "high" "[I", Cond.methodLink RX5 24 yX1_init, Cond.instanceMethod yX1_init, Cond.code yX1_init cX1_init 2 none, Cond.methodLink RX1 3 objectInit, Cond.classLink RX1 9 RX3, Cond.fieldLink RX1 11 "HidingBoxes$History" "states" "[LHidingBoxes$Space;", Cond.methodLink RX1 17 yX3_init, Cond.instanceMethod yX4_init, Cond.code yX4_init cX4_init 1 none]
def wsX5_init_r3 : List Cond := [Cond.methodLink RX4 3 objectInit, Cond.arrayClass .char, Cond.fieldLink RX4 9 "HidingBoxes$Text" "signs" "[C", Cond.fieldLink RX4 15 "HidingBoxes$Text" "values" "[I", Cond.instanceMethod yX2_init, Cond.code yX2_init cX2_init 1 none, Cond.methodLink RX2 3 objectInit, Cond.fieldLink RX2 9 "HidingBoxes$Picture" "hides" "[I", Cond.fieldLink RX2 15 "HidingBoxes$Picture" "chains" "[I", Cond.fieldLink RX2 18 "HidingBoxes$Picture" "order" "[I", Cond.fieldLink RX2 21 "HidingBoxes$Picture" "layers" "[I"]
def wsX5_init : List Cond := .code yX5_init cX5_init 1 none :: ((wsX5_init_r1 ++ (wsX5_init_r2 ++ wsX5_init_r3)) ++ wsX30 ++ wsX50 ++ wsX10 ++ wsX40 ++ wsX20 ++ wsX00)
def wsX5_enter_r1 : List Cond := [Cond.fieldLink RX5 49 "HidingBoxes" "newcomer" "LHidingBoxes$Box;", Cond.methodLink RX5 221 yX0_lay, Cond.instanceMethod yX0_lay, Cond.selects RX0 yX0_lay yX0_lay, Cond.initialized RX0, Cond.code yX0_lay cX0_lay 4 (some .boolean), Cond.fieldLink RX0 9 "HidingBoxes$Box" "low" "[I", Cond.fieldLink RX0 15 "HidingBoxes$Box" "high" "[I", Cond.methodLink RX5 99 yX3_isCutBy, Cond.instanceMethod yX3_isCutBy, Cond.selects RX3 yX3_isCutBy yX3_isCutBy, Cond.initialized RX3, Cond.code yX3_isCutBy cX3_isCutBy 4 (some .boolean), Cond.fieldLink RX3 18 "HidingBoxes$Space" "count" "I", Cond.fieldLink RX3 11 "HidingBoxes$Space" "boxes" "[LHidingBoxes$Box;", Cond.methodLink RX3 38 yX0_cuts, Cond.instanceMethod yX0_cuts, Cond.selects RX0 yX0_cuts yX0_cuts, Cond.code yX0_cuts cX0_cuts 2 (some .boolean), Cond.methodLink RX0 32 yX0_meets, Cond.instanceMethod yX0_meets, Cond.selects RX0 yX0_meets yX0_meets, Cond.code yX0_meets cX0_meets 3 (some .boolean), Cond.methodLink RX5 106 yX3_isFull]
def wsX5_enter_r2 : List Cond := [Cond.instanceMethod yX3_isFull, Cond.selects RX3 yX3_isFull yX3_isFull, Cond.code yX3_isFull cX3_isFull 1 (some .boolean), Cond.methodLink RX5 225 yX3_append, Cond.instanceMethod yX3_append, Cond.selects RX3 yX3_append yX3_append, Cond.code yX3_append cX3_append 3 (some .int), Cond.fieldLink RX3 22 "HidingBoxes$Space" "nextNumber" "I", Cond.fieldLink RX3 35 "HidingBoxes$Box" "number" "I", Cond.methodLink RX3 42 yX3_isFull, Cond.methodLink RX3 31 yX0_copyFrom, Cond.instanceMethod yX0_copyFrom, Cond.selects RX0 yX0_copyFrom yX0_copyFrom, Cond.code yX0_copyFrom cX0_copyFrom 2 none, Cond.fieldLink RX0 18 "HidingBoxes$Box" "number" "I", Cond.methodLink RX0 22 arraycopyName, Cond.native arraycopyName, Cond.static arraycopyName, Cond.initialized "java/lang/System"]
def wsX5_enter : List Cond := .code yX5_enter cX5_enter 9 (some .int) :: ((wsX5_enter_r1 ++ wsX5_enter_r2) ++ wsX50 ++ wsX00 ++ wsX30)
def wsX5_adoptTrial_r1 : List Cond := [Cond.fieldLink RX5 25 "HidingBoxes" "history" "LHidingBoxes$History;", Cond.fieldLink RX5 10 "HidingBoxes" "now" "LHidingBoxes$Space;", Cond.fieldLink RX5 16 "HidingBoxes" "trial" "LHidingBoxes$Space;", Cond.methodLink RX5 218 yX1_remember, Cond.instanceMethod yX1_remember, Cond.selects RX1 yX1_remember yX1_remember, Cond.initialized RX1, Cond.code yX1_remember cX1_remember 2 none, Cond.fieldLink RX1 18 "HidingBoxes$History" "count" "I", Cond.fieldLink RX1 11 "HidingBoxes$History" "states" "[LHidingBoxes$Space;", Cond.methodLink RX1 22 yX1_dropOldest, Cond.instanceMethod yX1_dropOldest, Cond.selects RX1 yX1_dropOldest yX1_dropOldest, Cond.code yX1_dropOldest cX1_dropOldest 3 none, Cond.methodLink RX1 25 yX3_copyFrom, Cond.instanceMethod yX3_copyFrom, Cond.selects RX3 yX3_copyFrom yX3_copyFrom, Cond.initialized RX3, Cond.code yX3_copyFrom cX3_copyFrom 3 none, Cond.fieldLink RX3 18 "HidingBoxes$Space" "count" "I", Cond.fieldLink RX3 22 "HidingBoxes$Space" "nextNumber" "I", Cond.fieldLink RX3 25 "HidingBoxes$Space" "splits" "I", Cond.fieldLink RX3 28 "HidingBoxes$Space" "rule" "I", Cond.fieldLink RX3 11 "HidingBoxes$Space" "boxes" "[LHidingBoxes$Box;"]
def wsX5_adoptTrial_r2 : List Cond := [Cond.methodLink RX3 31 yX0_copyFrom, Cond.instanceMethod yX0_copyFrom, Cond.selects RX0 yX0_copyFrom yX0_copyFrom, Cond.initialized RX0, Cond.code yX0_copyFrom cX0_copyFrom 2 none, Cond.fieldLink RX0 18 "HidingBoxes$Box" "number" "I", Cond.fieldLink RX0 9 "HidingBoxes$Box" "low" "[I", Cond.methodLink RX0 22 arraycopyName, Cond.native arraycopyName, Cond.static arraycopyName, Cond.initialized "java/lang/System", Cond.fieldLink RX0 15 "HidingBoxes$Box" "high" "[I", Cond.methodLink RX5 57 yX3_copyFrom]
def wsX5_adoptTrial : List Cond := .code yX5_adoptTrial cX5_adoptTrial 1 none :: ((wsX5_adoptTrial_r1 ++ wsX5_adoptTrial_r2) ++ wsX50 ++ wsX10 ++ wsX30 ++ wsX00)
def wsX5_add_r1 : List Cond := [Cond.fieldLink RX5 16 "HidingBoxes" "trial" "LHidingBoxes$Space;", Cond.fieldLink RX5 10 "HidingBoxes" "now" "LHidingBoxes$Space;", Cond.methodLink RX5 57 yX3_copyFrom, Cond.instanceMethod yX3_copyFrom, Cond.selects RX3 yX3_copyFrom yX3_copyFrom, Cond.initialized RX3, Cond.code yX3_copyFrom cX3_copyFrom 3 none, Cond.fieldLink RX3 18 "HidingBoxes$Space" "count" "I", Cond.fieldLink RX3 22 "HidingBoxes$Space" "nextNumber" "I", Cond.fieldLink RX3 25 "HidingBoxes$Space" "splits" "I", Cond.fieldLink RX3 28 "HidingBoxes$Space" "rule" "I", Cond.fieldLink RX3 11 "HidingBoxes$Space" "boxes" "[LHidingBoxes$Box;", Cond.methodLink RX3 31 yX0_copyFrom, Cond.instanceMethod yX0_copyFrom, Cond.selects RX0 yX0_copyFrom yX0_copyFrom, Cond.initialized RX0, Cond.code yX0_copyFrom cX0_copyFrom 2 none, Cond.fieldLink RX0 18 "HidingBoxes$Box" "number" "I", Cond.fieldLink RX0 9 "HidingBoxes$Box" "low" "[I", Cond.methodLink RX0 22 arraycopyName, Cond.native arraycopyName, Cond.static arraycopyName, Cond.initialized "java/lang/System", Cond.fieldLink RX0 15 "HidingBoxes$Box" "high" "[I"]
def wsX5_add_r2 : List Cond := [Cond.methodLink RX5 61 yX5_enter, Cond.instanceMethod yX5_enter, Cond.selects RX5 yX5_enter yX5_enter, Cond.initialized RX5, Cond.code yX5_enter cX5_enter 9 (some .int), Cond.fieldLink RX5 49 "HidingBoxes" "newcomer" "LHidingBoxes$Box;", Cond.methodLink RX5 221 yX0_lay, Cond.instanceMethod yX0_lay, Cond.selects RX0 yX0_lay yX0_lay, Cond.code yX0_lay cX0_lay 4 (some .boolean), Cond.methodLink RX5 99 yX3_isCutBy, Cond.instanceMethod yX3_isCutBy, Cond.selects RX3 yX3_isCutBy yX3_isCutBy, Cond.code yX3_isCutBy cX3_isCutBy 4 (some .boolean), Cond.methodLink RX3 38 yX0_cuts, Cond.instanceMethod yX0_cuts, Cond.selects RX0 yX0_cuts yX0_cuts, Cond.code yX0_cuts cX0_cuts 2 (some .boolean), Cond.methodLink RX0 32 yX0_meets, Cond.instanceMethod yX0_meets, Cond.selects RX0 yX0_meets yX0_meets, Cond.code yX0_meets cX0_meets 3 (some .boolean), Cond.methodLink RX5 106 yX3_isFull, Cond.instanceMethod yX3_isFull]
def wsX5_add_r3 : List Cond := [Cond.selects RX3 yX3_isFull yX3_isFull, Cond.code yX3_isFull cX3_isFull 1 (some .boolean), Cond.methodLink RX5 225 yX3_append, Cond.instanceMethod yX3_append, Cond.selects RX3 yX3_append yX3_append, Cond.code yX3_append cX3_append 3 (some .int), Cond.fieldLink RX3 35 "HidingBoxes$Box" "number" "I", Cond.methodLink RX3 42 yX3_isFull, Cond.methodLink RX5 65 yX5_adoptTrial, Cond.instanceMethod yX5_adoptTrial, Cond.selects RX5 yX5_adoptTrial yX5_adoptTrial, Cond.code yX5_adoptTrial cX5_adoptTrial 1 none, Cond.fieldLink RX5 25 "HidingBoxes" "history" "LHidingBoxes$History;", Cond.methodLink RX5 218 yX1_remember, Cond.instanceMethod yX1_remember, Cond.selects RX1 yX1_remember yX1_remember, Cond.initialized RX1, Cond.code yX1_remember cX1_remember 2 none, Cond.fieldLink RX1 18 "HidingBoxes$History" "count" "I", Cond.fieldLink RX1 11 "HidingBoxes$History" "states" "[LHidingBoxes$Space;", Cond.methodLink RX1 22 yX1_dropOldest, Cond.instanceMethod yX1_dropOldest, Cond.selects RX1 yX1_dropOldest yX1_dropOldest, Cond.code yX1_dropOldest cX1_dropOldest 3 none]
def wsX5_add_r4 : List Cond := [Cond.methodLink RX1 25 yX3_copyFrom]
def wsX5_add : List Cond := .code yX5_add cX5_add 8 (some .int) :: ((wsX5_add_r1 ++ (wsX5_add_r2 ++ (wsX5_add_r3 ++ wsX5_add_r4))) ++ wsX50 ++ wsX30 ++ wsX00 ++ wsX10)
def wsX5_remove_r1 : List Cond := [Cond.fieldLink RX5 10 "HidingBoxes" "now" "LHidingBoxes$Space;", Cond.fieldLink RX5 72 "HidingBoxes$Space" "boxes" "[LHidingBoxes$Box;", Cond.fieldLink RX5 16 "HidingBoxes" "trial" "LHidingBoxes$Space;", Cond.methodLink RX5 68 yX3_slotOf, Cond.instanceMethod yX3_slotOf, Cond.selects RX3 yX3_slotOf yX3_slotOf, Cond.initialized RX3, Cond.code yX3_slotOf cX3_slotOf 3 (some .int), Cond.fieldLink RX3 18 "HidingBoxes$Space" "count" "I", Cond.fieldLink RX3 11 "HidingBoxes$Space" "boxes" "[LHidingBoxes$Box;", Cond.fieldLink RX3 35 "HidingBoxes$Box" "number" "I", Cond.methodLink RX5 76 yX0_volume, Cond.instanceMethod yX0_volume, Cond.selects RX0 yX0_volume yX0_volume, Cond.initialized RX0, Cond.code yX0_volume cX0_volume 1 (some .int), Cond.methodLink RX0 28 yX0_size, Cond.instanceMethod yX0_size, Cond.selects RX0 yX0_size yX0_size, Cond.code yX0_size cX0_size 2 (some .int), Cond.fieldLink RX0 15 "HidingBoxes$Box" "high" "[I", Cond.fieldLink RX0 9 "HidingBoxes$Box" "low" "[I", Cond.methodLink RX5 57 yX3_copyFrom, Cond.instanceMethod yX3_copyFrom]
def wsX5_remove_r2 : List Cond := [Cond.selects RX3 yX3_copyFrom yX3_copyFrom, Cond.code yX3_copyFrom cX3_copyFrom 3 none, Cond.fieldLink RX3 22 "HidingBoxes$Space" "nextNumber" "I", Cond.fieldLink RX3 25 "HidingBoxes$Space" "splits" "I", Cond.fieldLink RX3 28 "HidingBoxes$Space" "rule" "I", Cond.methodLink RX3 31 yX0_copyFrom, Cond.instanceMethod yX0_copyFrom, Cond.selects RX0 yX0_copyFrom yX0_copyFrom, Cond.code yX0_copyFrom cX0_copyFrom 2 none, Cond.fieldLink RX0 18 "HidingBoxes$Box" "number" "I", Cond.methodLink RX0 22 arraycopyName, Cond.native arraycopyName, Cond.static arraycopyName, Cond.initialized "java/lang/System", Cond.methodLink RX5 80 yX3_takeOut, Cond.instanceMethod yX3_takeOut, Cond.selects RX3 yX3_takeOut yX3_takeOut, Cond.code yX3_takeOut cX3_takeOut 3 none, Cond.methodLink RX5 65 yX5_adoptTrial, Cond.instanceMethod yX5_adoptTrial, Cond.selects RX5 yX5_adoptTrial yX5_adoptTrial, Cond.initialized RX5, Cond.code yX5_adoptTrial cX5_adoptTrial 1 none, Cond.fieldLink RX5 25 "HidingBoxes" "history" "LHidingBoxes$History;"]
def wsX5_remove_r3 : List Cond := [Cond.methodLink RX5 218 yX1_remember, Cond.instanceMethod yX1_remember, Cond.selects RX1 yX1_remember yX1_remember, Cond.initialized RX1, Cond.code yX1_remember cX1_remember 2 none, Cond.fieldLink RX1 18 "HidingBoxes$History" "count" "I", Cond.fieldLink RX1 11 "HidingBoxes$History" "states" "[LHidingBoxes$Space;", Cond.methodLink RX1 22 yX1_dropOldest, Cond.instanceMethod yX1_dropOldest, Cond.selects RX1 yX1_dropOldest yX1_dropOldest, Cond.code yX1_dropOldest cX1_dropOldest 3 none, Cond.methodLink RX1 25 yX3_copyFrom]
def wsX5_remove : List Cond := .code yX5_remove cX5_remove 4 (some .int) :: ((wsX5_remove_r1 ++ (wsX5_remove_r2 ++ wsX5_remove_r3)) ++ wsX50 ++ wsX30 ++ wsX00 ++ wsX10)
def wsX5_isDirection : List Cond := .code yX5_isDirection cX5_isDirection 1 (some .boolean) :: ([])
def wsX5_move_r1 : List Cond := [Cond.fieldLink RX5 10 "HidingBoxes" "now" "LHidingBoxes$Space;", Cond.fieldLink RX5 16 "HidingBoxes" "trial" "LHidingBoxes$Space;", Cond.fieldLink RX5 72 "HidingBoxes$Space" "boxes" "[LHidingBoxes$Box;", Cond.fieldLink RX5 88 "HidingBoxes$Box" "low" "[I", Cond.fieldLink RX5 92 "HidingBoxes$Box" "high" "[I", Cond.methodLink RX5 68 yX3_slotOf, Cond.instanceMethod yX3_slotOf, Cond.selects RX3 yX3_slotOf yX3_slotOf, Cond.initialized RX3, Cond.code yX3_slotOf cX3_slotOf 3 (some .int), Cond.fieldLink RX3 18 "HidingBoxes$Space" "count" "I", Cond.fieldLink RX3 11 "HidingBoxes$Space" "boxes" "[LHidingBoxes$Box;", Cond.fieldLink RX3 35 "HidingBoxes$Box" "number" "I", Cond.methodLink RX5 84 yX5_isDirection, Cond.static yX5_isDirection, Cond.initialized RX5, Cond.code yX5_isDirection cX5_isDirection 1 (some .boolean), Cond.methodLink RX5 57 yX3_copyFrom, Cond.instanceMethod yX3_copyFrom, Cond.selects RX3 yX3_copyFrom yX3_copyFrom, Cond.code yX3_copyFrom cX3_copyFrom 3 none, Cond.fieldLink RX3 22 "HidingBoxes$Space" "nextNumber" "I", Cond.fieldLink RX3 25 "HidingBoxes$Space" "splits" "I", Cond.fieldLink RX3 28 "HidingBoxes$Space" "rule" "I"]
def wsX5_move_r2 : List Cond := [Cond.methodLink RX3 31 yX0_copyFrom, Cond.instanceMethod yX0_copyFrom, Cond.selects RX0 yX0_copyFrom yX0_copyFrom, Cond.initialized RX0, Cond.code yX0_copyFrom cX0_copyFrom 2 none, Cond.fieldLink RX0 18 "HidingBoxes$Box" "number" "I", Cond.fieldLink RX0 9 "HidingBoxes$Box" "low" "[I", Cond.methodLink RX0 22 arraycopyName, Cond.native arraycopyName, Cond.static arraycopyName, Cond.initialized "java/lang/System", Cond.fieldLink RX0 15 "HidingBoxes$Box" "high" "[I", Cond.methodLink RX5 95 yX0_shift, Cond.instanceMethod yX0_shift, Cond.selects RX0 yX0_shift yX0_shift, Cond.code yX0_shift cX0_shift 3 none, Cond.methodLink RX5 99 yX3_isCutBy, Cond.instanceMethod yX3_isCutBy, Cond.selects RX3 yX3_isCutBy yX3_isCutBy, Cond.code yX3_isCutBy cX3_isCutBy 4 (some .boolean), Cond.methodLink RX3 38 yX0_cuts, Cond.instanceMethod yX0_cuts, Cond.selects RX0 yX0_cuts yX0_cuts, Cond.code yX0_cuts cX0_cuts 2 (some .boolean)]
def wsX5_move_r3 : List Cond := [Cond.methodLink RX0 32 yX0_meets, Cond.instanceMethod yX0_meets, Cond.selects RX0 yX0_meets yX0_meets, Cond.code yX0_meets cX0_meets 3 (some .boolean), Cond.methodLink RX5 65 yX5_adoptTrial, Cond.instanceMethod yX5_adoptTrial, Cond.selects RX5 yX5_adoptTrial yX5_adoptTrial, Cond.code yX5_adoptTrial cX5_adoptTrial 1 none, Cond.fieldLink RX5 25 "HidingBoxes" "history" "LHidingBoxes$History;", Cond.methodLink RX5 218 yX1_remember, Cond.instanceMethod yX1_remember, Cond.selects RX1 yX1_remember yX1_remember, Cond.initialized RX1, Cond.code yX1_remember cX1_remember 2 none, Cond.fieldLink RX1 18 "HidingBoxes$History" "count" "I", Cond.fieldLink RX1 11 "HidingBoxes$History" "states" "[LHidingBoxes$Space;", Cond.methodLink RX1 22 yX1_dropOldest, Cond.instanceMethod yX1_dropOldest, Cond.selects RX1 yX1_dropOldest yX1_dropOldest, Cond.code yX1_dropOldest cX1_dropOldest 3 none, Cond.methodLink RX1 25 yX3_copyFrom]
def wsX5_move : List Cond := .code yX5_move cX5_move 6 (some .int) :: ((wsX5_move_r1 ++ (wsX5_move_r2 ++ wsX5_move_r3)) ++ wsX50 ++ wsX30 ++ wsX00 ++ wsX10)
def wsX5_fall_r1 : List Cond := [Cond.fieldLink RX5 10 "HidingBoxes" "now" "LHidingBoxes$Space;", Cond.fieldLink RX5 72 "HidingBoxes$Space" "boxes" "[LHidingBoxes$Box;", Cond.fieldLink RX5 88 "HidingBoxes$Box" "low" "[I", Cond.fieldLink RX5 16 "HidingBoxes" "trial" "LHidingBoxes$Space;", Cond.methodLink RX5 68 yX3_slotOf, Cond.instanceMethod yX3_slotOf, Cond.selects RX3 yX3_slotOf yX3_slotOf, Cond.initialized RX3, Cond.code yX3_slotOf cX3_slotOf 3 (some .int), Cond.fieldLink RX3 18 "HidingBoxes$Space" "count" "I", Cond.fieldLink RX3 11 "HidingBoxes$Space" "boxes" "[LHidingBoxes$Box;", Cond.fieldLink RX3 35 "HidingBoxes$Box" "number" "I", Cond.methodLink RX5 103 yX3_groundUnder, Cond.instanceMethod yX3_groundUnder, Cond.selects RX3 yX3_groundUnder yX3_groundUnder, Cond.code yX3_groundUnder cX3_groundUnder 4 (some .int), Cond.fieldLink RX3 54 "HidingBoxes$Box" "high" "[I", Cond.methodLink RX3 67 Lib.Math.max.name, Cond.static Lib.Math.max.name, Cond.initialized "java/lang/Math", Cond.code Lib.Math.max.name Lib.Math.max.code 2 (some .int), Cond.methodLink RX3 64 yX0_isBelow, Cond.instanceMethod yX0_isBelow, Cond.selects RX0 yX0_isBelow yX0_isBelow]
def wsX5_fall_r2 : List Cond := [Cond.initialized RX0, Cond.code yX0_isBelow cX0_isBelow 2 (some .boolean), Cond.fieldLink RX0 15 "HidingBoxes$Box" "high" "[I", Cond.fieldLink RX0 9 "HidingBoxes$Box" "low" "[I", Cond.methodLink RX0 32 yX0_meets, Cond.instanceMethod yX0_meets, Cond.selects RX0 yX0_meets yX0_meets, Cond.code yX0_meets cX0_meets 3 (some .boolean), Cond.methodLink RX5 57 yX3_copyFrom, Cond.instanceMethod yX3_copyFrom, Cond.selects RX3 yX3_copyFrom yX3_copyFrom, Cond.code yX3_copyFrom cX3_copyFrom 3 none, Cond.fieldLink RX3 22 "HidingBoxes$Space" "nextNumber" "I", Cond.fieldLink RX3 25 "HidingBoxes$Space" "splits" "I", Cond.fieldLink RX3 28 "HidingBoxes$Space" "rule" "I", Cond.methodLink RX3 31 yX0_copyFrom, Cond.instanceMethod yX0_copyFrom, Cond.selects RX0 yX0_copyFrom yX0_copyFrom, Cond.code yX0_copyFrom cX0_copyFrom 2 none, Cond.fieldLink RX0 18 "HidingBoxes$Box" "number" "I", Cond.methodLink RX0 22 arraycopyName, Cond.native arraycopyName, Cond.static arraycopyName, Cond.initialized "java/lang/System"]
def wsX5_fall_r3 : List Cond := [Cond.methodLink RX5 95 yX0_shift, Cond.instanceMethod yX0_shift, Cond.selects RX0 yX0_shift yX0_shift, Cond.code yX0_shift cX0_shift 3 none, Cond.methodLink RX5 65 yX5_adoptTrial, Cond.instanceMethod yX5_adoptTrial, Cond.selects RX5 yX5_adoptTrial yX5_adoptTrial, Cond.initialized RX5, Cond.code yX5_adoptTrial cX5_adoptTrial 1 none, Cond.fieldLink RX5 25 "HidingBoxes" "history" "LHidingBoxes$History;", Cond.methodLink RX5 218 yX1_remember, Cond.instanceMethod yX1_remember, Cond.selects RX1 yX1_remember yX1_remember, Cond.initialized RX1, Cond.code yX1_remember cX1_remember 2 none, Cond.fieldLink RX1 18 "HidingBoxes$History" "count" "I", Cond.fieldLink RX1 11 "HidingBoxes$History" "states" "[LHidingBoxes$Space;", Cond.methodLink RX1 22 yX1_dropOldest, Cond.instanceMethod yX1_dropOldest, Cond.selects RX1 yX1_dropOldest yX1_dropOldest, Cond.code yX1_dropOldest cX1_dropOldest 3 none, Cond.methodLink RX1 25 yX3_copyFrom]
def wsX5_fall : List Cond := .code yX5_fall cX5_fall 4 (some .int) :: ((wsX5_fall_r1 ++ (wsX5_fall_r2 ++ wsX5_fall_r3)) ++ wsX50 ++ wsX30 ++ wsX00 ++ wsX10)
def wsX5_split_r1 : List Cond := [Cond.fieldLink RX5 10 "HidingBoxes" "now" "LHidingBoxes$Space;", Cond.fieldLink RX5 72 "HidingBoxes$Space" "boxes" "[LHidingBoxes$Box;", Cond.fieldLink RX5 88 "HidingBoxes$Box" "low" "[I", Cond.fieldLink RX5 92 "HidingBoxes$Box" "high" "[I", Cond.fieldLink RX5 16 "HidingBoxes" "trial" "LHidingBoxes$Space;", Cond.methodLink RX5 68 yX3_slotOf, Cond.instanceMethod yX3_slotOf, Cond.selects RX3 yX3_slotOf yX3_slotOf, Cond.initialized RX3, Cond.code yX3_slotOf cX3_slotOf 3 (some .int), Cond.fieldLink RX3 18 "HidingBoxes$Space" "count" "I", Cond.fieldLink RX3 11 "HidingBoxes$Space" "boxes" "[LHidingBoxes$Box;", Cond.fieldLink RX3 35 "HidingBoxes$Box" "number" "I", Cond.methodLink RX5 84 yX5_isDirection, Cond.static yX5_isDirection, Cond.initialized RX5, Cond.code yX5_isDirection cX5_isDirection 1 (some .boolean), Cond.methodLink RX5 106 yX3_isFull, Cond.instanceMethod yX3_isFull, Cond.selects RX3 yX3_isFull yX3_isFull, Cond.code yX3_isFull cX3_isFull 1 (some .boolean), Cond.methodLink RX5 57 yX3_copyFrom, Cond.instanceMethod yX3_copyFrom, Cond.selects RX3 yX3_copyFrom yX3_copyFrom]
def wsX5_split_r2 : List Cond := [Cond.code yX3_copyFrom cX3_copyFrom 3 none, Cond.fieldLink RX3 22 "HidingBoxes$Space" "nextNumber" "I", Cond.fieldLink RX3 25 "HidingBoxes$Space" "splits" "I", Cond.fieldLink RX3 28 "HidingBoxes$Space" "rule" "I", Cond.methodLink RX3 31 yX0_copyFrom, Cond.instanceMethod yX0_copyFrom, Cond.selects RX0 yX0_copyFrom yX0_copyFrom, Cond.initialized RX0, Cond.code yX0_copyFrom cX0_copyFrom 2 none, Cond.fieldLink RX0 18 "HidingBoxes$Box" "number" "I", Cond.fieldLink RX0 9 "HidingBoxes$Box" "low" "[I", Cond.methodLink RX0 22 arraycopyName, Cond.native arraycopyName, Cond.static arraycopyName, Cond.initialized "java/lang/System", Cond.fieldLink RX0 15 "HidingBoxes$Box" "high" "[I", Cond.methodLink RX5 110 yX3_cutInTwo, Cond.instanceMethod yX3_cutInTwo, Cond.selects RX3 yX3_cutInTwo yX3_cutInTwo, Cond.code yX3_cutInTwo cX3_cutInTwo 5 (some .int), Cond.fieldLink RX3 50 "HidingBoxes$Box" "low" "[I", Cond.fieldLink RX3 54 "HidingBoxes$Box" "high" "[I", Cond.methodLink RX3 46 yX3_append, Cond.instanceMethod yX3_append]
def wsX5_split_r3 : List Cond := [Cond.selects RX3 yX3_append yX3_append, Cond.code yX3_append cX3_append 3 (some .int), Cond.methodLink RX3 42 yX3_isFull, Cond.methodLink RX5 65 yX5_adoptTrial, Cond.instanceMethod yX5_adoptTrial, Cond.selects RX5 yX5_adoptTrial yX5_adoptTrial, Cond.code yX5_adoptTrial cX5_adoptTrial 1 none, Cond.fieldLink RX5 25 "HidingBoxes" "history" "LHidingBoxes$History;", Cond.methodLink RX5 218 yX1_remember, Cond.instanceMethod yX1_remember, Cond.selects RX1 yX1_remember yX1_remember, Cond.initialized RX1, Cond.code yX1_remember cX1_remember 2 none, Cond.fieldLink RX1 18 "HidingBoxes$History" "count" "I", Cond.fieldLink RX1 11 "HidingBoxes$History" "states" "[LHidingBoxes$Space;", Cond.methodLink RX1 22 yX1_dropOldest, Cond.instanceMethod yX1_dropOldest, Cond.selects RX1 yX1_dropOldest yX1_dropOldest, Cond.code yX1_dropOldest cX1_dropOldest 3 none, Cond.methodLink RX1 25 yX3_copyFrom]
def wsX5_split : List Cond := .code yX5_split cX5_split 7 (some .int) :: ((wsX5_split_r1 ++ (wsX5_split_r2 ++ wsX5_split_r3)) ++ wsX50 ++ wsX30 ++ wsX00 ++ wsX10)
def wsX5_breakOne_r1 : List Cond := [Cond.fieldLink RX5 39 "HidingBoxes" "picture" "LHidingBoxes$Picture;", Cond.fieldLink RX5 72 "HidingBoxes$Space" "boxes" "[LHidingBoxes$Box;", Cond.fieldLink RX5 88 "HidingBoxes$Box" "low" "[I", Cond.methodLink RX5 125 yX2_look, Cond.instanceMethod yX2_look, Cond.selects RX2 yX2_look yX2_look, Cond.initialized RX2, Cond.code yX2_look cX2_look 3 none, Cond.fieldLink RX2 24 "HidingBoxes$Space" "count" "I", Cond.fieldLink RX2 30 "HidingBoxes$Picture" "count" "I", Cond.fieldLink RX2 9 "HidingBoxes$Picture" "hides" "[I", Cond.methodLink RX2 31 yX2_bitsHiddenBy, Cond.static yX2_bitsHiddenBy, Cond.code yX2_bitsHiddenBy cX2_bitsHiddenBy 4 (some .int), Cond.fieldLink RX2 42 "HidingBoxes$Space" "boxes" "[LHidingBoxes$Box;", Cond.methodLink RX2 46 yX0_directionOfHiding, Cond.instanceMethod yX0_directionOfHiding, Cond.selects RX0 yX0_directionOfHiding yX0_directionOfHiding, Cond.initialized RX0, Cond.code yX0_directionOfHiding cX0_directionOfHiding 3 (some .int), Cond.fieldLink RX0 9 "HidingBoxes$Box" "low" "[I", Cond.fieldLink RX0 15 "HidingBoxes$Box" "high" "[I", Cond.methodLink RX0 40 yX0_overlapsOutlineOf, Cond.instanceMethod yX0_overlapsOutlineOf]
def wsX5_breakOne_r2 : List Cond := [Cond.selects RX0 yX0_overlapsOutlineOf yX0_overlapsOutlineOf, Cond.code yX0_overlapsOutlineOf cX0_overlapsOutlineOf 2 (some .boolean), Cond.methodLink RX0 36 yX0_meetsInDifference, Cond.instanceMethod yX0_meetsInDifference, Cond.selects RX0 yX0_meetsInDifference yX0_meetsInDifference, Cond.code yX0_meetsInDifference cX0_meetsInDifference 4 (some .boolean), Cond.methodLink RX2 35 yX2_followChains, Cond.instanceMethod yX2_followChains, Cond.selects RX2 yX2_followChains yX2_followChains, Cond.code yX2_followChains cX2_followChains 3 none, Cond.fieldLink RX2 15 "HidingBoxes$Picture" "chains" "[I", Cond.methodLink RX2 52 arraycopyName, Cond.native arraycopyName, Cond.static arraycopyName, Cond.initialized "java/lang/System", Cond.methodLink RX2 58 yX2_hasBit, Cond.static yX2_hasBit, Cond.code yX2_hasBit cX2_hasBit 2 (some .boolean), Cond.methodLink RX2 38 yX2_draw, Cond.instanceMethod yX2_draw, Cond.selects RX2 yX2_draw yX2_draw, Cond.code yX2_draw cX2_draw 4 none, Cond.fieldLink RX2 21 "HidingBoxes$Picture" "layers" "[I", Cond.fieldLink RX2 68 "HidingBoxes$Picture" "drawnBits" "I"]
def wsX5_breakOne_r3 : List Cond := [Cond.fieldLink RX2 71 "HidingBoxes$Picture" "drawnCount" "I", Cond.fieldLink RX2 18 "HidingBoxes$Picture" "order" "[I", Cond.methodLink RX2 62 yJ7_fill_53178, Cond.static yJ7_fill_53178, Cond.initialized RJ7, Cond.code yJ7_fill_53178 cJ7_fill_53178 4 none, Cond.methodLink RX2 74 yX2_nextToDraw, Cond.instanceMethod yX2_nextToDraw, Cond.selects RX2 yX2_nextToDraw yX2_nextToDraw, Cond.code yX2_nextToDraw cX2_nextToDraw 5 (some .int), Cond.methodLink RX2 82 yX3_weightInDrawing, Cond.instanceMethod yX3_weightInDrawing, Cond.selects RX3 yX3_weightInDrawing yX3_weightInDrawing, Cond.initialized RX3, Cond.code yX3_weightInDrawing cX3_weightInDrawing 2 (some .int), Cond.fieldLink RX3 28 "HidingBoxes$Space" "rule" "I", Cond.fieldLink RX3 11 "HidingBoxes$Space" "boxes" "[LHidingBoxes$Box;", Cond.methodLink RX3 57 yX0_sumOfCorner, Cond.instanceMethod yX0_sumOfCorner, Cond.selects RX0 yX0_sumOfCorner yX0_sumOfCorner, Cond.code yX0_sumOfCorner cX0_sumOfCorner 1 (some .int), Cond.methodLink RX3 61 yX0_volume, Cond.instanceMethod yX0_volume, Cond.selects RX0 yX0_volume yX0_volume]
def wsX5_breakOne_r4 : List Cond := [Cond.code yX0_volume cX0_volume 1 (some .int), Cond.methodLink RX0 28 yX0_size, Cond.instanceMethod yX0_size, Cond.selects RX0 yX0_size yX0_size, Cond.code yX0_size cX0_size 2 (some .int), Cond.methodLink RX2 78 yX2_layerAbove, Cond.instanceMethod yX2_layerAbove, Cond.selects RX2 yX2_layerAbove yX2_layerAbove, Cond.code yX2_layerAbove cX2_layerAbove 4 (some .int), Cond.methodLink RX2 85 Lib.Math.max.name, Cond.static Lib.Math.max.name, Cond.initialized "java/lang/Math", Cond.code Lib.Math.max.name Lib.Math.max.code 2 (some .int), Cond.methodLink RX5 227 yX2_greatestInRings, Cond.instanceMethod yX2_greatestInRings, Cond.selects RX2 yX2_greatestInRings yX2_greatestInRings, Cond.code yX2_greatestInRings cX2_greatestInRings 4 (some .int), Cond.methodLink RX2 99 yX2_isInRing, Cond.instanceMethod yX2_isInRing, Cond.selects RX2 yX2_isInRing yX2_isInRing, Cond.code yX2_isInRing cX2_isInRing 2 (some .boolean), Cond.methodLink RX2 109 yX0_volume, Cond.methodLink RX5 230 yX0_longestDirection, Cond.instanceMethod yX0_longestDirection]
def wsX5_breakOne_r5 : List Cond := [Cond.selects RX0 yX0_longestDirection yX0_longestDirection, Cond.code yX0_longestDirection cX0_longestDirection 3 (some .int), Cond.methodLink RX5 233 yX0_size, Cond.methodLink RX5 106 yX3_isFull, Cond.instanceMethod yX3_isFull, Cond.selects RX3 yX3_isFull yX3_isFull, Cond.code yX3_isFull cX3_isFull 1 (some .boolean), Cond.fieldLink RX3 18 "HidingBoxes$Space" "count" "I", Cond.methodLink RX5 110 yX3_cutInTwo, Cond.instanceMethod yX3_cutInTwo, Cond.selects RX3 yX3_cutInTwo yX3_cutInTwo, Cond.code yX3_cutInTwo cX3_cutInTwo 5 (some .int), Cond.fieldLink RX3 50 "HidingBoxes$Box" "low" "[I", Cond.fieldLink RX3 54 "HidingBoxes$Box" "high" "[I", Cond.fieldLink RX3 25 "HidingBoxes$Space" "splits" "I", Cond.methodLink RX3 46 yX3_append, Cond.instanceMethod yX3_append, Cond.selects RX3 yX3_append yX3_append, Cond.code yX3_append cX3_append 3 (some .int), Cond.fieldLink RX3 22 "HidingBoxes$Space" "nextNumber" "I", Cond.fieldLink RX3 35 "HidingBoxes$Box" "number" "I", Cond.methodLink RX3 42 yX3_isFull, Cond.methodLink RX3 31 yX0_copyFrom, Cond.instanceMethod yX0_copyFrom]
def wsX5_breakOne_r6 : List Cond := [Cond.selects RX0 yX0_copyFrom yX0_copyFrom, Cond.code yX0_copyFrom cX0_copyFrom 2 none, Cond.fieldLink RX0 18 "HidingBoxes$Box" "number" "I", Cond.methodLink RX0 22 arraycopyName]
def wsX5_breakOne : List Cond := .code yX5_breakOne cX5_breakOne 6 (some .int) :: ((wsX5_breakOne_r1 ++ (wsX5_breakOne_r2 ++ (wsX5_breakOne_r3 ++ (wsX5_breakOne_r4 ++ (wsX5_breakOne_r5 ++ wsX5_breakOne_r6))))) ++ wsX50 ++ wsX30 ++ wsX00 ++ wsX20)
def wsX5_breakRing_r1 : List Cond := [Cond.fieldLink RX5 16 "HidingBoxes" "trial" "LHidingBoxes$Space;", Cond.fieldLink RX5 10 "HidingBoxes" "now" "LHidingBoxes$Space;", Cond.methodLink RX5 57 yX3_copyFrom, Cond.instanceMethod yX3_copyFrom, Cond.selects RX3 yX3_copyFrom yX3_copyFrom, Cond.initialized RX3, Cond.code yX3_copyFrom cX3_copyFrom 3 none, Cond.fieldLink RX3 18 "HidingBoxes$Space" "count" "I", Cond.fieldLink RX3 22 "HidingBoxes$Space" "nextNumber" "I", Cond.fieldLink RX3 25 "HidingBoxes$Space" "splits" "I", Cond.fieldLink RX3 28 "HidingBoxes$Space" "rule" "I", Cond.fieldLink RX3 11 "HidingBoxes$Space" "boxes" "[LHidingBoxes$Box;", Cond.methodLink RX3 31 yX0_copyFrom, Cond.instanceMethod yX0_copyFrom, Cond.selects RX0 yX0_copyFrom yX0_copyFrom, Cond.initialized RX0, Cond.code yX0_copyFrom cX0_copyFrom 2 none, Cond.fieldLink RX0 18 "HidingBoxes$Box" "number" "I", Cond.fieldLink RX0 9 "HidingBoxes$Box" "low" "[I", Cond.methodLink RX0 22 arraycopyName, Cond.native arraycopyName, Cond.static arraycopyName, Cond.initialized "java/lang/System", Cond.fieldLink RX0 15 "HidingBoxes$Box" "high" "[I"]
def wsX5_breakRing_r2 : List Cond := [Cond.methodLink RX5 114 yX5_breakOne, Cond.instanceMethod yX5_breakOne, Cond.selects RX5 yX5_breakOne yX5_breakOne, Cond.initialized RX5, Cond.code yX5_breakOne cX5_breakOne 6 (some .int), Cond.fieldLink RX5 39 "HidingBoxes" "picture" "LHidingBoxes$Picture;", Cond.fieldLink RX5 72 "HidingBoxes$Space" "boxes" "[LHidingBoxes$Box;", Cond.fieldLink RX5 88 "HidingBoxes$Box" "low" "[I", Cond.methodLink RX5 125 yX2_look, Cond.instanceMethod yX2_look, Cond.selects RX2 yX2_look yX2_look, Cond.initialized RX2, Cond.code yX2_look cX2_look 3 none, Cond.fieldLink RX2 24 "HidingBoxes$Space" "count" "I", Cond.fieldLink RX2 30 "HidingBoxes$Picture" "count" "I", Cond.fieldLink RX2 9 "HidingBoxes$Picture" "hides" "[I", Cond.methodLink RX2 31 yX2_bitsHiddenBy, Cond.static yX2_bitsHiddenBy, Cond.code yX2_bitsHiddenBy cX2_bitsHiddenBy 4 (some .int), Cond.fieldLink RX2 42 "HidingBoxes$Space" "boxes" "[LHidingBoxes$Box;", Cond.methodLink RX2 46 yX0_directionOfHiding, Cond.instanceMethod yX0_directionOfHiding, Cond.selects RX0 yX0_directionOfHiding yX0_directionOfHiding, Cond.code yX0_directionOfHiding cX0_directionOfHiding 3 (some .int)]
def wsX5_breakRing_r3 : List Cond := [Cond.methodLink RX0 40 yX0_overlapsOutlineOf, Cond.instanceMethod yX0_overlapsOutlineOf, Cond.selects RX0 yX0_overlapsOutlineOf yX0_overlapsOutlineOf, Cond.code yX0_overlapsOutlineOf cX0_overlapsOutlineOf 2 (some .boolean), Cond.methodLink RX0 36 yX0_meetsInDifference, Cond.instanceMethod yX0_meetsInDifference, Cond.selects RX0 yX0_meetsInDifference yX0_meetsInDifference, Cond.code yX0_meetsInDifference cX0_meetsInDifference 4 (some .boolean), Cond.methodLink RX2 35 yX2_followChains, Cond.instanceMethod yX2_followChains, Cond.selects RX2 yX2_followChains yX2_followChains, Cond.code yX2_followChains cX2_followChains 3 none, Cond.fieldLink RX2 15 "HidingBoxes$Picture" "chains" "[I", Cond.methodLink RX2 52 arraycopyName, Cond.methodLink RX2 58 yX2_hasBit, Cond.static yX2_hasBit, Cond.code yX2_hasBit cX2_hasBit 2 (some .boolean), Cond.methodLink RX2 38 yX2_draw, Cond.instanceMethod yX2_draw, Cond.selects RX2 yX2_draw yX2_draw, Cond.code yX2_draw cX2_draw 4 none, Cond.fieldLink RX2 21 "HidingBoxes$Picture" "layers" "[I", Cond.fieldLink RX2 68 "HidingBoxes$Picture" "drawnBits" "I", Cond.fieldLink RX2 71 "HidingBoxes$Picture" "drawnCount" "I"]
def wsX5_breakRing_r4 : List Cond := [Cond.fieldLink RX2 18 "HidingBoxes$Picture" "order" "[I", Cond.methodLink RX2 62 yJ7_fill_53178, Cond.static yJ7_fill_53178, Cond.initialized RJ7, Cond.code yJ7_fill_53178 cJ7_fill_53178 4 none, Cond.methodLink RX2 74 yX2_nextToDraw, Cond.instanceMethod yX2_nextToDraw, Cond.selects RX2 yX2_nextToDraw yX2_nextToDraw, Cond.code yX2_nextToDraw cX2_nextToDraw 5 (some .int), Cond.methodLink RX2 82 yX3_weightInDrawing, Cond.instanceMethod yX3_weightInDrawing, Cond.selects RX3 yX3_weightInDrawing yX3_weightInDrawing, Cond.code yX3_weightInDrawing cX3_weightInDrawing 2 (some .int), Cond.methodLink RX3 57 yX0_sumOfCorner, Cond.instanceMethod yX0_sumOfCorner, Cond.selects RX0 yX0_sumOfCorner yX0_sumOfCorner, Cond.code yX0_sumOfCorner cX0_sumOfCorner 1 (some .int), Cond.methodLink RX3 61 yX0_volume, Cond.instanceMethod yX0_volume, Cond.selects RX0 yX0_volume yX0_volume, Cond.code yX0_volume cX0_volume 1 (some .int), Cond.methodLink RX0 28 yX0_size, Cond.instanceMethod yX0_size, Cond.selects RX0 yX0_size yX0_size]
def wsX5_breakRing_r5 : List Cond := [Cond.code yX0_size cX0_size 2 (some .int), Cond.methodLink RX2 78 yX2_layerAbove, Cond.instanceMethod yX2_layerAbove, Cond.selects RX2 yX2_layerAbove yX2_layerAbove, Cond.code yX2_layerAbove cX2_layerAbove 4 (some .int), Cond.methodLink RX2 85 Lib.Math.max.name, Cond.static Lib.Math.max.name, Cond.initialized "java/lang/Math", Cond.code Lib.Math.max.name Lib.Math.max.code 2 (some .int), Cond.methodLink RX5 227 yX2_greatestInRings, Cond.instanceMethod yX2_greatestInRings, Cond.selects RX2 yX2_greatestInRings yX2_greatestInRings, Cond.code yX2_greatestInRings cX2_greatestInRings 4 (some .int), Cond.methodLink RX2 99 yX2_isInRing, Cond.instanceMethod yX2_isInRing, Cond.selects RX2 yX2_isInRing yX2_isInRing, Cond.code yX2_isInRing cX2_isInRing 2 (some .boolean), Cond.methodLink RX2 109 yX0_volume, Cond.methodLink RX5 230 yX0_longestDirection, Cond.instanceMethod yX0_longestDirection, Cond.selects RX0 yX0_longestDirection yX0_longestDirection, Cond.code yX0_longestDirection cX0_longestDirection 3 (some .int), Cond.methodLink RX5 233 yX0_size, Cond.methodLink RX5 106 yX3_isFull]
def wsX5_breakRing_r6 : List Cond := [Cond.instanceMethod yX3_isFull, Cond.selects RX3 yX3_isFull yX3_isFull, Cond.code yX3_isFull cX3_isFull 1 (some .boolean), Cond.methodLink RX5 110 yX3_cutInTwo, Cond.instanceMethod yX3_cutInTwo, Cond.selects RX3 yX3_cutInTwo yX3_cutInTwo, Cond.code yX3_cutInTwo cX3_cutInTwo 5 (some .int), Cond.fieldLink RX3 50 "HidingBoxes$Box" "low" "[I", Cond.fieldLink RX3 54 "HidingBoxes$Box" "high" "[I", Cond.methodLink RX3 46 yX3_append, Cond.instanceMethod yX3_append, Cond.selects RX3 yX3_append yX3_append, Cond.code yX3_append cX3_append 3 (some .int), Cond.fieldLink RX3 35 "HidingBoxes$Box" "number" "I", Cond.methodLink RX3 42 yX3_isFull, Cond.methodLink RX5 65 yX5_adoptTrial, Cond.instanceMethod yX5_adoptTrial, Cond.selects RX5 yX5_adoptTrial yX5_adoptTrial, Cond.code yX5_adoptTrial cX5_adoptTrial 1 none, Cond.fieldLink RX5 25 "HidingBoxes" "history" "LHidingBoxes$History;", Cond.methodLink RX5 218 yX1_remember, Cond.instanceMethod yX1_remember, Cond.selects RX1 yX1_remember yX1_remember, Cond.initialized RX1]
def wsX5_breakRing_r7 : List Cond := [Cond.code yX1_remember cX1_remember 2 none, Cond.fieldLink RX1 18 "HidingBoxes$History" "count" "I", Cond.fieldLink RX1 11 "HidingBoxes$History" "states" "[LHidingBoxes$Space;", Cond.methodLink RX1 22 yX1_dropOldest, Cond.instanceMethod yX1_dropOldest, Cond.selects RX1 yX1_dropOldest yX1_dropOldest, Cond.code yX1_dropOldest cX1_dropOldest 3 none, Cond.methodLink RX1 25 yX3_copyFrom]
def wsX5_breakRing : List Cond := .code yX5_breakRing cX5_breakRing 2 (some .int) :: ((wsX5_breakRing_r1 ++ (wsX5_breakRing_r2 ++ (wsX5_breakRing_r3 ++ (wsX5_breakRing_r4 ++ (wsX5_breakRing_r5 ++ (wsX5_breakRing_r6 ++ wsX5_breakRing_r7)))))) ++ wsX50 ++ wsX30 ++ wsX00 ++ wsX20 ++ wsX10)
def wsX5_turn_r1 : List Cond := [Cond.fieldLink RX5 10 "HidingBoxes" "now" "LHidingBoxes$Space;", Cond.fieldLink RX5 118 "HidingBoxes$Space" "count" "I", Cond.fieldLink RX5 16 "HidingBoxes" "trial" "LHidingBoxes$Space;", Cond.fieldLink RX5 39 "HidingBoxes" "picture" "LHidingBoxes$Picture;", Cond.fieldLink RX5 43 "HidingBoxes" "turnedPicture" "LHidingBoxes$Picture;", Cond.methodLink RX5 57 yX3_copyFrom, Cond.instanceMethod yX3_copyFrom, Cond.selects RX3 yX3_copyFrom yX3_copyFrom, Cond.initialized RX3, Cond.code yX3_copyFrom cX3_copyFrom 3 none, Cond.fieldLink RX3 18 "HidingBoxes$Space" "count" "I", Cond.fieldLink RX3 22 "HidingBoxes$Space" "nextNumber" "I", Cond.fieldLink RX3 25 "HidingBoxes$Space" "splits" "I", Cond.fieldLink RX3 28 "HidingBoxes$Space" "rule" "I", Cond.fieldLink RX3 11 "HidingBoxes$Space" "boxes" "[LHidingBoxes$Box;", Cond.methodLink RX3 31 yX0_copyFrom, Cond.instanceMethod yX0_copyFrom, Cond.selects RX0 yX0_copyFrom yX0_copyFrom, Cond.initialized RX0, Cond.code yX0_copyFrom cX0_copyFrom 2 none, Cond.fieldLink RX0 18 "HidingBoxes$Box" "number" "I", Cond.fieldLink RX0 9 "HidingBoxes$Box" "low" "[I", Cond.methodLink RX0 22 arraycopyName, Cond.native arraycopyName]
def wsX5_turn_r2 : List Cond := [Cond.static arraycopyName, Cond.initialized "java/lang/System", Cond.fieldLink RX0 15 "HidingBoxes$Box" "high" "[I", Cond.methodLink RX5 122 yX3_quarterTurn, Cond.instanceMethod yX3_quarterTurn, Cond.selects RX3 yX3_quarterTurn yX3_quarterTurn, Cond.code yX3_quarterTurn cX3_quarterTurn 5 none, Cond.fieldLink RX3 50 "HidingBoxes$Box" "low" "[I", Cond.fieldLink RX3 54 "HidingBoxes$Box" "high" "[I", Cond.methodLink RX5 125 yX2_look, Cond.instanceMethod yX2_look, Cond.selects RX2 yX2_look yX2_look, Cond.initialized RX2, Cond.code yX2_look cX2_look 3 none, Cond.fieldLink RX2 24 "HidingBoxes$Space" "count" "I", Cond.fieldLink RX2 30 "HidingBoxes$Picture" "count" "I", Cond.fieldLink RX2 9 "HidingBoxes$Picture" "hides" "[I", Cond.methodLink RX2 31 yX2_bitsHiddenBy, Cond.static yX2_bitsHiddenBy, Cond.code yX2_bitsHiddenBy cX2_bitsHiddenBy 4 (some .int), Cond.fieldLink RX2 42 "HidingBoxes$Space" "boxes" "[LHidingBoxes$Box;", Cond.methodLink RX2 46 yX0_directionOfHiding, Cond.instanceMethod yX0_directionOfHiding, Cond.selects RX0 yX0_directionOfHiding yX0_directionOfHiding]
def wsX5_turn_r3 : List Cond := [Cond.code yX0_directionOfHiding cX0_directionOfHiding 3 (some .int), Cond.methodLink RX0 40 yX0_overlapsOutlineOf, Cond.instanceMethod yX0_overlapsOutlineOf, Cond.selects RX0 yX0_overlapsOutlineOf yX0_overlapsOutlineOf, Cond.code yX0_overlapsOutlineOf cX0_overlapsOutlineOf 2 (some .boolean), Cond.methodLink RX0 36 yX0_meetsInDifference, Cond.instanceMethod yX0_meetsInDifference, Cond.selects RX0 yX0_meetsInDifference yX0_meetsInDifference, Cond.code yX0_meetsInDifference cX0_meetsInDifference 4 (some .boolean), Cond.methodLink RX2 35 yX2_followChains, Cond.instanceMethod yX2_followChains, Cond.selects RX2 yX2_followChains yX2_followChains, Cond.code yX2_followChains cX2_followChains 3 none, Cond.fieldLink RX2 15 "HidingBoxes$Picture" "chains" "[I", Cond.methodLink RX2 52 arraycopyName, Cond.methodLink RX2 58 yX2_hasBit, Cond.static yX2_hasBit, Cond.code yX2_hasBit cX2_hasBit 2 (some .boolean), Cond.methodLink RX2 38 yX2_draw, Cond.instanceMethod yX2_draw, Cond.selects RX2 yX2_draw yX2_draw, Cond.code yX2_draw cX2_draw 4 none, Cond.fieldLink RX2 21 "HidingBoxes$Picture" "layers" "[I", Cond.fieldLink RX2 68 "HidingBoxes$Picture" "drawnBits" "I"]
def wsX5_turn_r4 : List Cond := [Cond.fieldLink RX2 71 "HidingBoxes$Picture" "drawnCount" "I", Cond.fieldLink RX2 18 "HidingBoxes$Picture" "order" "[I", Cond.methodLink RX2 62 yJ7_fill_53178, Cond.static yJ7_fill_53178, Cond.initialized RJ7, Cond.code yJ7_fill_53178 cJ7_fill_53178 4 none, Cond.methodLink RX2 74 yX2_nextToDraw, Cond.instanceMethod yX2_nextToDraw, Cond.selects RX2 yX2_nextToDraw yX2_nextToDraw, Cond.code yX2_nextToDraw cX2_nextToDraw 5 (some .int), Cond.methodLink RX2 82 yX3_weightInDrawing, Cond.instanceMethod yX3_weightInDrawing, Cond.selects RX3 yX3_weightInDrawing yX3_weightInDrawing, Cond.code yX3_weightInDrawing cX3_weightInDrawing 2 (some .int), Cond.methodLink RX3 57 yX0_sumOfCorner, Cond.instanceMethod yX0_sumOfCorner, Cond.selects RX0 yX0_sumOfCorner yX0_sumOfCorner, Cond.code yX0_sumOfCorner cX0_sumOfCorner 1 (some .int), Cond.methodLink RX3 61 yX0_volume, Cond.instanceMethod yX0_volume, Cond.selects RX0 yX0_volume yX0_volume, Cond.code yX0_volume cX0_volume 1 (some .int), Cond.methodLink RX0 28 yX0_size, Cond.instanceMethod yX0_size]
def wsX5_turn_r5 : List Cond := [Cond.selects RX0 yX0_size yX0_size, Cond.code yX0_size cX0_size 2 (some .int), Cond.methodLink RX2 78 yX2_layerAbove, Cond.instanceMethod yX2_layerAbove, Cond.selects RX2 yX2_layerAbove yX2_layerAbove, Cond.code yX2_layerAbove cX2_layerAbove 4 (some .int), Cond.methodLink RX2 85 Lib.Math.max.name, Cond.static Lib.Math.max.name, Cond.initialized "java/lang/Math", Cond.code Lib.Math.max.name Lib.Math.max.code 2 (some .int), Cond.methodLink RX5 128 yX2_hidingsNotIn, Cond.instanceMethod yX2_hidingsNotIn, Cond.selects RX2 yX2_hidingsNotIn yX2_hidingsNotIn, Cond.code yX2_hidingsNotIn cX2_hidingsNotIn 4 (some .int), Cond.methodLink RX2 91 yJ6_bitCount_0f7a4, Cond.static yJ6_bitCount_0f7a4, Cond.initialized RJ6, Cond.code yJ6_bitCount_0f7a4 cJ6_bitCount_0f7a4 1 (some .int), Cond.constant RJ6 265 (1431655765), Cond.constant RJ6 266 (858993459), Cond.constant RJ6 267 (252645135), Cond.methodLink RX5 65 yX5_adoptTrial, Cond.instanceMethod yX5_adoptTrial, Cond.selects RX5 yX5_adoptTrial yX5_adoptTrial]
def wsX5_turn_r6 : List Cond := [Cond.initialized RX5, Cond.code yX5_adoptTrial cX5_adoptTrial 1 none, Cond.fieldLink RX5 25 "HidingBoxes" "history" "LHidingBoxes$History;", Cond.methodLink RX5 218 yX1_remember, Cond.instanceMethod yX1_remember, Cond.selects RX1 yX1_remember yX1_remember, Cond.initialized RX1, Cond.code yX1_remember cX1_remember 2 none, Cond.fieldLink RX1 18 "HidingBoxes$History" "count" "I", Cond.fieldLink RX1 11 "HidingBoxes$History" "states" "[LHidingBoxes$Space;", Cond.methodLink RX1 22 yX1_dropOldest, Cond.instanceMethod yX1_dropOldest, Cond.selects RX1 yX1_dropOldest yX1_dropOldest, Cond.code yX1_dropOldest cX1_dropOldest 3 none, Cond.methodLink RX1 25 yX3_copyFrom]
def wsX5_turn : List Cond := .code yX5_turn cX5_turn 2 (some .int) :: ((wsX5_turn_r1 ++ (wsX5_turn_r2 ++ (wsX5_turn_r3 ++ (wsX5_turn_r4 ++ (wsX5_turn_r5 ++ wsX5_turn_r6))))) ++ wsX50 ++ wsX30 ++ wsX00 ++ wsX20 ++ wsX10)
def wsX5_set_r1 : List Cond := [Cond.fieldLink RX5 10 "HidingBoxes" "now" "LHidingBoxes$Space;", Cond.fieldLink RX5 132 "HidingBoxes$Space" "rule" "I", Cond.fieldLink RX5 16 "HidingBoxes" "trial" "LHidingBoxes$Space;", Cond.methodLink RX5 57 yX3_copyFrom, Cond.instanceMethod yX3_copyFrom, Cond.selects RX3 yX3_copyFrom yX3_copyFrom, Cond.initialized RX3, Cond.code yX3_copyFrom cX3_copyFrom 3 none, Cond.fieldLink RX3 18 "HidingBoxes$Space" "count" "I", Cond.fieldLink RX3 22 "HidingBoxes$Space" "nextNumber" "I", Cond.fieldLink RX3 25 "HidingBoxes$Space" "splits" "I", Cond.fieldLink RX3 28 "HidingBoxes$Space" "rule" "I", Cond.fieldLink RX3 11 "HidingBoxes$Space" "boxes" "[LHidingBoxes$Box;", Cond.methodLink RX3 31 yX0_copyFrom, Cond.instanceMethod yX0_copyFrom, Cond.selects RX0 yX0_copyFrom yX0_copyFrom, Cond.initialized RX0, Cond.code yX0_copyFrom cX0_copyFrom 2 none, Cond.fieldLink RX0 18 "HidingBoxes$Box" "number" "I", Cond.fieldLink RX0 9 "HidingBoxes$Box" "low" "[I", Cond.methodLink RX0 22 arraycopyName, Cond.native arraycopyName, Cond.static arraycopyName, Cond.initialized "java/lang/System"]
def wsX5_set_r2 : List Cond := [Cond.fieldLink RX0 15 "HidingBoxes$Box" "high" "[I", Cond.methodLink RX5 65 yX5_adoptTrial, Cond.instanceMethod yX5_adoptTrial, Cond.selects RX5 yX5_adoptTrial yX5_adoptTrial, Cond.initialized RX5, Cond.code yX5_adoptTrial cX5_adoptTrial 1 none, Cond.fieldLink RX5 25 "HidingBoxes" "history" "LHidingBoxes$History;", Cond.methodLink RX5 218 yX1_remember, Cond.instanceMethod yX1_remember, Cond.selects RX1 yX1_remember yX1_remember, Cond.initialized RX1, Cond.code yX1_remember cX1_remember 2 none, Cond.fieldLink RX1 18 "HidingBoxes$History" "count" "I", Cond.fieldLink RX1 11 "HidingBoxes$History" "states" "[LHidingBoxes$Space;", Cond.methodLink RX1 22 yX1_dropOldest, Cond.instanceMethod yX1_dropOldest, Cond.selects RX1 yX1_dropOldest yX1_dropOldest, Cond.code yX1_dropOldest cX1_dropOldest 3 none, Cond.methodLink RX1 25 yX3_copyFrom]
def wsX5_set : List Cond := .code yX5_set cX5_set 4 (some .int) :: ((wsX5_set_r1 ++ wsX5_set_r2) ++ wsX50 ++ wsX30 ++ wsX00 ++ wsX10)
def wsX5_type : List Cond := .code yX5_type cX5_type 2 (some .int) :: ([.fieldLink RX5 32 "HidingBoxes" "text" "LHidingBoxes$Text;", .fieldLink RX5 139 "HidingBoxes$Text" "length" "I", .methodLink RX5 135 yX4_append, .instanceMethod yX4_append, .selects RX4 yX4_append yX4_append, .initialized RX4, .code yX4_append cX4_append 2 (some .boolean), .fieldLink RX4 19 "HidingBoxes$Text" "length" "I", .fieldLink RX4 9 "HidingBoxes$Text" "signs" "[C"] ++ wsX50 ++ wsX40)
def wsX5_clearText : List Cond := .code yX5_clearText cX5_clearText 2 (some .int) :: ([.fieldLink RX5 32 "HidingBoxes" "text" "LHidingBoxes$Text;", .fieldLink RX5 139 "HidingBoxes$Text" "length" "I"] ++ wsX50 ++ wsX40)
def wsX5_addAll_r1 : List Cond := [Cond.fieldLink RX5 32 "HidingBoxes" "text" "LHidingBoxes$Text;", Cond.fieldLink RX5 16 "HidingBoxes" "trial" "LHidingBoxes$Space;", Cond.fieldLink RX5 10 "HidingBoxes" "now" "LHidingBoxes$Space;", Cond.methodLink RX5 142 yX4_read, Cond.instanceMethod yX4_read, Cond.selects RX4 yX4_read yX4_read, Cond.initialized RX4, Cond.code yX4_read cX4_read 5 (some .int), Cond.fieldLink RX4 23 "HidingBoxes$Text" "valueCount" "I", Cond.fieldLink RX4 19 "HidingBoxes$Text" "length" "I", Cond.fieldLink RX4 9 "HidingBoxes$Text" "signs" "[C", Cond.methodLink RX4 26 yX4_withDigit, Cond.static yX4_withDigit, Cond.code yX4_withDigit cX4_withDigit 6 (some .int), Cond.methodLink RX4 30 yX4_signBehind, Cond.static yX4_signBehind, Cond.code yX4_signBehind cX4_signBehind 1 (some .char), Cond.methodLink RX4 34 yX4_store, Cond.instanceMethod yX4_store, Cond.selects RX4 yX4_store yX4_store, Cond.code yX4_store cX4_store 2 none, Cond.fieldLink RX4 15 "HidingBoxes$Text" "values" "[I", Cond.methodLink RX5 57 yX3_copyFrom, Cond.instanceMethod yX3_copyFrom]
def wsX5_addAll_r2 : List Cond := [Cond.selects RX3 yX3_copyFrom yX3_copyFrom, Cond.initialized RX3, Cond.code yX3_copyFrom cX3_copyFrom 3 none, Cond.fieldLink RX3 18 "HidingBoxes$Space" "count" "I", Cond.fieldLink RX3 22 "HidingBoxes$Space" "nextNumber" "I", Cond.fieldLink RX3 25 "HidingBoxes$Space" "splits" "I", Cond.fieldLink RX3 28 "HidingBoxes$Space" "rule" "I", Cond.fieldLink RX3 11 "HidingBoxes$Space" "boxes" "[LHidingBoxes$Box;", Cond.methodLink RX3 31 yX0_copyFrom, Cond.instanceMethod yX0_copyFrom, Cond.selects RX0 yX0_copyFrom yX0_copyFrom, Cond.initialized RX0, Cond.code yX0_copyFrom cX0_copyFrom 2 none, Cond.fieldLink RX0 18 "HidingBoxes$Box" "number" "I", Cond.fieldLink RX0 9 "HidingBoxes$Box" "low" "[I", Cond.methodLink RX0 22 arraycopyName, Cond.native arraycopyName, Cond.static arraycopyName, Cond.initialized "java/lang/System", Cond.fieldLink RX0 15 "HidingBoxes$Box" "high" "[I", Cond.methodLink RX5 145 yX4_boxCount, Cond.instanceMethod yX4_boxCount, Cond.selects RX4 yX4_boxCount yX4_boxCount, Cond.code yX4_boxCount cX4_boxCount 1 (some .int)]
def wsX5_addAll_r3 : List Cond := [Cond.methodLink RX5 148 yX4_valueOf, Cond.instanceMethod yX4_valueOf, Cond.selects RX4 yX4_valueOf yX4_valueOf, Cond.code yX4_valueOf cX4_valueOf 4 (some .int), Cond.methodLink RX5 61 yX5_enter, Cond.instanceMethod yX5_enter, Cond.selects RX5 yX5_enter yX5_enter, Cond.initialized RX5, Cond.code yX5_enter cX5_enter 9 (some .int), Cond.fieldLink RX5 49 "HidingBoxes" "newcomer" "LHidingBoxes$Box;", Cond.methodLink RX5 221 yX0_lay, Cond.instanceMethod yX0_lay, Cond.selects RX0 yX0_lay yX0_lay, Cond.code yX0_lay cX0_lay 4 (some .boolean), Cond.methodLink RX5 99 yX3_isCutBy, Cond.instanceMethod yX3_isCutBy, Cond.selects RX3 yX3_isCutBy yX3_isCutBy, Cond.code yX3_isCutBy cX3_isCutBy 4 (some .boolean), Cond.methodLink RX3 38 yX0_cuts, Cond.instanceMethod yX0_cuts, Cond.selects RX0 yX0_cuts yX0_cuts, Cond.code yX0_cuts cX0_cuts 2 (some .boolean), Cond.methodLink RX0 32 yX0_meets, Cond.instanceMethod yX0_meets]
def wsX5_addAll_r4 : List Cond := [Cond.selects RX0 yX0_meets yX0_meets, Cond.code yX0_meets cX0_meets 3 (some .boolean), Cond.methodLink RX5 106 yX3_isFull, Cond.instanceMethod yX3_isFull, Cond.selects RX3 yX3_isFull yX3_isFull, Cond.code yX3_isFull cX3_isFull 1 (some .boolean), Cond.methodLink RX5 225 yX3_append, Cond.instanceMethod yX3_append, Cond.selects RX3 yX3_append yX3_append, Cond.code yX3_append cX3_append 3 (some .int), Cond.fieldLink RX3 35 "HidingBoxes$Box" "number" "I", Cond.methodLink RX3 42 yX3_isFull, Cond.methodLink RX5 65 yX5_adoptTrial, Cond.instanceMethod yX5_adoptTrial, Cond.selects RX5 yX5_adoptTrial yX5_adoptTrial, Cond.code yX5_adoptTrial cX5_adoptTrial 1 none, Cond.fieldLink RX5 25 "HidingBoxes" "history" "LHidingBoxes$History;", Cond.methodLink RX5 218 yX1_remember, Cond.instanceMethod yX1_remember, Cond.selects RX1 yX1_remember yX1_remember, Cond.initialized RX1, Cond.code yX1_remember cX1_remember 2 none, Cond.fieldLink RX1 18 "HidingBoxes$History" "count" "I", Cond.fieldLink RX1 11 "HidingBoxes$History" "states" "[LHidingBoxes$Space;"]
def wsX5_addAll_r5 : List Cond := [Cond.methodLink RX1 22 yX1_dropOldest, Cond.instanceMethod yX1_dropOldest, Cond.selects RX1 yX1_dropOldest yX1_dropOldest, Cond.code yX1_dropOldest cX1_dropOldest 3 none, Cond.methodLink RX1 25 yX3_copyFrom]
def wsX5_addAll : List Cond := .code yX5_addAll cX5_addAll 5 (some .int) :: ((wsX5_addAll_r1 ++ (wsX5_addAll_r2 ++ (wsX5_addAll_r3 ++ (wsX5_addAll_r4 ++ wsX5_addAll_r5)))) ++ wsX50 ++ wsX40 ++ wsX30 ++ wsX00 ++ wsX10)
def wsX5_undo_r1 : List Cond := [Cond.fieldLink RX5 25 "HidingBoxes" "history" "LHidingBoxes$History;", Cond.fieldLink RX5 152 "HidingBoxes$History" "count" "I", Cond.fieldLink RX5 10 "HidingBoxes" "now" "LHidingBoxes$Space;", Cond.methodLink RX5 153 yX1_recall, Cond.instanceMethod yX1_recall, Cond.selects RX1 yX1_recall yX1_recall, Cond.initialized RX1, Cond.code yX1_recall cX1_recall 2 none, Cond.fieldLink RX1 18 "HidingBoxes$History" "count" "I", Cond.fieldLink RX1 11 "HidingBoxes$History" "states" "[LHidingBoxes$Space;", Cond.methodLink RX1 25 yX3_copyFrom, Cond.instanceMethod yX3_copyFrom, Cond.selects RX3 yX3_copyFrom yX3_copyFrom, Cond.initialized RX3, Cond.code yX3_copyFrom cX3_copyFrom 3 none, Cond.fieldLink RX3 18 "HidingBoxes$Space" "count" "I", Cond.fieldLink RX3 22 "HidingBoxes$Space" "nextNumber" "I", Cond.fieldLink RX3 25 "HidingBoxes$Space" "splits" "I", Cond.fieldLink RX3 28 "HidingBoxes$Space" "rule" "I", Cond.fieldLink RX3 11 "HidingBoxes$Space" "boxes" "[LHidingBoxes$Box;", Cond.methodLink RX3 31 yX0_copyFrom, Cond.instanceMethod yX0_copyFrom, Cond.selects RX0 yX0_copyFrom yX0_copyFrom, Cond.initialized RX0]
def wsX5_undo_r2 : List Cond := [Cond.code yX0_copyFrom cX0_copyFrom 2 none, Cond.fieldLink RX0 18 "HidingBoxes$Box" "number" "I", Cond.fieldLink RX0 9 "HidingBoxes$Box" "low" "[I", Cond.methodLink RX0 22 arraycopyName, Cond.native arraycopyName, Cond.static arraycopyName, Cond.initialized "java/lang/System", Cond.fieldLink RX0 15 "HidingBoxes$Box" "high" "[I"]
def wsX5_undo : List Cond := .code yX5_undo cX5_undo 1 (some .int) :: ((wsX5_undo_r1 ++ wsX5_undo_r2) ++ wsX50 ++ wsX10 ++ wsX30 ++ wsX00)
def wsX5_keep_r1 : List Cond := [Cond.fieldLink RX5 19 "HidingBoxes" "snapshot" "LHidingBoxes$Space;", Cond.fieldLink RX5 10 "HidingBoxes" "now" "LHidingBoxes$Space;", Cond.fieldLink RX5 53 "HidingBoxes" "hasSnapshot" "Z", Cond.fieldLink RX5 118 "HidingBoxes$Space" "count" "I", Cond.methodLink RX5 57 yX3_copyFrom, Cond.instanceMethod yX3_copyFrom, Cond.selects RX3 yX3_copyFrom yX3_copyFrom, Cond.initialized RX3, Cond.code yX3_copyFrom cX3_copyFrom 3 none, Cond.fieldLink RX3 18 "HidingBoxes$Space" "count" "I", Cond.fieldLink RX3 22 "HidingBoxes$Space" "nextNumber" "I", Cond.fieldLink RX3 25 "HidingBoxes$Space" "splits" "I", Cond.fieldLink RX3 28 "HidingBoxes$Space" "rule" "I", Cond.fieldLink RX3 11 "HidingBoxes$Space" "boxes" "[LHidingBoxes$Box;", Cond.methodLink RX3 31 yX0_copyFrom, Cond.instanceMethod yX0_copyFrom, Cond.selects RX0 yX0_copyFrom yX0_copyFrom, Cond.initialized RX0, Cond.code yX0_copyFrom cX0_copyFrom 2 none, Cond.fieldLink RX0 18 "HidingBoxes$Box" "number" "I", Cond.fieldLink RX0 9 "HidingBoxes$Box" "low" "[I", Cond.methodLink RX0 22 arraycopyName, Cond.native arraycopyName, Cond.static arraycopyName]
def wsX5_keep_r2 : List Cond := [Cond.initialized "java/lang/System", Cond.fieldLink RX0 15 "HidingBoxes$Box" "high" "[I"]
def wsX5_keep : List Cond := .code yX5_keep cX5_keep 1 (some .int) :: ((wsX5_keep_r1 ++ wsX5_keep_r2) ++ wsX50 ++ wsX30 ++ wsX00)
def wsX5_restore_r1 : List Cond := [Cond.fieldLink RX5 53 "HidingBoxes" "hasSnapshot" "Z", Cond.fieldLink RX5 16 "HidingBoxes" "trial" "LHidingBoxes$Space;", Cond.fieldLink RX5 19 "HidingBoxes" "snapshot" "LHidingBoxes$Space;", Cond.fieldLink RX5 10 "HidingBoxes" "now" "LHidingBoxes$Space;", Cond.fieldLink RX5 118 "HidingBoxes$Space" "count" "I", Cond.methodLink RX5 57 yX3_copyFrom, Cond.instanceMethod yX3_copyFrom, Cond.selects RX3 yX3_copyFrom yX3_copyFrom, Cond.initialized RX3, Cond.code yX3_copyFrom cX3_copyFrom 3 none, Cond.fieldLink RX3 18 "HidingBoxes$Space" "count" "I", Cond.fieldLink RX3 22 "HidingBoxes$Space" "nextNumber" "I", Cond.fieldLink RX3 25 "HidingBoxes$Space" "splits" "I", Cond.fieldLink RX3 28 "HidingBoxes$Space" "rule" "I", Cond.fieldLink RX3 11 "HidingBoxes$Space" "boxes" "[LHidingBoxes$Box;", Cond.methodLink RX3 31 yX0_copyFrom, Cond.instanceMethod yX0_copyFrom, Cond.selects RX0 yX0_copyFrom yX0_copyFrom, Cond.initialized RX0, Cond.code yX0_copyFrom cX0_copyFrom 2 none, Cond.fieldLink RX0 18 "HidingBoxes$Box" "number" "I", Cond.fieldLink RX0 9 "HidingBoxes$Box" "low" "[I", Cond.methodLink RX0 22 arraycopyName, Cond.native arraycopyName]
def wsX5_restore_r2 : List Cond := [Cond.static arraycopyName, Cond.initialized "java/lang/System", Cond.fieldLink RX0 15 "HidingBoxes$Box" "high" "[I", Cond.methodLink RX5 65 yX5_adoptTrial, Cond.instanceMethod yX5_adoptTrial, Cond.selects RX5 yX5_adoptTrial yX5_adoptTrial, Cond.initialized RX5, Cond.code yX5_adoptTrial cX5_adoptTrial 1 none, Cond.fieldLink RX5 25 "HidingBoxes" "history" "LHidingBoxes$History;", Cond.methodLink RX5 218 yX1_remember, Cond.instanceMethod yX1_remember, Cond.selects RX1 yX1_remember yX1_remember, Cond.initialized RX1, Cond.code yX1_remember cX1_remember 2 none, Cond.fieldLink RX1 18 "HidingBoxes$History" "count" "I", Cond.fieldLink RX1 11 "HidingBoxes$History" "states" "[LHidingBoxes$Space;", Cond.methodLink RX1 22 yX1_dropOldest, Cond.instanceMethod yX1_dropOldest, Cond.selects RX1 yX1_dropOldest yX1_dropOldest, Cond.code yX1_dropOldest cX1_dropOldest 3 none, Cond.methodLink RX1 25 yX3_copyFrom]
def wsX5_restore : List Cond := .code yX5_restore cX5_restore 1 (some .int) :: ((wsX5_restore_r1 ++ wsX5_restore_r2) ++ wsX50 ++ wsX30 ++ wsX00 ++ wsX10)
def wsX5_box : List Cond := .code yX5_box cX5_box 2 (some .int) :: ([.fieldLink RX5 10 "HidingBoxes" "now" "LHidingBoxes$Space;", .fieldLink RX5 118 "HidingBoxes$Space" "count" "I", .fieldLink RX5 72 "HidingBoxes$Space" "boxes" "[LHidingBoxes$Box;", .fieldLink RX5 156 "HidingBoxes$Box" "number" "I"] ++ wsX50 ++ wsX30 ++ wsX00)
def wsX5_end : List Cond := .code yX5_end cX5_end 6 (some .int) :: ([.fieldLink RX5 10 "HidingBoxes" "now" "LHidingBoxes$Space;", .fieldLink RX5 72 "HidingBoxes$Space" "boxes" "[LHidingBoxes$Box;", .fieldLink RX5 92 "HidingBoxes$Box" "high" "[I", .fieldLink RX5 88 "HidingBoxes$Box" "low" "[I", .methodLink RX5 68 yX3_slotOf, .instanceMethod yX3_slotOf, .selects RX3 yX3_slotOf yX3_slotOf, .initialized RX3, .code yX3_slotOf cX3_slotOf 3 (some .int), .fieldLink RX3 18 "HidingBoxes$Space" "count" "I", .fieldLink RX3 11 "HidingBoxes$Space" "boxes" "[LHidingBoxes$Box;", .fieldLink RX3 35 "HidingBoxes$Box" "number" "I", .methodLink RX5 84 yX5_isDirection, .static yX5_isDirection, .initialized RX5, .code yX5_isDirection cX5_isDirection 1 (some .boolean)] ++ wsX50 ++ wsX30 ++ wsX00)
def wsX5_look_r1 : List Cond := [Cond.fieldLink RX5 39 "HidingBoxes" "picture" "LHidingBoxes$Picture;", Cond.fieldLink RX5 10 "HidingBoxes" "now" "LHidingBoxes$Space;", Cond.methodLink RX5 125 yX2_look, Cond.instanceMethod yX2_look, Cond.selects RX2 yX2_look yX2_look, Cond.initialized RX2, Cond.code yX2_look cX2_look 3 none, Cond.fieldLink RX2 24 "HidingBoxes$Space" "count" "I", Cond.fieldLink RX2 30 "HidingBoxes$Picture" "count" "I", Cond.fieldLink RX2 9 "HidingBoxes$Picture" "hides" "[I", Cond.methodLink RX2 31 yX2_bitsHiddenBy, Cond.static yX2_bitsHiddenBy, Cond.code yX2_bitsHiddenBy cX2_bitsHiddenBy 4 (some .int), Cond.fieldLink RX2 42 "HidingBoxes$Space" "boxes" "[LHidingBoxes$Box;", Cond.methodLink RX2 46 yX0_directionOfHiding, Cond.instanceMethod yX0_directionOfHiding, Cond.selects RX0 yX0_directionOfHiding yX0_directionOfHiding, Cond.initialized RX0, Cond.code yX0_directionOfHiding cX0_directionOfHiding 3 (some .int), Cond.fieldLink RX0 9 "HidingBoxes$Box" "low" "[I", Cond.fieldLink RX0 15 "HidingBoxes$Box" "high" "[I", Cond.methodLink RX0 40 yX0_overlapsOutlineOf, Cond.instanceMethod yX0_overlapsOutlineOf, Cond.selects RX0 yX0_overlapsOutlineOf yX0_overlapsOutlineOf]
def wsX5_look_r2 : List Cond := [Cond.code yX0_overlapsOutlineOf cX0_overlapsOutlineOf 2 (some .boolean), Cond.methodLink RX0 36 yX0_meetsInDifference, Cond.instanceMethod yX0_meetsInDifference, Cond.selects RX0 yX0_meetsInDifference yX0_meetsInDifference, Cond.code yX0_meetsInDifference cX0_meetsInDifference 4 (some .boolean), Cond.methodLink RX2 35 yX2_followChains, Cond.instanceMethod yX2_followChains, Cond.selects RX2 yX2_followChains yX2_followChains, Cond.code yX2_followChains cX2_followChains 3 none, Cond.fieldLink RX2 15 "HidingBoxes$Picture" "chains" "[I", Cond.methodLink RX2 52 arraycopyName, Cond.native arraycopyName, Cond.static arraycopyName, Cond.initialized "java/lang/System", Cond.methodLink RX2 58 yX2_hasBit, Cond.static yX2_hasBit, Cond.code yX2_hasBit cX2_hasBit 2 (some .boolean), Cond.methodLink RX2 38 yX2_draw, Cond.instanceMethod yX2_draw, Cond.selects RX2 yX2_draw yX2_draw, Cond.code yX2_draw cX2_draw 4 none, Cond.fieldLink RX2 21 "HidingBoxes$Picture" "layers" "[I", Cond.fieldLink RX2 68 "HidingBoxes$Picture" "drawnBits" "I", Cond.fieldLink RX2 71 "HidingBoxes$Picture" "drawnCount" "I"]
def wsX5_look_r3 : List Cond := [Cond.fieldLink RX2 18 "HidingBoxes$Picture" "order" "[I", Cond.methodLink RX2 62 yJ7_fill_53178, Cond.static yJ7_fill_53178, Cond.initialized RJ7, Cond.code yJ7_fill_53178 cJ7_fill_53178 4 none, Cond.methodLink RX2 74 yX2_nextToDraw, Cond.instanceMethod yX2_nextToDraw, Cond.selects RX2 yX2_nextToDraw yX2_nextToDraw, Cond.code yX2_nextToDraw cX2_nextToDraw 5 (some .int), Cond.methodLink RX2 82 yX3_weightInDrawing, Cond.instanceMethod yX3_weightInDrawing, Cond.selects RX3 yX3_weightInDrawing yX3_weightInDrawing, Cond.initialized RX3, Cond.code yX3_weightInDrawing cX3_weightInDrawing 2 (some .int), Cond.fieldLink RX3 28 "HidingBoxes$Space" "rule" "I", Cond.fieldLink RX3 11 "HidingBoxes$Space" "boxes" "[LHidingBoxes$Box;", Cond.methodLink RX3 57 yX0_sumOfCorner, Cond.instanceMethod yX0_sumOfCorner, Cond.selects RX0 yX0_sumOfCorner yX0_sumOfCorner, Cond.code yX0_sumOfCorner cX0_sumOfCorner 1 (some .int), Cond.methodLink RX3 61 yX0_volume, Cond.instanceMethod yX0_volume, Cond.selects RX0 yX0_volume yX0_volume, Cond.code yX0_volume cX0_volume 1 (some .int)]
def wsX5_look_r4 : List Cond := [Cond.methodLink RX0 28 yX0_size, Cond.instanceMethod yX0_size, Cond.selects RX0 yX0_size yX0_size, Cond.code yX0_size cX0_size 2 (some .int), Cond.methodLink RX2 78 yX2_layerAbove, Cond.instanceMethod yX2_layerAbove, Cond.selects RX2 yX2_layerAbove yX2_layerAbove, Cond.code yX2_layerAbove cX2_layerAbove 4 (some .int), Cond.methodLink RX2 85 Lib.Math.max.name, Cond.static Lib.Math.max.name, Cond.initialized "java/lang/Math", Cond.code Lib.Math.max.name Lib.Math.max.code 2 (some .int)]
def wsX5_look : List Cond := .code yX5_look cX5_look 1 (some (.object "HidingBoxes$Picture")) :: ((wsX5_look_r1 ++ (wsX5_look_r2 ++ (wsX5_look_r3 ++ wsX5_look_r4))) ++ wsX50 ++ wsX30 ++ wsX20 ++ wsX00)
def wsX5_ofBox_r1 : List Cond := [Cond.fieldLink RX5 10 "HidingBoxes" "now" "LHidingBoxes$Space;", Cond.fieldLink RX5 72 "HidingBoxes$Space" "boxes" "[LHidingBoxes$Box;", Cond.fieldLink RX5 168 "HidingBoxes$Picture" "layers" "[I", Cond.fieldLink RX5 88 "HidingBoxes$Box" "low" "[I", Cond.methodLink RX5 68 yX3_slotOf, Cond.instanceMethod yX3_slotOf, Cond.selects RX3 yX3_slotOf yX3_slotOf, Cond.initialized RX3, Cond.code yX3_slotOf cX3_slotOf 3 (some .int), Cond.fieldLink RX3 18 "HidingBoxes$Space" "count" "I", Cond.fieldLink RX3 11 "HidingBoxes$Space" "boxes" "[LHidingBoxes$Box;", Cond.fieldLink RX3 35 "HidingBoxes$Box" "number" "I", Cond.methodLink RX5 76 yX0_volume, Cond.instanceMethod yX0_volume, Cond.selects RX0 yX0_volume yX0_volume, Cond.initialized RX0, Cond.code yX0_volume cX0_volume 1 (some .int), Cond.methodLink RX0 28 yX0_size, Cond.instanceMethod yX0_size, Cond.selects RX0 yX0_size yX0_size, Cond.code yX0_size cX0_size 2 (some .int), Cond.fieldLink RX0 15 "HidingBoxes$Box" "high" "[I", Cond.fieldLink RX0 9 "HidingBoxes$Box" "low" "[I", Cond.methodLink RX5 159 yX5_look]
def wsX5_ofBox_r2 : List Cond := [Cond.instanceMethod yX5_look, Cond.selects RX5 yX5_look yX5_look, Cond.initialized RX5, Cond.code yX5_look cX5_look 1 (some (.object "HidingBoxes$Picture")), Cond.fieldLink RX5 39 "HidingBoxes" "picture" "LHidingBoxes$Picture;", Cond.methodLink RX5 125 yX2_look, Cond.instanceMethod yX2_look, Cond.selects RX2 yX2_look yX2_look, Cond.initialized RX2, Cond.code yX2_look cX2_look 3 none, Cond.fieldLink RX2 24 "HidingBoxes$Space" "count" "I", Cond.fieldLink RX2 30 "HidingBoxes$Picture" "count" "I", Cond.fieldLink RX2 9 "HidingBoxes$Picture" "hides" "[I", Cond.methodLink RX2 31 yX2_bitsHiddenBy, Cond.static yX2_bitsHiddenBy, Cond.code yX2_bitsHiddenBy cX2_bitsHiddenBy 4 (some .int), Cond.fieldLink RX2 42 "HidingBoxes$Space" "boxes" "[LHidingBoxes$Box;", Cond.methodLink RX2 46 yX0_directionOfHiding, Cond.instanceMethod yX0_directionOfHiding, Cond.selects RX0 yX0_directionOfHiding yX0_directionOfHiding, Cond.code yX0_directionOfHiding cX0_directionOfHiding 3 (some .int), Cond.methodLink RX0 40 yX0_overlapsOutlineOf, Cond.instanceMethod yX0_overlapsOutlineOf, Cond.selects RX0 yX0_overlapsOutlineOf yX0_overlapsOutlineOf]
def wsX5_ofBox_r3 : List Cond := [Cond.code yX0_overlapsOutlineOf cX0_overlapsOutlineOf 2 (some .boolean), Cond.methodLink RX0 36 yX0_meetsInDifference, Cond.instanceMethod yX0_meetsInDifference, Cond.selects RX0 yX0_meetsInDifference yX0_meetsInDifference, Cond.code yX0_meetsInDifference cX0_meetsInDifference 4 (some .boolean), Cond.methodLink RX2 35 yX2_followChains, Cond.instanceMethod yX2_followChains, Cond.selects RX2 yX2_followChains yX2_followChains, Cond.code yX2_followChains cX2_followChains 3 none, Cond.fieldLink RX2 15 "HidingBoxes$Picture" "chains" "[I", Cond.methodLink RX2 52 arraycopyName, Cond.native arraycopyName, Cond.static arraycopyName, Cond.initialized "java/lang/System", Cond.methodLink RX2 58 yX2_hasBit, Cond.static yX2_hasBit, Cond.code yX2_hasBit cX2_hasBit 2 (some .boolean), Cond.methodLink RX2 38 yX2_draw, Cond.instanceMethod yX2_draw, Cond.selects RX2 yX2_draw yX2_draw, Cond.code yX2_draw cX2_draw 4 none, Cond.fieldLink RX2 21 "HidingBoxes$Picture" "layers" "[I", Cond.fieldLink RX2 68 "HidingBoxes$Picture" "drawnBits" "I", Cond.fieldLink RX2 71 "HidingBoxes$Picture" "drawnCount" "I"]
def wsX5_ofBox_r4 : List Cond := [Cond.fieldLink RX2 18 "HidingBoxes$Picture" "order" "[I", Cond.methodLink RX2 62 yJ7_fill_53178, Cond.static yJ7_fill_53178, Cond.initialized RJ7, Cond.code yJ7_fill_53178 cJ7_fill_53178 4 none, Cond.methodLink RX2 74 yX2_nextToDraw, Cond.instanceMethod yX2_nextToDraw, Cond.selects RX2 yX2_nextToDraw yX2_nextToDraw, Cond.code yX2_nextToDraw cX2_nextToDraw 5 (some .int), Cond.methodLink RX2 82 yX3_weightInDrawing, Cond.instanceMethod yX3_weightInDrawing, Cond.selects RX3 yX3_weightInDrawing yX3_weightInDrawing, Cond.code yX3_weightInDrawing cX3_weightInDrawing 2 (some .int), Cond.fieldLink RX3 28 "HidingBoxes$Space" "rule" "I", Cond.methodLink RX3 57 yX0_sumOfCorner, Cond.instanceMethod yX0_sumOfCorner, Cond.selects RX0 yX0_sumOfCorner yX0_sumOfCorner, Cond.code yX0_sumOfCorner cX0_sumOfCorner 1 (some .int), Cond.methodLink RX3 61 yX0_volume, Cond.methodLink RX2 78 yX2_layerAbove, Cond.instanceMethod yX2_layerAbove, Cond.selects RX2 yX2_layerAbove yX2_layerAbove, Cond.code yX2_layerAbove cX2_layerAbove 4 (some .int), Cond.methodLink RX2 85 Lib.Math.max.name]
def wsX5_ofBox_r5 : List Cond := [Cond.static Lib.Math.max.name, Cond.initialized "java/lang/Math", Cond.code Lib.Math.max.name Lib.Math.max.code 2 (some .int), Cond.methodLink RX5 162 yX2_hiddenBy, Cond.instanceMethod yX2_hiddenBy, Cond.selects RX2 yX2_hiddenBy yX2_hiddenBy, Cond.code yX2_hiddenBy cX2_hiddenBy 2 (some .int), Cond.methodLink RX2 91 yJ6_bitCount_0f7a4, Cond.static yJ6_bitCount_0f7a4, Cond.initialized RJ6, Cond.code yJ6_bitCount_0f7a4 cJ6_bitCount_0f7a4 1 (some .int), Cond.constant RJ6 265 (1431655765), Cond.constant RJ6 266 (858993459), Cond.constant RJ6 267 (252645135), Cond.methodLink RX5 165 yX2_hidersOf, Cond.instanceMethod yX2_hidersOf, Cond.selects RX2 yX2_hidersOf yX2_hidersOf, Cond.code yX2_hidersOf cX2_hidersOf 4 (some .int), Cond.methodLink RX5 171 yX2_shortestRingOf, Cond.instanceMethod yX2_shortestRingOf, Cond.selects RX2 yX2_shortestRingOf yX2_shortestRingOf, Cond.code yX2_shortestRingOf cX2_shortestRingOf 4 (some .int), Cond.methodLink RX2 106 yX2_bitsHiddenByAll, Cond.instanceMethod yX2_bitsHiddenByAll]
def wsX5_ofBox_r6 : List Cond := [Cond.selects RX2 yX2_bitsHiddenByAll yX2_bitsHiddenByAll, Cond.code yX2_bitsHiddenByAll cX2_bitsHiddenByAll 4 (some .int), Cond.methodLink RX5 174 yX3_supportsOf, Cond.instanceMethod yX3_supportsOf, Cond.selects RX3 yX3_supportsOf yX3_supportsOf, Cond.code yX3_supportsOf cX3_supportsOf 5 (some .int), Cond.fieldLink RX3 54 "HidingBoxes$Box" "high" "[I", Cond.fieldLink RX3 50 "HidingBoxes$Box" "low" "[I", Cond.methodLink RX3 64 yX0_isBelow, Cond.instanceMethod yX0_isBelow, Cond.selects RX0 yX0_isBelow yX0_isBelow, Cond.code yX0_isBelow cX0_isBelow 2 (some .boolean), Cond.methodLink RX0 32 yX0_meets, Cond.instanceMethod yX0_meets, Cond.selects RX0 yX0_meets yX0_meets, Cond.code yX0_meets cX0_meets 3 (some .boolean), Cond.methodLink RX5 177 yX3_boxesBelow, Cond.instanceMethod yX3_boxesBelow, Cond.selects RX3 yX3_boxesBelow yX3_boxesBelow, Cond.code yX3_boxesBelow cX3_boxesBelow 4 (some .int), Cond.methodLink RX5 180 yX3_shadowOn, Cond.instanceMethod yX3_shadowOn, Cond.selects RX3 yX3_shadowOn yX3_shadowOn, Cond.code yX3_shadowOn cX3_shadowOn 7 (some .int)]
def wsX5_ofBox_r7 : List Cond := [Cond.methodLink RX3 73 yX0_coversRow, Cond.instanceMethod yX0_coversRow, Cond.selects RX0 yX0_coversRow yX0_coversRow, Cond.code yX0_coversRow cX0_coversRow 2 (some .boolean), Cond.methodLink RX3 77 yX0_rowOfCells, Cond.instanceMethod yX0_rowOfCells, Cond.selects RX0 yX0_rowOfCells yX0_rowOfCells, Cond.code yX0_rowOfCells cX0_rowOfCells 1 (some .int), Cond.methodLink RX3 80 yJ6_bitCount_0f7a4]
def wsX5_ofBox : List Cond := .code yX5_ofBox cX5_ofBox 4 (some .int) :: ((wsX5_ofBox_r1 ++ (wsX5_ofBox_r2 ++ (wsX5_ofBox_r3 ++ (wsX5_ofBox_r4 ++ (wsX5_ofBox_r5 ++ (wsX5_ofBox_r6 ++ wsX5_ofBox_r7)))))) ++ wsX50 ++ wsX30 ++ wsX20 ++ wsX00)
def wsX5_pair_r1 : List Cond := [Cond.fieldLink RX5 10 "HidingBoxes" "now" "LHidingBoxes$Space;", Cond.fieldLink RX5 72 "HidingBoxes$Space" "boxes" "[LHidingBoxes$Box;", Cond.methodLink RX5 68 yX3_slotOf, Cond.instanceMethod yX3_slotOf, Cond.selects RX3 yX3_slotOf yX3_slotOf, Cond.initialized RX3, Cond.code yX3_slotOf cX3_slotOf 3 (some .int), Cond.fieldLink RX3 18 "HidingBoxes$Space" "count" "I", Cond.fieldLink RX3 11 "HidingBoxes$Space" "boxes" "[LHidingBoxes$Box;", Cond.fieldLink RX3 35 "HidingBoxes$Box" "number" "I", Cond.methodLink RX5 183 yX0_directionOfHiding, Cond.instanceMethod yX0_directionOfHiding, Cond.selects RX0 yX0_directionOfHiding yX0_directionOfHiding, Cond.initialized RX0, Cond.code yX0_directionOfHiding cX0_directionOfHiding 3 (some .int), Cond.fieldLink RX0 9 "HidingBoxes$Box" "low" "[I", Cond.fieldLink RX0 15 "HidingBoxes$Box" "high" "[I", Cond.methodLink RX0 40 yX0_overlapsOutlineOf, Cond.instanceMethod yX0_overlapsOutlineOf, Cond.selects RX0 yX0_overlapsOutlineOf yX0_overlapsOutlineOf, Cond.code yX0_overlapsOutlineOf cX0_overlapsOutlineOf 2 (some .boolean), Cond.methodLink RX0 36 yX0_meetsInDifference, Cond.instanceMethod yX0_meetsInDifference, Cond.selects RX0 yX0_meetsInDifference yX0_meetsInDifference]
def wsX5_pair_r2 : List Cond := [Cond.code yX0_meetsInDifference cX0_meetsInDifference 4 (some .boolean)]
def wsX5_pair : List Cond := .code yX5_pair cX5_pair 7 (some .int) :: ((wsX5_pair_r1 ++ wsX5_pair_r2) ++ wsX50 ++ wsX30 ++ wsX00)
def wsX5_drawn_r1 : List Cond := [Cond.fieldLink RX5 10 "HidingBoxes" "now" "LHidingBoxes$Space;", Cond.fieldLink RX5 72 "HidingBoxes$Space" "boxes" "[LHidingBoxes$Box;", Cond.fieldLink RX5 156 "HidingBoxes$Box" "number" "I", Cond.methodLink RX5 159 yX5_look, Cond.instanceMethod yX5_look, Cond.selects RX5 yX5_look yX5_look, Cond.initialized RX5, Cond.code yX5_look cX5_look 1 (some (.object "HidingBoxes$Picture")), Cond.fieldLink RX5 39 "HidingBoxes" "picture" "LHidingBoxes$Picture;", Cond.methodLink RX5 125 yX2_look, Cond.instanceMethod yX2_look, Cond.selects RX2 yX2_look yX2_look, Cond.initialized RX2, Cond.code yX2_look cX2_look 3 none, Cond.fieldLink RX2 24 "HidingBoxes$Space" "count" "I", Cond.fieldLink RX2 30 "HidingBoxes$Picture" "count" "I", Cond.fieldLink RX2 9 "HidingBoxes$Picture" "hides" "[I", Cond.methodLink RX2 31 yX2_bitsHiddenBy, Cond.static yX2_bitsHiddenBy, Cond.code yX2_bitsHiddenBy cX2_bitsHiddenBy 4 (some .int), Cond.fieldLink RX2 42 "HidingBoxes$Space" "boxes" "[LHidingBoxes$Box;", Cond.methodLink RX2 46 yX0_directionOfHiding, Cond.instanceMethod yX0_directionOfHiding, Cond.selects RX0 yX0_directionOfHiding yX0_directionOfHiding]
def wsX5_drawn_r2 : List Cond := [Cond.initialized RX0, Cond.code yX0_directionOfHiding cX0_directionOfHiding 3 (some .int), Cond.fieldLink RX0 9 "HidingBoxes$Box" "low" "[I", Cond.fieldLink RX0 15 "HidingBoxes$Box" "high" "[I", Cond.methodLink RX0 40 yX0_overlapsOutlineOf, Cond.instanceMethod yX0_overlapsOutlineOf, Cond.selects RX0 yX0_overlapsOutlineOf yX0_overlapsOutlineOf, Cond.code yX0_overlapsOutlineOf cX0_overlapsOutlineOf 2 (some .boolean), Cond.methodLink RX0 36 yX0_meetsInDifference, Cond.instanceMethod yX0_meetsInDifference, Cond.selects RX0 yX0_meetsInDifference yX0_meetsInDifference, Cond.code yX0_meetsInDifference cX0_meetsInDifference 4 (some .boolean), Cond.methodLink RX2 35 yX2_followChains, Cond.instanceMethod yX2_followChains, Cond.selects RX2 yX2_followChains yX2_followChains, Cond.code yX2_followChains cX2_followChains 3 none, Cond.fieldLink RX2 15 "HidingBoxes$Picture" "chains" "[I", Cond.methodLink RX2 52 arraycopyName, Cond.native arraycopyName, Cond.static arraycopyName, Cond.initialized "java/lang/System", Cond.methodLink RX2 58 yX2_hasBit, Cond.static yX2_hasBit, Cond.code yX2_hasBit cX2_hasBit 2 (some .boolean)]
def wsX5_drawn_r3 : List Cond := [Cond.methodLink RX2 38 yX2_draw, Cond.instanceMethod yX2_draw, Cond.selects RX2 yX2_draw yX2_draw, Cond.code yX2_draw cX2_draw 4 none, Cond.fieldLink RX2 21 "HidingBoxes$Picture" "layers" "[I", Cond.fieldLink RX2 68 "HidingBoxes$Picture" "drawnBits" "I", Cond.fieldLink RX2 71 "HidingBoxes$Picture" "drawnCount" "I", Cond.fieldLink RX2 18 "HidingBoxes$Picture" "order" "[I", Cond.methodLink RX2 62 yJ7_fill_53178, Cond.static yJ7_fill_53178, Cond.initialized RJ7, Cond.code yJ7_fill_53178 cJ7_fill_53178 4 none, Cond.methodLink RX2 74 yX2_nextToDraw, Cond.instanceMethod yX2_nextToDraw, Cond.selects RX2 yX2_nextToDraw yX2_nextToDraw, Cond.code yX2_nextToDraw cX2_nextToDraw 5 (some .int), Cond.methodLink RX2 82 yX3_weightInDrawing, Cond.instanceMethod yX3_weightInDrawing, Cond.selects RX3 yX3_weightInDrawing yX3_weightInDrawing, Cond.initialized RX3, Cond.code yX3_weightInDrawing cX3_weightInDrawing 2 (some .int), Cond.fieldLink RX3 28 "HidingBoxes$Space" "rule" "I", Cond.fieldLink RX3 11 "HidingBoxes$Space" "boxes" "[LHidingBoxes$Box;", Cond.methodLink RX3 57 yX0_sumOfCorner]
def wsX5_drawn_r4 : List Cond := [Cond.instanceMethod yX0_sumOfCorner, Cond.selects RX0 yX0_sumOfCorner yX0_sumOfCorner, Cond.code yX0_sumOfCorner cX0_sumOfCorner 1 (some .int), Cond.methodLink RX3 61 yX0_volume, Cond.instanceMethod yX0_volume, Cond.selects RX0 yX0_volume yX0_volume, Cond.code yX0_volume cX0_volume 1 (some .int), Cond.methodLink RX0 28 yX0_size, Cond.instanceMethod yX0_size, Cond.selects RX0 yX0_size yX0_size, Cond.code yX0_size cX0_size 2 (some .int), Cond.methodLink RX2 78 yX2_layerAbove, Cond.instanceMethod yX2_layerAbove, Cond.selects RX2 yX2_layerAbove yX2_layerAbove, Cond.code yX2_layerAbove cX2_layerAbove 4 (some .int), Cond.methodLink RX2 85 Lib.Math.max.name, Cond.static Lib.Math.max.name, Cond.initialized "java/lang/Math", Cond.code Lib.Math.max.name Lib.Math.max.code 2 (some .int), Cond.methodLink RX5 187 yX2_slotDrawn, Cond.instanceMethod yX2_slotDrawn, Cond.selects RX2 yX2_slotDrawn yX2_slotDrawn, Cond.code yX2_slotDrawn cX2_slotDrawn 2 (some .int)]
def wsX5_drawn : List Cond := .code yX5_drawn cX5_drawn 3 (some .int) :: ((wsX5_drawn_r1 ++ (wsX5_drawn_r2 ++ (wsX5_drawn_r3 ++ wsX5_drawn_r4))) ++ wsX50 ++ wsX30 ++ wsX00 ++ wsX20)
def wsX5_total_r1 : List Cond := [Cond.fieldLink RX5 10 "HidingBoxes" "now" "LHidingBoxes$Space;", Cond.fieldLink RX5 118 "HidingBoxes$Space" "count" "I", Cond.fieldLink RX5 190 "HidingBoxes$Space" "nextNumber" "I", Cond.fieldLink RX5 196 "HidingBoxes$Picture" "drawnCount" "I", Cond.fieldLink RX5 208 "HidingBoxes$Space" "splits" "I", Cond.fieldLink RX5 132 "HidingBoxes$Space" "rule" "I", Cond.fieldLink RX5 25 "HidingBoxes" "history" "LHidingBoxes$History;", Cond.fieldLink RX5 152 "HidingBoxes$History" "count" "I", Cond.fieldLink RX5 32 "HidingBoxes" "text" "LHidingBoxes$Text;", Cond.fieldLink RX5 139 "HidingBoxes$Text" "length" "I", Cond.methodLink RX5 159 yX5_look, Cond.instanceMethod yX5_look, Cond.selects RX5 yX5_look yX5_look, Cond.initialized RX5, Cond.code yX5_look cX5_look 1 (some (.object "HidingBoxes$Picture")), Cond.fieldLink RX5 39 "HidingBoxes" "picture" "LHidingBoxes$Picture;", Cond.methodLink RX5 125 yX2_look, Cond.instanceMethod yX2_look, Cond.selects RX2 yX2_look yX2_look, Cond.initialized RX2, Cond.code yX2_look cX2_look 3 none, Cond.fieldLink RX2 24 "HidingBoxes$Space" "count" "I", Cond.fieldLink RX2 30 "HidingBoxes$Picture" "count" "I", Cond.fieldLink RX2 9 "HidingBoxes$Picture" "hides" "[I"]
def wsX5_total_r2 : List Cond := [Cond.methodLink RX2 31 yX2_bitsHiddenBy, Cond.static yX2_bitsHiddenBy, Cond.code yX2_bitsHiddenBy cX2_bitsHiddenBy 4 (some .int), Cond.fieldLink RX2 42 "HidingBoxes$Space" "boxes" "[LHidingBoxes$Box;", Cond.methodLink RX2 46 yX0_directionOfHiding, Cond.instanceMethod yX0_directionOfHiding, Cond.selects RX0 yX0_directionOfHiding yX0_directionOfHiding, Cond.initialized RX0, Cond.code yX0_directionOfHiding cX0_directionOfHiding 3 (some .int), Cond.fieldLink RX0 9 "HidingBoxes$Box" "low" "[I", Cond.fieldLink RX0 15 "HidingBoxes$Box" "high" "[I", Cond.methodLink RX0 40 yX0_overlapsOutlineOf, Cond.instanceMethod yX0_overlapsOutlineOf, Cond.selects RX0 yX0_overlapsOutlineOf yX0_overlapsOutlineOf, Cond.code yX0_overlapsOutlineOf cX0_overlapsOutlineOf 2 (some .boolean), Cond.methodLink RX0 36 yX0_meetsInDifference, Cond.instanceMethod yX0_meetsInDifference, Cond.selects RX0 yX0_meetsInDifference yX0_meetsInDifference, Cond.code yX0_meetsInDifference cX0_meetsInDifference 4 (some .boolean), Cond.methodLink RX2 35 yX2_followChains, Cond.instanceMethod yX2_followChains, Cond.selects RX2 yX2_followChains yX2_followChains, Cond.code yX2_followChains cX2_followChains 3 none, Cond.fieldLink RX2 15 "HidingBoxes$Picture" "chains" "[I"]
def wsX5_total_r3 : List Cond := [Cond.methodLink RX2 52 arraycopyName, Cond.native arraycopyName, Cond.static arraycopyName, Cond.initialized "java/lang/System", Cond.methodLink RX2 58 yX2_hasBit, Cond.static yX2_hasBit, Cond.code yX2_hasBit cX2_hasBit 2 (some .boolean), Cond.methodLink RX2 38 yX2_draw, Cond.instanceMethod yX2_draw, Cond.selects RX2 yX2_draw yX2_draw, Cond.code yX2_draw cX2_draw 4 none, Cond.fieldLink RX2 21 "HidingBoxes$Picture" "layers" "[I", Cond.fieldLink RX2 68 "HidingBoxes$Picture" "drawnBits" "I", Cond.fieldLink RX2 71 "HidingBoxes$Picture" "drawnCount" "I", Cond.fieldLink RX2 18 "HidingBoxes$Picture" "order" "[I", Cond.methodLink RX2 62 yJ7_fill_53178, Cond.static yJ7_fill_53178, Cond.initialized RJ7, Cond.code yJ7_fill_53178 cJ7_fill_53178 4 none, Cond.methodLink RX2 74 yX2_nextToDraw, Cond.instanceMethod yX2_nextToDraw, Cond.selects RX2 yX2_nextToDraw yX2_nextToDraw, Cond.code yX2_nextToDraw cX2_nextToDraw 5 (some .int), Cond.methodLink RX2 82 yX3_weightInDrawing]
def wsX5_total_r4 : List Cond := [Cond.instanceMethod yX3_weightInDrawing, Cond.selects RX3 yX3_weightInDrawing yX3_weightInDrawing, Cond.initialized RX3, Cond.code yX3_weightInDrawing cX3_weightInDrawing 2 (some .int), Cond.fieldLink RX3 28 "HidingBoxes$Space" "rule" "I", Cond.fieldLink RX3 11 "HidingBoxes$Space" "boxes" "[LHidingBoxes$Box;", Cond.methodLink RX3 57 yX0_sumOfCorner, Cond.instanceMethod yX0_sumOfCorner, Cond.selects RX0 yX0_sumOfCorner yX0_sumOfCorner, Cond.code yX0_sumOfCorner cX0_sumOfCorner 1 (some .int), Cond.methodLink RX3 61 yX0_volume, Cond.instanceMethod yX0_volume, Cond.selects RX0 yX0_volume yX0_volume, Cond.code yX0_volume cX0_volume 1 (some .int), Cond.methodLink RX0 28 yX0_size, Cond.instanceMethod yX0_size, Cond.selects RX0 yX0_size yX0_size, Cond.code yX0_size cX0_size 2 (some .int), Cond.methodLink RX2 78 yX2_layerAbove, Cond.instanceMethod yX2_layerAbove, Cond.selects RX2 yX2_layerAbove yX2_layerAbove, Cond.code yX2_layerAbove cX2_layerAbove 4 (some .int), Cond.methodLink RX2 85 Lib.Math.max.name, Cond.static Lib.Math.max.name]
def wsX5_total_r5 : List Cond := [Cond.initialized "java/lang/Math", Cond.code Lib.Math.max.name Lib.Math.max.code 2 (some .int), Cond.methodLink RX5 193 yX2_hidings, Cond.instanceMethod yX2_hidings, Cond.selects RX2 yX2_hidings yX2_hidings, Cond.code yX2_hidings cX2_hidings 3 (some .int), Cond.methodLink RX2 96 yX2_hiddenBy, Cond.instanceMethod yX2_hiddenBy, Cond.selects RX2 yX2_hiddenBy yX2_hiddenBy, Cond.code yX2_hiddenBy cX2_hiddenBy 2 (some .int), Cond.methodLink RX2 91 yJ6_bitCount_0f7a4, Cond.static yJ6_bitCount_0f7a4, Cond.initialized RJ6, Cond.code yJ6_bitCount_0f7a4 cJ6_bitCount_0f7a4 1 (some .int), Cond.constant RJ6 265 (1431655765), Cond.constant RJ6 266 (858993459), Cond.constant RJ6 267 (252645135), Cond.methodLink RX5 199 yX2_boxesInRings, Cond.instanceMethod yX2_boxesInRings, Cond.selects RX2 yX2_boxesInRings yX2_boxesInRings, Cond.code yX2_boxesInRings cX2_boxesInRings 3 (some .int), Cond.methodLink RX2 99 yX2_isInRing, Cond.instanceMethod yX2_isInRing, Cond.selects RX2 yX2_isInRing yX2_isInRing]
def wsX5_total_r6 : List Cond := [Cond.code yX2_isInRing cX2_isInRing 2 (some .boolean), Cond.methodLink RX5 202 yX2_shortestRing, Cond.instanceMethod yX2_shortestRing, Cond.selects RX2 yX2_shortestRing yX2_shortestRing, Cond.code yX2_shortestRing cX2_shortestRing 4 (some .int), Cond.methodLink RX2 103 yX2_shortestRingOf, Cond.instanceMethod yX2_shortestRingOf, Cond.selects RX2 yX2_shortestRingOf yX2_shortestRingOf, Cond.code yX2_shortestRingOf cX2_shortestRingOf 4 (some .int), Cond.methodLink RX2 106 yX2_bitsHiddenByAll, Cond.instanceMethod yX2_bitsHiddenByAll, Cond.selects RX2 yX2_bitsHiddenByAll yX2_bitsHiddenByAll, Cond.code yX2_bitsHiddenByAll cX2_bitsHiddenByAll 4 (some .int), Cond.methodLink RX5 205 yX2_greatestLayer, Cond.instanceMethod yX2_greatestLayer, Cond.selects RX2 yX2_greatestLayer yX2_greatestLayer, Cond.code yX2_greatestLayer cX2_greatestLayer 3 (some .int), Cond.methodLink RX5 211 yX3_volume, Cond.instanceMethod yX3_volume, Cond.selects RX3 yX3_volume yX3_volume, Cond.code yX3_volume cX3_volume 3 (some .int), Cond.fieldLink RX3 18 "HidingBoxes$Space" "count" "I", Cond.methodLink RX5 212 yX3_shadow, Cond.instanceMethod yX3_shadow]
def wsX5_total_r7 : List Cond := [Cond.selects RX3 yX3_shadow yX3_shadow, Cond.code yX3_shadow cX3_shadow 3 (some .int), Cond.methodLink RX3 86 yX3_shadowOn, Cond.instanceMethod yX3_shadowOn, Cond.selects RX3 yX3_shadowOn yX3_shadowOn, Cond.code yX3_shadowOn cX3_shadowOn 7 (some .int), Cond.fieldLink RX3 50 "HidingBoxes$Box" "low" "[I", Cond.fieldLink RX3 54 "HidingBoxes$Box" "high" "[I", Cond.methodLink RX3 64 yX0_isBelow, Cond.instanceMethod yX0_isBelow, Cond.selects RX0 yX0_isBelow yX0_isBelow, Cond.code yX0_isBelow cX0_isBelow 2 (some .boolean), Cond.methodLink RX0 32 yX0_meets, Cond.instanceMethod yX0_meets, Cond.selects RX0 yX0_meets yX0_meets, Cond.code yX0_meets cX0_meets 3 (some .boolean), Cond.methodLink RX3 73 yX0_coversRow, Cond.instanceMethod yX0_coversRow, Cond.selects RX0 yX0_coversRow yX0_coversRow, Cond.code yX0_coversRow cX0_coversRow 2 (some .boolean), Cond.methodLink RX3 77 yX0_rowOfCells, Cond.instanceMethod yX0_rowOfCells, Cond.selects RX0 yX0_rowOfCells yX0_rowOfCells, Cond.code yX0_rowOfCells cX0_rowOfCells 1 (some .int)]
def wsX5_total_r8 : List Cond := [Cond.methodLink RX3 80 yJ6_bitCount_0f7a4]
def wsX5_total : List Cond := .code yX5_total cX5_total 2 (some .int) :: ((wsX5_total_r1 ++ (wsX5_total_r2 ++ (wsX5_total_r3 ++ (wsX5_total_r4 ++ (wsX5_total_r5 ++ (wsX5_total_r6 ++ (wsX5_total_r7 ++ wsX5_total_r8))))))) ++ wsX50 ++ wsX30 ++ wsX20 ++ wsX10 ++ wsX40 ++ wsX00)
def wsX5_waitsFor_r1 : List Cond := [Cond.fieldLink RX5 10 "HidingBoxes" "now" "LHidingBoxes$Space;", Cond.fieldLink RX5 72 "HidingBoxes$Space" "boxes" "[LHidingBoxes$Box;", Cond.fieldLink RX5 156 "HidingBoxes$Box" "number" "I", Cond.methodLink RX5 68 yX3_slotOf, Cond.instanceMethod yX3_slotOf, Cond.selects RX3 yX3_slotOf yX3_slotOf, Cond.initialized RX3, Cond.code yX3_slotOf cX3_slotOf 3 (some .int), Cond.fieldLink RX3 18 "HidingBoxes$Space" "count" "I", Cond.fieldLink RX3 11 "HidingBoxes$Space" "boxes" "[LHidingBoxes$Box;", Cond.fieldLink RX3 35 "HidingBoxes$Box" "number" "I", Cond.methodLink RX5 159 yX5_look, Cond.instanceMethod yX5_look, Cond.selects RX5 yX5_look yX5_look, Cond.initialized RX5, Cond.code yX5_look cX5_look 1 (some (.object "HidingBoxes$Picture")), Cond.fieldLink RX5 39 "HidingBoxes" "picture" "LHidingBoxes$Picture;", Cond.methodLink RX5 125 yX2_look, Cond.instanceMethod yX2_look, Cond.selects RX2 yX2_look yX2_look, Cond.initialized RX2, Cond.code yX2_look cX2_look 3 none, Cond.fieldLink RX2 24 "HidingBoxes$Space" "count" "I", Cond.fieldLink RX2 30 "HidingBoxes$Picture" "count" "I"]
def wsX5_waitsFor_r2 : List Cond := [Cond.fieldLink RX2 9 "HidingBoxes$Picture" "hides" "[I", Cond.methodLink RX2 31 yX2_bitsHiddenBy, Cond.static yX2_bitsHiddenBy, Cond.code yX2_bitsHiddenBy cX2_bitsHiddenBy 4 (some .int), Cond.fieldLink RX2 42 "HidingBoxes$Space" "boxes" "[LHidingBoxes$Box;", Cond.methodLink RX2 46 yX0_directionOfHiding, Cond.instanceMethod yX0_directionOfHiding, Cond.selects RX0 yX0_directionOfHiding yX0_directionOfHiding, Cond.initialized RX0, Cond.code yX0_directionOfHiding cX0_directionOfHiding 3 (some .int), Cond.fieldLink RX0 9 "HidingBoxes$Box" "low" "[I", Cond.fieldLink RX0 15 "HidingBoxes$Box" "high" "[I", Cond.methodLink RX0 40 yX0_overlapsOutlineOf, Cond.instanceMethod yX0_overlapsOutlineOf, Cond.selects RX0 yX0_overlapsOutlineOf yX0_overlapsOutlineOf, Cond.code yX0_overlapsOutlineOf cX0_overlapsOutlineOf 2 (some .boolean), Cond.methodLink RX0 36 yX0_meetsInDifference, Cond.instanceMethod yX0_meetsInDifference, Cond.selects RX0 yX0_meetsInDifference yX0_meetsInDifference, Cond.code yX0_meetsInDifference cX0_meetsInDifference 4 (some .boolean), Cond.methodLink RX2 35 yX2_followChains, Cond.instanceMethod yX2_followChains, Cond.selects RX2 yX2_followChains yX2_followChains, Cond.code yX2_followChains cX2_followChains 3 none]
def wsX5_waitsFor_r3 : List Cond := [Cond.fieldLink RX2 15 "HidingBoxes$Picture" "chains" "[I", Cond.methodLink RX2 52 arraycopyName, Cond.native arraycopyName, Cond.static arraycopyName, Cond.initialized "java/lang/System", Cond.methodLink RX2 58 yX2_hasBit, Cond.static yX2_hasBit, Cond.code yX2_hasBit cX2_hasBit 2 (some .boolean), Cond.methodLink RX2 38 yX2_draw, Cond.instanceMethod yX2_draw, Cond.selects RX2 yX2_draw yX2_draw, Cond.code yX2_draw cX2_draw 4 none, Cond.fieldLink RX2 21 "HidingBoxes$Picture" "layers" "[I", Cond.fieldLink RX2 68 "HidingBoxes$Picture" "drawnBits" "I", Cond.fieldLink RX2 71 "HidingBoxes$Picture" "drawnCount" "I", Cond.fieldLink RX2 18 "HidingBoxes$Picture" "order" "[I", Cond.methodLink RX2 62 yJ7_fill_53178, Cond.static yJ7_fill_53178, Cond.initialized RJ7, Cond.code yJ7_fill_53178 cJ7_fill_53178 4 none, Cond.methodLink RX2 74 yX2_nextToDraw, Cond.instanceMethod yX2_nextToDraw, Cond.selects RX2 yX2_nextToDraw yX2_nextToDraw, Cond.code yX2_nextToDraw cX2_nextToDraw 5 (some .int)]
def wsX5_waitsFor_r4 : List Cond := [Cond.methodLink RX2 82 yX3_weightInDrawing, Cond.instanceMethod yX3_weightInDrawing, Cond.selects RX3 yX3_weightInDrawing yX3_weightInDrawing, Cond.code yX3_weightInDrawing cX3_weightInDrawing 2 (some .int), Cond.fieldLink RX3 28 "HidingBoxes$Space" "rule" "I", Cond.methodLink RX3 57 yX0_sumOfCorner, Cond.instanceMethod yX0_sumOfCorner, Cond.selects RX0 yX0_sumOfCorner yX0_sumOfCorner, Cond.code yX0_sumOfCorner cX0_sumOfCorner 1 (some .int), Cond.methodLink RX3 61 yX0_volume, Cond.instanceMethod yX0_volume, Cond.selects RX0 yX0_volume yX0_volume, Cond.code yX0_volume cX0_volume 1 (some .int), Cond.methodLink RX0 28 yX0_size, Cond.instanceMethod yX0_size, Cond.selects RX0 yX0_size yX0_size, Cond.code yX0_size cX0_size 2 (some .int), Cond.methodLink RX2 78 yX2_layerAbove, Cond.instanceMethod yX2_layerAbove, Cond.selects RX2 yX2_layerAbove yX2_layerAbove, Cond.code yX2_layerAbove cX2_layerAbove 4 (some .int), Cond.methodLink RX2 85 Lib.Math.max.name, Cond.static Lib.Math.max.name, Cond.initialized "java/lang/Math"]
def wsX5_waitsFor_r5 : List Cond := [Cond.code Lib.Math.max.name Lib.Math.max.code 2 (some .int), Cond.methodLink RX5 215 yX2_firstNotDrawnUnder, Cond.instanceMethod yX2_firstNotDrawnUnder, Cond.selects RX2 yX2_firstNotDrawnUnder yX2_firstNotDrawnUnder, Cond.code yX2_firstNotDrawnUnder cX2_firstNotDrawnUnder 3 (some .int)]
def wsX5_waitsFor : List Cond := .code yX5_waitsFor cX5_waitsFor 4 (some .int) :: ((wsX5_waitsFor_r1 ++ (wsX5_waitsFor_r2 ++ (wsX5_waitsFor_r3 ++ (wsX5_waitsFor_r4 ++ wsX5_waitsFor_r5)))) ++ wsX50 ++ wsX30 ++ wsX00 ++ wsX20)
def wsX5_breaks_r1 : List Cond := [Cond.fieldLink RX5 16 "HidingBoxes" "trial" "LHidingBoxes$Space;", Cond.fieldLink RX5 10 "HidingBoxes" "now" "LHidingBoxes$Space;", Cond.methodLink RX5 57 yX3_copyFrom, Cond.instanceMethod yX3_copyFrom, Cond.selects RX3 yX3_copyFrom yX3_copyFrom, Cond.initialized RX3, Cond.code yX3_copyFrom cX3_copyFrom 3 none, Cond.fieldLink RX3 18 "HidingBoxes$Space" "count" "I", Cond.fieldLink RX3 22 "HidingBoxes$Space" "nextNumber" "I", Cond.fieldLink RX3 25 "HidingBoxes$Space" "splits" "I", Cond.fieldLink RX3 28 "HidingBoxes$Space" "rule" "I", Cond.fieldLink RX3 11 "HidingBoxes$Space" "boxes" "[LHidingBoxes$Box;", Cond.methodLink RX3 31 yX0_copyFrom, Cond.instanceMethod yX0_copyFrom, Cond.selects RX0 yX0_copyFrom yX0_copyFrom, Cond.initialized RX0, Cond.code yX0_copyFrom cX0_copyFrom 2 none, Cond.fieldLink RX0 18 "HidingBoxes$Box" "number" "I", Cond.fieldLink RX0 9 "HidingBoxes$Box" "low" "[I", Cond.methodLink RX0 22 arraycopyName, Cond.native arraycopyName, Cond.static arraycopyName, Cond.initialized "java/lang/System", Cond.fieldLink RX0 15 "HidingBoxes$Box" "high" "[I"]
def wsX5_breaks_r2 : List Cond := [Cond.methodLink RX5 114 yX5_breakOne, Cond.instanceMethod yX5_breakOne, Cond.selects RX5 yX5_breakOne yX5_breakOne, Cond.initialized RX5, Cond.code yX5_breakOne cX5_breakOne 6 (some .int), Cond.fieldLink RX5 39 "HidingBoxes" "picture" "LHidingBoxes$Picture;", Cond.fieldLink RX5 72 "HidingBoxes$Space" "boxes" "[LHidingBoxes$Box;", Cond.fieldLink RX5 88 "HidingBoxes$Box" "low" "[I", Cond.methodLink RX5 125 yX2_look, Cond.instanceMethod yX2_look, Cond.selects RX2 yX2_look yX2_look, Cond.initialized RX2, Cond.code yX2_look cX2_look 3 none, Cond.fieldLink RX2 24 "HidingBoxes$Space" "count" "I", Cond.fieldLink RX2 30 "HidingBoxes$Picture" "count" "I", Cond.fieldLink RX2 9 "HidingBoxes$Picture" "hides" "[I", Cond.methodLink RX2 31 yX2_bitsHiddenBy, Cond.static yX2_bitsHiddenBy, Cond.code yX2_bitsHiddenBy cX2_bitsHiddenBy 4 (some .int), Cond.fieldLink RX2 42 "HidingBoxes$Space" "boxes" "[LHidingBoxes$Box;", Cond.methodLink RX2 46 yX0_directionOfHiding, Cond.instanceMethod yX0_directionOfHiding, Cond.selects RX0 yX0_directionOfHiding yX0_directionOfHiding, Cond.code yX0_directionOfHiding cX0_directionOfHiding 3 (some .int)]
def wsX5_breaks_r3 : List Cond := [Cond.methodLink RX0 40 yX0_overlapsOutlineOf, Cond.instanceMethod yX0_overlapsOutlineOf, Cond.selects RX0 yX0_overlapsOutlineOf yX0_overlapsOutlineOf, Cond.code yX0_overlapsOutlineOf cX0_overlapsOutlineOf 2 (some .boolean), Cond.methodLink RX0 36 yX0_meetsInDifference, Cond.instanceMethod yX0_meetsInDifference, Cond.selects RX0 yX0_meetsInDifference yX0_meetsInDifference, Cond.code yX0_meetsInDifference cX0_meetsInDifference 4 (some .boolean), Cond.methodLink RX2 35 yX2_followChains, Cond.instanceMethod yX2_followChains, Cond.selects RX2 yX2_followChains yX2_followChains, Cond.code yX2_followChains cX2_followChains 3 none, Cond.fieldLink RX2 15 "HidingBoxes$Picture" "chains" "[I", Cond.methodLink RX2 52 arraycopyName, Cond.methodLink RX2 58 yX2_hasBit, Cond.static yX2_hasBit, Cond.code yX2_hasBit cX2_hasBit 2 (some .boolean), Cond.methodLink RX2 38 yX2_draw, Cond.instanceMethod yX2_draw, Cond.selects RX2 yX2_draw yX2_draw, Cond.code yX2_draw cX2_draw 4 none, Cond.fieldLink RX2 21 "HidingBoxes$Picture" "layers" "[I", Cond.fieldLink RX2 68 "HidingBoxes$Picture" "drawnBits" "I", Cond.fieldLink RX2 71 "HidingBoxes$Picture" "drawnCount" "I"]
def wsX5_breaks_r4 : List Cond := [Cond.fieldLink RX2 18 "HidingBoxes$Picture" "order" "[I", Cond.methodLink RX2 62 yJ7_fill_53178, Cond.static yJ7_fill_53178, Cond.initialized RJ7, Cond.code yJ7_fill_53178 cJ7_fill_53178 4 none, Cond.methodLink RX2 74 yX2_nextToDraw, Cond.instanceMethod yX2_nextToDraw, Cond.selects RX2 yX2_nextToDraw yX2_nextToDraw, Cond.code yX2_nextToDraw cX2_nextToDraw 5 (some .int), Cond.methodLink RX2 82 yX3_weightInDrawing, Cond.instanceMethod yX3_weightInDrawing, Cond.selects RX3 yX3_weightInDrawing yX3_weightInDrawing, Cond.code yX3_weightInDrawing cX3_weightInDrawing 2 (some .int), Cond.methodLink RX3 57 yX0_sumOfCorner, Cond.instanceMethod yX0_sumOfCorner, Cond.selects RX0 yX0_sumOfCorner yX0_sumOfCorner, Cond.code yX0_sumOfCorner cX0_sumOfCorner 1 (some .int), Cond.methodLink RX3 61 yX0_volume, Cond.instanceMethod yX0_volume, Cond.selects RX0 yX0_volume yX0_volume, Cond.code yX0_volume cX0_volume 1 (some .int), Cond.methodLink RX0 28 yX0_size, Cond.instanceMethod yX0_size, Cond.selects RX0 yX0_size yX0_size]
def wsX5_breaks_r5 : List Cond := [Cond.code yX0_size cX0_size 2 (some .int), Cond.methodLink RX2 78 yX2_layerAbove, Cond.instanceMethod yX2_layerAbove, Cond.selects RX2 yX2_layerAbove yX2_layerAbove, Cond.code yX2_layerAbove cX2_layerAbove 4 (some .int), Cond.methodLink RX2 85 Lib.Math.max.name, Cond.static Lib.Math.max.name, Cond.initialized "java/lang/Math", Cond.code Lib.Math.max.name Lib.Math.max.code 2 (some .int), Cond.methodLink RX5 227 yX2_greatestInRings, Cond.instanceMethod yX2_greatestInRings, Cond.selects RX2 yX2_greatestInRings yX2_greatestInRings, Cond.code yX2_greatestInRings cX2_greatestInRings 4 (some .int), Cond.methodLink RX2 99 yX2_isInRing, Cond.instanceMethod yX2_isInRing, Cond.selects RX2 yX2_isInRing yX2_isInRing, Cond.code yX2_isInRing cX2_isInRing 2 (some .boolean), Cond.methodLink RX2 109 yX0_volume, Cond.methodLink RX5 230 yX0_longestDirection, Cond.instanceMethod yX0_longestDirection, Cond.selects RX0 yX0_longestDirection yX0_longestDirection, Cond.code yX0_longestDirection cX0_longestDirection 3 (some .int), Cond.methodLink RX5 233 yX0_size, Cond.methodLink RX5 106 yX3_isFull]
def wsX5_breaks_r6 : List Cond := [Cond.instanceMethod yX3_isFull, Cond.selects RX3 yX3_isFull yX3_isFull, Cond.code yX3_isFull cX3_isFull 1 (some .boolean), Cond.methodLink RX5 110 yX3_cutInTwo, Cond.instanceMethod yX3_cutInTwo, Cond.selects RX3 yX3_cutInTwo yX3_cutInTwo, Cond.code yX3_cutInTwo cX3_cutInTwo 5 (some .int), Cond.fieldLink RX3 50 "HidingBoxes$Box" "low" "[I", Cond.fieldLink RX3 54 "HidingBoxes$Box" "high" "[I", Cond.methodLink RX3 46 yX3_append, Cond.instanceMethod yX3_append, Cond.selects RX3 yX3_append yX3_append, Cond.code yX3_append cX3_append 3 (some .int), Cond.fieldLink RX3 35 "HidingBoxes$Box" "number" "I", Cond.methodLink RX3 42 yX3_isFull]
def wsX5_breaks : List Cond := .code yX5_breaks cX5_breaks 3 (some .int) :: ((wsX5_breaks_r1 ++ (wsX5_breaks_r2 ++ (wsX5_breaks_r3 ++ (wsX5_breaks_r4 ++ (wsX5_breaks_r5 ++ wsX5_breaks_r6))))) ++ wsX50 ++ wsX30 ++ wsX00 ++ wsX20)
def wsX5_drawnWithout_r1 : List Cond := [Cond.fieldLink RX5 10 "HidingBoxes" "now" "LHidingBoxes$Space;", Cond.fieldLink RX5 16 "HidingBoxes" "trial" "LHidingBoxes$Space;", Cond.fieldLink RX5 39 "HidingBoxes" "picture" "LHidingBoxes$Picture;", Cond.fieldLink RX5 196 "HidingBoxes$Picture" "drawnCount" "I", Cond.methodLink RX5 68 yX3_slotOf, Cond.instanceMethod yX3_slotOf, Cond.selects RX3 yX3_slotOf yX3_slotOf, Cond.initialized RX3, Cond.code yX3_slotOf cX3_slotOf 3 (some .int), Cond.fieldLink RX3 18 "HidingBoxes$Space" "count" "I", Cond.fieldLink RX3 11 "HidingBoxes$Space" "boxes" "[LHidingBoxes$Box;", Cond.fieldLink RX3 35 "HidingBoxes$Box" "number" "I", Cond.methodLink RX5 57 yX3_copyFrom, Cond.instanceMethod yX3_copyFrom, Cond.selects RX3 yX3_copyFrom yX3_copyFrom, Cond.code yX3_copyFrom cX3_copyFrom 3 none, Cond.fieldLink RX3 22 "HidingBoxes$Space" "nextNumber" "I", Cond.fieldLink RX3 25 "HidingBoxes$Space" "splits" "I", Cond.fieldLink RX3 28 "HidingBoxes$Space" "rule" "I", Cond.methodLink RX3 31 yX0_copyFrom, Cond.instanceMethod yX0_copyFrom, Cond.selects RX0 yX0_copyFrom yX0_copyFrom, Cond.initialized RX0, Cond.code yX0_copyFrom cX0_copyFrom 2 none]
def wsX5_drawnWithout_r2 : List Cond := [Cond.fieldLink RX0 18 "HidingBoxes$Box" "number" "I", Cond.fieldLink RX0 9 "HidingBoxes$Box" "low" "[I", Cond.methodLink RX0 22 arraycopyName, Cond.native arraycopyName, Cond.static arraycopyName, Cond.initialized "java/lang/System", Cond.fieldLink RX0 15 "HidingBoxes$Box" "high" "[I", Cond.methodLink RX5 80 yX3_takeOut, Cond.instanceMethod yX3_takeOut, Cond.selects RX3 yX3_takeOut yX3_takeOut, Cond.code yX3_takeOut cX3_takeOut 3 none, Cond.methodLink RX5 125 yX2_look, Cond.instanceMethod yX2_look, Cond.selects RX2 yX2_look yX2_look, Cond.initialized RX2, Cond.code yX2_look cX2_look 3 none, Cond.fieldLink RX2 24 "HidingBoxes$Space" "count" "I", Cond.fieldLink RX2 30 "HidingBoxes$Picture" "count" "I", Cond.fieldLink RX2 9 "HidingBoxes$Picture" "hides" "[I", Cond.methodLink RX2 31 yX2_bitsHiddenBy, Cond.static yX2_bitsHiddenBy, Cond.code yX2_bitsHiddenBy cX2_bitsHiddenBy 4 (some .int), Cond.fieldLink RX2 42 "HidingBoxes$Space" "boxes" "[LHidingBoxes$Box;", Cond.methodLink RX2 46 yX0_directionOfHiding]
def wsX5_drawnWithout_r3 : List Cond := [Cond.instanceMethod yX0_directionOfHiding, Cond.selects RX0 yX0_directionOfHiding yX0_directionOfHiding, Cond.code yX0_directionOfHiding cX0_directionOfHiding 3 (some .int), Cond.methodLink RX0 40 yX0_overlapsOutlineOf, Cond.instanceMethod yX0_overlapsOutlineOf, Cond.selects RX0 yX0_overlapsOutlineOf yX0_overlapsOutlineOf, Cond.code yX0_overlapsOutlineOf cX0_overlapsOutlineOf 2 (some .boolean), Cond.methodLink RX0 36 yX0_meetsInDifference, Cond.instanceMethod yX0_meetsInDifference, Cond.selects RX0 yX0_meetsInDifference yX0_meetsInDifference, Cond.code yX0_meetsInDifference cX0_meetsInDifference 4 (some .boolean), Cond.methodLink RX2 35 yX2_followChains, Cond.instanceMethod yX2_followChains, Cond.selects RX2 yX2_followChains yX2_followChains, Cond.code yX2_followChains cX2_followChains 3 none, Cond.fieldLink RX2 15 "HidingBoxes$Picture" "chains" "[I", Cond.methodLink RX2 52 arraycopyName, Cond.methodLink RX2 58 yX2_hasBit, Cond.static yX2_hasBit, Cond.code yX2_hasBit cX2_hasBit 2 (some .boolean), Cond.methodLink RX2 38 yX2_draw, Cond.instanceMethod yX2_draw, Cond.selects RX2 yX2_draw yX2_draw, Cond.code yX2_draw cX2_draw 4 none]
def wsX5_drawnWithout_r4 : List Cond := [Cond.fieldLink RX2 21 "HidingBoxes$Picture" "layers" "[I", Cond.fieldLink RX2 68 "HidingBoxes$Picture" "drawnBits" "I", Cond.fieldLink RX2 71 "HidingBoxes$Picture" "drawnCount" "I", Cond.fieldLink RX2 18 "HidingBoxes$Picture" "order" "[I", Cond.methodLink RX2 62 yJ7_fill_53178, Cond.static yJ7_fill_53178, Cond.initialized RJ7, Cond.code yJ7_fill_53178 cJ7_fill_53178 4 none, Cond.methodLink RX2 74 yX2_nextToDraw, Cond.instanceMethod yX2_nextToDraw, Cond.selects RX2 yX2_nextToDraw yX2_nextToDraw, Cond.code yX2_nextToDraw cX2_nextToDraw 5 (some .int), Cond.methodLink RX2 82 yX3_weightInDrawing, Cond.instanceMethod yX3_weightInDrawing, Cond.selects RX3 yX3_weightInDrawing yX3_weightInDrawing, Cond.code yX3_weightInDrawing cX3_weightInDrawing 2 (some .int), Cond.methodLink RX3 57 yX0_sumOfCorner, Cond.instanceMethod yX0_sumOfCorner, Cond.selects RX0 yX0_sumOfCorner yX0_sumOfCorner, Cond.code yX0_sumOfCorner cX0_sumOfCorner 1 (some .int), Cond.methodLink RX3 61 yX0_volume, Cond.instanceMethod yX0_volume, Cond.selects RX0 yX0_volume yX0_volume, Cond.code yX0_volume cX0_volume 1 (some .int)]
def wsX5_drawnWithout_r5 : List Cond := [Cond.methodLink RX0 28 yX0_size, Cond.instanceMethod yX0_size, Cond.selects RX0 yX0_size yX0_size, Cond.code yX0_size cX0_size 2 (some .int), Cond.methodLink RX2 78 yX2_layerAbove, Cond.instanceMethod yX2_layerAbove, Cond.selects RX2 yX2_layerAbove yX2_layerAbove, Cond.code yX2_layerAbove cX2_layerAbove 4 (some .int), Cond.methodLink RX2 85 Lib.Math.max.name, Cond.static Lib.Math.max.name, Cond.initialized "java/lang/Math", Cond.code Lib.Math.max.name Lib.Math.max.code 2 (some .int)]
def wsX5_drawnWithout : List Cond := .code yX5_drawnWithout cX5_drawnWithout 3 (some .int) :: ((wsX5_drawnWithout_r1 ++ (wsX5_drawnWithout_r2 ++ (wsX5_drawnWithout_r3 ++ (wsX5_drawnWithout_r4 ++ wsX5_drawnWithout_r5)))) ++ wsX50 ++ wsX20 ++ wsX30 ++ wsX00)
def wsX6_init : List Cond := .code yX6_init cX6_init 1 none :: ([.methodLink RX6 1 objectInit, .instanceMethod objectInit, .code objectInit ⟨#[0xb1]⟩ 1 none, .arrayClass .int, .fieldLink RX6 7 "HidingBoxesModel" "z" "[I", .fieldLink RX6 13 "HidingBoxesModel" "aside" "[I", .fieldLink RX6 16 "HidingBoxesModel" "old" "[I", .fieldLink RX6 19 "HidingBoxesModel" "kept" "[I", .fieldLink RX6 22 "HidingBoxesModel" "text" "[I", .fieldLink RX6 25 "HidingBoxesModel" "hides" "[I", .fieldLink RX6 28 "HidingBoxesModel" "reaches" "[I", .fieldLink RX6 31 "HidingBoxesModel" "layers" "[I", .fieldLink RX6 34 "HidingBoxesModel" "order" "[I", .fieldLink RX6 37 "HidingBoxesModel" "before" "[I", .fieldLink RX6 40 "HidingBoxesModel" "given" "[I"] ++ wsX60)
def wsX6_in : List Cond := .code yX6_in cX6_in 4 (some .boolean) :: ([])
def wsX6_has : List Cond := .code yX6_has cX6_has 2 (some .boolean) :: ([])
def wsX6_ones : List Cond := .code yX6_ones cX6_ones 3 (some .int) :: ([])
def wsX6_of : List Cond := .code yX6_of cX6_of 3 (some .int) :: ([.fieldLink RX6 7 "HidingBoxesModel" "z" "[I"] ++ wsX60)
def wsX6_put : List Cond := .code yX6_put cX6_put 4 none :: ([.fieldLink RX6 7 "HidingBoxesModel" "z" "[I"] ++ wsX60)
def wsX6_low : List Cond := .code yX6_low cX6_low 3 (some .int) :: ([.methodLink RX6 43 yX6_of, .instanceMethod yX6_of, .selects RX6 yX6_of yX6_of, .initialized RX6, .code yX6_of cX6_of 3 (some .int), .fieldLink RX6 7 "HidingBoxesModel" "z" "[I"] ++ wsX60)
def wsX6_size : List Cond := .code yX6_size cX6_size 3 (some .int) :: ([.methodLink RX6 43 yX6_of, .instanceMethod yX6_of, .selects RX6 yX6_of yX6_of, .initialized RX6, .code yX6_of cX6_of 3 (some .int), .fieldLink RX6 7 "HidingBoxesModel" "z" "[I"] ++ wsX60)
def wsX6_high : List Cond := .code yX6_high cX6_high 3 (some .int) :: ([.methodLink RX6 47 yX6_low, .instanceMethod yX6_low, .selects RX6 yX6_low yX6_low, .initialized RX6, .code yX6_low cX6_low 3 (some .int), .methodLink RX6 43 yX6_of, .instanceMethod yX6_of, .selects RX6 yX6_of yX6_of, .code yX6_of cX6_of 3 (some .int), .fieldLink RX6 7 "HidingBoxesModel" "z" "[I", .methodLink RX6 50 yX6_size, .instanceMethod yX6_size, .selects RX6 yX6_size yX6_size, .code yX6_size cX6_size 3 (some .int)] ++ wsX60)
def wsX6_volume : List Cond := .code yX6_volume cX6_volume 2 (some .int) :: ([.methodLink RX6 50 yX6_size, .instanceMethod yX6_size, .selects RX6 yX6_size yX6_size, .initialized RX6, .code yX6_size cX6_size 3 (some .int), .methodLink RX6 43 yX6_of, .instanceMethod yX6_of, .selects RX6 yX6_of yX6_of, .code yX6_of cX6_of 3 (some .int), .fieldLink RX6 7 "HidingBoxesModel" "z" "[I"] ++ wsX60)
def wsX6_rankOf : List Cond := .code yX6_rankOf cX6_rankOf 4 (some .int) :: ([.fieldLink RX6 7 "HidingBoxesModel" "z" "[I", .methodLink RX6 43 yX6_of, .instanceMethod yX6_of, .selects RX6 yX6_of yX6_of, .initialized RX6, .code yX6_of cX6_of 3 (some .int)] ++ wsX60)
def wsX6_isDirection : List Cond := .code yX6_isDirection cX6_isDirection 1 (some .boolean) :: ([.methodLink RX6 53 yX6_in, .static yX6_in, .initialized RX6, .code yX6_in cX6_in 4 (some .boolean)])
def wsX6_cross : List Cond := .code yX6_cross cX6_cross 4 (some .boolean) :: ([.methodLink RX6 47 yX6_low, .instanceMethod yX6_low, .selects RX6 yX6_low yX6_low, .initialized RX6, .code yX6_low cX6_low 3 (some .int), .methodLink RX6 43 yX6_of, .instanceMethod yX6_of, .selects RX6 yX6_of yX6_of, .code yX6_of cX6_of 3 (some .int), .fieldLink RX6 7 "HidingBoxesModel" "z" "[I", .methodLink RX6 57 yX6_high, .instanceMethod yX6_high, .selects RX6 yX6_high yX6_high, .code yX6_high cX6_high 3 (some .int), .methodLink RX6 50 yX6_size, .instanceMethod yX6_size, .selects RX6 yX6_size yX6_size, .code yX6_size cX6_size 3 (some .int)] ++ wsX60)
def wsX6_cutsAny : List Cond := .code yX6_cutsAny cX6_cutsAny 5 (some .boolean) :: ([.methodLink RX6 60 yX6_cross, .instanceMethod yX6_cross, .selects RX6 yX6_cross yX6_cross, .initialized RX6, .code yX6_cross cX6_cross 4 (some .boolean), .methodLink RX6 47 yX6_low, .instanceMethod yX6_low, .selects RX6 yX6_low yX6_low, .code yX6_low cX6_low 3 (some .int), .methodLink RX6 43 yX6_of, .instanceMethod yX6_of, .selects RX6 yX6_of yX6_of, .code yX6_of cX6_of 3 (some .int), .fieldLink RX6 7 "HidingBoxesModel" "z" "[I", .methodLink RX6 57 yX6_high, .instanceMethod yX6_high, .selects RX6 yX6_high yX6_high, .code yX6_high cX6_high 3 (some .int), .methodLink RX6 50 yX6_size, .instanceMethod yX6_size, .selects RX6 yX6_size yX6_size, .code yX6_size cX6_size 3 (some .int)] ++ wsX60)
def wsX6_reachesBelow : List Cond := .code yX6_reachesBelow cX6_reachesBelow 5 (some .boolean) :: ([.methodLink RX6 47 yX6_low, .instanceMethod yX6_low, .selects RX6 yX6_low yX6_low, .initialized RX6, .code yX6_low cX6_low 3 (some .int), .methodLink RX6 43 yX6_of, .instanceMethod yX6_of, .selects RX6 yX6_of yX6_of, .code yX6_of cX6_of 3 (some .int), .fieldLink RX6 7 "HidingBoxesModel" "z" "[I", .methodLink RX6 57 yX6_high, .instanceMethod yX6_high, .selects RX6 yX6_high yX6_high, .code yX6_high cX6_high 3 (some .int), .methodLink RX6 50 yX6_size, .instanceMethod yX6_size, .selects RX6 yX6_size yX6_size, .code yX6_size cX6_size 3 (some .int)] ++ wsX60)
def wsX6_overlap : List Cond := .code yX6_overlap cX6_overlap 6 (some .boolean) :: ([.methodLink RX6 64 yX6_reachesBelow, .instanceMethod yX6_reachesBelow, .selects RX6 yX6_reachesBelow yX6_reachesBelow, .initialized RX6, .code yX6_reachesBelow cX6_reachesBelow 5 (some .boolean), .methodLink RX6 47 yX6_low, .instanceMethod yX6_low, .selects RX6 yX6_low yX6_low, .code yX6_low cX6_low 3 (some .int), .methodLink RX6 43 yX6_of, .instanceMethod yX6_of, .selects RX6 yX6_of yX6_of, .code yX6_of cX6_of 3 (some .int), .fieldLink RX6 7 "HidingBoxesModel" "z" "[I", .methodLink RX6 57 yX6_high, .instanceMethod yX6_high, .selects RX6 yX6_high yX6_high, .code yX6_high cX6_high 3 (some .int), .methodLink RX6 50 yX6_size, .instanceMethod yX6_size, .selects RX6 yX6_size yX6_size, .code yX6_size cX6_size 3 (some .int)] ++ wsX60)
def wsX6_hidesBy_r1 : List Cond := [Cond.methodLink RX6 47 yX6_low, Cond.instanceMethod yX6_low, Cond.selects RX6 yX6_low yX6_low, Cond.initialized RX6, Cond.code yX6_low cX6_low 3 (some .int), Cond.methodLink RX6 43 yX6_of, Cond.instanceMethod yX6_of, Cond.selects RX6 yX6_of yX6_of, Cond.code yX6_of cX6_of 3 (some .int), Cond.fieldLink RX6 7 "HidingBoxesModel" "z" "[I", Cond.methodLink RX6 57 yX6_high, Cond.instanceMethod yX6_high, Cond.selects RX6 yX6_high yX6_high, Cond.code yX6_high cX6_high 3 (some .int), Cond.methodLink RX6 50 yX6_size, Cond.instanceMethod yX6_size, Cond.selects RX6 yX6_size yX6_size, Cond.code yX6_size cX6_size 3 (some .int), Cond.methodLink RX6 68 yX6_overlap, Cond.instanceMethod yX6_overlap, Cond.selects RX6 yX6_overlap yX6_overlap, Cond.code yX6_overlap cX6_overlap 6 (some .boolean), Cond.methodLink RX6 64 yX6_reachesBelow, Cond.instanceMethod yX6_reachesBelow]
def wsX6_hidesBy_r2 : List Cond := [Cond.selects RX6 yX6_reachesBelow yX6_reachesBelow, Cond.code yX6_reachesBelow cX6_reachesBelow 5 (some .boolean)]
def wsX6_hidesBy : List Cond := .code yX6_hidesBy cX6_hidesBy 5 (some .int) :: ((wsX6_hidesBy_r1 ++ wsX6_hidesBy_r2) ++ wsX60)
def wsX6_findHiding_r1 : List Cond := [Cond.fieldLink RX6 7 "HidingBoxesModel" "z" "[I", Cond.fieldLink RX6 25 "HidingBoxesModel" "hides" "[I", Cond.fieldLink RX6 28 "HidingBoxesModel" "reaches" "[I", Cond.methodLink RX6 72 yX6_hidesBy, Cond.instanceMethod yX6_hidesBy, Cond.selects RX6 yX6_hidesBy yX6_hidesBy, Cond.initialized RX6, Cond.code yX6_hidesBy cX6_hidesBy 5 (some .int), Cond.methodLink RX6 47 yX6_low, Cond.instanceMethod yX6_low, Cond.selects RX6 yX6_low yX6_low, Cond.code yX6_low cX6_low 3 (some .int), Cond.methodLink RX6 43 yX6_of, Cond.instanceMethod yX6_of, Cond.selects RX6 yX6_of yX6_of, Cond.code yX6_of cX6_of 3 (some .int), Cond.methodLink RX6 57 yX6_high, Cond.instanceMethod yX6_high, Cond.selects RX6 yX6_high yX6_high, Cond.code yX6_high cX6_high 3 (some .int), Cond.methodLink RX6 50 yX6_size, Cond.instanceMethod yX6_size, Cond.selects RX6 yX6_size yX6_size, Cond.code yX6_size cX6_size 3 (some .int)]
def wsX6_findHiding_r2 : List Cond := [Cond.methodLink RX6 68 yX6_overlap, Cond.instanceMethod yX6_overlap, Cond.selects RX6 yX6_overlap yX6_overlap, Cond.code yX6_overlap cX6_overlap 6 (some .boolean), Cond.methodLink RX6 64 yX6_reachesBelow, Cond.instanceMethod yX6_reachesBelow, Cond.selects RX6 yX6_reachesBelow yX6_reachesBelow, Cond.code yX6_reachesBelow cX6_reachesBelow 5 (some .boolean), Cond.methodLink RX6 75 yX6_has, Cond.static yX6_has, Cond.code yX6_has cX6_has 2 (some .boolean)]
def wsX6_findHiding : List Cond := .code yX6_findHiding cX6_findHiding 3 none :: ((wsX6_findHiding_r1 ++ wsX6_findHiding_r2) ++ wsX60)
def wsX6_isInRing : List Cond := .code yX6_isInRing cX6_isInRing 2 (some .boolean) :: ([.fieldLink RX6 28 "HidingBoxesModel" "reaches" "[I", .methodLink RX6 75 yX6_has, .static yX6_has, .initialized RX6, .code yX6_has cX6_has 2 (some .boolean)] ++ wsX60)
def wsX6_ringBoxes : List Cond := .code yX6_ringBoxes cX6_ringBoxes 3 (some .int) :: ([.fieldLink RX6 7 "HidingBoxesModel" "z" "[I", .methodLink RX6 78 yX6_isInRing, .instanceMethod yX6_isInRing, .selects RX6 yX6_isInRing yX6_isInRing, .initialized RX6, .code yX6_isInRing cX6_isInRing 2 (some .boolean), .fieldLink RX6 28 "HidingBoxesModel" "reaches" "[I", .methodLink RX6 75 yX6_has, .static yX6_has, .code yX6_has cX6_has 2 (some .boolean)] ++ wsX60)
def wsX6_hiddenByAny : List Cond := .code yX6_hiddenByAny cX6_hiddenByAny 4 (some .int) :: ([.fieldLink RX6 7 "HidingBoxesModel" "z" "[I", .fieldLink RX6 25 "HidingBoxesModel" "hides" "[I", .methodLink RX6 75 yX6_has, .static yX6_has, .initialized RX6, .code yX6_has cX6_has 2 (some .boolean)] ++ wsX60)
def wsX6_shortestRing : List Cond := .code yX6_shortestRing cX6_shortestRing 4 (some .int) :: ([.fieldLink RX6 25 "HidingBoxesModel" "hides" "[I", .methodLink RX6 75 yX6_has, .static yX6_has, .initialized RX6, .code yX6_has cX6_has 2 (some .boolean), .methodLink RX6 82 yX6_hiddenByAny, .instanceMethod yX6_hiddenByAny, .selects RX6 yX6_hiddenByAny yX6_hiddenByAny, .code yX6_hiddenByAny cX6_hiddenByAny 4 (some .int), .fieldLink RX6 7 "HidingBoxesModel" "z" "[I"] ++ wsX60)
def wsX6_shortestOfAll : List Cond := .code yX6_shortestOfAll cX6_shortestOfAll 4 (some .int) :: ([.fieldLink RX6 7 "HidingBoxesModel" "z" "[I", .methodLink RX6 78 yX6_isInRing, .instanceMethod yX6_isInRing, .selects RX6 yX6_isInRing yX6_isInRing, .initialized RX6, .code yX6_isInRing cX6_isInRing 2 (some .boolean), .fieldLink RX6 28 "HidingBoxesModel" "reaches" "[I", .methodLink RX6 75 yX6_has, .static yX6_has, .code yX6_has cX6_has 2 (some .boolean), .methodLink RX6 86 yX6_shortestRing, .instanceMethod yX6_shortestRing, .selects RX6 yX6_shortestRing yX6_shortestRing, .code yX6_shortestRing cX6_shortestRing 4 (some .int), .fieldLink RX6 25 "HidingBoxesModel" "hides" "[I", .methodLink RX6 82 yX6_hiddenByAny, .instanceMethod yX6_hiddenByAny, .selects RX6 yX6_hiddenByAny yX6_hiddenByAny, .code yX6_hiddenByAny cX6_hiddenByAny 4 (some .int)] ++ wsX60)
def wsX6_findLayers : List Cond := .code yX6_findLayers cX6_findLayers 5 none :: ([.fieldLink RX6 7 "HidingBoxesModel" "z" "[I", .fieldLink RX6 31 "HidingBoxesModel" "layers" "[I", .fieldLink RX6 28 "HidingBoxesModel" "reaches" "[I", .fieldLink RX6 25 "HidingBoxesModel" "hides" "[I", .methodLink RX6 89 yX6_ringBoxes, .instanceMethod yX6_ringBoxes, .selects RX6 yX6_ringBoxes yX6_ringBoxes, .initialized RX6, .code yX6_ringBoxes cX6_ringBoxes 3 (some .int), .methodLink RX6 78 yX6_isInRing, .instanceMethod yX6_isInRing, .selects RX6 yX6_isInRing yX6_isInRing, .code yX6_isInRing cX6_isInRing 2 (some .boolean), .methodLink RX6 75 yX6_has, .static yX6_has, .code yX6_has cX6_has 2 (some .boolean)] ++ wsX60)
def wsX6_weight : List Cond := .code yX6_weight cX6_weight 2 (some .int) :: ([.fieldLink RX6 7 "HidingBoxesModel" "z" "[I", .methodLink RX6 47 yX6_low, .instanceMethod yX6_low, .selects RX6 yX6_low yX6_low, .initialized RX6, .code yX6_low cX6_low 3 (some .int), .methodLink RX6 43 yX6_of, .instanceMethod yX6_of, .selects RX6 yX6_of yX6_of, .code yX6_of cX6_of 3 (some .int), .methodLink RX6 93 yX6_volume, .instanceMethod yX6_volume, .selects RX6 yX6_volume yX6_volume, .code yX6_volume cX6_volume 2 (some .int), .methodLink RX6 50 yX6_size, .instanceMethod yX6_size, .selects RX6 yX6_size yX6_size, .code yX6_size cX6_size 3 (some .int)] ++ wsX60)
def wsX6_drawAll_r1 : List Cond := [Cond.fieldLink RX6 7 "HidingBoxesModel" "z" "[I", Cond.fieldLink RX6 96 "HidingBoxesModel" "drawn" "I", Cond.fieldLink RX6 25 "HidingBoxesModel" "hides" "[I", Cond.fieldLink RX6 34 "HidingBoxesModel" "order" "[I", Cond.methodLink RX6 75 yX6_has, Cond.static yX6_has, Cond.initialized RX6, Cond.code yX6_has cX6_has 2 (some .boolean), Cond.methodLink RX6 100 yX6_weight, Cond.instanceMethod yX6_weight, Cond.selects RX6 yX6_weight yX6_weight, Cond.code yX6_weight cX6_weight 2 (some .int), Cond.methodLink RX6 47 yX6_low, Cond.instanceMethod yX6_low, Cond.selects RX6 yX6_low yX6_low, Cond.code yX6_low cX6_low 3 (some .int), Cond.methodLink RX6 43 yX6_of, Cond.instanceMethod yX6_of, Cond.selects RX6 yX6_of yX6_of, Cond.code yX6_of cX6_of 3 (some .int), Cond.methodLink RX6 93 yX6_volume, Cond.instanceMethod yX6_volume, Cond.selects RX6 yX6_volume yX6_volume, Cond.code yX6_volume cX6_volume 2 (some .int)]
def wsX6_drawAll_r2 : List Cond := [Cond.methodLink RX6 50 yX6_size, Cond.instanceMethod yX6_size, Cond.selects RX6 yX6_size yX6_size, Cond.code yX6_size cX6_size 3 (some .int)]
def wsX6_drawAll : List Cond := .code yX6_drawAll cX6_drawAll 6 none :: ((wsX6_drawAll_r1 ++ wsX6_drawAll_r2) ++ wsX60)
def wsX6_drawnSet : List Cond := .code yX6_drawnSet cX6_drawnSet 3 (some .int) :: ([.fieldLink RX6 96 "HidingBoxesModel" "drawn" "I", .fieldLink RX6 34 "HidingBoxesModel" "order" "[I"] ++ wsX60)
def wsX6_push : List Cond := .code yX6_push cX6_push 3 none :: ([.fieldLink RX6 103 "HidingBoxesModel" "states" "I", .fieldLink RX6 16 "HidingBoxesModel" "old" "[I"] ++ wsX60)
def wsX6_putAside : List Cond := .code yX6_putAside cX6_putAside 2 none :: ([.fieldLink RX6 13 "HidingBoxesModel" "aside" "[I", .fieldLink RX6 7 "HidingBoxesModel" "z" "[I"] ++ wsX60)
def wsX6_putBack : List Cond := .code yX6_putBack cX6_putBack 2 none :: ([.fieldLink RX6 7 "HidingBoxesModel" "z" "[I", .fieldLink RX6 13 "HidingBoxesModel" "aside" "[I"] ++ wsX60)
def wsX6_undo : List Cond := .code yX6_undo cX6_undo 2 (some .int) :: ([.fieldLink RX6 103 "HidingBoxesModel" "states" "I", .fieldLink RX6 7 "HidingBoxesModel" "z" "[I", .fieldLink RX6 16 "HidingBoxesModel" "old" "[I"] ++ wsX60)
def wsX6_keep : List Cond := .code yX6_keep cX6_keep 2 (some .int) :: ([.fieldLink RX6 19 "HidingBoxesModel" "kept" "[I", .fieldLink RX6 7 "HidingBoxesModel" "z" "[I", .fieldLink RX6 106 "HidingBoxesModel" "isKept" "Z"] ++ wsX60)
def wsX6_restore : List Cond := .code yX6_restore cX6_restore 2 (some .int) :: ([.fieldLink RX6 106 "HidingBoxesModel" "isKept" "Z", .fieldLink RX6 7 "HidingBoxesModel" "z" "[I", .fieldLink RX6 19 "HidingBoxesModel" "kept" "[I", .methodLink RX6 110 yX6_push, .instanceMethod yX6_push, .selects RX6 yX6_push yX6_push, .initialized RX6, .code yX6_push cX6_push 3 none, .fieldLink RX6 103 "HidingBoxesModel" "states" "I", .fieldLink RX6 16 "HidingBoxesModel" "old" "[I"] ++ wsX60)
def wsX6_tryBox : List Cond := .code yX6_tryBox cX6_tryBox 11 (some .int) :: ([.fieldLink RX6 7 "HidingBoxesModel" "z" "[I", .methodLink RX6 53 yX6_in, .static yX6_in, .initialized RX6, .code yX6_in cX6_in 4 (some .boolean), .methodLink RX6 57 yX6_high, .instanceMethod yX6_high, .selects RX6 yX6_high yX6_high, .code yX6_high cX6_high 3 (some .int), .methodLink RX6 47 yX6_low, .instanceMethod yX6_low, .selects RX6 yX6_low yX6_low, .code yX6_low cX6_low 3 (some .int), .methodLink RX6 43 yX6_of, .instanceMethod yX6_of, .selects RX6 yX6_of yX6_of, .code yX6_of cX6_of 3 (some .int), .methodLink RX6 50 yX6_size, .instanceMethod yX6_size, .selects RX6 yX6_size yX6_size, .code yX6_size cX6_size 3 (some .int)] ++ wsX60)
def wsX6_putBox : List Cond := .code yX6_putBox cX6_putBox 8 (some .int) :: ([.fieldLink RX6 7 "HidingBoxesModel" "z" "[I", .methodLink RX6 114 yX6_put, .instanceMethod yX6_put, .selects RX6 yX6_put yX6_put, .initialized RX6, .code yX6_put cX6_put 4 none] ++ wsX60)
def wsX6_add_r1 : List Cond := [Cond.fieldLink RX6 7 "HidingBoxesModel" "z" "[I", Cond.methodLink RX6 118 yX6_tryBox, Cond.instanceMethod yX6_tryBox, Cond.selects RX6 yX6_tryBox yX6_tryBox, Cond.initialized RX6, Cond.code yX6_tryBox cX6_tryBox 11 (some .int), Cond.methodLink RX6 53 yX6_in, Cond.static yX6_in, Cond.code yX6_in cX6_in 4 (some .boolean), Cond.methodLink RX6 57 yX6_high, Cond.instanceMethod yX6_high, Cond.selects RX6 yX6_high yX6_high, Cond.code yX6_high cX6_high 3 (some .int), Cond.methodLink RX6 47 yX6_low, Cond.instanceMethod yX6_low, Cond.selects RX6 yX6_low yX6_low, Cond.code yX6_low cX6_low 3 (some .int), Cond.methodLink RX6 43 yX6_of, Cond.instanceMethod yX6_of, Cond.selects RX6 yX6_of yX6_of, Cond.code yX6_of cX6_of 3 (some .int), Cond.methodLink RX6 50 yX6_size, Cond.instanceMethod yX6_size, Cond.selects RX6 yX6_size yX6_size]
def wsX6_add_r2 : List Cond := [Cond.code yX6_size cX6_size 3 (some .int), Cond.methodLink RX6 110 yX6_push, Cond.instanceMethod yX6_push, Cond.selects RX6 yX6_push yX6_push, Cond.code yX6_push cX6_push 3 none, Cond.fieldLink RX6 103 "HidingBoxesModel" "states" "I", Cond.fieldLink RX6 16 "HidingBoxesModel" "old" "[I", Cond.methodLink RX6 122 yX6_putBox, Cond.instanceMethod yX6_putBox, Cond.selects RX6 yX6_putBox yX6_putBox, Cond.code yX6_putBox cX6_putBox 8 (some .int), Cond.methodLink RX6 114 yX6_put, Cond.instanceMethod yX6_put, Cond.selects RX6 yX6_put yX6_put, Cond.code yX6_put cX6_put 4 none]
def wsX6_add : List Cond := .code yX6_add cX6_add 8 (some .int) :: ((wsX6_add_r1 ++ wsX6_add_r2) ++ wsX60)
def wsX6_remove : List Cond := .code yX6_remove cX6_remove 5 (some .int) :: ([.fieldLink RX6 7 "HidingBoxesModel" "z" "[I", .methodLink RX6 125 yX6_rankOf, .instanceMethod yX6_rankOf, .selects RX6 yX6_rankOf yX6_rankOf, .initialized RX6, .code yX6_rankOf cX6_rankOf 4 (some .int), .methodLink RX6 43 yX6_of, .instanceMethod yX6_of, .selects RX6 yX6_of yX6_of, .code yX6_of cX6_of 3 (some .int), .methodLink RX6 110 yX6_push, .instanceMethod yX6_push, .selects RX6 yX6_push yX6_push, .code yX6_push cX6_push 3 none, .fieldLink RX6 103 "HidingBoxesModel" "states" "I", .fieldLink RX6 16 "HidingBoxesModel" "old" "[I", .methodLink RX6 93 yX6_volume, .instanceMethod yX6_volume, .selects RX6 yX6_volume yX6_volume, .code yX6_volume cX6_volume 2 (some .int), .methodLink RX6 50 yX6_size, .instanceMethod yX6_size, .selects RX6 yX6_size yX6_size, .code yX6_size cX6_size 3 (some .int)] ++ wsX60)
def wsX6_move_r1 : List Cond := [Cond.fieldLink RX6 7 "HidingBoxesModel" "z" "[I", Cond.methodLink RX6 125 yX6_rankOf, Cond.instanceMethod yX6_rankOf, Cond.selects RX6 yX6_rankOf yX6_rankOf, Cond.initialized RX6, Cond.code yX6_rankOf cX6_rankOf 4 (some .int), Cond.methodLink RX6 43 yX6_of, Cond.instanceMethod yX6_of, Cond.selects RX6 yX6_of yX6_of, Cond.code yX6_of cX6_of 3 (some .int), Cond.methodLink RX6 128 yX6_isDirection, Cond.static yX6_isDirection, Cond.code yX6_isDirection cX6_isDirection 1 (some .boolean), Cond.methodLink RX6 53 yX6_in, Cond.static yX6_in, Cond.code yX6_in cX6_in 4 (some .boolean), Cond.methodLink RX6 47 yX6_low, Cond.instanceMethod yX6_low, Cond.selects RX6 yX6_low yX6_low, Cond.code yX6_low cX6_low 3 (some .int), Cond.methodLink RX6 50 yX6_size, Cond.instanceMethod yX6_size, Cond.selects RX6 yX6_size yX6_size, Cond.code yX6_size cX6_size 3 (some .int)]
def wsX6_move_r2 : List Cond := [Cond.methodLink RX6 114 yX6_put, Cond.instanceMethod yX6_put, Cond.selects RX6 yX6_put yX6_put, Cond.code yX6_put cX6_put 4 none, Cond.methodLink RX6 131 yX6_cutsAny, Cond.instanceMethod yX6_cutsAny, Cond.selects RX6 yX6_cutsAny yX6_cutsAny, Cond.code yX6_cutsAny cX6_cutsAny 5 (some .boolean), Cond.methodLink RX6 60 yX6_cross, Cond.instanceMethod yX6_cross, Cond.selects RX6 yX6_cross yX6_cross, Cond.code yX6_cross cX6_cross 4 (some .boolean), Cond.methodLink RX6 57 yX6_high, Cond.instanceMethod yX6_high, Cond.selects RX6 yX6_high yX6_high, Cond.code yX6_high cX6_high 3 (some .int), Cond.methodLink RX6 110 yX6_push, Cond.instanceMethod yX6_push, Cond.selects RX6 yX6_push yX6_push, Cond.code yX6_push cX6_push 3 none, Cond.fieldLink RX6 103 "HidingBoxesModel" "states" "I", Cond.fieldLink RX6 16 "HidingBoxesModel" "old" "[I"]
def wsX6_move : List Cond := .code yX6_move cX6_move 9 (some .int) :: ((wsX6_move_r1 ++ wsX6_move_r2) ++ wsX60)
def wsX6_isBelow : List Cond := .code yX6_isBelow cX6_isBelow 3 (some .boolean) :: ([.methodLink RX6 60 yX6_cross, .instanceMethod yX6_cross, .selects RX6 yX6_cross yX6_cross, .initialized RX6, .code yX6_cross cX6_cross 4 (some .boolean), .methodLink RX6 47 yX6_low, .instanceMethod yX6_low, .selects RX6 yX6_low yX6_low, .code yX6_low cX6_low 3 (some .int), .methodLink RX6 43 yX6_of, .instanceMethod yX6_of, .selects RX6 yX6_of yX6_of, .code yX6_of cX6_of 3 (some .int), .fieldLink RX6 7 "HidingBoxesModel" "z" "[I", .methodLink RX6 57 yX6_high, .instanceMethod yX6_high, .selects RX6 yX6_high yX6_high, .code yX6_high cX6_high 3 (some .int), .methodLink RX6 50 yX6_size, .instanceMethod yX6_size, .selects RX6 yX6_size yX6_size, .code yX6_size cX6_size 3 (some .int)] ++ wsX60)
def wsX6_fall_r1 : List Cond := [Cond.fieldLink RX6 7 "HidingBoxesModel" "z" "[I", Cond.methodLink RX6 125 yX6_rankOf, Cond.instanceMethod yX6_rankOf, Cond.selects RX6 yX6_rankOf yX6_rankOf, Cond.initialized RX6, Cond.code yX6_rankOf cX6_rankOf 4 (some .int), Cond.methodLink RX6 43 yX6_of, Cond.instanceMethod yX6_of, Cond.selects RX6 yX6_of yX6_of, Cond.code yX6_of cX6_of 3 (some .int), Cond.methodLink RX6 134 yX6_isBelow, Cond.instanceMethod yX6_isBelow, Cond.selects RX6 yX6_isBelow yX6_isBelow, Cond.code yX6_isBelow cX6_isBelow 3 (some .boolean), Cond.methodLink RX6 60 yX6_cross, Cond.instanceMethod yX6_cross, Cond.selects RX6 yX6_cross yX6_cross, Cond.code yX6_cross cX6_cross 4 (some .boolean), Cond.methodLink RX6 47 yX6_low, Cond.instanceMethod yX6_low, Cond.selects RX6 yX6_low yX6_low, Cond.code yX6_low cX6_low 3 (some .int), Cond.methodLink RX6 57 yX6_high, Cond.instanceMethod yX6_high]
def wsX6_fall_r2 : List Cond := [Cond.selects RX6 yX6_high yX6_high, Cond.code yX6_high cX6_high 3 (some .int), Cond.methodLink RX6 50 yX6_size, Cond.instanceMethod yX6_size, Cond.selects RX6 yX6_size yX6_size, Cond.code yX6_size cX6_size 3 (some .int), Cond.methodLink RX6 110 yX6_push, Cond.instanceMethod yX6_push, Cond.selects RX6 yX6_push yX6_push, Cond.code yX6_push cX6_push 3 none, Cond.fieldLink RX6 103 "HidingBoxesModel" "states" "I", Cond.fieldLink RX6 16 "HidingBoxesModel" "old" "[I", Cond.methodLink RX6 114 yX6_put, Cond.instanceMethod yX6_put, Cond.selects RX6 yX6_put yX6_put, Cond.code yX6_put cX6_put 4 none]
def wsX6_fall : List Cond := .code yX6_fall cX6_fall 5 (some .int) :: ((wsX6_fall_r1 ++ wsX6_fall_r2) ++ wsX60)
def wsX6_doSplit_r1 : List Cond := [Cond.fieldLink RX6 7 "HidingBoxesModel" "z" "[I", Cond.methodLink RX6 57 yX6_high, Cond.instanceMethod yX6_high, Cond.selects RX6 yX6_high yX6_high, Cond.initialized RX6, Cond.code yX6_high cX6_high 3 (some .int), Cond.methodLink RX6 47 yX6_low, Cond.instanceMethod yX6_low, Cond.selects RX6 yX6_low yX6_low, Cond.code yX6_low cX6_low 3 (some .int), Cond.methodLink RX6 43 yX6_of, Cond.instanceMethod yX6_of, Cond.selects RX6 yX6_of yX6_of, Cond.code yX6_of cX6_of 3 (some .int), Cond.methodLink RX6 50 yX6_size, Cond.instanceMethod yX6_size, Cond.selects RX6 yX6_size yX6_size, Cond.code yX6_size cX6_size 3 (some .int), Cond.methodLink RX6 114 yX6_put, Cond.instanceMethod yX6_put, Cond.selects RX6 yX6_put yX6_put, Cond.code yX6_put cX6_put 4 none, Cond.methodLink RX6 122 yX6_putBox, Cond.instanceMethod yX6_putBox]
def wsX6_doSplit_r2 : List Cond := [Cond.selects RX6 yX6_putBox yX6_putBox, Cond.code yX6_putBox cX6_putBox 8 (some .int)]
def wsX6_doSplit : List Cond := .code yX6_doSplit cX6_doSplit 6 (some .int) :: ((wsX6_doSplit_r1 ++ wsX6_doSplit_r2) ++ wsX60)
def wsX6_split_r1 : List Cond := [Cond.fieldLink RX6 7 "HidingBoxesModel" "z" "[I", Cond.methodLink RX6 125 yX6_rankOf, Cond.instanceMethod yX6_rankOf, Cond.selects RX6 yX6_rankOf yX6_rankOf, Cond.initialized RX6, Cond.code yX6_rankOf cX6_rankOf 4 (some .int), Cond.methodLink RX6 43 yX6_of, Cond.instanceMethod yX6_of, Cond.selects RX6 yX6_of yX6_of, Cond.code yX6_of cX6_of 3 (some .int), Cond.methodLink RX6 128 yX6_isDirection, Cond.static yX6_isDirection, Cond.code yX6_isDirection cX6_isDirection 1 (some .boolean), Cond.methodLink RX6 53 yX6_in, Cond.static yX6_in, Cond.code yX6_in cX6_in 4 (some .boolean), Cond.methodLink RX6 47 yX6_low, Cond.instanceMethod yX6_low, Cond.selects RX6 yX6_low yX6_low, Cond.code yX6_low cX6_low 3 (some .int), Cond.methodLink RX6 57 yX6_high, Cond.instanceMethod yX6_high, Cond.selects RX6 yX6_high yX6_high, Cond.code yX6_high cX6_high 3 (some .int)]
def wsX6_split_r2 : List Cond := [Cond.methodLink RX6 50 yX6_size, Cond.instanceMethod yX6_size, Cond.selects RX6 yX6_size yX6_size, Cond.code yX6_size cX6_size 3 (some .int), Cond.methodLink RX6 110 yX6_push, Cond.instanceMethod yX6_push, Cond.selects RX6 yX6_push yX6_push, Cond.code yX6_push cX6_push 3 none, Cond.fieldLink RX6 103 "HidingBoxesModel" "states" "I", Cond.fieldLink RX6 16 "HidingBoxesModel" "old" "[I", Cond.methodLink RX6 137 yX6_doSplit, Cond.instanceMethod yX6_doSplit, Cond.selects RX6 yX6_doSplit yX6_doSplit, Cond.code yX6_doSplit cX6_doSplit 6 (some .int), Cond.methodLink RX6 114 yX6_put, Cond.instanceMethod yX6_put, Cond.selects RX6 yX6_put yX6_put, Cond.code yX6_put cX6_put 4 none, Cond.methodLink RX6 122 yX6_putBox, Cond.instanceMethod yX6_putBox, Cond.selects RX6 yX6_putBox yX6_putBox, Cond.code yX6_putBox cX6_putBox 8 (some .int)]
def wsX6_split : List Cond := .code yX6_split cX6_split 5 (some .int) :: ((wsX6_split_r1 ++ wsX6_split_r2) ++ wsX60)
def wsX6_breakAt_r1 : List Cond := [Cond.fieldLink RX6 7 "HidingBoxesModel" "z" "[I", Cond.methodLink RX6 141 yX6_findHiding, Cond.instanceMethod yX6_findHiding, Cond.selects RX6 yX6_findHiding yX6_findHiding, Cond.initialized RX6, Cond.code yX6_findHiding cX6_findHiding 3 none, Cond.fieldLink RX6 25 "HidingBoxesModel" "hides" "[I", Cond.fieldLink RX6 28 "HidingBoxesModel" "reaches" "[I", Cond.methodLink RX6 72 yX6_hidesBy, Cond.instanceMethod yX6_hidesBy, Cond.selects RX6 yX6_hidesBy yX6_hidesBy, Cond.code yX6_hidesBy cX6_hidesBy 5 (some .int), Cond.methodLink RX6 47 yX6_low, Cond.instanceMethod yX6_low, Cond.selects RX6 yX6_low yX6_low, Cond.code yX6_low cX6_low 3 (some .int), Cond.methodLink RX6 43 yX6_of, Cond.instanceMethod yX6_of, Cond.selects RX6 yX6_of yX6_of, Cond.code yX6_of cX6_of 3 (some .int), Cond.methodLink RX6 57 yX6_high, Cond.instanceMethod yX6_high, Cond.selects RX6 yX6_high yX6_high, Cond.code yX6_high cX6_high 3 (some .int)]
def wsX6_breakAt_r2 : List Cond := [Cond.methodLink RX6 50 yX6_size, Cond.instanceMethod yX6_size, Cond.selects RX6 yX6_size yX6_size, Cond.code yX6_size cX6_size 3 (some .int), Cond.methodLink RX6 68 yX6_overlap, Cond.instanceMethod yX6_overlap, Cond.selects RX6 yX6_overlap yX6_overlap, Cond.code yX6_overlap cX6_overlap 6 (some .boolean), Cond.methodLink RX6 64 yX6_reachesBelow, Cond.instanceMethod yX6_reachesBelow, Cond.selects RX6 yX6_reachesBelow yX6_reachesBelow, Cond.code yX6_reachesBelow cX6_reachesBelow 5 (some .boolean), Cond.methodLink RX6 75 yX6_has, Cond.static yX6_has, Cond.code yX6_has cX6_has 2 (some .boolean), Cond.methodLink RX6 78 yX6_isInRing, Cond.instanceMethod yX6_isInRing, Cond.selects RX6 yX6_isInRing yX6_isInRing, Cond.code yX6_isInRing cX6_isInRing 2 (some .boolean), Cond.methodLink RX6 93 yX6_volume, Cond.instanceMethod yX6_volume, Cond.selects RX6 yX6_volume yX6_volume, Cond.code yX6_volume cX6_volume 2 (some .int)]
def wsX6_breakAt : List Cond := .code yX6_breakAt cX6_breakAt 3 (some .int) :: ((wsX6_breakAt_r1 ++ wsX6_breakAt_r2) ++ wsX60)
def wsX6_greatestDirection : List Cond := .code yX6_greatestDirection cX6_greatestDirection 4 (some .int) :: ([.methodLink RX6 50 yX6_size, .instanceMethod yX6_size, .selects RX6 yX6_size yX6_size, .initialized RX6, .code yX6_size cX6_size 3 (some .int), .methodLink RX6 43 yX6_of, .instanceMethod yX6_of, .selects RX6 yX6_of yX6_of, .code yX6_of cX6_of 3 (some .int), .fieldLink RX6 7 "HidingBoxesModel" "z" "[I"] ++ wsX60)
def wsX6_whyNoBreak : List Cond := .code yX6_whyNoBreak cX6_whyNoBreak 2 (some .int) :: ([.fieldLink RX6 7 "HidingBoxesModel" "z" "[I", .methodLink RX6 144 yX6_greatestDirection, .instanceMethod yX6_greatestDirection, .selects RX6 yX6_greatestDirection yX6_greatestDirection, .initialized RX6, .code yX6_greatestDirection cX6_greatestDirection 4 (some .int), .methodLink RX6 50 yX6_size, .instanceMethod yX6_size, .selects RX6 yX6_size yX6_size, .code yX6_size cX6_size 3 (some .int), .methodLink RX6 43 yX6_of, .instanceMethod yX6_of, .selects RX6 yX6_of yX6_of, .code yX6_of cX6_of 3 (some .int)] ++ wsX60)
def wsX6_doBreak_r1 : List Cond := [Cond.methodLink RX6 144 yX6_greatestDirection, Cond.instanceMethod yX6_greatestDirection, Cond.selects RX6 yX6_greatestDirection yX6_greatestDirection, Cond.initialized RX6, Cond.code yX6_greatestDirection cX6_greatestDirection 4 (some .int), Cond.methodLink RX6 50 yX6_size, Cond.instanceMethod yX6_size, Cond.selects RX6 yX6_size yX6_size, Cond.code yX6_size cX6_size 3 (some .int), Cond.methodLink RX6 43 yX6_of, Cond.instanceMethod yX6_of, Cond.selects RX6 yX6_of yX6_of, Cond.code yX6_of cX6_of 3 (some .int), Cond.fieldLink RX6 7 "HidingBoxesModel" "z" "[I", Cond.methodLink RX6 47 yX6_low, Cond.instanceMethod yX6_low, Cond.selects RX6 yX6_low yX6_low, Cond.code yX6_low cX6_low 3 (some .int), Cond.methodLink RX6 137 yX6_doSplit, Cond.instanceMethod yX6_doSplit, Cond.selects RX6 yX6_doSplit yX6_doSplit, Cond.code yX6_doSplit cX6_doSplit 6 (some .int), Cond.methodLink RX6 57 yX6_high, Cond.instanceMethod yX6_high]
def wsX6_doBreak_r2 : List Cond := [Cond.selects RX6 yX6_high yX6_high, Cond.code yX6_high cX6_high 3 (some .int), Cond.methodLink RX6 114 yX6_put, Cond.instanceMethod yX6_put, Cond.selects RX6 yX6_put yX6_put, Cond.code yX6_put cX6_put 4 none, Cond.methodLink RX6 122 yX6_putBox, Cond.instanceMethod yX6_putBox, Cond.selects RX6 yX6_putBox yX6_putBox, Cond.code yX6_putBox cX6_putBox 8 (some .int)]
def wsX6_doBreak : List Cond := .code yX6_doBreak cX6_doBreak 3 (some .int) :: ((wsX6_doBreak_r1 ++ wsX6_doBreak_r2) ++ wsX60)
def wsX6_breakRing_r1 : List Cond := [Cond.fieldLink RX6 7 "HidingBoxesModel" "z" "[I", Cond.methodLink RX6 147 yX6_breakAt, Cond.instanceMethod yX6_breakAt, Cond.selects RX6 yX6_breakAt yX6_breakAt, Cond.initialized RX6, Cond.code yX6_breakAt cX6_breakAt 3 (some .int), Cond.methodLink RX6 141 yX6_findHiding, Cond.instanceMethod yX6_findHiding, Cond.selects RX6 yX6_findHiding yX6_findHiding, Cond.code yX6_findHiding cX6_findHiding 3 none, Cond.fieldLink RX6 25 "HidingBoxesModel" "hides" "[I", Cond.fieldLink RX6 28 "HidingBoxesModel" "reaches" "[I", Cond.methodLink RX6 72 yX6_hidesBy, Cond.instanceMethod yX6_hidesBy, Cond.selects RX6 yX6_hidesBy yX6_hidesBy, Cond.code yX6_hidesBy cX6_hidesBy 5 (some .int), Cond.methodLink RX6 47 yX6_low, Cond.instanceMethod yX6_low, Cond.selects RX6 yX6_low yX6_low, Cond.code yX6_low cX6_low 3 (some .int), Cond.methodLink RX6 43 yX6_of, Cond.instanceMethod yX6_of, Cond.selects RX6 yX6_of yX6_of, Cond.code yX6_of cX6_of 3 (some .int)]
def wsX6_breakRing_r2 : List Cond := [Cond.methodLink RX6 57 yX6_high, Cond.instanceMethod yX6_high, Cond.selects RX6 yX6_high yX6_high, Cond.code yX6_high cX6_high 3 (some .int), Cond.methodLink RX6 50 yX6_size, Cond.instanceMethod yX6_size, Cond.selects RX6 yX6_size yX6_size, Cond.code yX6_size cX6_size 3 (some .int), Cond.methodLink RX6 68 yX6_overlap, Cond.instanceMethod yX6_overlap, Cond.selects RX6 yX6_overlap yX6_overlap, Cond.code yX6_overlap cX6_overlap 6 (some .boolean), Cond.methodLink RX6 64 yX6_reachesBelow, Cond.instanceMethod yX6_reachesBelow, Cond.selects RX6 yX6_reachesBelow yX6_reachesBelow, Cond.code yX6_reachesBelow cX6_reachesBelow 5 (some .boolean), Cond.methodLink RX6 75 yX6_has, Cond.static yX6_has, Cond.code yX6_has cX6_has 2 (some .boolean), Cond.methodLink RX6 78 yX6_isInRing, Cond.instanceMethod yX6_isInRing, Cond.selects RX6 yX6_isInRing yX6_isInRing, Cond.code yX6_isInRing cX6_isInRing 2 (some .boolean), Cond.methodLink RX6 93 yX6_volume]
def wsX6_breakRing_r3 : List Cond := [Cond.instanceMethod yX6_volume, Cond.selects RX6 yX6_volume yX6_volume, Cond.code yX6_volume cX6_volume 2 (some .int), Cond.methodLink RX6 150 yX6_whyNoBreak, Cond.instanceMethod yX6_whyNoBreak, Cond.selects RX6 yX6_whyNoBreak yX6_whyNoBreak, Cond.code yX6_whyNoBreak cX6_whyNoBreak 2 (some .int), Cond.methodLink RX6 144 yX6_greatestDirection, Cond.instanceMethod yX6_greatestDirection, Cond.selects RX6 yX6_greatestDirection yX6_greatestDirection, Cond.code yX6_greatestDirection cX6_greatestDirection 4 (some .int), Cond.methodLink RX6 110 yX6_push, Cond.instanceMethod yX6_push, Cond.selects RX6 yX6_push yX6_push, Cond.code yX6_push cX6_push 3 none, Cond.fieldLink RX6 103 "HidingBoxesModel" "states" "I", Cond.fieldLink RX6 16 "HidingBoxesModel" "old" "[I", Cond.methodLink RX6 153 yX6_doBreak, Cond.instanceMethod yX6_doBreak, Cond.selects RX6 yX6_doBreak yX6_doBreak, Cond.code yX6_doBreak cX6_doBreak 3 (some .int), Cond.methodLink RX6 137 yX6_doSplit, Cond.instanceMethod yX6_doSplit, Cond.selects RX6 yX6_doSplit yX6_doSplit]
def wsX6_breakRing_r4 : List Cond := [Cond.code yX6_doSplit cX6_doSplit 6 (some .int), Cond.methodLink RX6 114 yX6_put, Cond.instanceMethod yX6_put, Cond.selects RX6 yX6_put yX6_put, Cond.code yX6_put cX6_put 4 none, Cond.methodLink RX6 122 yX6_putBox, Cond.instanceMethod yX6_putBox, Cond.selects RX6 yX6_putBox yX6_putBox, Cond.code yX6_putBox cX6_putBox 8 (some .int)]
def wsX6_breakRing : List Cond := .code yX6_breakRing cX6_breakRing 3 (some .int) :: ((wsX6_breakRing_r1 ++ (wsX6_breakRing_r2 ++ (wsX6_breakRing_r3 ++ wsX6_breakRing_r4))) ++ wsX60)
def wsX6_turn_r1 : List Cond := [Cond.fieldLink RX6 7 "HidingBoxesModel" "z" "[I", Cond.fieldLink RX6 37 "HidingBoxesModel" "before" "[I", Cond.fieldLink RX6 25 "HidingBoxesModel" "hides" "[I", Cond.methodLink RX6 110 yX6_push, Cond.instanceMethod yX6_push, Cond.selects RX6 yX6_push yX6_push, Cond.initialized RX6, Cond.code yX6_push cX6_push 3 none, Cond.fieldLink RX6 103 "HidingBoxesModel" "states" "I", Cond.fieldLink RX6 16 "HidingBoxesModel" "old" "[I", Cond.methodLink RX6 141 yX6_findHiding, Cond.instanceMethod yX6_findHiding, Cond.selects RX6 yX6_findHiding yX6_findHiding, Cond.code yX6_findHiding cX6_findHiding 3 none, Cond.fieldLink RX6 28 "HidingBoxesModel" "reaches" "[I", Cond.methodLink RX6 72 yX6_hidesBy, Cond.instanceMethod yX6_hidesBy, Cond.selects RX6 yX6_hidesBy yX6_hidesBy, Cond.code yX6_hidesBy cX6_hidesBy 5 (some .int), Cond.methodLink RX6 47 yX6_low, Cond.instanceMethod yX6_low, Cond.selects RX6 yX6_low yX6_low, Cond.code yX6_low cX6_low 3 (some .int), Cond.methodLink RX6 43 yX6_of]
def wsX6_turn_r2 : List Cond := [Cond.instanceMethod yX6_of, Cond.selects RX6 yX6_of yX6_of, Cond.code yX6_of cX6_of 3 (some .int), Cond.methodLink RX6 57 yX6_high, Cond.instanceMethod yX6_high, Cond.selects RX6 yX6_high yX6_high, Cond.code yX6_high cX6_high 3 (some .int), Cond.methodLink RX6 50 yX6_size, Cond.instanceMethod yX6_size, Cond.selects RX6 yX6_size yX6_size, Cond.code yX6_size cX6_size 3 (some .int), Cond.methodLink RX6 68 yX6_overlap, Cond.instanceMethod yX6_overlap, Cond.selects RX6 yX6_overlap yX6_overlap, Cond.code yX6_overlap cX6_overlap 6 (some .boolean), Cond.methodLink RX6 64 yX6_reachesBelow, Cond.instanceMethod yX6_reachesBelow, Cond.selects RX6 yX6_reachesBelow yX6_reachesBelow, Cond.code yX6_reachesBelow cX6_reachesBelow 5 (some .boolean), Cond.methodLink RX6 75 yX6_has, Cond.static yX6_has, Cond.code yX6_has cX6_has 2 (some .boolean), Cond.methodLink RX6 114 yX6_put, Cond.instanceMethod yX6_put]
def wsX6_turn_r3 : List Cond := [Cond.selects RX6 yX6_put yX6_put, Cond.code yX6_put cX6_put 4 none, Cond.methodLink RX6 156 yX6_ones, Cond.static yX6_ones, Cond.code yX6_ones cX6_ones 3 (some .int)]
def wsX6_turn : List Cond := .code yX6_turn cX6_turn 4 (some .int) :: ((wsX6_turn_r1 ++ (wsX6_turn_r2 ++ wsX6_turn_r3)) ++ wsX60)
def wsX6_set : List Cond := .code yX6_set cX6_set 4 (some .int) :: ([.fieldLink RX6 7 "HidingBoxesModel" "z" "[I", .methodLink RX6 53 yX6_in, .static yX6_in, .initialized RX6, .code yX6_in cX6_in 4 (some .boolean), .methodLink RX6 110 yX6_push, .instanceMethod yX6_push, .selects RX6 yX6_push yX6_push, .code yX6_push cX6_push 3 none, .fieldLink RX6 103 "HidingBoxesModel" "states" "I", .fieldLink RX6 16 "HidingBoxesModel" "old" "[I"] ++ wsX60)
def wsX6_type : List Cond := .code yX6_type cX6_type 2 (some .int) :: ([.fieldLink RX6 159 "HidingBoxesModel" "length" "I", .fieldLink RX6 22 "HidingBoxesModel" "text" "[I"] ++ wsX60)
def wsX6_clearText : List Cond := .code yX6_clearText cX6_clearText 2 (some .int) :: ([.fieldLink RX6 159 "HidingBoxesModel" "length" "I"] ++ wsX60)
def wsX6_sign : List Cond := .code yX6_sign cX6_sign 1 (some .int) :: ([.fieldLink RX6 162 "HidingBoxesModel" "place" "I", .fieldLink RX6 159 "HidingBoxesModel" "length" "I", .fieldLink RX6 22 "HidingBoxesModel" "text" "[I"] ++ wsX60)
def wsX6_take : List Cond := .code yX6_take cX6_take 2 none :: ([.fieldLink RX6 165 "HidingBoxesModel" "isWrong" "Z", .fieldLink RX6 162 "HidingBoxesModel" "place" "I"] ++ wsX60)
def wsX6_readNumber : List Cond := .code yX6_readNumber cX6_readNumber 4 (some .int) :: ([.fieldLink RX6 165 "HidingBoxesModel" "isWrong" "Z", .fieldLink RX6 162 "HidingBoxesModel" "place" "I", .methodLink RX6 168 yX6_sign, .instanceMethod yX6_sign, .selects RX6 yX6_sign yX6_sign, .initialized RX6, .code yX6_sign cX6_sign 1 (some .int), .fieldLink RX6 159 "HidingBoxesModel" "length" "I", .fieldLink RX6 22 "HidingBoxesModel" "text" "[I", .methodLink RX6 53 yX6_in, .static yX6_in, .code yX6_in cX6_in 4 (some .boolean), .methodLink RX6 171 yX6_take, .instanceMethod yX6_take, .selects RX6 yX6_take yX6_take, .code yX6_take cX6_take 2 none] ++ wsX60)
def wsX6_readBox : List Cond := .code yX6_readBox cX6_readBox 2 none :: ([.fieldLink RX6 165 "HidingBoxesModel" "isWrong" "Z", .fieldLink RX6 40 "HidingBoxesModel" "given" "[I", .methodLink RX6 168 yX6_sign, .instanceMethod yX6_sign, .selects RX6 yX6_sign yX6_sign, .initialized RX6, .code yX6_sign cX6_sign 1 (some .int), .fieldLink RX6 162 "HidingBoxesModel" "place" "I", .fieldLink RX6 159 "HidingBoxesModel" "length" "I", .fieldLink RX6 22 "HidingBoxesModel" "text" "[I", .methodLink RX6 171 yX6_take, .instanceMethod yX6_take, .selects RX6 yX6_take yX6_take, .code yX6_take cX6_take 2 none, .methodLink RX6 175 yX6_readNumber, .instanceMethod yX6_readNumber, .selects RX6 yX6_readNumber yX6_readNumber, .code yX6_readNumber cX6_readNumber 4 (some .int), .methodLink RX6 53 yX6_in, .static yX6_in, .code yX6_in cX6_in 4 (some .boolean)] ++ wsX60)
def wsX6_findFault_r1 : List Cond := [Cond.fieldLink RX6 162 "HidingBoxesModel" "place" "I", Cond.fieldLink RX6 165 "HidingBoxesModel" "isWrong" "Z", Cond.fieldLink RX6 159 "HidingBoxesModel" "length" "I", Cond.methodLink RX6 178 yX6_readBox, Cond.instanceMethod yX6_readBox, Cond.selects RX6 yX6_readBox yX6_readBox, Cond.initialized RX6, Cond.code yX6_readBox cX6_readBox 2 none, Cond.fieldLink RX6 40 "HidingBoxesModel" "given" "[I", Cond.methodLink RX6 168 yX6_sign, Cond.instanceMethod yX6_sign, Cond.selects RX6 yX6_sign yX6_sign, Cond.code yX6_sign cX6_sign 1 (some .int), Cond.fieldLink RX6 22 "HidingBoxesModel" "text" "[I", Cond.methodLink RX6 171 yX6_take, Cond.instanceMethod yX6_take, Cond.selects RX6 yX6_take yX6_take, Cond.code yX6_take cX6_take 2 none, Cond.methodLink RX6 175 yX6_readNumber, Cond.instanceMethod yX6_readNumber, Cond.selects RX6 yX6_readNumber yX6_readNumber, Cond.code yX6_readNumber cX6_readNumber 4 (some .int), Cond.methodLink RX6 53 yX6_in, Cond.static yX6_in]
def wsX6_findFault_r2 : List Cond := [Cond.code yX6_in cX6_in 4 (some .boolean)]
def wsX6_findFault : List Cond := .code yX6_findFault cX6_findFault 1 (some .int) :: ((wsX6_findFault_r1 ++ wsX6_findFault_r2) ++ wsX60)
def wsX6_addAll_r1 : List Cond := [Cond.fieldLink RX6 162 "HidingBoxesModel" "place" "I", Cond.fieldLink RX6 159 "HidingBoxesModel" "length" "I", Cond.fieldLink RX6 40 "HidingBoxesModel" "given" "[I", Cond.fieldLink RX6 13 "HidingBoxesModel" "aside" "[I", Cond.methodLink RX6 181 yX6_findFault, Cond.instanceMethod yX6_findFault, Cond.selects RX6 yX6_findFault yX6_findFault, Cond.initialized RX6, Cond.code yX6_findFault cX6_findFault 1 (some .int), Cond.fieldLink RX6 165 "HidingBoxesModel" "isWrong" "Z", Cond.methodLink RX6 178 yX6_readBox, Cond.instanceMethod yX6_readBox, Cond.selects RX6 yX6_readBox yX6_readBox, Cond.code yX6_readBox cX6_readBox 2 none, Cond.methodLink RX6 168 yX6_sign, Cond.instanceMethod yX6_sign, Cond.selects RX6 yX6_sign yX6_sign, Cond.code yX6_sign cX6_sign 1 (some .int), Cond.fieldLink RX6 22 "HidingBoxesModel" "text" "[I", Cond.methodLink RX6 171 yX6_take, Cond.instanceMethod yX6_take, Cond.selects RX6 yX6_take yX6_take, Cond.code yX6_take cX6_take 2 none, Cond.methodLink RX6 175 yX6_readNumber]
def wsX6_addAll_r2 : List Cond := [Cond.instanceMethod yX6_readNumber, Cond.selects RX6 yX6_readNumber yX6_readNumber, Cond.code yX6_readNumber cX6_readNumber 4 (some .int), Cond.methodLink RX6 53 yX6_in, Cond.static yX6_in, Cond.code yX6_in cX6_in 4 (some .boolean), Cond.methodLink RX6 184 yX6_putAside, Cond.instanceMethod yX6_putAside, Cond.selects RX6 yX6_putAside yX6_putAside, Cond.code yX6_putAside cX6_putAside 2 none, Cond.fieldLink RX6 7 "HidingBoxesModel" "z" "[I", Cond.methodLink RX6 118 yX6_tryBox, Cond.instanceMethod yX6_tryBox, Cond.selects RX6 yX6_tryBox yX6_tryBox, Cond.code yX6_tryBox cX6_tryBox 11 (some .int), Cond.methodLink RX6 57 yX6_high, Cond.instanceMethod yX6_high, Cond.selects RX6 yX6_high yX6_high, Cond.code yX6_high cX6_high 3 (some .int), Cond.methodLink RX6 47 yX6_low, Cond.instanceMethod yX6_low, Cond.selects RX6 yX6_low yX6_low, Cond.code yX6_low cX6_low 3 (some .int), Cond.methodLink RX6 43 yX6_of]
def wsX6_addAll_r3 : List Cond := [Cond.instanceMethod yX6_of, Cond.selects RX6 yX6_of yX6_of, Cond.code yX6_of cX6_of 3 (some .int), Cond.methodLink RX6 50 yX6_size, Cond.instanceMethod yX6_size, Cond.selects RX6 yX6_size yX6_size, Cond.code yX6_size cX6_size 3 (some .int), Cond.methodLink RX6 122 yX6_putBox, Cond.instanceMethod yX6_putBox, Cond.selects RX6 yX6_putBox yX6_putBox, Cond.code yX6_putBox cX6_putBox 8 (some .int), Cond.methodLink RX6 114 yX6_put, Cond.instanceMethod yX6_put, Cond.selects RX6 yX6_put yX6_put, Cond.code yX6_put cX6_put 4 none, Cond.methodLink RX6 187 yX6_putBack, Cond.instanceMethod yX6_putBack, Cond.selects RX6 yX6_putBack yX6_putBack, Cond.code yX6_putBack cX6_putBack 2 none, Cond.methodLink RX6 110 yX6_push, Cond.instanceMethod yX6_push, Cond.selects RX6 yX6_push yX6_push, Cond.code yX6_push cX6_push 3 none, Cond.fieldLink RX6 103 "HidingBoxesModel" "states" "I"]
def wsX6_addAll_r4 : List Cond := [Cond.fieldLink RX6 16 "HidingBoxesModel" "old" "[I"]
def wsX6_addAll : List Cond := .code yX6_addAll cX6_addAll 4 (some .int) :: ((wsX6_addAll_r1 ++ (wsX6_addAll_r2 ++ (wsX6_addAll_r3 ++ wsX6_addAll_r4))) ++ wsX60)
def wsX6_box : List Cond := .code yX6_box cX6_box 2 (some .int) :: ([.fieldLink RX6 7 "HidingBoxesModel" "z" "[I", .methodLink RX6 43 yX6_of, .instanceMethod yX6_of, .selects RX6 yX6_of yX6_of, .initialized RX6, .code yX6_of cX6_of 3 (some .int)] ++ wsX60)
def wsX6_end_r1 : List Cond := [Cond.methodLink RX6 125 yX6_rankOf, Cond.instanceMethod yX6_rankOf, Cond.selects RX6 yX6_rankOf yX6_rankOf, Cond.initialized RX6, Cond.code yX6_rankOf cX6_rankOf 4 (some .int), Cond.fieldLink RX6 7 "HidingBoxesModel" "z" "[I", Cond.methodLink RX6 43 yX6_of, Cond.instanceMethod yX6_of, Cond.selects RX6 yX6_of yX6_of, Cond.code yX6_of cX6_of 3 (some .int), Cond.methodLink RX6 128 yX6_isDirection, Cond.static yX6_isDirection, Cond.code yX6_isDirection cX6_isDirection 1 (some .boolean), Cond.methodLink RX6 53 yX6_in, Cond.static yX6_in, Cond.code yX6_in cX6_in 4 (some .boolean), Cond.methodLink RX6 57 yX6_high, Cond.instanceMethod yX6_high, Cond.selects RX6 yX6_high yX6_high, Cond.code yX6_high cX6_high 3 (some .int), Cond.methodLink RX6 47 yX6_low, Cond.instanceMethod yX6_low, Cond.selects RX6 yX6_low yX6_low, Cond.code yX6_low cX6_low 3 (some .int)]
def wsX6_end_r2 : List Cond := [Cond.methodLink RX6 50 yX6_size, Cond.instanceMethod yX6_size, Cond.selects RX6 yX6_size yX6_size, Cond.code yX6_size cX6_size 3 (some .int)]
def wsX6_end : List Cond := .code yX6_end cX6_end 5 (some .int) :: ((wsX6_end_r1 ++ wsX6_end_r2) ++ wsX60)
def wsX6_hiders : List Cond := .code yX6_hiders cX6_hiders 4 (some .int) :: ([.fieldLink RX6 7 "HidingBoxesModel" "z" "[I", .fieldLink RX6 25 "HidingBoxesModel" "hides" "[I", .methodLink RX6 75 yX6_has, .static yX6_has, .initialized RX6, .code yX6_has cX6_has 2 (some .boolean)] ++ wsX60)
def wsX6_boxesBelow_r1 : List Cond := [Cond.fieldLink RX6 7 "HidingBoxesModel" "z" "[I", Cond.methodLink RX6 134 yX6_isBelow, Cond.instanceMethod yX6_isBelow, Cond.selects RX6 yX6_isBelow yX6_isBelow, Cond.initialized RX6, Cond.code yX6_isBelow cX6_isBelow 3 (some .boolean), Cond.methodLink RX6 60 yX6_cross, Cond.instanceMethod yX6_cross, Cond.selects RX6 yX6_cross yX6_cross, Cond.code yX6_cross cX6_cross 4 (some .boolean), Cond.methodLink RX6 47 yX6_low, Cond.instanceMethod yX6_low, Cond.selects RX6 yX6_low yX6_low, Cond.code yX6_low cX6_low 3 (some .int), Cond.methodLink RX6 43 yX6_of, Cond.instanceMethod yX6_of, Cond.selects RX6 yX6_of yX6_of, Cond.code yX6_of cX6_of 3 (some .int), Cond.methodLink RX6 57 yX6_high, Cond.instanceMethod yX6_high, Cond.selects RX6 yX6_high yX6_high, Cond.code yX6_high cX6_high 3 (some .int), Cond.methodLink RX6 50 yX6_size, Cond.instanceMethod yX6_size]
def wsX6_boxesBelow_r2 : List Cond := [Cond.selects RX6 yX6_size yX6_size, Cond.code yX6_size cX6_size 3 (some .int)]
def wsX6_boxesBelow : List Cond := .code yX6_boxesBelow cX6_boxesBelow 5 (some .int) :: ((wsX6_boxesBelow_r1 ++ wsX6_boxesBelow_r2) ++ wsX60)
def wsX6_covers : List Cond := .code yX6_covers cX6_covers 4 (some .boolean) :: ([.methodLink RX6 47 yX6_low, .instanceMethod yX6_low, .selects RX6 yX6_low yX6_low, .initialized RX6, .code yX6_low cX6_low 3 (some .int), .methodLink RX6 43 yX6_of, .instanceMethod yX6_of, .selects RX6 yX6_of yX6_of, .code yX6_of cX6_of 3 (some .int), .fieldLink RX6 7 "HidingBoxesModel" "z" "[I", .methodLink RX6 57 yX6_high, .instanceMethod yX6_high, .selects RX6 yX6_high yX6_high, .code yX6_high cX6_high 3 (some .int), .methodLink RX6 50 yX6_size, .instanceMethod yX6_size, .selects RX6 yX6_size yX6_size, .code yX6_size cX6_size 3 (some .int), .methodLink RX6 53 yX6_in, .static yX6_in, .code yX6_in cX6_in 4 (some .boolean)] ++ wsX60)
def wsX6_shadows_r1 : List Cond := [Cond.fieldLink RX6 7 "HidingBoxesModel" "z" "[I", Cond.methodLink RX6 47 yX6_low, Cond.instanceMethod yX6_low, Cond.selects RX6 yX6_low yX6_low, Cond.initialized RX6, Cond.code yX6_low cX6_low 3 (some .int), Cond.methodLink RX6 43 yX6_of, Cond.instanceMethod yX6_of, Cond.selects RX6 yX6_of yX6_of, Cond.code yX6_of cX6_of 3 (some .int), Cond.methodLink RX6 57 yX6_high, Cond.instanceMethod yX6_high, Cond.selects RX6 yX6_high yX6_high, Cond.code yX6_high cX6_high 3 (some .int), Cond.methodLink RX6 50 yX6_size, Cond.instanceMethod yX6_size, Cond.selects RX6 yX6_size yX6_size, Cond.code yX6_size cX6_size 3 (some .int), Cond.methodLink RX6 134 yX6_isBelow, Cond.instanceMethod yX6_isBelow, Cond.selects RX6 yX6_isBelow yX6_isBelow, Cond.code yX6_isBelow cX6_isBelow 3 (some .boolean), Cond.methodLink RX6 60 yX6_cross, Cond.instanceMethod yX6_cross]
def wsX6_shadows_r2 : List Cond := [Cond.selects RX6 yX6_cross yX6_cross, Cond.code yX6_cross cX6_cross 4 (some .boolean), Cond.methodLink RX6 190 yX6_covers, Cond.instanceMethod yX6_covers, Cond.selects RX6 yX6_covers yX6_covers, Cond.code yX6_covers cX6_covers 4 (some .boolean), Cond.methodLink RX6 53 yX6_in, Cond.static yX6_in, Cond.code yX6_in cX6_in 4 (some .boolean)]
def wsX6_shadows : List Cond := .code yX6_shadows cX6_shadows 7 (some .int) :: ((wsX6_shadows_r1 ++ wsX6_shadows_r2) ++ wsX60)
def wsX6_ofBox_r1 : List Cond := [Cond.fieldLink RX6 25 "HidingBoxesModel" "hides" "[I", Cond.fieldLink RX6 31 "HidingBoxesModel" "layers" "[I", Cond.methodLink RX6 125 yX6_rankOf, Cond.instanceMethod yX6_rankOf, Cond.selects RX6 yX6_rankOf yX6_rankOf, Cond.initialized RX6, Cond.code yX6_rankOf cX6_rankOf 4 (some .int), Cond.fieldLink RX6 7 "HidingBoxesModel" "z" "[I", Cond.methodLink RX6 43 yX6_of, Cond.instanceMethod yX6_of, Cond.selects RX6 yX6_of yX6_of, Cond.code yX6_of cX6_of 3 (some .int), Cond.methodLink RX6 141 yX6_findHiding, Cond.instanceMethod yX6_findHiding, Cond.selects RX6 yX6_findHiding yX6_findHiding, Cond.code yX6_findHiding cX6_findHiding 3 none, Cond.fieldLink RX6 28 "HidingBoxesModel" "reaches" "[I", Cond.methodLink RX6 72 yX6_hidesBy, Cond.instanceMethod yX6_hidesBy, Cond.selects RX6 yX6_hidesBy yX6_hidesBy, Cond.code yX6_hidesBy cX6_hidesBy 5 (some .int), Cond.methodLink RX6 47 yX6_low, Cond.instanceMethod yX6_low, Cond.selects RX6 yX6_low yX6_low]
def wsX6_ofBox_r2 : List Cond := [Cond.code yX6_low cX6_low 3 (some .int), Cond.methodLink RX6 57 yX6_high, Cond.instanceMethod yX6_high, Cond.selects RX6 yX6_high yX6_high, Cond.code yX6_high cX6_high 3 (some .int), Cond.methodLink RX6 50 yX6_size, Cond.instanceMethod yX6_size, Cond.selects RX6 yX6_size yX6_size, Cond.code yX6_size cX6_size 3 (some .int), Cond.methodLink RX6 68 yX6_overlap, Cond.instanceMethod yX6_overlap, Cond.selects RX6 yX6_overlap yX6_overlap, Cond.code yX6_overlap cX6_overlap 6 (some .boolean), Cond.methodLink RX6 64 yX6_reachesBelow, Cond.instanceMethod yX6_reachesBelow, Cond.selects RX6 yX6_reachesBelow yX6_reachesBelow, Cond.code yX6_reachesBelow cX6_reachesBelow 5 (some .boolean), Cond.methodLink RX6 75 yX6_has, Cond.static yX6_has, Cond.code yX6_has cX6_has 2 (some .boolean), Cond.methodLink RX6 193 yX6_findLayers, Cond.instanceMethod yX6_findLayers, Cond.selects RX6 yX6_findLayers yX6_findLayers, Cond.code yX6_findLayers cX6_findLayers 5 none]
def wsX6_ofBox_r3 : List Cond := [Cond.methodLink RX6 89 yX6_ringBoxes, Cond.instanceMethod yX6_ringBoxes, Cond.selects RX6 yX6_ringBoxes yX6_ringBoxes, Cond.code yX6_ringBoxes cX6_ringBoxes 3 (some .int), Cond.methodLink RX6 78 yX6_isInRing, Cond.instanceMethod yX6_isInRing, Cond.selects RX6 yX6_isInRing yX6_isInRing, Cond.code yX6_isInRing cX6_isInRing 2 (some .boolean), Cond.methodLink RX6 93 yX6_volume, Cond.instanceMethod yX6_volume, Cond.selects RX6 yX6_volume yX6_volume, Cond.code yX6_volume cX6_volume 2 (some .int), Cond.methodLink RX6 156 yX6_ones, Cond.static yX6_ones, Cond.code yX6_ones cX6_ones 3 (some .int), Cond.methodLink RX6 196 yX6_hiders, Cond.instanceMethod yX6_hiders, Cond.selects RX6 yX6_hiders yX6_hiders, Cond.code yX6_hiders cX6_hiders 4 (some .int), Cond.methodLink RX6 86 yX6_shortestRing, Cond.instanceMethod yX6_shortestRing, Cond.selects RX6 yX6_shortestRing yX6_shortestRing, Cond.code yX6_shortestRing cX6_shortestRing 4 (some .int), Cond.methodLink RX6 82 yX6_hiddenByAny]
def wsX6_ofBox_r4 : List Cond := [Cond.instanceMethod yX6_hiddenByAny, Cond.selects RX6 yX6_hiddenByAny yX6_hiddenByAny, Cond.code yX6_hiddenByAny cX6_hiddenByAny 4 (some .int), Cond.methodLink RX6 199 yX6_boxesBelow, Cond.instanceMethod yX6_boxesBelow, Cond.selects RX6 yX6_boxesBelow yX6_boxesBelow, Cond.code yX6_boxesBelow cX6_boxesBelow 5 (some .int), Cond.methodLink RX6 134 yX6_isBelow, Cond.instanceMethod yX6_isBelow, Cond.selects RX6 yX6_isBelow yX6_isBelow, Cond.code yX6_isBelow cX6_isBelow 3 (some .boolean), Cond.methodLink RX6 60 yX6_cross, Cond.instanceMethod yX6_cross, Cond.selects RX6 yX6_cross yX6_cross, Cond.code yX6_cross cX6_cross 4 (some .boolean), Cond.methodLink RX6 203 yX6_shadows, Cond.instanceMethod yX6_shadows, Cond.selects RX6 yX6_shadows yX6_shadows, Cond.code yX6_shadows cX6_shadows 7 (some .int), Cond.methodLink RX6 190 yX6_covers, Cond.instanceMethod yX6_covers, Cond.selects RX6 yX6_covers yX6_covers, Cond.code yX6_covers cX6_covers 4 (some .boolean), Cond.methodLink RX6 53 yX6_in]
def wsX6_ofBox_r5 : List Cond := [Cond.static yX6_in, Cond.code yX6_in cX6_in 4 (some .boolean)]
def wsX6_ofBox : List Cond := .code yX6_ofBox cX6_ofBox 4 (some .int) :: ((wsX6_ofBox_r1 ++ (wsX6_ofBox_r2 ++ (wsX6_ofBox_r3 ++ (wsX6_ofBox_r4 ++ wsX6_ofBox_r5)))) ++ wsX60)
def wsX6_pair_r1 : List Cond := [Cond.methodLink RX6 125 yX6_rankOf, Cond.instanceMethod yX6_rankOf, Cond.selects RX6 yX6_rankOf yX6_rankOf, Cond.initialized RX6, Cond.code yX6_rankOf cX6_rankOf 4 (some .int), Cond.fieldLink RX6 7 "HidingBoxesModel" "z" "[I", Cond.methodLink RX6 43 yX6_of, Cond.instanceMethod yX6_of, Cond.selects RX6 yX6_of yX6_of, Cond.code yX6_of cX6_of 3 (some .int), Cond.methodLink RX6 72 yX6_hidesBy, Cond.instanceMethod yX6_hidesBy, Cond.selects RX6 yX6_hidesBy yX6_hidesBy, Cond.code yX6_hidesBy cX6_hidesBy 5 (some .int), Cond.methodLink RX6 47 yX6_low, Cond.instanceMethod yX6_low, Cond.selects RX6 yX6_low yX6_low, Cond.code yX6_low cX6_low 3 (some .int), Cond.methodLink RX6 57 yX6_high, Cond.instanceMethod yX6_high, Cond.selects RX6 yX6_high yX6_high, Cond.code yX6_high cX6_high 3 (some .int), Cond.methodLink RX6 50 yX6_size, Cond.instanceMethod yX6_size]
def wsX6_pair_r2 : List Cond := [Cond.selects RX6 yX6_size yX6_size, Cond.code yX6_size cX6_size 3 (some .int), Cond.methodLink RX6 68 yX6_overlap, Cond.instanceMethod yX6_overlap, Cond.selects RX6 yX6_overlap yX6_overlap, Cond.code yX6_overlap cX6_overlap 6 (some .boolean), Cond.methodLink RX6 64 yX6_reachesBelow, Cond.instanceMethod yX6_reachesBelow, Cond.selects RX6 yX6_reachesBelow yX6_reachesBelow, Cond.code yX6_reachesBelow cX6_reachesBelow 5 (some .boolean)]
def wsX6_pair : List Cond := .code yX6_pair cX6_pair 6 (some .int) :: ((wsX6_pair_r1 ++ wsX6_pair_r2) ++ wsX60)
def wsX6_drawn_r1 : List Cond := [Cond.fieldLink RX6 96 "HidingBoxesModel" "drawn" "I", Cond.fieldLink RX6 34 "HidingBoxesModel" "order" "[I", Cond.methodLink RX6 141 yX6_findHiding, Cond.instanceMethod yX6_findHiding, Cond.selects RX6 yX6_findHiding yX6_findHiding, Cond.initialized RX6, Cond.code yX6_findHiding cX6_findHiding 3 none, Cond.fieldLink RX6 7 "HidingBoxesModel" "z" "[I", Cond.fieldLink RX6 25 "HidingBoxesModel" "hides" "[I", Cond.fieldLink RX6 28 "HidingBoxesModel" "reaches" "[I", Cond.methodLink RX6 72 yX6_hidesBy, Cond.instanceMethod yX6_hidesBy, Cond.selects RX6 yX6_hidesBy yX6_hidesBy, Cond.code yX6_hidesBy cX6_hidesBy 5 (some .int), Cond.methodLink RX6 47 yX6_low, Cond.instanceMethod yX6_low, Cond.selects RX6 yX6_low yX6_low, Cond.code yX6_low cX6_low 3 (some .int), Cond.methodLink RX6 43 yX6_of, Cond.instanceMethod yX6_of, Cond.selects RX6 yX6_of yX6_of, Cond.code yX6_of cX6_of 3 (some .int), Cond.methodLink RX6 57 yX6_high, Cond.instanceMethod yX6_high]
def wsX6_drawn_r2 : List Cond := [Cond.selects RX6 yX6_high yX6_high, Cond.code yX6_high cX6_high 3 (some .int), Cond.methodLink RX6 50 yX6_size, Cond.instanceMethod yX6_size, Cond.selects RX6 yX6_size yX6_size, Cond.code yX6_size cX6_size 3 (some .int), Cond.methodLink RX6 68 yX6_overlap, Cond.instanceMethod yX6_overlap, Cond.selects RX6 yX6_overlap yX6_overlap, Cond.code yX6_overlap cX6_overlap 6 (some .boolean), Cond.methodLink RX6 64 yX6_reachesBelow, Cond.instanceMethod yX6_reachesBelow, Cond.selects RX6 yX6_reachesBelow yX6_reachesBelow, Cond.code yX6_reachesBelow cX6_reachesBelow 5 (some .boolean), Cond.methodLink RX6 75 yX6_has, Cond.static yX6_has, Cond.code yX6_has cX6_has 2 (some .boolean), Cond.methodLink RX6 206 yX6_drawAll, Cond.instanceMethod yX6_drawAll, Cond.selects RX6 yX6_drawAll yX6_drawAll, Cond.code yX6_drawAll cX6_drawAll 6 none, Cond.methodLink RX6 100 yX6_weight, Cond.instanceMethod yX6_weight, Cond.selects RX6 yX6_weight yX6_weight]
def wsX6_drawn_r3 : List Cond := [Cond.code yX6_weight cX6_weight 2 (some .int), Cond.methodLink RX6 93 yX6_volume, Cond.instanceMethod yX6_volume, Cond.selects RX6 yX6_volume yX6_volume, Cond.code yX6_volume cX6_volume 2 (some .int)]
def wsX6_drawn : List Cond := .code yX6_drawn cX6_drawn 2 (some .int) :: ((wsX6_drawn_r1 ++ (wsX6_drawn_r2 ++ wsX6_drawn_r3)) ++ wsX60)
def wsX6_total_r1 : List Cond := [Cond.fieldLink RX6 7 "HidingBoxesModel" "z" "[I", Cond.fieldLink RX6 25 "HidingBoxesModel" "hides" "[I", Cond.fieldLink RX6 31 "HidingBoxesModel" "layers" "[I", Cond.fieldLink RX6 96 "HidingBoxesModel" "drawn" "I", Cond.fieldLink RX6 103 "HidingBoxesModel" "states" "I", Cond.fieldLink RX6 159 "HidingBoxesModel" "length" "I", Cond.methodLink RX6 141 yX6_findHiding, Cond.instanceMethod yX6_findHiding, Cond.selects RX6 yX6_findHiding yX6_findHiding, Cond.initialized RX6, Cond.code yX6_findHiding cX6_findHiding 3 none, Cond.fieldLink RX6 28 "HidingBoxesModel" "reaches" "[I", Cond.methodLink RX6 72 yX6_hidesBy, Cond.instanceMethod yX6_hidesBy, Cond.selects RX6 yX6_hidesBy yX6_hidesBy, Cond.code yX6_hidesBy cX6_hidesBy 5 (some .int), Cond.methodLink RX6 47 yX6_low, Cond.instanceMethod yX6_low, Cond.selects RX6 yX6_low yX6_low, Cond.code yX6_low cX6_low 3 (some .int), Cond.methodLink RX6 43 yX6_of, Cond.instanceMethod yX6_of, Cond.selects RX6 yX6_of yX6_of, Cond.code yX6_of cX6_of 3 (some .int)]
def wsX6_total_r2 : List Cond := [Cond.methodLink RX6 57 yX6_high, Cond.instanceMethod yX6_high, Cond.selects RX6 yX6_high yX6_high, Cond.code yX6_high cX6_high 3 (some .int), Cond.methodLink RX6 50 yX6_size, Cond.instanceMethod yX6_size, Cond.selects RX6 yX6_size yX6_size, Cond.code yX6_size cX6_size 3 (some .int), Cond.methodLink RX6 68 yX6_overlap, Cond.instanceMethod yX6_overlap, Cond.selects RX6 yX6_overlap yX6_overlap, Cond.code yX6_overlap cX6_overlap 6 (some .boolean), Cond.methodLink RX6 64 yX6_reachesBelow, Cond.instanceMethod yX6_reachesBelow, Cond.selects RX6 yX6_reachesBelow yX6_reachesBelow, Cond.code yX6_reachesBelow cX6_reachesBelow 5 (some .boolean), Cond.methodLink RX6 75 yX6_has, Cond.static yX6_has, Cond.code yX6_has cX6_has 2 (some .boolean), Cond.methodLink RX6 193 yX6_findLayers, Cond.instanceMethod yX6_findLayers, Cond.selects RX6 yX6_findLayers yX6_findLayers, Cond.code yX6_findLayers cX6_findLayers 5 none, Cond.methodLink RX6 89 yX6_ringBoxes]
def wsX6_total_r3 : List Cond := [Cond.instanceMethod yX6_ringBoxes, Cond.selects RX6 yX6_ringBoxes yX6_ringBoxes, Cond.code yX6_ringBoxes cX6_ringBoxes 3 (some .int), Cond.methodLink RX6 78 yX6_isInRing, Cond.instanceMethod yX6_isInRing, Cond.selects RX6 yX6_isInRing yX6_isInRing, Cond.code yX6_isInRing cX6_isInRing 2 (some .boolean), Cond.methodLink RX6 206 yX6_drawAll, Cond.instanceMethod yX6_drawAll, Cond.selects RX6 yX6_drawAll yX6_drawAll, Cond.code yX6_drawAll cX6_drawAll 6 none, Cond.fieldLink RX6 34 "HidingBoxesModel" "order" "[I", Cond.methodLink RX6 100 yX6_weight, Cond.instanceMethod yX6_weight, Cond.selects RX6 yX6_weight yX6_weight, Cond.code yX6_weight cX6_weight 2 (some .int), Cond.methodLink RX6 93 yX6_volume, Cond.instanceMethod yX6_volume, Cond.selects RX6 yX6_volume yX6_volume, Cond.code yX6_volume cX6_volume 2 (some .int), Cond.methodLink RX6 156 yX6_ones, Cond.static yX6_ones, Cond.code yX6_ones cX6_ones 3 (some .int), Cond.methodLink RX6 203 yX6_shadows]
def wsX6_total_r4 : List Cond := [Cond.instanceMethod yX6_shadows, Cond.selects RX6 yX6_shadows yX6_shadows, Cond.code yX6_shadows cX6_shadows 7 (some .int), Cond.methodLink RX6 134 yX6_isBelow, Cond.instanceMethod yX6_isBelow, Cond.selects RX6 yX6_isBelow yX6_isBelow, Cond.code yX6_isBelow cX6_isBelow 3 (some .boolean), Cond.methodLink RX6 60 yX6_cross, Cond.instanceMethod yX6_cross, Cond.selects RX6 yX6_cross yX6_cross, Cond.code yX6_cross cX6_cross 4 (some .boolean), Cond.methodLink RX6 190 yX6_covers, Cond.instanceMethod yX6_covers, Cond.selects RX6 yX6_covers yX6_covers, Cond.code yX6_covers cX6_covers 4 (some .boolean), Cond.methodLink RX6 53 yX6_in, Cond.static yX6_in, Cond.code yX6_in cX6_in 4 (some .boolean), Cond.methodLink RX6 210 yX6_shortestOfAll, Cond.instanceMethod yX6_shortestOfAll, Cond.selects RX6 yX6_shortestOfAll yX6_shortestOfAll, Cond.code yX6_shortestOfAll cX6_shortestOfAll 4 (some .int), Cond.methodLink RX6 86 yX6_shortestRing, Cond.instanceMethod yX6_shortestRing]
def wsX6_total_r5 : List Cond := [Cond.selects RX6 yX6_shortestRing yX6_shortestRing, Cond.code yX6_shortestRing cX6_shortestRing 4 (some .int), Cond.methodLink RX6 82 yX6_hiddenByAny, Cond.instanceMethod yX6_hiddenByAny, Cond.selects RX6 yX6_hiddenByAny yX6_hiddenByAny, Cond.code yX6_hiddenByAny cX6_hiddenByAny 4 (some .int)]
def wsX6_total : List Cond := .code yX6_total cX6_total 7 (some .int) :: ((wsX6_total_r1 ++ (wsX6_total_r2 ++ (wsX6_total_r3 ++ (wsX6_total_r4 ++ wsX6_total_r5)))) ++ wsX60)
def wsX6_waitsFor_r1 : List Cond := [Cond.fieldLink RX6 25 "HidingBoxesModel" "hides" "[I", Cond.fieldLink RX6 7 "HidingBoxesModel" "z" "[I", Cond.methodLink RX6 125 yX6_rankOf, Cond.instanceMethod yX6_rankOf, Cond.selects RX6 yX6_rankOf yX6_rankOf, Cond.initialized RX6, Cond.code yX6_rankOf cX6_rankOf 4 (some .int), Cond.methodLink RX6 43 yX6_of, Cond.instanceMethod yX6_of, Cond.selects RX6 yX6_of yX6_of, Cond.code yX6_of cX6_of 3 (some .int), Cond.methodLink RX6 141 yX6_findHiding, Cond.instanceMethod yX6_findHiding, Cond.selects RX6 yX6_findHiding yX6_findHiding, Cond.code yX6_findHiding cX6_findHiding 3 none, Cond.fieldLink RX6 28 "HidingBoxesModel" "reaches" "[I", Cond.methodLink RX6 72 yX6_hidesBy, Cond.instanceMethod yX6_hidesBy, Cond.selects RX6 yX6_hidesBy yX6_hidesBy, Cond.code yX6_hidesBy cX6_hidesBy 5 (some .int), Cond.methodLink RX6 47 yX6_low, Cond.instanceMethod yX6_low, Cond.selects RX6 yX6_low yX6_low, Cond.code yX6_low cX6_low 3 (some .int)]
def wsX6_waitsFor_r2 : List Cond := [Cond.methodLink RX6 57 yX6_high, Cond.instanceMethod yX6_high, Cond.selects RX6 yX6_high yX6_high, Cond.code yX6_high cX6_high 3 (some .int), Cond.methodLink RX6 50 yX6_size, Cond.instanceMethod yX6_size, Cond.selects RX6 yX6_size yX6_size, Cond.code yX6_size cX6_size 3 (some .int), Cond.methodLink RX6 68 yX6_overlap, Cond.instanceMethod yX6_overlap, Cond.selects RX6 yX6_overlap yX6_overlap, Cond.code yX6_overlap cX6_overlap 6 (some .boolean), Cond.methodLink RX6 64 yX6_reachesBelow, Cond.instanceMethod yX6_reachesBelow, Cond.selects RX6 yX6_reachesBelow yX6_reachesBelow, Cond.code yX6_reachesBelow cX6_reachesBelow 5 (some .boolean), Cond.methodLink RX6 75 yX6_has, Cond.static yX6_has, Cond.code yX6_has cX6_has 2 (some .boolean), Cond.methodLink RX6 206 yX6_drawAll, Cond.instanceMethod yX6_drawAll, Cond.selects RX6 yX6_drawAll yX6_drawAll, Cond.code yX6_drawAll cX6_drawAll 6 none, Cond.fieldLink RX6 96 "HidingBoxesModel" "drawn" "I"]
def wsX6_waitsFor_r3 : List Cond := [Cond.fieldLink RX6 34 "HidingBoxesModel" "order" "[I", Cond.methodLink RX6 100 yX6_weight, Cond.instanceMethod yX6_weight, Cond.selects RX6 yX6_weight yX6_weight, Cond.code yX6_weight cX6_weight 2 (some .int), Cond.methodLink RX6 93 yX6_volume, Cond.instanceMethod yX6_volume, Cond.selects RX6 yX6_volume yX6_volume, Cond.code yX6_volume cX6_volume 2 (some .int), Cond.methodLink RX6 213 yX6_drawnSet, Cond.instanceMethod yX6_drawnSet, Cond.selects RX6 yX6_drawnSet yX6_drawnSet, Cond.code yX6_drawnSet cX6_drawnSet 3 (some .int)]
def wsX6_waitsFor : List Cond := .code yX6_waitsFor cX6_waitsFor 6 (some .int) :: ((wsX6_waitsFor_r1 ++ (wsX6_waitsFor_r2 ++ wsX6_waitsFor_r3)) ++ wsX60)
def wsX6_breaks_r1 : List Cond := [Cond.methodLink RX6 184 yX6_putAside, Cond.instanceMethod yX6_putAside, Cond.selects RX6 yX6_putAside yX6_putAside, Cond.initialized RX6, Cond.code yX6_putAside cX6_putAside 2 none, Cond.fieldLink RX6 13 "HidingBoxesModel" "aside" "[I", Cond.fieldLink RX6 7 "HidingBoxesModel" "z" "[I", Cond.methodLink RX6 147 yX6_breakAt, Cond.instanceMethod yX6_breakAt, Cond.selects RX6 yX6_breakAt yX6_breakAt, Cond.code yX6_breakAt cX6_breakAt 3 (some .int), Cond.methodLink RX6 141 yX6_findHiding, Cond.instanceMethod yX6_findHiding, Cond.selects RX6 yX6_findHiding yX6_findHiding, Cond.code yX6_findHiding cX6_findHiding 3 none, Cond.fieldLink RX6 25 "HidingBoxesModel" "hides" "[I", Cond.fieldLink RX6 28 "HidingBoxesModel" "reaches" "[I", Cond.methodLink RX6 72 yX6_hidesBy, Cond.instanceMethod yX6_hidesBy, Cond.selects RX6 yX6_hidesBy yX6_hidesBy, Cond.code yX6_hidesBy cX6_hidesBy 5 (some .int), Cond.methodLink RX6 47 yX6_low, Cond.instanceMethod yX6_low, Cond.selects RX6 yX6_low yX6_low]
def wsX6_breaks_r2 : List Cond := [Cond.code yX6_low cX6_low 3 (some .int), Cond.methodLink RX6 43 yX6_of, Cond.instanceMethod yX6_of, Cond.selects RX6 yX6_of yX6_of, Cond.code yX6_of cX6_of 3 (some .int), Cond.methodLink RX6 57 yX6_high, Cond.instanceMethod yX6_high, Cond.selects RX6 yX6_high yX6_high, Cond.code yX6_high cX6_high 3 (some .int), Cond.methodLink RX6 50 yX6_size, Cond.instanceMethod yX6_size, Cond.selects RX6 yX6_size yX6_size, Cond.code yX6_size cX6_size 3 (some .int), Cond.methodLink RX6 68 yX6_overlap, Cond.instanceMethod yX6_overlap, Cond.selects RX6 yX6_overlap yX6_overlap, Cond.code yX6_overlap cX6_overlap 6 (some .boolean), Cond.methodLink RX6 64 yX6_reachesBelow, Cond.instanceMethod yX6_reachesBelow, Cond.selects RX6 yX6_reachesBelow yX6_reachesBelow, Cond.code yX6_reachesBelow cX6_reachesBelow 5 (some .boolean), Cond.methodLink RX6 75 yX6_has, Cond.static yX6_has, Cond.code yX6_has cX6_has 2 (some .boolean)]
def wsX6_breaks_r3 : List Cond := [Cond.methodLink RX6 78 yX6_isInRing, Cond.instanceMethod yX6_isInRing, Cond.selects RX6 yX6_isInRing yX6_isInRing, Cond.code yX6_isInRing cX6_isInRing 2 (some .boolean), Cond.methodLink RX6 93 yX6_volume, Cond.instanceMethod yX6_volume, Cond.selects RX6 yX6_volume yX6_volume, Cond.code yX6_volume cX6_volume 2 (some .int), Cond.methodLink RX6 150 yX6_whyNoBreak, Cond.instanceMethod yX6_whyNoBreak, Cond.selects RX6 yX6_whyNoBreak yX6_whyNoBreak, Cond.code yX6_whyNoBreak cX6_whyNoBreak 2 (some .int), Cond.methodLink RX6 144 yX6_greatestDirection, Cond.instanceMethod yX6_greatestDirection, Cond.selects RX6 yX6_greatestDirection yX6_greatestDirection, Cond.code yX6_greatestDirection cX6_greatestDirection 4 (some .int), Cond.methodLink RX6 153 yX6_doBreak, Cond.instanceMethod yX6_doBreak, Cond.selects RX6 yX6_doBreak yX6_doBreak, Cond.code yX6_doBreak cX6_doBreak 3 (some .int), Cond.methodLink RX6 137 yX6_doSplit, Cond.instanceMethod yX6_doSplit, Cond.selects RX6 yX6_doSplit yX6_doSplit, Cond.code yX6_doSplit cX6_doSplit 6 (some .int)]
def wsX6_breaks_r4 : List Cond := [Cond.methodLink RX6 114 yX6_put, Cond.instanceMethod yX6_put, Cond.selects RX6 yX6_put yX6_put, Cond.code yX6_put cX6_put 4 none, Cond.methodLink RX6 122 yX6_putBox, Cond.instanceMethod yX6_putBox, Cond.selects RX6 yX6_putBox yX6_putBox, Cond.code yX6_putBox cX6_putBox 8 (some .int), Cond.methodLink RX6 187 yX6_putBack, Cond.instanceMethod yX6_putBack, Cond.selects RX6 yX6_putBack yX6_putBack, Cond.code yX6_putBack cX6_putBack 2 none]
def wsX6_breaks : List Cond := .code yX6_breaks cX6_breaks 4 (some .int) :: ((wsX6_breaks_r1 ++ (wsX6_breaks_r2 ++ (wsX6_breaks_r3 ++ wsX6_breaks_r4))) ++ wsX60)
def wsX6_drawnWithout_r1 : List Cond := [Cond.fieldLink RX6 96 "HidingBoxesModel" "drawn" "I", Cond.methodLink RX6 125 yX6_rankOf, Cond.instanceMethod yX6_rankOf, Cond.selects RX6 yX6_rankOf yX6_rankOf, Cond.initialized RX6, Cond.code yX6_rankOf cX6_rankOf 4 (some .int), Cond.fieldLink RX6 7 "HidingBoxesModel" "z" "[I", Cond.methodLink RX6 43 yX6_of, Cond.instanceMethod yX6_of, Cond.selects RX6 yX6_of yX6_of, Cond.code yX6_of cX6_of 3 (some .int), Cond.methodLink RX6 141 yX6_findHiding, Cond.instanceMethod yX6_findHiding, Cond.selects RX6 yX6_findHiding yX6_findHiding, Cond.code yX6_findHiding cX6_findHiding 3 none, Cond.fieldLink RX6 25 "HidingBoxesModel" "hides" "[I", Cond.fieldLink RX6 28 "HidingBoxesModel" "reaches" "[I", Cond.methodLink RX6 72 yX6_hidesBy, Cond.instanceMethod yX6_hidesBy, Cond.selects RX6 yX6_hidesBy yX6_hidesBy, Cond.code yX6_hidesBy cX6_hidesBy 5 (some .int), Cond.methodLink RX6 47 yX6_low, Cond.instanceMethod yX6_low, Cond.selects RX6 yX6_low yX6_low]
def wsX6_drawnWithout_r2 : List Cond := [Cond.code yX6_low cX6_low 3 (some .int), Cond.methodLink RX6 57 yX6_high, Cond.instanceMethod yX6_high, Cond.selects RX6 yX6_high yX6_high, Cond.code yX6_high cX6_high 3 (some .int), Cond.methodLink RX6 50 yX6_size, Cond.instanceMethod yX6_size, Cond.selects RX6 yX6_size yX6_size, Cond.code yX6_size cX6_size 3 (some .int), Cond.methodLink RX6 68 yX6_overlap, Cond.instanceMethod yX6_overlap, Cond.selects RX6 yX6_overlap yX6_overlap, Cond.code yX6_overlap cX6_overlap 6 (some .boolean), Cond.methodLink RX6 64 yX6_reachesBelow, Cond.instanceMethod yX6_reachesBelow, Cond.selects RX6 yX6_reachesBelow yX6_reachesBelow, Cond.code yX6_reachesBelow cX6_reachesBelow 5 (some .boolean), Cond.methodLink RX6 75 yX6_has, Cond.static yX6_has, Cond.code yX6_has cX6_has 2 (some .boolean), Cond.methodLink RX6 206 yX6_drawAll, Cond.instanceMethod yX6_drawAll, Cond.selects RX6 yX6_drawAll yX6_drawAll, Cond.code yX6_drawAll cX6_drawAll 6 none]
def wsX6_drawnWithout_r3 : List Cond := [Cond.fieldLink RX6 34 "HidingBoxesModel" "order" "[I", Cond.methodLink RX6 100 yX6_weight, Cond.instanceMethod yX6_weight, Cond.selects RX6 yX6_weight yX6_weight, Cond.code yX6_weight cX6_weight 2 (some .int), Cond.methodLink RX6 93 yX6_volume, Cond.instanceMethod yX6_volume, Cond.selects RX6 yX6_volume yX6_volume, Cond.code yX6_volume cX6_volume 2 (some .int)]
def wsX6_drawnWithout : List Cond := .code yX6_drawnWithout cX6_drawnWithout 3 (some .int) :: ((wsX6_drawnWithout_r1 ++ (wsX6_drawnWithout_r2 ++ wsX6_drawnWithout_r3)) ++ wsX60)
def wsJ9_max_7cf53 : List Cond := .code yJ9_max_7cf53 cJ9_max_7cf53 2 (some .int) :: ([])
theorem dX0_init_0 : decode cX0_init 0 = .ok (.aload_n 0, 1) := by decide +kernel
theorem dX0_init_1 : decode cX0_init 1 = .ok (.invokespecial 3, 3) := by decide +kernel
theorem dX0_init_4 : decode cX0_init 4 = .ok (.aload_n 0, 1) := by decide +kernel
theorem dX0_init_5 : decode cX0_init 5 = .ok (.iconst 3, 1) := by decide +kernel
theorem dX0_init_6 : decode cX0_init 6 = .ok (.newarray .int, 2) := by decide +kernel
theorem dX0_init_8 : decode cX0_init 8 = .ok (.putfield 9, 3) := by decide +kernel
theorem dX0_init_11 : decode cX0_init 11 = .ok (.aload_n 0, 1) := by decide +kernel
theorem dX0_init_12 : decode cX0_init 12 = .ok (.iconst 3, 1) := by decide +kernel
theorem dX0_init_13 : decode cX0_init 13 = .ok (.newarray .int, 2) := by decide +kernel
theorem dX0_init_15 : decode cX0_init 15 = .ok (.putfield 15, 3) := by decide +kernel
theorem dX0_init_18 : decode cX0_init 18 = .ok (.return_, 1) := by decide +kernel
theorem dX0_copyFrom_0 : decode cX0_copyFrom 0 = .ok (.aload_n 0, 1) := by decide +kernel
theorem dX0_copyFrom_1 : decode cX0_copyFrom 1 = .ok (.aload_n 1, 1) := by decide +kernel
theorem dX0_copyFrom_2 : decode cX0_copyFrom 2 = .ok (.getfield 18, 3) := by decide +kernel
theorem dX0_copyFrom_5 : decode cX0_copyFrom 5 = .ok (.putfield 18, 3) := by decide +kernel
theorem dX0_copyFrom_8 : decode cX0_copyFrom 8 = .ok (.aload_n 1, 1) := by decide +kernel
theorem dX0_copyFrom_9 : decode cX0_copyFrom 9 = .ok (.getfield 9, 3) := by decide +kernel
theorem dX0_copyFrom_12 : decode cX0_copyFrom 12 = .ok (.iconst 0, 1) := by decide +kernel
theorem dX0_copyFrom_13 : decode cX0_copyFrom 13 = .ok (.aload_n 0, 1) := by decide +kernel
theorem dX0_copyFrom_14 : decode cX0_copyFrom 14 = .ok (.getfield 9, 3) := by decide +kernel
theorem dX0_copyFrom_17 : decode cX0_copyFrom 17 = .ok (.iconst 0, 1) := by decide +kernel
theorem dX0_copyFrom_18 : decode cX0_copyFrom 18 = .ok (.iconst 3, 1) := by decide +kernel
theorem dX0_copyFrom_19 : decode cX0_copyFrom 19 = .ok (.invokestatic 22, 3) := by decide +kernel
theorem dX0_copyFrom_22 : decode cX0_copyFrom 22 = .ok (.aload_n 1, 1) := by decide +kernel
theorem dX0_copyFrom_23 : decode cX0_copyFrom 23 = .ok (.getfield 15, 3) := by decide +kernel
theorem dX0_copyFrom_26 : decode cX0_copyFrom 26 = .ok (.iconst 0, 1) := by decide +kernel
theorem dX0_copyFrom_27 : decode cX0_copyFrom 27 = .ok (.aload_n 0, 1) := by decide +kernel
theorem dX0_copyFrom_28 : decode cX0_copyFrom 28 = .ok (.getfield 15, 3) := by decide +kernel
theorem dX0_copyFrom_31 : decode cX0_copyFrom 31 = .ok (.iconst 0, 1) := by decide +kernel
theorem dX0_copyFrom_32 : decode cX0_copyFrom 32 = .ok (.iconst 3, 1) := by decide +kernel
theorem dX0_copyFrom_33 : decode cX0_copyFrom 33 = .ok (.invokestatic 22, 3) := by decide +kernel
theorem dX0_copyFrom_36 : decode cX0_copyFrom 36 = .ok (.return_, 1) := by decide +kernel
theorem dX0_lay_0 : decode cX0_lay 0 = .ok (.iload_n 2, 1) := by decide +kernel
theorem dX0_lay_1 : decode cX0_lay 1 = .ok (.ifCond .lt 28, 3) := by decide +kernel
theorem dX0_lay_4 : decode cX0_lay 4 = .ok (.iload_n 2, 1) := by decide +kernel
theorem dX0_lay_5 : decode cX0_lay 5 = .ok (.bipush 31, 2) := by decide +kernel
theorem dX0_lay_7 : decode cX0_lay 7 = .ok (.if_icmp .gt 22, 3) := by decide +kernel
theorem dX0_lay_10 : decode cX0_lay 10 = .ok (.iload_n 3, 1) := by decide +kernel
theorem dX0_lay_11 : decode cX0_lay 11 = .ok (.iconst 1, 1) := by decide +kernel
theorem dX0_lay_12 : decode cX0_lay 12 = .ok (.if_icmp .lt 17, 3) := by decide +kernel
theorem dX0_lay_15 : decode cX0_lay 15 = .ok (.iload_n 3, 1) := by decide +kernel
theorem dX0_lay_16 : decode cX0_lay 16 = .ok (.bipush 12, 2) := by decide +kernel
theorem dX0_lay_18 : decode cX0_lay 18 = .ok (.if_icmp .gt 11, 3) := by decide +kernel
theorem dX0_lay_21 : decode cX0_lay 21 = .ok (.iload_n 2, 1) := by decide +kernel
theorem dX0_lay_22 : decode cX0_lay 22 = .ok (.iload_n 3, 1) := by decide +kernel
theorem dX0_lay_23 : decode cX0_lay 23 = .ok (.iadd, 1) := by decide +kernel
theorem dX0_lay_24 : decode cX0_lay 24 = .ok (.bipush 32, 2) := by decide +kernel
theorem dX0_lay_26 : decode cX0_lay 26 = .ok (.if_icmp .le 5, 3) := by decide +kernel
theorem dX0_lay_29 : decode cX0_lay 29 = .ok (.iconst 0, 1) := by decide +kernel
theorem dX0_lay_30 : decode cX0_lay 30 = .ok (.ireturn, 1) := by decide +kernel
theorem dX0_lay_31 : decode cX0_lay 31 = .ok (.aload_n 0, 1) := by decide +kernel
theorem dX0_lay_32 : decode cX0_lay 32 = .ok (.getfield 9, 3) := by decide +kernel
theorem dX0_lay_35 : decode cX0_lay 35 = .ok (.iload_n 1, 1) := by decide +kernel
theorem dX0_lay_36 : decode cX0_lay 36 = .ok (.iload_n 2, 1) := by decide +kernel
theorem dX0_lay_37 : decode cX0_lay 37 = .ok (.iastore, 1) := by decide +kernel
theorem dX0_lay_38 : decode cX0_lay 38 = .ok (.aload_n 0, 1) := by decide +kernel
theorem dX0_lay_39 : decode cX0_lay 39 = .ok (.getfield 15, 3) := by decide +kernel
theorem dX0_lay_42 : decode cX0_lay 42 = .ok (.iload_n 1, 1) := by decide +kernel
theorem dX0_lay_43 : decode cX0_lay 43 = .ok (.iload_n 2, 1) := by decide +kernel
theorem dX0_lay_44 : decode cX0_lay 44 = .ok (.iload_n 3, 1) := by decide +kernel
theorem dX0_lay_45 : decode cX0_lay 45 = .ok (.iadd, 1) := by decide +kernel
theorem dX0_lay_46 : decode cX0_lay 46 = .ok (.iastore, 1) := by decide +kernel
theorem dX0_lay_47 : decode cX0_lay 47 = .ok (.iconst 1, 1) := by decide +kernel
theorem dX0_lay_48 : decode cX0_lay 48 = .ok (.ireturn, 1) := by decide +kernel
theorem dX0_shift_0 : decode cX0_shift 0 = .ok (.aload_n 0, 1) := by decide +kernel
theorem dX0_shift_1 : decode cX0_shift 1 = .ok (.getfield 9, 3) := by decide +kernel
theorem dX0_shift_4 : decode cX0_shift 4 = .ok (.iload_n 1, 1) := by decide +kernel
theorem dX0_shift_5 : decode cX0_shift 5 = .ok (.dup2, 1) := by decide +kernel
theorem dX0_shift_6 : decode cX0_shift 6 = .ok (.iaload, 1) := by decide +kernel
theorem dX0_shift_7 : decode cX0_shift 7 = .ok (.iload_n 2, 1) := by decide +kernel
theorem dX0_shift_8 : decode cX0_shift 8 = .ok (.iadd, 1) := by decide +kernel
theorem dX0_shift_9 : decode cX0_shift 9 = .ok (.iastore, 1) := by decide +kernel
theorem dX0_shift_10 : decode cX0_shift 10 = .ok (.aload_n 0, 1) := by decide +kernel
theorem dX0_shift_11 : decode cX0_shift 11 = .ok (.getfield 15, 3) := by decide +kernel
theorem dX0_shift_14 : decode cX0_shift 14 = .ok (.iload_n 1, 1) := by decide +kernel
theorem dX0_shift_15 : decode cX0_shift 15 = .ok (.dup2, 1) := by decide +kernel
theorem dX0_shift_16 : decode cX0_shift 16 = .ok (.iaload, 1) := by decide +kernel
theorem dX0_shift_17 : decode cX0_shift 17 = .ok (.iload_n 2, 1) := by decide +kernel
theorem dX0_shift_18 : decode cX0_shift 18 = .ok (.iadd, 1) := by decide +kernel
theorem dX0_shift_19 : decode cX0_shift 19 = .ok (.iastore, 1) := by decide +kernel
theorem dX0_shift_20 : decode cX0_shift 20 = .ok (.return_, 1) := by decide +kernel
theorem dX0_size_0 : decode cX0_size 0 = .ok (.aload_n 0, 1) := by decide +kernel
theorem dX0_size_1 : decode cX0_size 1 = .ok (.getfield 15, 3) := by decide +kernel
theorem dX0_size_4 : decode cX0_size 4 = .ok (.iload_n 1, 1) := by decide +kernel
theorem dX0_size_5 : decode cX0_size 5 = .ok (.iaload, 1) := by decide +kernel
theorem dX0_size_6 : decode cX0_size 6 = .ok (.aload_n 0, 1) := by decide +kernel
theorem dX0_size_7 : decode cX0_size 7 = .ok (.getfield 9, 3) := by decide +kernel
theorem dX0_size_10 : decode cX0_size 10 = .ok (.iload_n 1, 1) := by decide +kernel
theorem dX0_size_11 : decode cX0_size 11 = .ok (.iaload, 1) := by decide +kernel
theorem dX0_size_12 : decode cX0_size 12 = .ok (.isub, 1) := by decide +kernel
theorem dX0_size_13 : decode cX0_size 13 = .ok (.ireturn, 1) := by decide +kernel
set_option maxRecDepth 20000 in
theorem ggX0_volume_X0_size : GoodIn wsX0_volume wsX0_size := goodIn_r _ [5, 6, 7, 8, 9, 10] (by decide +kernel) (by decide +kernel)
set_option maxRecDepth 20000 in
theorem gX0_volume_X0_size : GoodIn wsX0_volume (wsV RX0 28 RX0 yX0_size wsX0_size) := goodIn_app (goodIn_of _ (by decide +kernel)) ggX0_volume_X0_size
theorem dX0_volume_0 : decode cX0_volume 0 = .ok (.aload_n 0, 1) := by decide +kernel
theorem dX0_volume_1 : decode cX0_volume 1 = .ok (.iconst 0, 1) := by decide +kernel
theorem dX0_volume_2 : decode cX0_volume 2 = .ok (.invokevirtual 28, 3) := by decide +kernel
theorem dX0_volume_5 : decode cX0_volume 5 = .ok (.aload_n 0, 1) := by decide +kernel
theorem dX0_volume_6 : decode cX0_volume 6 = .ok (.iconst 1, 1) := by decide +kernel
theorem dX0_volume_7 : decode cX0_volume 7 = .ok (.invokevirtual 28, 3) := by decide +kernel
theorem dX0_volume_10 : decode cX0_volume 10 = .ok (.imul, 1) := by decide +kernel
theorem dX0_volume_11 : decode cX0_volume 11 = .ok (.aload_n 0, 1) := by decide +kernel
theorem dX0_volume_12 : decode cX0_volume 12 = .ok (.iconst 2, 1) := by decide +kernel
theorem dX0_volume_13 : decode cX0_volume 13 = .ok (.invokevirtual 28, 3) := by decide +kernel
theorem dX0_volume_16 : decode cX0_volume 16 = .ok (.imul, 1) := by decide +kernel
theorem dX0_volume_17 : decode cX0_volume 17 = .ok (.ireturn, 1) := by decide +kernel
theorem dX0_sumOfCorner_0 : decode cX0_sumOfCorner 0 = .ok (.aload_n 0, 1) := by decide +kernel
theorem dX0_sumOfCorner_1 : decode cX0_sumOfCorner 1 = .ok (.getfield 9, 3) := by decide +kernel
theorem dX0_sumOfCorner_4 : decode cX0_sumOfCorner 4 = .ok (.iconst 0, 1) := by decide +kernel
theorem dX0_sumOfCorner_5 : decode cX0_sumOfCorner 5 = .ok (.iaload, 1) := by decide +kernel
theorem dX0_sumOfCorner_6 : decode cX0_sumOfCorner 6 = .ok (.aload_n 0, 1) := by decide +kernel
theorem dX0_sumOfCorner_7 : decode cX0_sumOfCorner 7 = .ok (.getfield 9, 3) := by decide +kernel
theorem dX0_sumOfCorner_10 : decode cX0_sumOfCorner 10 = .ok (.iconst 1, 1) := by decide +kernel
theorem dX0_sumOfCorner_11 : decode cX0_sumOfCorner 11 = .ok (.iaload, 1) := by decide +kernel
theorem dX0_sumOfCorner_12 : decode cX0_sumOfCorner 12 = .ok (.iadd, 1) := by decide +kernel
theorem dX0_sumOfCorner_13 : decode cX0_sumOfCorner 13 = .ok (.aload_n 0, 1) := by decide +kernel
theorem dX0_sumOfCorner_14 : decode cX0_sumOfCorner 14 = .ok (.getfield 9, 3) := by decide +kernel
theorem dX0_sumOfCorner_17 : decode cX0_sumOfCorner 17 = .ok (.iconst 2, 1) := by decide +kernel
theorem dX0_sumOfCorner_18 : decode cX0_sumOfCorner 18 = .ok (.iaload, 1) := by decide +kernel
theorem dX0_sumOfCorner_19 : decode cX0_sumOfCorner 19 = .ok (.iadd, 1) := by decide +kernel
theorem dX0_sumOfCorner_20 : decode cX0_sumOfCorner 20 = .ok (.ireturn, 1) := by decide +kernel
set_option maxRecDepth 20000 in
theorem ggX0_longestDirection_X0_size : GoodIn wsX0_longestDirection wsX0_size := goodIn_r _ [5, 6, 7, 8, 9, 10] (by decide +kernel) (by decide +kernel)
set_option maxRecDepth 20000 in
theorem gX0_longestDirection_X0_size : GoodIn wsX0_longestDirection (wsV RX0 28 RX0 yX0_size wsX0_size) := goodIn_app (goodIn_of _ (by decide +kernel)) ggX0_longestDirection_X0_size
theorem dX0_longestDirection_0 : decode cX0_longestDirection 0 = .ok (.iconst 0, 1) := by decide +kernel
theorem dX0_longestDirection_1 : decode cX0_longestDirection 1 = .ok (.istore_n 1, 1) := by decide +kernel
theorem dX0_longestDirection_2 : decode cX0_longestDirection 2 = .ok (.iconst 1, 1) := by decide +kernel
theorem dX0_longestDirection_3 : decode cX0_longestDirection 3 = .ok (.istore_n 2, 1) := by decide +kernel
theorem dX0_longestDirection_4 : decode cX0_longestDirection 4 = .ok (.iload_n 2, 1) := by decide +kernel
theorem dX0_longestDirection_5 : decode cX0_longestDirection 5 = .ok (.iconst 3, 1) := by decide +kernel
theorem dX0_longestDirection_6 : decode cX0_longestDirection 6 = .ok (.if_icmp .ge 24, 3) := by decide +kernel
theorem dX0_longestDirection_9 : decode cX0_longestDirection 9 = .ok (.aload_n 0, 1) := by decide +kernel
theorem dX0_longestDirection_10 : decode cX0_longestDirection 10 = .ok (.iload_n 2, 1) := by decide +kernel
theorem dX0_longestDirection_11 : decode cX0_longestDirection 11 = .ok (.invokevirtual 28, 3) := by decide +kernel
theorem dX0_longestDirection_14 : decode cX0_longestDirection 14 = .ok (.aload_n 0, 1) := by decide +kernel
theorem dX0_longestDirection_15 : decode cX0_longestDirection 15 = .ok (.iload_n 1, 1) := by decide +kernel
theorem dX0_longestDirection_16 : decode cX0_longestDirection 16 = .ok (.invokevirtual 28, 3) := by decide +kernel
theorem dX0_longestDirection_19 : decode cX0_longestDirection 19 = .ok (.if_icmp .le 5, 3) := by decide +kernel
theorem dX0_longestDirection_22 : decode cX0_longestDirection 22 = .ok (.iload_n 2, 1) := by decide +kernel
theorem dX0_longestDirection_23 : decode cX0_longestDirection 23 = .ok (.istore_n 1, 1) := by decide +kernel
theorem dX0_longestDirection_24 : decode cX0_longestDirection 24 = .ok (.iinc 2 1, 3) := by decide +kernel
theorem dX0_longestDirection_27 : decode cX0_longestDirection 27 = .ok (.goto (-23), 3) := by decide +kernel
theorem dX0_longestDirection_30 : decode cX0_longestDirection 30 = .ok (.iload_n 1, 1) := by decide +kernel
theorem dX0_longestDirection_31 : decode cX0_longestDirection 31 = .ok (.ireturn, 1) := by decide +kernel
theorem dX0_meets_0 : decode cX0_meets 0 = .ok (.aload_n 0, 1) := by decide +kernel
theorem dX0_meets_1 : decode cX0_meets 1 = .ok (.getfield 9, 3) := by decide +kernel
theorem dX0_meets_4 : decode cX0_meets 4 = .ok (.iload_n 2, 1) := by decide +kernel
theorem dX0_meets_5 : decode cX0_meets 5 = .ok (.iaload, 1) := by decide +kernel
theorem dX0_meets_6 : decode cX0_meets 6 = .ok (.aload_n 1, 1) := by decide +kernel
theorem dX0_meets_7 : decode cX0_meets 7 = .ok (.getfield 15, 3) := by decide +kernel
theorem dX0_meets_10 : decode cX0_meets 10 = .ok (.iload_n 2, 1) := by decide +kernel
theorem dX0_meets_11 : decode cX0_meets 11 = .ok (.iaload, 1) := by decide +kernel
theorem dX0_meets_12 : decode cX0_meets 12 = .ok (.if_icmp .ge 22, 3) := by decide +kernel
theorem dX0_meets_15 : decode cX0_meets 15 = .ok (.aload_n 1, 1) := by decide +kernel
theorem dX0_meets_16 : decode cX0_meets 16 = .ok (.getfield 9, 3) := by decide +kernel
theorem dX0_meets_19 : decode cX0_meets 19 = .ok (.iload_n 2, 1) := by decide +kernel
theorem dX0_meets_20 : decode cX0_meets 20 = .ok (.iaload, 1) := by decide +kernel
theorem dX0_meets_21 : decode cX0_meets 21 = .ok (.aload_n 0, 1) := by decide +kernel
theorem dX0_meets_22 : decode cX0_meets 22 = .ok (.getfield 15, 3) := by decide +kernel
theorem dX0_meets_25 : decode cX0_meets 25 = .ok (.iload_n 2, 1) := by decide +kernel
theorem dX0_meets_26 : decode cX0_meets 26 = .ok (.iaload, 1) := by decide +kernel
theorem dX0_meets_27 : decode cX0_meets 27 = .ok (.if_icmp .ge 7, 3) := by decide +kernel
theorem dX0_meets_30 : decode cX0_meets 30 = .ok (.iconst 1, 1) := by decide +kernel
theorem dX0_meets_31 : decode cX0_meets 31 = .ok (.goto 4, 3) := by decide +kernel
theorem dX0_meets_34 : decode cX0_meets 34 = .ok (.iconst 0, 1) := by decide +kernel
theorem dX0_meets_35 : decode cX0_meets 35 = .ok (.ireturn, 1) := by decide +kernel
set_option maxRecDepth 20000 in
theorem ggX0_cuts_X0_meets : GoodIn wsX0_cuts wsX0_meets := goodIn_r _ [5, 6, 7, 8, 9, 10] (by decide +kernel) (by decide +kernel)
set_option maxRecDepth 20000 in
theorem gX0_cuts_X0_meets : GoodIn wsX0_cuts (wsV RX0 32 RX0 yX0_meets wsX0_meets) := goodIn_app (goodIn_of _ (by decide +kernel)) ggX0_cuts_X0_meets
theorem dX0_cuts_0 : decode cX0_cuts 0 = .ok (.aload_n 0, 1) := by decide +kernel
theorem dX0_cuts_1 : decode cX0_cuts 1 = .ok (.aload_n 1, 1) := by decide +kernel
theorem dX0_cuts_2 : decode cX0_cuts 2 = .ok (.iconst 0, 1) := by decide +kernel
theorem dX0_cuts_3 : decode cX0_cuts 3 = .ok (.invokevirtual 32, 3) := by decide +kernel
theorem dX0_cuts_6 : decode cX0_cuts 6 = .ok (.ifCond .eq 25, 3) := by decide +kernel
theorem dX0_cuts_9 : decode cX0_cuts 9 = .ok (.aload_n 0, 1) := by decide +kernel
theorem dX0_cuts_10 : decode cX0_cuts 10 = .ok (.aload_n 1, 1) := by decide +kernel
theorem dX0_cuts_11 : decode cX0_cuts 11 = .ok (.iconst 1, 1) := by decide +kernel
theorem dX0_cuts_12 : decode cX0_cuts 12 = .ok (.invokevirtual 32, 3) := by decide +kernel
theorem dX0_cuts_15 : decode cX0_cuts 15 = .ok (.ifCond .eq 16, 3) := by decide +kernel
theorem dX0_cuts_18 : decode cX0_cuts 18 = .ok (.aload_n 0, 1) := by decide +kernel
theorem dX0_cuts_19 : decode cX0_cuts 19 = .ok (.aload_n 1, 1) := by decide +kernel
theorem dX0_cuts_20 : decode cX0_cuts 20 = .ok (.iconst 2, 1) := by decide +kernel
theorem dX0_cuts_21 : decode cX0_cuts 21 = .ok (.invokevirtual 32, 3) := by decide +kernel
theorem dX0_cuts_24 : decode cX0_cuts 24 = .ok (.ifCond .eq 7, 3) := by decide +kernel
theorem dX0_cuts_27 : decode cX0_cuts 27 = .ok (.iconst 1, 1) := by decide +kernel
theorem dX0_cuts_28 : decode cX0_cuts 28 = .ok (.goto 4, 3) := by decide +kernel
theorem dX0_cuts_31 : decode cX0_cuts 31 = .ok (.iconst 0, 1) := by decide +kernel
theorem dX0_cuts_32 : decode cX0_cuts 32 = .ok (.ireturn, 1) := by decide +kernel
theorem dX0_meetsInDifference_0 : decode cX0_meetsInDifference 0 = .ok (.aload_n 0, 1) := by decide +kernel
theorem dX0_meetsInDifference_1 : decode cX0_meetsInDifference 1 = .ok (.getfield 9, 3) := by decide +kernel
theorem dX0_meetsInDifference_4 : decode cX0_meetsInDifference 4 = .ok (.iload_n 2, 1) := by decide +kernel
theorem dX0_meetsInDifference_5 : decode cX0_meetsInDifference 5 = .ok (.iaload, 1) := by decide +kernel
theorem dX0_meetsInDifference_6 : decode cX0_meetsInDifference 6 = .ok (.aload_n 0, 1) := by decide +kernel
theorem dX0_meetsInDifference_7 : decode cX0_meetsInDifference 7 = .ok (.getfield 15, 3) := by decide +kernel
theorem dX0_meetsInDifference_10 : decode cX0_meetsInDifference 10 = .ok (.iload_n 3, 1) := by decide +kernel
theorem dX0_meetsInDifference_11 : decode cX0_meetsInDifference 11 = .ok (.iaload, 1) := by decide +kernel
theorem dX0_meetsInDifference_12 : decode cX0_meetsInDifference 12 = .ok (.isub, 1) := by decide +kernel
theorem dX0_meetsInDifference_13 : decode cX0_meetsInDifference 13 = .ok (.aload_n 1, 1) := by decide +kernel
theorem dX0_meetsInDifference_14 : decode cX0_meetsInDifference 14 = .ok (.getfield 15, 3) := by decide +kernel
theorem dX0_meetsInDifference_17 : decode cX0_meetsInDifference 17 = .ok (.iload_n 2, 1) := by decide +kernel
theorem dX0_meetsInDifference_18 : decode cX0_meetsInDifference 18 = .ok (.iaload, 1) := by decide +kernel
theorem dX0_meetsInDifference_19 : decode cX0_meetsInDifference 19 = .ok (.aload_n 1, 1) := by decide +kernel
theorem dX0_meetsInDifference_20 : decode cX0_meetsInDifference 20 = .ok (.getfield 9, 3) := by decide +kernel
theorem dX0_meetsInDifference_23 : decode cX0_meetsInDifference 23 = .ok (.iload_n 3, 1) := by decide +kernel
theorem dX0_meetsInDifference_24 : decode cX0_meetsInDifference 24 = .ok (.iaload, 1) := by decide +kernel
theorem dX0_meetsInDifference_25 : decode cX0_meetsInDifference 25 = .ok (.isub, 1) := by decide +kernel
theorem dX0_meetsInDifference_26 : decode cX0_meetsInDifference 26 = .ok (.if_icmp .ge 36, 3) := by decide +kernel
theorem dX0_meetsInDifference_29 : decode cX0_meetsInDifference 29 = .ok (.aload_n 1, 1) := by decide +kernel
theorem dX0_meetsInDifference_30 : decode cX0_meetsInDifference 30 = .ok (.getfield 9, 3) := by decide +kernel
theorem dX0_meetsInDifference_33 : decode cX0_meetsInDifference 33 = .ok (.iload_n 2, 1) := by decide +kernel
theorem dX0_meetsInDifference_34 : decode cX0_meetsInDifference 34 = .ok (.iaload, 1) := by decide +kernel
theorem dX0_meetsInDifference_35 : decode cX0_meetsInDifference 35 = .ok (.aload_n 1, 1) := by decide +kernel
theorem dX0_meetsInDifference_36 : decode cX0_meetsInDifference 36 = .ok (.getfield 15, 3) := by decide +kernel
theorem dX0_meetsInDifference_39 : decode cX0_meetsInDifference 39 = .ok (.iload_n 3, 1) := by decide +kernel
theorem dX0_meetsInDifference_40 : decode cX0_meetsInDifference 40 = .ok (.iaload, 1) := by decide +kernel
theorem dX0_meetsInDifference_41 : decode cX0_meetsInDifference 41 = .ok (.isub, 1) := by decide +kernel
theorem dX0_meetsInDifference_42 : decode cX0_meetsInDifference 42 = .ok (.aload_n 0, 1) := by decide +kernel
theorem dX0_meetsInDifference_43 : decode cX0_meetsInDifference 43 = .ok (.getfield 15, 3) := by decide +kernel
theorem dX0_meetsInDifference_46 : decode cX0_meetsInDifference 46 = .ok (.iload_n 2, 1) := by decide +kernel
theorem dX0_meetsInDifference_47 : decode cX0_meetsInDifference 47 = .ok (.iaload, 1) := by decide +kernel
theorem dX0_meetsInDifference_48 : decode cX0_meetsInDifference 48 = .ok (.aload_n 0, 1) := by decide +kernel
theorem dX0_meetsInDifference_49 : decode cX0_meetsInDifference 49 = .ok (.getfield 9, 3) := by decide +kernel
theorem dX0_meetsInDifference_52 : decode cX0_meetsInDifference 52 = .ok (.iload_n 3, 1) := by decide +kernel
theorem dX0_meetsInDifference_53 : decode cX0_meetsInDifference 53 = .ok (.iaload, 1) := by decide +kernel
theorem dX0_meetsInDifference_54 : decode cX0_meetsInDifference 54 = .ok (.isub, 1) := by decide +kernel
theorem dX0_meetsInDifference_55 : decode cX0_meetsInDifference 55 = .ok (.if_icmp .ge 7, 3) := by decide +kernel
theorem dX0_meetsInDifference_58 : decode cX0_meetsInDifference 58 = .ok (.iconst 1, 1) := by decide +kernel
theorem dX0_meetsInDifference_59 : decode cX0_meetsInDifference 59 = .ok (.goto 4, 3) := by decide +kernel
theorem dX0_meetsInDifference_62 : decode cX0_meetsInDifference 62 = .ok (.iconst 0, 1) := by decide +kernel
theorem dX0_meetsInDifference_63 : decode cX0_meetsInDifference 63 = .ok (.ireturn, 1) := by decide +kernel
set_option maxRecDepth 20000 in
theorem ggX0_overlapsOutlineOf_X0_meetsInDifference : GoodIn wsX0_overlapsOutlineOf wsX0_meetsInDifference := goodIn_r _ [5, 6, 7, 8, 9, 10] (by decide +kernel) (by decide +kernel)
set_option maxRecDepth 20000 in
theorem gX0_overlapsOutlineOf_X0_meetsInDifference : GoodIn wsX0_overlapsOutlineOf (wsV RX0 36 RX0 yX0_meetsInDifference wsX0_meetsInDifference) := goodIn_app (goodIn_of _ (by decide +kernel)) ggX0_overlapsOutlineOf_X0_meetsInDifference
theorem dX0_overlapsOutlineOf_0 : decode cX0_overlapsOutlineOf 0 = .ok (.aload_n 0, 1) := by decide +kernel
theorem dX0_overlapsOutlineOf_1 : decode cX0_overlapsOutlineOf 1 = .ok (.aload_n 1, 1) := by decide +kernel
theorem dX0_overlapsOutlineOf_2 : decode cX0_overlapsOutlineOf 2 = .ok (.iconst 0, 1) := by decide +kernel
theorem dX0_overlapsOutlineOf_3 : decode cX0_overlapsOutlineOf 3 = .ok (.iconst 1, 1) := by decide +kernel
theorem dX0_overlapsOutlineOf_4 : decode cX0_overlapsOutlineOf 4 = .ok (.invokevirtual 36, 3) := by decide +kernel
theorem dX0_overlapsOutlineOf_7 : decode cX0_overlapsOutlineOf 7 = .ok (.ifCond .eq 27, 3) := by decide +kernel
theorem dX0_overlapsOutlineOf_10 : decode cX0_overlapsOutlineOf 10 = .ok (.aload_n 0, 1) := by decide +kernel
theorem dX0_overlapsOutlineOf_11 : decode cX0_overlapsOutlineOf 11 = .ok (.aload_n 1, 1) := by decide +kernel
theorem dX0_overlapsOutlineOf_12 : decode cX0_overlapsOutlineOf 12 = .ok (.iconst 0, 1) := by decide +kernel
theorem dX0_overlapsOutlineOf_13 : decode cX0_overlapsOutlineOf 13 = .ok (.iconst 2, 1) := by decide +kernel
theorem dX0_overlapsOutlineOf_14 : decode cX0_overlapsOutlineOf 14 = .ok (.invokevirtual 36, 3) := by decide +kernel
theorem dX0_overlapsOutlineOf_17 : decode cX0_overlapsOutlineOf 17 = .ok (.ifCond .eq 17, 3) := by decide +kernel
theorem dX0_overlapsOutlineOf_20 : decode cX0_overlapsOutlineOf 20 = .ok (.aload_n 0, 1) := by decide +kernel
theorem dX0_overlapsOutlineOf_21 : decode cX0_overlapsOutlineOf 21 = .ok (.aload_n 1, 1) := by decide +kernel
theorem dX0_overlapsOutlineOf_22 : decode cX0_overlapsOutlineOf 22 = .ok (.iconst 1, 1) := by decide +kernel
theorem dX0_overlapsOutlineOf_23 : decode cX0_overlapsOutlineOf 23 = .ok (.iconst 2, 1) := by decide +kernel
theorem dX0_overlapsOutlineOf_24 : decode cX0_overlapsOutlineOf 24 = .ok (.invokevirtual 36, 3) := by decide +kernel
theorem dX0_overlapsOutlineOf_27 : decode cX0_overlapsOutlineOf 27 = .ok (.ifCond .eq 7, 3) := by decide +kernel
theorem dX0_overlapsOutlineOf_30 : decode cX0_overlapsOutlineOf 30 = .ok (.iconst 1, 1) := by decide +kernel
theorem dX0_overlapsOutlineOf_31 : decode cX0_overlapsOutlineOf 31 = .ok (.goto 4, 3) := by decide +kernel
theorem dX0_overlapsOutlineOf_34 : decode cX0_overlapsOutlineOf 34 = .ok (.iconst 0, 1) := by decide +kernel
theorem dX0_overlapsOutlineOf_35 : decode cX0_overlapsOutlineOf 35 = .ok (.ireturn, 1) := by decide +kernel
set_option maxRecDepth 20000 in
theorem ggX0_directionOfHiding_X0_overlapsOutlineOf : GoodIn wsX0_directionOfHiding wsX0_overlapsOutlineOf := goodIn_r _ [7, 8, 9, 10, 6, 11, 1, 2, 12, 13, 14] (by decide +kernel) (by decide +kernel)
set_option maxRecDepth 20000 in
theorem gX0_directionOfHiding_X0_overlapsOutlineOf : GoodIn wsX0_directionOfHiding (wsV RX0 40 RX0 yX0_overlapsOutlineOf wsX0_overlapsOutlineOf) := goodIn_app (goodIn_of _ (by decide +kernel)) ggX0_directionOfHiding_X0_overlapsOutlineOf
theorem dX0_directionOfHiding_0 : decode cX0_directionOfHiding 0 = .ok (.aload_n 0, 1) := by decide +kernel
theorem dX0_directionOfHiding_1 : decode cX0_directionOfHiding 1 = .ok (.aload_n 1, 1) := by decide +kernel
theorem dX0_directionOfHiding_2 : decode cX0_directionOfHiding 2 = .ok (.invokevirtual 40, 3) := by decide +kernel
theorem dX0_directionOfHiding_5 : decode cX0_directionOfHiding 5 = .ok (.ifCond .ne 5, 3) := by decide +kernel
theorem dX0_directionOfHiding_8 : decode cX0_directionOfHiding 8 = .ok (.iconst (-1), 1) := by decide +kernel
theorem dX0_directionOfHiding_9 : decode cX0_directionOfHiding 9 = .ok (.ireturn, 1) := by decide +kernel
theorem dX0_directionOfHiding_10 : decode cX0_directionOfHiding 10 = .ok (.iconst 0, 1) := by decide +kernel
theorem dX0_directionOfHiding_11 : decode cX0_directionOfHiding 11 = .ok (.istore_n 2, 1) := by decide +kernel
theorem dX0_directionOfHiding_12 : decode cX0_directionOfHiding 12 = .ok (.iload_n 2, 1) := by decide +kernel
theorem dX0_directionOfHiding_13 : decode cX0_directionOfHiding 13 = .ok (.iconst 3, 1) := by decide +kernel
theorem dX0_directionOfHiding_14 : decode cX0_directionOfHiding 14 = .ok (.if_icmp .ge 26, 3) := by decide +kernel
theorem dX0_directionOfHiding_17 : decode cX0_directionOfHiding 17 = .ok (.aload_n 0, 1) := by decide +kernel
theorem dX0_directionOfHiding_18 : decode cX0_directionOfHiding 18 = .ok (.getfield 9, 3) := by decide +kernel
theorem dX0_directionOfHiding_21 : decode cX0_directionOfHiding 21 = .ok (.iload_n 2, 1) := by decide +kernel
theorem dX0_directionOfHiding_22 : decode cX0_directionOfHiding 22 = .ok (.iaload, 1) := by decide +kernel
theorem dX0_directionOfHiding_23 : decode cX0_directionOfHiding 23 = .ok (.aload_n 1, 1) := by decide +kernel
theorem dX0_directionOfHiding_24 : decode cX0_directionOfHiding 24 = .ok (.getfield 15, 3) := by decide +kernel
theorem dX0_directionOfHiding_27 : decode cX0_directionOfHiding 27 = .ok (.iload_n 2, 1) := by decide +kernel
theorem dX0_directionOfHiding_28 : decode cX0_directionOfHiding 28 = .ok (.iaload, 1) := by decide +kernel
theorem dX0_directionOfHiding_29 : decode cX0_directionOfHiding 29 = .ok (.if_icmp .lt 5, 3) := by decide +kernel
theorem dX0_directionOfHiding_32 : decode cX0_directionOfHiding 32 = .ok (.iload_n 2, 1) := by decide +kernel
theorem dX0_directionOfHiding_33 : decode cX0_directionOfHiding 33 = .ok (.ireturn, 1) := by decide +kernel
theorem dX0_directionOfHiding_34 : decode cX0_directionOfHiding 34 = .ok (.iinc 2 1, 3) := by decide +kernel
theorem dX0_directionOfHiding_37 : decode cX0_directionOfHiding 37 = .ok (.goto (-25), 3) := by decide +kernel
theorem dX0_directionOfHiding_40 : decode cX0_directionOfHiding 40 = .ok (.iconst (-1), 1) := by decide +kernel
theorem dX0_directionOfHiding_41 : decode cX0_directionOfHiding 41 = .ok (.ireturn, 1) := by decide +kernel
set_option maxRecDepth 20000 in
theorem ggX0_isBelow_X0_meets : GoodIn wsX0_isBelow wsX0_meets := goodIn_r _ [7, 2, 1, 8, 9, 10] (by decide +kernel) (by decide +kernel)
set_option maxRecDepth 20000 in
theorem gX0_isBelow_X0_meets : GoodIn wsX0_isBelow (wsV RX0 32 RX0 yX0_meets wsX0_meets) := goodIn_app (goodIn_of _ (by decide +kernel)) ggX0_isBelow_X0_meets
theorem dX0_isBelow_0 : decode cX0_isBelow 0 = .ok (.aload_n 0, 1) := by decide +kernel
theorem dX0_isBelow_1 : decode cX0_isBelow 1 = .ok (.aload_n 1, 1) := by decide +kernel
theorem dX0_isBelow_2 : decode cX0_isBelow 2 = .ok (.iconst 0, 1) := by decide +kernel
theorem dX0_isBelow_3 : decode cX0_isBelow 3 = .ok (.invokevirtual 32, 3) := by decide +kernel
theorem dX0_isBelow_6 : decode cX0_isBelow 6 = .ok (.ifCond .eq 31, 3) := by decide +kernel
theorem dX0_isBelow_9 : decode cX0_isBelow 9 = .ok (.aload_n 0, 1) := by decide +kernel
theorem dX0_isBelow_10 : decode cX0_isBelow 10 = .ok (.aload_n 1, 1) := by decide +kernel
theorem dX0_isBelow_11 : decode cX0_isBelow 11 = .ok (.iconst 1, 1) := by decide +kernel
theorem dX0_isBelow_12 : decode cX0_isBelow 12 = .ok (.invokevirtual 32, 3) := by decide +kernel
theorem dX0_isBelow_15 : decode cX0_isBelow 15 = .ok (.ifCond .eq 22, 3) := by decide +kernel
theorem dX0_isBelow_18 : decode cX0_isBelow 18 = .ok (.aload_n 0, 1) := by decide +kernel
theorem dX0_isBelow_19 : decode cX0_isBelow 19 = .ok (.getfield 15, 3) := by decide +kernel
theorem dX0_isBelow_22 : decode cX0_isBelow 22 = .ok (.iconst 2, 1) := by decide +kernel
theorem dX0_isBelow_23 : decode cX0_isBelow 23 = .ok (.iaload, 1) := by decide +kernel
theorem dX0_isBelow_24 : decode cX0_isBelow 24 = .ok (.aload_n 1, 1) := by decide +kernel
theorem dX0_isBelow_25 : decode cX0_isBelow 25 = .ok (.getfield 9, 3) := by decide +kernel
theorem dX0_isBelow_28 : decode cX0_isBelow 28 = .ok (.iconst 2, 1) := by decide +kernel
theorem dX0_isBelow_29 : decode cX0_isBelow 29 = .ok (.iaload, 1) := by decide +kernel
theorem dX0_isBelow_30 : decode cX0_isBelow 30 = .ok (.if_icmp .gt 7, 3) := by decide +kernel
theorem dX0_isBelow_33 : decode cX0_isBelow 33 = .ok (.iconst 1, 1) := by decide +kernel
theorem dX0_isBelow_34 : decode cX0_isBelow 34 = .ok (.goto 4, 3) := by decide +kernel
theorem dX0_isBelow_37 : decode cX0_isBelow 37 = .ok (.iconst 0, 1) := by decide +kernel
theorem dX0_isBelow_38 : decode cX0_isBelow 38 = .ok (.ireturn, 1) := by decide +kernel
theorem dX0_coversRow_0 : decode cX0_coversRow 0 = .ok (.aload_n 0, 1) := by decide +kernel
theorem dX0_coversRow_1 : decode cX0_coversRow 1 = .ok (.getfield 9, 3) := by decide +kernel
theorem dX0_coversRow_4 : decode cX0_coversRow 4 = .ok (.iconst 1, 1) := by decide +kernel
theorem dX0_coversRow_5 : decode cX0_coversRow 5 = .ok (.iaload, 1) := by decide +kernel
theorem dX0_coversRow_6 : decode cX0_coversRow 6 = .ok (.iload_n 1, 1) := by decide +kernel
theorem dX0_coversRow_7 : decode cX0_coversRow 7 = .ok (.if_icmp .gt 17, 3) := by decide +kernel
theorem dX0_coversRow_10 : decode cX0_coversRow 10 = .ok (.iload_n 1, 1) := by decide +kernel
theorem dX0_coversRow_11 : decode cX0_coversRow 11 = .ok (.aload_n 0, 1) := by decide +kernel
theorem dX0_coversRow_12 : decode cX0_coversRow 12 = .ok (.getfield 15, 3) := by decide +kernel
theorem dX0_coversRow_15 : decode cX0_coversRow 15 = .ok (.iconst 1, 1) := by decide +kernel
theorem dX0_coversRow_16 : decode cX0_coversRow 16 = .ok (.iaload, 1) := by decide +kernel
theorem dX0_coversRow_17 : decode cX0_coversRow 17 = .ok (.if_icmp .ge 7, 3) := by decide +kernel
theorem dX0_coversRow_20 : decode cX0_coversRow 20 = .ok (.iconst 1, 1) := by decide +kernel
theorem dX0_coversRow_21 : decode cX0_coversRow 21 = .ok (.goto 4, 3) := by decide +kernel
theorem dX0_coversRow_24 : decode cX0_coversRow 24 = .ok (.iconst 0, 1) := by decide +kernel
theorem dX0_coversRow_25 : decode cX0_coversRow 25 = .ok (.ireturn, 1) := by decide +kernel
set_option maxRecDepth 20000 in
theorem ggX0_rowOfCells_X0_size : GoodIn wsX0_rowOfCells wsX0_size := goodIn_r _ [6, 7, 1, 8, 9, 10] (by decide +kernel) (by decide +kernel)
set_option maxRecDepth 20000 in
theorem gX0_rowOfCells_X0_size : GoodIn wsX0_rowOfCells (wsV RX0 28 RX0 yX0_size wsX0_size) := goodIn_app (goodIn_of _ (by decide +kernel)) ggX0_rowOfCells_X0_size
theorem dX0_rowOfCells_0 : decode cX0_rowOfCells 0 = .ok (.iconst 1, 1) := by decide +kernel
theorem dX0_rowOfCells_1 : decode cX0_rowOfCells 1 = .ok (.aload_n 0, 1) := by decide +kernel
theorem dX0_rowOfCells_2 : decode cX0_rowOfCells 2 = .ok (.iconst 0, 1) := by decide +kernel
theorem dX0_rowOfCells_3 : decode cX0_rowOfCells 3 = .ok (.invokevirtual 28, 3) := by decide +kernel
theorem dX0_rowOfCells_6 : decode cX0_rowOfCells 6 = .ok (.ishl, 1) := by decide +kernel
theorem dX0_rowOfCells_7 : decode cX0_rowOfCells 7 = .ok (.iconst 1, 1) := by decide +kernel
theorem dX0_rowOfCells_8 : decode cX0_rowOfCells 8 = .ok (.isub, 1) := by decide +kernel
theorem dX0_rowOfCells_9 : decode cX0_rowOfCells 9 = .ok (.aload_n 0, 1) := by decide +kernel
theorem dX0_rowOfCells_10 : decode cX0_rowOfCells 10 = .ok (.getfield 9, 3) := by decide +kernel
theorem dX0_rowOfCells_13 : decode cX0_rowOfCells 13 = .ok (.iconst 0, 1) := by decide +kernel
theorem dX0_rowOfCells_14 : decode cX0_rowOfCells 14 = .ok (.iaload, 1) := by decide +kernel
theorem dX0_rowOfCells_15 : decode cX0_rowOfCells 15 = .ok (.ishl, 1) := by decide +kernel
theorem dX0_rowOfCells_16 : decode cX0_rowOfCells 16 = .ok (.ireturn, 1) := by decide +kernel
set_option maxRecDepth 20000 in
theorem ggX1_init_X3_init : GoodIn wsX1_init wsX3_init := goodIn_r _ [10, 11, 2, 3, 12, 13, 14, 15, 16, 17, 18, 19, 20, 21, 24, 25, 26, 27, 28, 29, 30, 31] (by decide +kernel) (by decide +kernel)
set_option maxRecDepth 20000 in
theorem gX1_init_X3_init : GoodIn wsX1_init (wsX3_init) := ggX1_init_X3_init
theorem dX1_init_0 : decode cX1_init 0 = .ok (.aload_n 0, 1) := by decide +kernel
theorem dX1_init_1 : decode cX1_init 1 = .ok (.invokespecial 3, 3) := by decide +kernel
theorem dX1_init_4 : decode cX1_init 4 = .ok (.aload_n 0, 1) := by decide +kernel
theorem dX1_init_5 : decode cX1_init 5 = .ok (.iconst 4, 1) := by decide +kernel
theorem dX1_init_6 : decode cX1_init 6 = .ok (.anewarray 9, 3) := by decide +kernel
theorem dX1_init_9 : decode cX1_init 9 = .ok (.putfield 11, 3) := by decide +kernel
theorem dX1_init_12 : decode cX1_init 12 = .ok (.iconst 0, 1) := by decide +kernel
theorem dX1_init_13 : decode cX1_init 13 = .ok (.istore_n 1, 1) := by decide +kernel
theorem dX1_init_14 : decode cX1_init 14 = .ok (.iload_n 1, 1) := by decide +kernel
theorem dX1_init_15 : decode cX1_init 15 = .ok (.iconst 4, 1) := by decide +kernel
theorem dX1_init_16 : decode cX1_init 16 = .ok (.if_icmp .ge 22, 3) := by decide +kernel
theorem dX1_init_19 : decode cX1_init 19 = .ok (.aload_n 0, 1) := by decide +kernel
theorem dX1_init_20 : decode cX1_init 20 = .ok (.getfield 11, 3) := by decide +kernel
theorem dX1_init_23 : decode cX1_init 23 = .ok (.iload_n 1, 1) := by decide +kernel
theorem dX1_init_24 : decode cX1_init 24 = .ok (.new 9, 3) := by decide +kernel
theorem dX1_init_27 : decode cX1_init 27 = .ok (.dup, 1) := by decide +kernel
theorem dX1_init_28 : decode cX1_init 28 = .ok (.invokespecial 17, 3) := by decide +kernel
theorem dX1_init_31 : decode cX1_init 31 = .ok (.aastore, 1) := by decide +kernel
theorem dX1_init_32 : decode cX1_init 32 = .ok (.iinc 1 1, 3) := by decide +kernel
theorem dX1_init_35 : decode cX1_init 35 = .ok (.goto (-21), 3) := by decide +kernel
theorem dX1_init_38 : decode cX1_init 38 = .ok (.return_, 1) := by decide +kernel
set_option maxRecDepth 20000 in
theorem ggX1_remember_X1_dropOldest : GoodIn wsX1_remember wsX1_dropOldest := goodIn_r _ [7, 2, 1, 30, 31] (by decide +kernel) (by decide +kernel)
set_option maxRecDepth 20000 in
theorem gX1_remember_X1_dropOldest : GoodIn wsX1_remember (wsV RX1 22 RX1 yX1_dropOldest wsX1_dropOldest) := goodIn_app (goodIn_of _ (by decide +kernel)) ggX1_remember_X1_dropOldest
set_option maxRecDepth 20000 in
theorem ggX1_remember_X3_copyFrom : GoodIn wsX1_remember wsX3_copyFrom := goodIn_r _ [12, 13, 14, 15, 16, 17, 18, 19, 20, 21, 22, 23, 24, 25, 26, 27, 28, 29, 32, 33, 34, 35, 36, 37, 38, 39] (by decide +kernel) (by decide +kernel)
set_option maxRecDepth 20000 in
theorem gX1_remember_X3_copyFrom : GoodIn wsX1_remember (wsV RX1 25 RX3 yX3_copyFrom wsX3_copyFrom) := goodIn_app (goodIn_of _ (by decide +kernel)) ggX1_remember_X3_copyFrom
theorem dX1_remember_0 : decode cX1_remember 0 = .ok (.aload_n 0, 1) := by decide +kernel
theorem dX1_remember_1 : decode cX1_remember 1 = .ok (.getfield 18, 3) := by decide +kernel
theorem dX1_remember_4 : decode cX1_remember 4 = .ok (.iconst 4, 1) := by decide +kernel
theorem dX1_remember_5 : decode cX1_remember 5 = .ok (.if_icmp .lt 7, 3) := by decide +kernel
theorem dX1_remember_8 : decode cX1_remember 8 = .ok (.aload_n 0, 1) := by decide +kernel
theorem dX1_remember_9 : decode cX1_remember 9 = .ok (.invokevirtual 22, 3) := by decide +kernel
theorem dX1_remember_12 : decode cX1_remember 12 = .ok (.aload_n 0, 1) := by decide +kernel
theorem dX1_remember_13 : decode cX1_remember 13 = .ok (.getfield 11, 3) := by decide +kernel
theorem dX1_remember_16 : decode cX1_remember 16 = .ok (.aload_n 0, 1) := by decide +kernel
theorem dX1_remember_17 : decode cX1_remember 17 = .ok (.getfield 18, 3) := by decide +kernel
theorem dX1_remember_20 : decode cX1_remember 20 = .ok (.aaload, 1) := by decide +kernel
theorem dX1_remember_21 : decode cX1_remember 21 = .ok (.aload_n 1, 1) := by decide +kernel
theorem dX1_remember_22 : decode cX1_remember 22 = .ok (.invokevirtual 25, 3) := by decide +kernel
theorem dX1_remember_25 : decode cX1_remember 25 = .ok (.aload_n 0, 1) := by decide +kernel
theorem dX1_remember_26 : decode cX1_remember 26 = .ok (.dup, 1) := by decide +kernel
theorem dX1_remember_27 : decode cX1_remember 27 = .ok (.getfield 18, 3) := by decide +kernel
theorem dX1_remember_30 : decode cX1_remember 30 = .ok (.iconst 1, 1) := by decide +kernel
theorem dX1_remember_31 : decode cX1_remember 31 = .ok (.iadd, 1) := by decide +kernel
theorem dX1_remember_32 : decode cX1_remember 32 = .ok (.putfield 18, 3) := by decide +kernel
theorem dX1_remember_35 : decode cX1_remember 35 = .ok (.return_, 1) := by decide +kernel
theorem dX1_dropOldest_0 : decode cX1_dropOldest 0 = .ok (.aload_n 0, 1) := by decide +kernel
theorem dX1_dropOldest_1 : decode cX1_dropOldest 1 = .ok (.getfield 11, 3) := by decide +kernel
theorem dX1_dropOldest_4 : decode cX1_dropOldest 4 = .ok (.iconst 0, 1) := by decide +kernel
theorem dX1_dropOldest_5 : decode cX1_dropOldest 5 = .ok (.aaload, 1) := by decide +kernel
theorem dX1_dropOldest_6 : decode cX1_dropOldest 6 = .ok (.astore_n 1, 1) := by decide +kernel
theorem dX1_dropOldest_7 : decode cX1_dropOldest 7 = .ok (.iconst 0, 1) := by decide +kernel
theorem dX1_dropOldest_8 : decode cX1_dropOldest 8 = .ok (.istore_n 2, 1) := by decide +kernel
theorem dX1_dropOldest_9 : decode cX1_dropOldest 9 = .ok (.iload_n 2, 1) := by decide +kernel
theorem dX1_dropOldest_10 : decode cX1_dropOldest 10 = .ok (.iconst 1, 1) := by decide +kernel
theorem dX1_dropOldest_11 : decode cX1_dropOldest 11 = .ok (.iadd, 1) := by decide +kernel
theorem dX1_dropOldest_12 : decode cX1_dropOldest 12 = .ok (.iconst 4, 1) := by decide +kernel
theorem dX1_dropOldest_13 : decode cX1_dropOldest 13 = .ok (.if_icmp .ge 23, 3) := by decide +kernel
theorem dX1_dropOldest_16 : decode cX1_dropOldest 16 = .ok (.aload_n 0, 1) := by decide +kernel
theorem dX1_dropOldest_17 : decode cX1_dropOldest 17 = .ok (.getfield 11, 3) := by decide +kernel
theorem dX1_dropOldest_20 : decode cX1_dropOldest 20 = .ok (.iload_n 2, 1) := by decide +kernel
theorem dX1_dropOldest_21 : decode cX1_dropOldest 21 = .ok (.aload_n 0, 1) := by decide +kernel
theorem dX1_dropOldest_22 : decode cX1_dropOldest 22 = .ok (.getfield 11, 3) := by decide +kernel
theorem dX1_dropOldest_25 : decode cX1_dropOldest 25 = .ok (.iload_n 2, 1) := by decide +kernel
theorem dX1_dropOldest_26 : decode cX1_dropOldest 26 = .ok (.iconst 1, 1) := by decide +kernel
theorem dX1_dropOldest_27 : decode cX1_dropOldest 27 = .ok (.iadd, 1) := by decide +kernel
theorem dX1_dropOldest_28 : decode cX1_dropOldest 28 = .ok (.aaload, 1) := by decide +kernel
theorem dX1_dropOldest_29 : decode cX1_dropOldest 29 = .ok (.aastore, 1) := by decide +kernel
theorem dX1_dropOldest_30 : decode cX1_dropOldest 30 = .ok (.iinc 2 1, 3) := by decide +kernel
theorem dX1_dropOldest_33 : decode cX1_dropOldest 33 = .ok (.goto (-24), 3) := by decide +kernel
theorem dX1_dropOldest_36 : decode cX1_dropOldest 36 = .ok (.aload_n 0, 1) := by decide +kernel
theorem dX1_dropOldest_37 : decode cX1_dropOldest 37 = .ok (.getfield 11, 3) := by decide +kernel
theorem dX1_dropOldest_40 : decode cX1_dropOldest 40 = .ok (.iconst 3, 1) := by decide +kernel
theorem dX1_dropOldest_41 : decode cX1_dropOldest 41 = .ok (.aload_n 1, 1) := by decide +kernel
theorem dX1_dropOldest_42 : decode cX1_dropOldest 42 = .ok (.aastore, 1) := by decide +kernel
theorem dX1_dropOldest_43 : decode cX1_dropOldest 43 = .ok (.aload_n 0, 1) := by decide +kernel
theorem dX1_dropOldest_44 : decode cX1_dropOldest 44 = .ok (.iconst 3, 1) := by decide +kernel
theorem dX1_dropOldest_45 : decode cX1_dropOldest 45 = .ok (.putfield 18, 3) := by decide +kernel
theorem dX1_dropOldest_48 : decode cX1_dropOldest 48 = .ok (.return_, 1) := by decide +kernel
set_option maxRecDepth 20000 in
theorem ggX1_recall_X3_copyFrom : GoodIn wsX1_recall wsX3_copyFrom := goodIn_r _ [7, 8, 9, 10, 11, 12, 13, 14, 15, 16, 17, 18, 19, 20, 21, 22, 23, 24, 27, 28, 29, 30, 31, 32, 33, 34] (by decide +kernel) (by decide +kernel)
set_option maxRecDepth 20000 in
theorem gX1_recall_X3_copyFrom : GoodIn wsX1_recall (wsV RX1 25 RX3 yX3_copyFrom wsX3_copyFrom) := goodIn_app (goodIn_of _ (by decide +kernel)) ggX1_recall_X3_copyFrom
theorem dX1_recall_0 : decode cX1_recall 0 = .ok (.aload_n 0, 1) := by decide +kernel
theorem dX1_recall_1 : decode cX1_recall 1 = .ok (.getfield 18, 3) := by decide +kernel
theorem dX1_recall_4 : decode cX1_recall 4 = .ok (.ifCond .le 26, 3) := by decide +kernel
theorem dX1_recall_7 : decode cX1_recall 7 = .ok (.aload_n 0, 1) := by decide +kernel
theorem dX1_recall_8 : decode cX1_recall 8 = .ok (.dup, 1) := by decide +kernel
theorem dX1_recall_9 : decode cX1_recall 9 = .ok (.getfield 18, 3) := by decide +kernel
theorem dX1_recall_12 : decode cX1_recall 12 = .ok (.iconst 1, 1) := by decide +kernel
theorem dX1_recall_13 : decode cX1_recall 13 = .ok (.isub, 1) := by decide +kernel
theorem dX1_recall_14 : decode cX1_recall 14 = .ok (.putfield 18, 3) := by decide +kernel
theorem dX1_recall_17 : decode cX1_recall 17 = .ok (.aload_n 1, 1) := by decide +kernel
theorem dX1_recall_18 : decode cX1_recall 18 = .ok (.aload_n 0, 1) := by decide +kernel
theorem dX1_recall_19 : decode cX1_recall 19 = .ok (.getfield 11, 3) := by decide +kernel
theorem dX1_recall_22 : decode cX1_recall 22 = .ok (.aload_n 0, 1) := by decide +kernel
theorem dX1_recall_23 : decode cX1_recall 23 = .ok (.getfield 18, 3) := by decide +kernel
theorem dX1_recall_26 : decode cX1_recall 26 = .ok (.aaload, 1) := by decide +kernel
theorem dX1_recall_27 : decode cX1_recall 27 = .ok (.invokevirtual 25, 3) := by decide +kernel
theorem dX1_recall_30 : decode cX1_recall 30 = .ok (.return_, 1) := by decide +kernel
theorem dX2_init_0 : decode cX2_init 0 = .ok (.aload_n 0, 1) := by decide +kernel
theorem dX2_init_1 : decode cX2_init 1 = .ok (.invokespecial 3, 3) := by decide +kernel
theorem dX2_init_4 : decode cX2_init 4 = .ok (.aload_n 0, 1) := by decide +kernel
theorem dX2_init_5 : decode cX2_init 5 = .ok (.bipush 16, 2) := by decide +kernel
theorem dX2_init_7 : decode cX2_init 7 = .ok (.newarray .int, 2) := by decide +kernel
theorem dX2_init_9 : decode cX2_init 9 = .ok (.putfield 9, 3) := by decide +kernel
theorem dX2_init_12 : decode cX2_init 12 = .ok (.aload_n 0, 1) := by decide +kernel
theorem dX2_init_13 : decode cX2_init 13 = .ok (.bipush 16, 2) := by decide +kernel
theorem dX2_init_15 : decode cX2_init 15 = .ok (.newarray .int, 2) := by decide +kernel
theorem dX2_init_17 : decode cX2_init 17 = .ok (.putfield 15, 3) := by decide +kernel
theorem dX2_init_20 : decode cX2_init 20 = .ok (.aload_n 0, 1) := by decide +kernel
theorem dX2_init_21 : decode cX2_init 21 = .ok (.bipush 16, 2) := by decide +kernel
theorem dX2_init_23 : decode cX2_init 23 = .ok (.newarray .int, 2) := by decide +kernel
theorem dX2_init_25 : decode cX2_init 25 = .ok (.putfield 18, 3) := by decide +kernel
theorem dX2_init_28 : decode cX2_init 28 = .ok (.aload_n 0, 1) := by decide +kernel
theorem dX2_init_29 : decode cX2_init 29 = .ok (.bipush 16, 2) := by decide +kernel
theorem dX2_init_31 : decode cX2_init 31 = .ok (.newarray .int, 2) := by decide +kernel
theorem dX2_init_33 : decode cX2_init 33 = .ok (.putfield 21, 3) := by decide +kernel
theorem dX2_init_36 : decode cX2_init 36 = .ok (.return_, 1) := by decide +kernel
set_option maxRecDepth 20000 in
theorem ggX2_look_X2_bitsHiddenBy : GoodIn wsX2_look wsX2_bitsHiddenBy := goodIn_r _ [7, 1, 8, 9, 10, 11, 12, 13, 14, 15, 16, 17, 18, 19, 20, 21, 22, 23, 79, 80, 81, 82, 83, 91, 92, 93] (by decide +kernel) (by decide +kernel)
set_option maxRecDepth 20000 in
theorem gX2_look_X2_bitsHiddenBy : GoodIn wsX2_look (va_wsS RX2 31 yX2_bitsHiddenBy wsX2_bitsHiddenBy) := goodIn_app (goodIn_of _ (by decide +kernel)) ggX2_look_X2_bitsHiddenBy
set_option maxRecDepth 20000 in
theorem ggX2_look_X2_followChains : GoodIn wsX2_look wsX2_followChains := goodIn_r _ [27, 3, 28, 29, 30, 31, 32, 2, 33, 34, 6, 35, 84, 85, 86, 87, 88, 89, 90] (by decide +kernel) (by decide +kernel)
set_option maxRecDepth 20000 in
theorem gX2_look_X2_followChains : GoodIn wsX2_look (wsV RX2 35 RX2 yX2_followChains wsX2_followChains) := goodIn_app (goodIn_of _ (by decide +kernel)) ggX2_look_X2_followChains
set_option maxRecDepth 20000 in
theorem ggX2_look_X2_draw : GoodIn wsX2_look wsX2_draw := goodIn_r _ [39, 40, 41, 42, 2, 43, 3, 44, 45, 46, 47, 48, 49, 50, 6, 51, 33, 34, 35, 52, 53, 54, 55, 56, 57, 58, 59, 60, 61, 12, 62, 14, 63, 64, 65, 66, 67, 68, 69, 70, 15, 71, 72, 73, 74, 75, 76, 77, 78, 84, 85, 86, 87, 88, 89, 90, 79, 80, 81, 82, 83, 91, 92, 93] (by decide +kernel) (by decide +kernel)
set_option maxRecDepth 20000 in
theorem gX2_look_X2_draw : GoodIn wsX2_look (wsV RX2 38 RX2 yX2_draw wsX2_draw) := goodIn_app (goodIn_of _ (by decide +kernel)) ggX2_look_X2_draw
theorem dX2_look_0 : decode cX2_look 0 = .ok (.aload_n 0, 1) := by decide +kernel
theorem dX2_look_1 : decode cX2_look 1 = .ok (.aload_n 1, 1) := by decide +kernel
theorem dX2_look_2 : decode cX2_look 2 = .ok (.getfield 24, 3) := by decide +kernel
theorem dX2_look_5 : decode cX2_look 5 = .ok (.putfield 30, 3) := by decide +kernel
theorem dX2_look_8 : decode cX2_look 8 = .ok (.iconst 0, 1) := by decide +kernel
theorem dX2_look_9 : decode cX2_look 9 = .ok (.istore_n 2, 1) := by decide +kernel
theorem dX2_look_10 : decode cX2_look 10 = .ok (.iload_n 2, 1) := by decide +kernel
theorem dX2_look_11 : decode cX2_look 11 = .ok (.aload_n 0, 1) := by decide +kernel
theorem dX2_look_12 : decode cX2_look 12 = .ok (.getfield 30, 3) := by decide +kernel
theorem dX2_look_15 : decode cX2_look 15 = .ok (.if_icmp .ge 20, 3) := by decide +kernel
theorem dX2_look_18 : decode cX2_look 18 = .ok (.aload_n 0, 1) := by decide +kernel
theorem dX2_look_19 : decode cX2_look 19 = .ok (.getfield 9, 3) := by decide +kernel
theorem dX2_look_22 : decode cX2_look 22 = .ok (.iload_n 2, 1) := by decide +kernel
theorem dX2_look_23 : decode cX2_look 23 = .ok (.aload_n 1, 1) := by decide +kernel
theorem dX2_look_24 : decode cX2_look 24 = .ok (.iload_n 2, 1) := by decide +kernel
theorem dX2_look_25 : decode cX2_look 25 = .ok (.invokestatic 31, 3) := by decide +kernel
theorem dX2_look_28 : decode cX2_look 28 = .ok (.iastore, 1) := by decide +kernel
theorem dX2_look_29 : decode cX2_look 29 = .ok (.iinc 2 1, 3) := by decide +kernel
theorem dX2_look_32 : decode cX2_look 32 = .ok (.goto (-22), 3) := by decide +kernel
theorem dX2_look_35 : decode cX2_look 35 = .ok (.aload_n 0, 1) := by decide +kernel
theorem dX2_look_36 : decode cX2_look 36 = .ok (.invokevirtual 35, 3) := by decide +kernel
theorem dX2_look_39 : decode cX2_look 39 = .ok (.aload_n 0, 1) := by decide +kernel
theorem dX2_look_40 : decode cX2_look 40 = .ok (.aload_n 1, 1) := by decide +kernel
theorem dX2_look_41 : decode cX2_look 41 = .ok (.invokevirtual 38, 3) := by decide +kernel
theorem dX2_look_44 : decode cX2_look 44 = .ok (.return_, 1) := by decide +kernel
set_option maxRecDepth 20000 in
theorem ggX2_bitsHiddenBy_X0_directionOfHiding : GoodIn wsX2_bitsHiddenBy wsX0_directionOfHiding := goodIn_r _ [7, 8, 9, 10, 11, 12, 6, 13, 14, 15, 16, 17, 23, 24, 25] (by decide +kernel) (by decide +kernel)
set_option maxRecDepth 20000 in
theorem gX2_bitsHiddenBy_X0_directionOfHiding : GoodIn wsX2_bitsHiddenBy (wsV RX2 46 RX0 yX0_directionOfHiding wsX0_directionOfHiding) := goodIn_app (goodIn_of _ (by decide +kernel)) ggX2_bitsHiddenBy_X0_directionOfHiding
theorem dX2_bitsHiddenBy_0 : decode cX2_bitsHiddenBy 0 = .ok (.iconst 0, 1) := by decide +kernel
theorem dX2_bitsHiddenBy_1 : decode cX2_bitsHiddenBy 1 = .ok (.istore_n 2, 1) := by decide +kernel
theorem dX2_bitsHiddenBy_2 : decode cX2_bitsHiddenBy 2 = .ok (.iconst 0, 1) := by decide +kernel
theorem dX2_bitsHiddenBy_3 : decode cX2_bitsHiddenBy 3 = .ok (.istore_n 3, 1) := by decide +kernel
theorem dX2_bitsHiddenBy_4 : decode cX2_bitsHiddenBy 4 = .ok (.iload_n 3, 1) := by decide +kernel
theorem dX2_bitsHiddenBy_5 : decode cX2_bitsHiddenBy 5 = .ok (.aload_n 0, 1) := by decide +kernel
theorem dX2_bitsHiddenBy_6 : decode cX2_bitsHiddenBy 6 = .ok (.getfield 24, 3) := by decide +kernel
theorem dX2_bitsHiddenBy_9 : decode cX2_bitsHiddenBy 9 = .ok (.if_icmp .ge 39, 3) := by decide +kernel
theorem dX2_bitsHiddenBy_12 : decode cX2_bitsHiddenBy 12 = .ok (.iload_n 3, 1) := by decide +kernel
theorem dX2_bitsHiddenBy_13 : decode cX2_bitsHiddenBy 13 = .ok (.iload_n 1, 1) := by decide +kernel
theorem dX2_bitsHiddenBy_14 : decode cX2_bitsHiddenBy 14 = .ok (.if_icmp .eq 28, 3) := by decide +kernel
theorem dX2_bitsHiddenBy_17 : decode cX2_bitsHiddenBy 17 = .ok (.aload_n 0, 1) := by decide +kernel
theorem dX2_bitsHiddenBy_18 : decode cX2_bitsHiddenBy 18 = .ok (.getfield 42, 3) := by decide +kernel
theorem dX2_bitsHiddenBy_21 : decode cX2_bitsHiddenBy 21 = .ok (.iload_n 1, 1) := by decide +kernel
theorem dX2_bitsHiddenBy_22 : decode cX2_bitsHiddenBy 22 = .ok (.aaload, 1) := by decide +kernel
theorem dX2_bitsHiddenBy_23 : decode cX2_bitsHiddenBy 23 = .ok (.aload_n 0, 1) := by decide +kernel
theorem dX2_bitsHiddenBy_24 : decode cX2_bitsHiddenBy 24 = .ok (.getfield 42, 3) := by decide +kernel
theorem dX2_bitsHiddenBy_27 : decode cX2_bitsHiddenBy 27 = .ok (.iload_n 3, 1) := by decide +kernel
theorem dX2_bitsHiddenBy_28 : decode cX2_bitsHiddenBy 28 = .ok (.aaload, 1) := by decide +kernel
theorem dX2_bitsHiddenBy_29 : decode cX2_bitsHiddenBy 29 = .ok (.invokevirtual 46, 3) := by decide +kernel
theorem dX2_bitsHiddenBy_32 : decode cX2_bitsHiddenBy 32 = .ok (.iconst (-1), 1) := by decide +kernel
theorem dX2_bitsHiddenBy_33 : decode cX2_bitsHiddenBy 33 = .ok (.if_icmp .eq 9, 3) := by decide +kernel
theorem dX2_bitsHiddenBy_36 : decode cX2_bitsHiddenBy 36 = .ok (.iload_n 2, 1) := by decide +kernel
theorem dX2_bitsHiddenBy_37 : decode cX2_bitsHiddenBy 37 = .ok (.iconst 1, 1) := by decide +kernel
theorem dX2_bitsHiddenBy_38 : decode cX2_bitsHiddenBy 38 = .ok (.iload_n 3, 1) := by decide +kernel
theorem dX2_bitsHiddenBy_39 : decode cX2_bitsHiddenBy 39 = .ok (.ishl, 1) := by decide +kernel
theorem dX2_bitsHiddenBy_40 : decode cX2_bitsHiddenBy 40 = .ok (.ior, 1) := by decide +kernel
theorem dX2_bitsHiddenBy_41 : decode cX2_bitsHiddenBy 41 = .ok (.istore_n 2, 1) := by decide +kernel
theorem dX2_bitsHiddenBy_42 : decode cX2_bitsHiddenBy 42 = .ok (.iinc 3 1, 3) := by decide +kernel
theorem dX2_bitsHiddenBy_45 : decode cX2_bitsHiddenBy 45 = .ok (.goto (-41), 3) := by decide +kernel
theorem dX2_bitsHiddenBy_48 : decode cX2_bitsHiddenBy 48 = .ok (.iload_n 2, 1) := by decide +kernel
theorem dX2_bitsHiddenBy_49 : decode cX2_bitsHiddenBy 49 = .ok (.ireturn, 1) := by decide +kernel
theorem dX2_hasBit_0 : decode cX2_hasBit 0 = .ok (.iload_n 0, 1) := by decide +kernel
theorem dX2_hasBit_1 : decode cX2_hasBit 1 = .ok (.iload_n 1, 1) := by decide +kernel
theorem dX2_hasBit_2 : decode cX2_hasBit 2 = .ok (.ishr, 1) := by decide +kernel
theorem dX2_hasBit_3 : decode cX2_hasBit 3 = .ok (.iconst 1, 1) := by decide +kernel
theorem dX2_hasBit_4 : decode cX2_hasBit 4 = .ok (.iand, 1) := by decide +kernel
theorem dX2_hasBit_5 : decode cX2_hasBit 5 = .ok (.ifCond .eq 7, 3) := by decide +kernel
theorem dX2_hasBit_8 : decode cX2_hasBit 8 = .ok (.iconst 1, 1) := by decide +kernel
theorem dX2_hasBit_9 : decode cX2_hasBit 9 = .ok (.goto 4, 3) := by decide +kernel
theorem dX2_hasBit_12 : decode cX2_hasBit 12 = .ok (.iconst 0, 1) := by decide +kernel
theorem dX2_hasBit_13 : decode cX2_hasBit 13 = .ok (.ireturn, 1) := by decide +kernel
set_option maxRecDepth 20000 in
theorem ggX2_followChains_X2_hasBit : GoodIn wsX2_followChains wsX2_hasBit := goodIn_r _ [11] (by decide +kernel) (by decide +kernel)
set_option maxRecDepth 20000 in
theorem gX2_followChains_X2_hasBit : GoodIn wsX2_followChains (va_wsS RX2 58 yX2_hasBit wsX2_hasBit) := goodIn_app (goodIn_of _ (by decide +kernel)) ggX2_followChains_X2_hasBit
theorem dX2_followChains_0 : decode cX2_followChains 0 = .ok (.aload_n 0, 1) := by decide +kernel
theorem dX2_followChains_1 : decode cX2_followChains 1 = .ok (.getfield 9, 3) := by decide +kernel
theorem dX2_followChains_4 : decode cX2_followChains 4 = .ok (.iconst 0, 1) := by decide +kernel
theorem dX2_followChains_5 : decode cX2_followChains 5 = .ok (.aload_n 0, 1) := by decide +kernel
theorem dX2_followChains_6 : decode cX2_followChains 6 = .ok (.getfield 15, 3) := by decide +kernel
theorem dX2_followChains_9 : decode cX2_followChains 9 = .ok (.iconst 0, 1) := by decide +kernel
theorem dX2_followChains_10 : decode cX2_followChains 10 = .ok (.bipush 16, 2) := by decide +kernel
theorem dX2_followChains_12 : decode cX2_followChains 12 = .ok (.invokestatic 52, 3) := by decide +kernel
theorem dX2_followChains_15 : decode cX2_followChains 15 = .ok (.iconst 0, 1) := by decide +kernel
theorem dX2_followChains_16 : decode cX2_followChains 16 = .ok (.istore_n 1, 1) := by decide +kernel
theorem dX2_followChains_17 : decode cX2_followChains 17 = .ok (.iload_n 1, 1) := by decide +kernel
theorem dX2_followChains_18 : decode cX2_followChains 18 = .ok (.aload_n 0, 1) := by decide +kernel
theorem dX2_followChains_19 : decode cX2_followChains 19 = .ok (.getfield 30, 3) := by decide +kernel
theorem dX2_followChains_22 : decode cX2_followChains 22 = .ok (.if_icmp .ge 53, 3) := by decide +kernel
theorem dX2_followChains_25 : decode cX2_followChains 25 = .ok (.iconst 0, 1) := by decide +kernel
theorem dX2_followChains_26 : decode cX2_followChains 26 = .ok (.istore_n 2, 1) := by decide +kernel
theorem dX2_followChains_27 : decode cX2_followChains 27 = .ok (.iload_n 2, 1) := by decide +kernel
theorem dX2_followChains_28 : decode cX2_followChains 28 = .ok (.aload_n 0, 1) := by decide +kernel
theorem dX2_followChains_29 : decode cX2_followChains 29 = .ok (.getfield 30, 3) := by decide +kernel
theorem dX2_followChains_32 : decode cX2_followChains 32 = .ok (.if_icmp .ge 37, 3) := by decide +kernel
theorem dX2_followChains_35 : decode cX2_followChains 35 = .ok (.aload_n 0, 1) := by decide +kernel
theorem dX2_followChains_36 : decode cX2_followChains 36 = .ok (.getfield 15, 3) := by decide +kernel
theorem dX2_followChains_39 : decode cX2_followChains 39 = .ok (.iload_n 2, 1) := by decide +kernel
theorem dX2_followChains_40 : decode cX2_followChains 40 = .ok (.iaload, 1) := by decide +kernel
theorem dX2_followChains_41 : decode cX2_followChains 41 = .ok (.iload_n 1, 1) := by decide +kernel
theorem dX2_followChains_42 : decode cX2_followChains 42 = .ok (.invokestatic 58, 3) := by decide +kernel
theorem dX2_followChains_45 : decode cX2_followChains 45 = .ok (.ifCond .eq 18, 3) := by decide +kernel
theorem dX2_followChains_48 : decode cX2_followChains 48 = .ok (.aload_n 0, 1) := by decide +kernel
theorem dX2_followChains_49 : decode cX2_followChains 49 = .ok (.getfield 15, 3) := by decide +kernel
theorem dX2_followChains_52 : decode cX2_followChains 52 = .ok (.iload_n 2, 1) := by decide +kernel
theorem dX2_followChains_53 : decode cX2_followChains 53 = .ok (.dup2, 1) := by decide +kernel
theorem dX2_followChains_54 : decode cX2_followChains 54 = .ok (.iaload, 1) := by decide +kernel
theorem dX2_followChains_55 : decode cX2_followChains 55 = .ok (.aload_n 0, 1) := by decide +kernel
theorem dX2_followChains_56 : decode cX2_followChains 56 = .ok (.getfield 15, 3) := by decide +kernel
theorem dX2_followChains_59 : decode cX2_followChains 59 = .ok (.iload_n 1, 1) := by decide +kernel
theorem dX2_followChains_60 : decode cX2_followChains 60 = .ok (.iaload, 1) := by decide +kernel
theorem dX2_followChains_61 : decode cX2_followChains 61 = .ok (.ior, 1) := by decide +kernel
theorem dX2_followChains_62 : decode cX2_followChains 62 = .ok (.iastore, 1) := by decide +kernel
theorem dX2_followChains_63 : decode cX2_followChains 63 = .ok (.iinc 2 1, 3) := by decide +kernel
theorem dX2_followChains_66 : decode cX2_followChains 66 = .ok (.goto (-39), 3) := by decide +kernel
theorem dX2_followChains_69 : decode cX2_followChains 69 = .ok (.iinc 1 1, 3) := by decide +kernel
theorem dX2_followChains_72 : decode cX2_followChains 72 = .ok (.goto (-55), 3) := by decide +kernel
theorem dX2_followChains_75 : decode cX2_followChains 75 = .ok (.return_, 1) := by decide +kernel
set_option maxRecDepth 20000 in
theorem ggX2_draw_J7_fill_53178 : GoodIn wsX2_draw wsJ7_fill_53178 := goodIn_r _ [10] (by decide +kernel) (by decide +kernel)
set_option maxRecDepth 20000 in
theorem gX2_draw_J7_fill_53178 : GoodIn wsX2_draw (va_wsS RX2 62 yJ7_fill_53178 wsJ7_fill_53178) := goodIn_app (goodIn_of _ (by decide +kernel)) ggX2_draw_J7_fill_53178
set_option maxRecDepth 20000 in
theorem ggX2_draw_X2_nextToDraw : GoodIn wsX2_draw wsX2_nextToDraw := goodIn_r _ [15, 4, 2, 6, 16, 17, 14, 18, 19, 20, 21, 22, 23, 24, 25, 26, 27, 28, 29, 30, 31, 32, 33, 34, 35, 36, 37, 38, 39, 40, 49, 50, 51, 52, 53, 54, 55, 56, 57, 58, 59, 60, 61, 62, 63] (by decide +kernel) (by decide +kernel)
set_option maxRecDepth 20000 in
theorem gX2_draw_X2_nextToDraw : GoodIn wsX2_draw (wsV RX2 74 RX2 yX2_nextToDraw wsX2_nextToDraw) := goodIn_app (goodIn_of _ (by decide +kernel)) ggX2_draw_X2_nextToDraw
set_option maxRecDepth 20000 in
theorem ggX2_draw_X2_layerAbove : GoodIn wsX2_draw wsX2_layerAbove := goodIn_r _ [44, 4, 1, 45, 46, 47, 48, 16, 17, 14, 18, 49, 50, 51, 52, 53, 54, 55] (by decide +kernel) (by decide +kernel)
set_option maxRecDepth 20000 in
theorem gX2_draw_X2_layerAbove : GoodIn wsX2_draw (wsV RX2 78 RX2 yX2_layerAbove wsX2_layerAbove) := goodIn_app (goodIn_of _ (by decide +kernel)) ggX2_draw_X2_layerAbove
theorem dX2_draw_0 : decode cX2_draw 0 = .ok (.aload_n 0, 1) := by decide +kernel
theorem dX2_draw_1 : decode cX2_draw 1 = .ok (.getfield 21, 3) := by decide +kernel
theorem dX2_draw_4 : decode cX2_draw 4 = .ok (.bipush (-5), 2) := by decide +kernel
theorem dX2_draw_6 : decode cX2_draw 6 = .ok (.invokestatic 62, 3) := by decide +kernel
theorem dX2_draw_9 : decode cX2_draw 9 = .ok (.aload_n 0, 1) := by decide +kernel
theorem dX2_draw_10 : decode cX2_draw 10 = .ok (.iconst 0, 1) := by decide +kernel
theorem dX2_draw_11 : decode cX2_draw 11 = .ok (.putfield 68, 3) := by decide +kernel
theorem dX2_draw_14 : decode cX2_draw 14 = .ok (.aload_n 0, 1) := by decide +kernel
theorem dX2_draw_15 : decode cX2_draw 15 = .ok (.iconst 0, 1) := by decide +kernel
theorem dX2_draw_16 : decode cX2_draw 16 = .ok (.putfield 71, 3) := by decide +kernel
theorem dX2_draw_19 : decode cX2_draw 19 = .ok (.iconst 0, 1) := by decide +kernel
theorem dX2_draw_20 : decode cX2_draw 20 = .ok (.istore_n 2, 1) := by decide +kernel
theorem dX2_draw_21 : decode cX2_draw 21 = .ok (.iload_n 2, 1) := by decide +kernel
theorem dX2_draw_22 : decode cX2_draw 22 = .ok (.aload_n 0, 1) := by decide +kernel
theorem dX2_draw_23 : decode cX2_draw 23 = .ok (.getfield 30, 3) := by decide +kernel
theorem dX2_draw_26 : decode cX2_draw 26 = .ok (.if_icmp .ge 66, 3) := by decide +kernel
theorem dX2_draw_29 : decode cX2_draw 29 = .ok (.aload_n 0, 1) := by decide +kernel
theorem dX2_draw_30 : decode cX2_draw 30 = .ok (.aload_n 1, 1) := by decide +kernel
theorem dX2_draw_31 : decode cX2_draw 31 = .ok (.invokevirtual 74, 3) := by decide +kernel
theorem dX2_draw_34 : decode cX2_draw 34 = .ok (.istore_n 3, 1) := by decide +kernel
theorem dX2_draw_35 : decode cX2_draw 35 = .ok (.iload_n 3, 1) := by decide +kernel
theorem dX2_draw_36 : decode cX2_draw 36 = .ok (.iconst (-1), 1) := by decide +kernel
theorem dX2_draw_37 : decode cX2_draw 37 = .ok (.if_icmp .ne 4, 3) := by decide +kernel
theorem dX2_draw_40 : decode cX2_draw 40 = .ok (.return_, 1) := by decide +kernel
theorem dX2_draw_41 : decode cX2_draw 41 = .ok (.aload_n 0, 1) := by decide +kernel
theorem dX2_draw_42 : decode cX2_draw 42 = .ok (.getfield 18, 3) := by decide +kernel
theorem dX2_draw_45 : decode cX2_draw 45 = .ok (.iload_n 2, 1) := by decide +kernel
theorem dX2_draw_46 : decode cX2_draw 46 = .ok (.iload_n 3, 1) := by decide +kernel
theorem dX2_draw_47 : decode cX2_draw 47 = .ok (.iastore, 1) := by decide +kernel
theorem dX2_draw_48 : decode cX2_draw 48 = .ok (.aload_n 0, 1) := by decide +kernel
theorem dX2_draw_49 : decode cX2_draw 49 = .ok (.getfield 21, 3) := by decide +kernel
theorem dX2_draw_52 : decode cX2_draw 52 = .ok (.iload_n 3, 1) := by decide +kernel
theorem dX2_draw_53 : decode cX2_draw 53 = .ok (.aload_n 0, 1) := by decide +kernel
theorem dX2_draw_54 : decode cX2_draw 54 = .ok (.aload_n 0, 1) := by decide +kernel
theorem dX2_draw_55 : decode cX2_draw 55 = .ok (.getfield 9, 3) := by decide +kernel
theorem dX2_draw_58 : decode cX2_draw 58 = .ok (.iload_n 3, 1) := by decide +kernel
theorem dX2_draw_59 : decode cX2_draw 59 = .ok (.iaload, 1) := by decide +kernel
theorem dX2_draw_60 : decode cX2_draw 60 = .ok (.invokevirtual 78, 3) := by decide +kernel
theorem dX2_draw_63 : decode cX2_draw 63 = .ok (.iastore, 1) := by decide +kernel
theorem dX2_draw_64 : decode cX2_draw 64 = .ok (.aload_n 0, 1) := by decide +kernel
theorem dX2_draw_65 : decode cX2_draw 65 = .ok (.dup, 1) := by decide +kernel
theorem dX2_draw_66 : decode cX2_draw 66 = .ok (.getfield 68, 3) := by decide +kernel
theorem dX2_draw_69 : decode cX2_draw 69 = .ok (.iconst 1, 1) := by decide +kernel
theorem dX2_draw_70 : decode cX2_draw 70 = .ok (.iload_n 3, 1) := by decide +kernel
theorem dX2_draw_71 : decode cX2_draw 71 = .ok (.ishl, 1) := by decide +kernel
theorem dX2_draw_72 : decode cX2_draw 72 = .ok (.ior, 1) := by decide +kernel
theorem dX2_draw_73 : decode cX2_draw 73 = .ok (.putfield 68, 3) := by decide +kernel
theorem dX2_draw_76 : decode cX2_draw 76 = .ok (.aload_n 0, 1) := by decide +kernel
theorem dX2_draw_77 : decode cX2_draw 77 = .ok (.dup, 1) := by decide +kernel
theorem dX2_draw_78 : decode cX2_draw 78 = .ok (.getfield 71, 3) := by decide +kernel
theorem dX2_draw_81 : decode cX2_draw 81 = .ok (.iconst 1, 1) := by decide +kernel
theorem dX2_draw_82 : decode cX2_draw 82 = .ok (.iadd, 1) := by decide +kernel
theorem dX2_draw_83 : decode cX2_draw 83 = .ok (.putfield 71, 3) := by decide +kernel
theorem dX2_draw_86 : decode cX2_draw 86 = .ok (.iinc 2 1, 3) := by decide +kernel
theorem dX2_draw_89 : decode cX2_draw 89 = .ok (.goto (-68), 3) := by decide +kernel
theorem dX2_draw_92 : decode cX2_draw 92 = .ok (.return_, 1) := by decide +kernel
set_option maxRecDepth 20000 in
theorem ggX2_nextToDraw_X2_hasBit : GoodIn wsX2_nextToDraw wsX2_hasBit := goodIn_r _ [7] (by decide +kernel) (by decide +kernel)
set_option maxRecDepth 20000 in
theorem gX2_nextToDraw_X2_hasBit : GoodIn wsX2_nextToDraw (va_wsS RX2 58 yX2_hasBit wsX2_hasBit) := goodIn_app (goodIn_of _ (by decide +kernel)) ggX2_nextToDraw_X2_hasBit
set_option maxRecDepth 20000 in
theorem ggX2_nextToDraw_X3_weightInDrawing : GoodIn wsX2_nextToDraw wsX3_weightInDrawing := goodIn_r _ [12, 13, 14, 15, 16, 17, 18, 19, 20, 21, 22, 23, 24, 25, 26, 27, 28, 29, 37, 38, 39, 40, 41, 42, 43, 44] (by decide +kernel) (by decide +kernel)
set_option maxRecDepth 20000 in
theorem gX2_nextToDraw_X3_weightInDrawing : GoodIn wsX2_nextToDraw (wsV RX2 82 RX3 yX3_weightInDrawing wsX3_weightInDrawing) := goodIn_app (goodIn_of _ (by decide +kernel)) ggX2_nextToDraw_X3_weightInDrawing
theorem dX2_nextToDraw_0 : decode cX2_nextToDraw 0 = .ok (.iconst (-1), 1) := by decide +kernel
theorem dX2_nextToDraw_1 : decode cX2_nextToDraw 1 = .ok (.istore_n 2, 1) := by decide +kernel
theorem dX2_nextToDraw_2 : decode cX2_nextToDraw 2 = .ok (.iconst 0, 1) := by decide +kernel
theorem dX2_nextToDraw_3 : decode cX2_nextToDraw 3 = .ok (.istore_n 3, 1) := by decide +kernel
theorem dX2_nextToDraw_4 : decode cX2_nextToDraw 4 = .ok (.iload_n 3, 1) := by decide +kernel
theorem dX2_nextToDraw_5 : decode cX2_nextToDraw 5 = .ok (.aload_n 0, 1) := by decide +kernel
theorem dX2_nextToDraw_6 : decode cX2_nextToDraw 6 = .ok (.getfield 30, 3) := by decide +kernel
theorem dX2_nextToDraw_9 : decode cX2_nextToDraw 9 = .ok (.if_icmp .ge 68, 3) := by decide +kernel
theorem dX2_nextToDraw_12 : decode cX2_nextToDraw 12 = .ok (.aload_n 0, 1) := by decide +kernel
theorem dX2_nextToDraw_13 : decode cX2_nextToDraw 13 = .ok (.getfield 68, 3) := by decide +kernel
theorem dX2_nextToDraw_16 : decode cX2_nextToDraw 16 = .ok (.iload_n 3, 1) := by decide +kernel
theorem dX2_nextToDraw_17 : decode cX2_nextToDraw 17 = .ok (.invokestatic 58, 3) := by decide +kernel
theorem dX2_nextToDraw_20 : decode cX2_nextToDraw 20 = .ok (.ifCond .ne 23, 3) := by decide +kernel
theorem dX2_nextToDraw_23 : decode cX2_nextToDraw 23 = .ok (.aload_n 0, 1) := by decide +kernel
theorem dX2_nextToDraw_24 : decode cX2_nextToDraw 24 = .ok (.getfield 9, 3) := by decide +kernel
theorem dX2_nextToDraw_27 : decode cX2_nextToDraw 27 = .ok (.iload_n 3, 1) := by decide +kernel
theorem dX2_nextToDraw_28 : decode cX2_nextToDraw 28 = .ok (.iaload, 1) := by decide +kernel
theorem dX2_nextToDraw_29 : decode cX2_nextToDraw 29 = .ok (.aload_n 0, 1) := by decide +kernel
theorem dX2_nextToDraw_30 : decode cX2_nextToDraw 30 = .ok (.getfield 68, 3) := by decide +kernel
theorem dX2_nextToDraw_33 : decode cX2_nextToDraw 33 = .ok (.iconst (-1), 1) := by decide +kernel
theorem dX2_nextToDraw_34 : decode cX2_nextToDraw 34 = .ok (.ixor, 1) := by decide +kernel
theorem dX2_nextToDraw_35 : decode cX2_nextToDraw 35 = .ok (.iand, 1) := by decide +kernel
theorem dX2_nextToDraw_36 : decode cX2_nextToDraw 36 = .ok (.ifCond .ne 7, 3) := by decide +kernel
theorem dX2_nextToDraw_39 : decode cX2_nextToDraw 39 = .ok (.iconst 1, 1) := by decide +kernel
theorem dX2_nextToDraw_40 : decode cX2_nextToDraw 40 = .ok (.goto 4, 3) := by decide +kernel
theorem dX2_nextToDraw_43 : decode cX2_nextToDraw 43 = .ok (.iconst 0, 1) := by decide +kernel
theorem dX2_nextToDraw_44 : decode cX2_nextToDraw 44 = .ok (.istore 4, 2) := by decide +kernel
theorem dX2_nextToDraw_46 : decode cX2_nextToDraw 46 = .ok (.iload 4, 2) := by decide +kernel
theorem dX2_nextToDraw_48 : decode cX2_nextToDraw 48 = .ok (.ifCond .eq 23, 3) := by decide +kernel
theorem dX2_nextToDraw_51 : decode cX2_nextToDraw 51 = .ok (.iload_n 2, 1) := by decide +kernel
theorem dX2_nextToDraw_52 : decode cX2_nextToDraw 52 = .ok (.iconst (-1), 1) := by decide +kernel
theorem dX2_nextToDraw_53 : decode cX2_nextToDraw 53 = .ok (.if_icmp .eq 16, 3) := by decide +kernel
theorem dX2_nextToDraw_56 : decode cX2_nextToDraw 56 = .ok (.aload_n 1, 1) := by decide +kernel
theorem dX2_nextToDraw_57 : decode cX2_nextToDraw 57 = .ok (.iload_n 3, 1) := by decide +kernel
theorem dX2_nextToDraw_58 : decode cX2_nextToDraw 58 = .ok (.invokevirtual 82, 3) := by decide +kernel
theorem dX2_nextToDraw_61 : decode cX2_nextToDraw 61 = .ok (.aload_n 1, 1) := by decide +kernel
theorem dX2_nextToDraw_62 : decode cX2_nextToDraw 62 = .ok (.iload_n 2, 1) := by decide +kernel
theorem dX2_nextToDraw_63 : decode cX2_nextToDraw 63 = .ok (.invokevirtual 82, 3) := by decide +kernel
theorem dX2_nextToDraw_66 : decode cX2_nextToDraw 66 = .ok (.if_icmp .ge 5, 3) := by decide +kernel
theorem dX2_nextToDraw_69 : decode cX2_nextToDraw 69 = .ok (.iload_n 3, 1) := by decide +kernel
theorem dX2_nextToDraw_70 : decode cX2_nextToDraw 70 = .ok (.istore_n 2, 1) := by decide +kernel
theorem dX2_nextToDraw_71 : decode cX2_nextToDraw 71 = .ok (.iinc 3 1, 3) := by decide +kernel
theorem dX2_nextToDraw_74 : decode cX2_nextToDraw 74 = .ok (.goto (-70), 3) := by decide +kernel
theorem dX2_nextToDraw_77 : decode cX2_nextToDraw 77 = .ok (.iload_n 2, 1) := by decide +kernel
theorem dX2_nextToDraw_78 : decode cX2_nextToDraw 78 = .ok (.ireturn, 1) := by decide +kernel
set_option maxRecDepth 20000 in
theorem ggX2_layerAbove_X2_hasBit : GoodIn wsX2_layerAbove wsX2_hasBit := goodIn_r _ [10] (by decide +kernel) (by decide +kernel)
set_option maxRecDepth 20000 in
theorem gX2_layerAbove_X2_hasBit : GoodIn wsX2_layerAbove (va_wsS RX2 58 yX2_hasBit wsX2_hasBit) := goodIn_app (goodIn_of _ (by decide +kernel)) ggX2_layerAbove_X2_hasBit
theorem dX2_layerAbove_0 : decode cX2_layerAbove 0 = .ok (.iconst 0, 1) := by decide +kernel
theorem dX2_layerAbove_1 : decode cX2_layerAbove 1 = .ok (.istore_n 2, 1) := by decide +kernel
theorem dX2_layerAbove_2 : decode cX2_layerAbove 2 = .ok (.iconst 0, 1) := by decide +kernel
theorem dX2_layerAbove_3 : decode cX2_layerAbove 3 = .ok (.istore_n 3, 1) := by decide +kernel
theorem dX2_layerAbove_4 : decode cX2_layerAbove 4 = .ok (.iload_n 3, 1) := by decide +kernel
theorem dX2_layerAbove_5 : decode cX2_layerAbove 5 = .ok (.aload_n 0, 1) := by decide +kernel
theorem dX2_layerAbove_6 : decode cX2_layerAbove 6 = .ok (.getfield 30, 3) := by decide +kernel
theorem dX2_layerAbove_9 : decode cX2_layerAbove 9 = .ok (.if_icmp .ge 30, 3) := by decide +kernel
theorem dX2_layerAbove_12 : decode cX2_layerAbove 12 = .ok (.iload_n 1, 1) := by decide +kernel
theorem dX2_layerAbove_13 : decode cX2_layerAbove 13 = .ok (.iload_n 3, 1) := by decide +kernel
theorem dX2_layerAbove_14 : decode cX2_layerAbove 14 = .ok (.invokestatic 58, 3) := by decide +kernel
theorem dX2_layerAbove_17 : decode cX2_layerAbove 17 = .ok (.ifCond .eq 16, 3) := by decide +kernel
theorem dX2_layerAbove_20 : decode cX2_layerAbove 20 = .ok (.iload_n 2, 1) := by decide +kernel
theorem dX2_layerAbove_21 : decode cX2_layerAbove 21 = .ok (.aload_n 0, 1) := by decide +kernel
theorem dX2_layerAbove_22 : decode cX2_layerAbove 22 = .ok (.getfield 21, 3) := by decide +kernel
theorem dX2_layerAbove_25 : decode cX2_layerAbove 25 = .ok (.iload_n 3, 1) := by decide +kernel
theorem dX2_layerAbove_26 : decode cX2_layerAbove 26 = .ok (.iaload, 1) := by decide +kernel
theorem dX2_layerAbove_27 : decode cX2_layerAbove 27 = .ok (.iconst 1, 1) := by decide +kernel
theorem dX2_layerAbove_28 : decode cX2_layerAbove 28 = .ok (.iadd, 1) := by decide +kernel
theorem dX2_layerAbove_29 : decode cX2_layerAbove 29 = .ok (.invokestatic 85, 3) := by decide +kernel
theorem dX2_layerAbove_32 : decode cX2_layerAbove 32 = .ok (.istore_n 2, 1) := by decide +kernel
theorem dX2_layerAbove_33 : decode cX2_layerAbove 33 = .ok (.iinc 3 1, 3) := by decide +kernel
theorem dX2_layerAbove_36 : decode cX2_layerAbove 36 = .ok (.goto (-32), 3) := by decide +kernel
theorem dX2_layerAbove_39 : decode cX2_layerAbove 39 = .ok (.iload_n 2, 1) := by decide +kernel
theorem dX2_layerAbove_40 : decode cX2_layerAbove 40 = .ok (.ireturn, 1) := by decide +kernel
set_option maxRecDepth 20000 in
theorem ggX2_hiddenBy_J6_bitCount_0f7a4 : GoodIn wsX2_hiddenBy wsJ6_bitCount_0f7a4 := goodIn_r _ [5, 6, 7, 8] (by decide +kernel) (by decide +kernel)
set_option maxRecDepth 20000 in
theorem gX2_hiddenBy_J6_bitCount_0f7a4 : GoodIn wsX2_hiddenBy (va_wsS RX2 91 yJ6_bitCount_0f7a4 wsJ6_bitCount_0f7a4) := goodIn_app (goodIn_of _ (by decide +kernel)) ggX2_hiddenBy_J6_bitCount_0f7a4
theorem dX2_hiddenBy_0 : decode cX2_hiddenBy 0 = .ok (.aload_n 0, 1) := by decide +kernel
theorem dX2_hiddenBy_1 : decode cX2_hiddenBy 1 = .ok (.getfield 9, 3) := by decide +kernel
theorem dX2_hiddenBy_4 : decode cX2_hiddenBy 4 = .ok (.iload_n 1, 1) := by decide +kernel
theorem dX2_hiddenBy_5 : decode cX2_hiddenBy 5 = .ok (.iaload, 1) := by decide +kernel
theorem dX2_hiddenBy_6 : decode cX2_hiddenBy 6 = .ok (.invokestatic 91, 3) := by decide +kernel
theorem dX2_hiddenBy_9 : decode cX2_hiddenBy 9 = .ok (.ireturn, 1) := by decide +kernel
set_option maxRecDepth 20000 in
theorem ggX2_hidersOf_X2_hasBit : GoodIn wsX2_hidersOf wsX2_hasBit := goodIn_r _ [6] (by decide +kernel) (by decide +kernel)
set_option maxRecDepth 20000 in
theorem gX2_hidersOf_X2_hasBit : GoodIn wsX2_hidersOf (va_wsS RX2 58 yX2_hasBit wsX2_hasBit) := goodIn_app (goodIn_of _ (by decide +kernel)) ggX2_hidersOf_X2_hasBit
theorem dX2_hidersOf_0 : decode cX2_hidersOf 0 = .ok (.iconst 0, 1) := by decide +kernel
theorem dX2_hidersOf_1 : decode cX2_hidersOf 1 = .ok (.istore_n 2, 1) := by decide +kernel
theorem dX2_hidersOf_2 : decode cX2_hidersOf 2 = .ok (.iconst 0, 1) := by decide +kernel
theorem dX2_hidersOf_3 : decode cX2_hidersOf 3 = .ok (.istore_n 3, 1) := by decide +kernel
theorem dX2_hidersOf_4 : decode cX2_hidersOf 4 = .ok (.iload_n 3, 1) := by decide +kernel
theorem dX2_hidersOf_5 : decode cX2_hidersOf 5 = .ok (.aload_n 0, 1) := by decide +kernel
theorem dX2_hidersOf_6 : decode cX2_hidersOf 6 = .ok (.getfield 30, 3) := by decide +kernel
theorem dX2_hidersOf_9 : decode cX2_hidersOf 9 = .ok (.if_icmp .ge 25, 3) := by decide +kernel
theorem dX2_hidersOf_12 : decode cX2_hidersOf 12 = .ok (.aload_n 0, 1) := by decide +kernel
theorem dX2_hidersOf_13 : decode cX2_hidersOf 13 = .ok (.getfield 9, 3) := by decide +kernel
theorem dX2_hidersOf_16 : decode cX2_hidersOf 16 = .ok (.iload_n 3, 1) := by decide +kernel
theorem dX2_hidersOf_17 : decode cX2_hidersOf 17 = .ok (.iaload, 1) := by decide +kernel
theorem dX2_hidersOf_18 : decode cX2_hidersOf 18 = .ok (.iload_n 1, 1) := by decide +kernel
theorem dX2_hidersOf_19 : decode cX2_hidersOf 19 = .ok (.invokestatic 58, 3) := by decide +kernel
theorem dX2_hidersOf_22 : decode cX2_hidersOf 22 = .ok (.ifCond .eq 6, 3) := by decide +kernel
theorem dX2_hidersOf_25 : decode cX2_hidersOf 25 = .ok (.iinc 2 1, 3) := by decide +kernel
theorem dX2_hidersOf_28 : decode cX2_hidersOf 28 = .ok (.iinc 3 1, 3) := by decide +kernel
theorem dX2_hidersOf_31 : decode cX2_hidersOf 31 = .ok (.goto (-27), 3) := by decide +kernel
theorem dX2_hidersOf_34 : decode cX2_hidersOf 34 = .ok (.iload_n 2, 1) := by decide +kernel
theorem dX2_hidersOf_35 : decode cX2_hidersOf 35 = .ok (.ireturn, 1) := by decide +kernel
set_option maxRecDepth 20000 in
theorem ggX2_hidings_X2_hiddenBy : GoodIn wsX2_hidings wsX2_hiddenBy := goodIn_r _ [6, 7, 8, 9, 10, 11, 12, 13, 14, 15, 16, 17, 18, 19, 20, 21] (by decide +kernel) (by decide +kernel)
set_option maxRecDepth 20000 in
theorem gX2_hidings_X2_hiddenBy : GoodIn wsX2_hidings (wsV RX2 96 RX2 yX2_hiddenBy wsX2_hiddenBy) := goodIn_app (goodIn_of _ (by decide +kernel)) ggX2_hidings_X2_hiddenBy
theorem dX2_hidings_0 : decode cX2_hidings 0 = .ok (.iconst 0, 1) := by decide +kernel
theorem dX2_hidings_1 : decode cX2_hidings 1 = .ok (.istore_n 1, 1) := by decide +kernel
theorem dX2_hidings_2 : decode cX2_hidings 2 = .ok (.iconst 0, 1) := by decide +kernel
theorem dX2_hidings_3 : decode cX2_hidings 3 = .ok (.istore_n 2, 1) := by decide +kernel
theorem dX2_hidings_4 : decode cX2_hidings 4 = .ok (.iload_n 2, 1) := by decide +kernel
theorem dX2_hidings_5 : decode cX2_hidings 5 = .ok (.aload_n 0, 1) := by decide +kernel
theorem dX2_hidings_6 : decode cX2_hidings 6 = .ok (.getfield 30, 3) := by decide +kernel
theorem dX2_hidings_9 : decode cX2_hidings 9 = .ok (.if_icmp .ge 17, 3) := by decide +kernel
theorem dX2_hidings_12 : decode cX2_hidings 12 = .ok (.iload_n 1, 1) := by decide +kernel
theorem dX2_hidings_13 : decode cX2_hidings 13 = .ok (.aload_n 0, 1) := by decide +kernel
theorem dX2_hidings_14 : decode cX2_hidings 14 = .ok (.iload_n 2, 1) := by decide +kernel
theorem dX2_hidings_15 : decode cX2_hidings 15 = .ok (.invokevirtual 96, 3) := by decide +kernel
theorem dX2_hidings_18 : decode cX2_hidings 18 = .ok (.iadd, 1) := by decide +kernel
theorem dX2_hidings_19 : decode cX2_hidings 19 = .ok (.istore_n 1, 1) := by decide +kernel
theorem dX2_hidings_20 : decode cX2_hidings 20 = .ok (.iinc 2 1, 3) := by decide +kernel
theorem dX2_hidings_23 : decode cX2_hidings 23 = .ok (.goto (-19), 3) := by decide +kernel
theorem dX2_hidings_26 : decode cX2_hidings 26 = .ok (.iload_n 1, 1) := by decide +kernel
theorem dX2_hidings_27 : decode cX2_hidings 27 = .ok (.ireturn, 1) := by decide +kernel
set_option maxRecDepth 20000 in
theorem ggX2_hidingsNotIn_J6_bitCount_0f7a4 : GoodIn wsX2_hidingsNotIn wsJ6_bitCount_0f7a4 := goodIn_r _ [6, 7, 8, 9] (by decide +kernel) (by decide +kernel)
set_option maxRecDepth 20000 in
theorem gX2_hidingsNotIn_J6_bitCount_0f7a4 : GoodIn wsX2_hidingsNotIn (va_wsS RX2 91 yJ6_bitCount_0f7a4 wsJ6_bitCount_0f7a4) := goodIn_app (goodIn_of _ (by decide +kernel)) ggX2_hidingsNotIn_J6_bitCount_0f7a4
theorem dX2_hidingsNotIn_0 : decode cX2_hidingsNotIn 0 = .ok (.iconst 0, 1) := by decide +kernel
theorem dX2_hidingsNotIn_1 : decode cX2_hidingsNotIn 1 = .ok (.istore_n 2, 1) := by decide +kernel
theorem dX2_hidingsNotIn_2 : decode cX2_hidingsNotIn 2 = .ok (.iconst 0, 1) := by decide +kernel
theorem dX2_hidingsNotIn_3 : decode cX2_hidingsNotIn 3 = .ok (.istore_n 3, 1) := by decide +kernel
theorem dX2_hidingsNotIn_4 : decode cX2_hidingsNotIn 4 = .ok (.iload_n 3, 1) := by decide +kernel
theorem dX2_hidingsNotIn_5 : decode cX2_hidingsNotIn 5 = .ok (.aload_n 0, 1) := by decide +kernel
theorem dX2_hidingsNotIn_6 : decode cX2_hidingsNotIn 6 = .ok (.getfield 30, 3) := by decide +kernel
theorem dX2_hidingsNotIn_9 : decode cX2_hidingsNotIn 9 = .ok (.if_icmp .ge 30, 3) := by decide +kernel
theorem dX2_hidingsNotIn_12 : decode cX2_hidingsNotIn 12 = .ok (.iload_n 2, 1) := by decide +kernel
theorem dX2_hidingsNotIn_13 : decode cX2_hidingsNotIn 13 = .ok (.aload_n 0, 1) := by decide +kernel
theorem dX2_hidingsNotIn_14 : decode cX2_hidingsNotIn 14 = .ok (.getfield 9, 3) := by decide +kernel
theorem dX2_hidingsNotIn_17 : decode cX2_hidingsNotIn 17 = .ok (.iload_n 3, 1) := by decide +kernel
theorem dX2_hidingsNotIn_18 : decode cX2_hidingsNotIn 18 = .ok (.iaload, 1) := by decide +kernel
theorem dX2_hidingsNotIn_19 : decode cX2_hidingsNotIn 19 = .ok (.aload_n 1, 1) := by decide +kernel
theorem dX2_hidingsNotIn_20 : decode cX2_hidingsNotIn 20 = .ok (.getfield 9, 3) := by decide +kernel
theorem dX2_hidingsNotIn_23 : decode cX2_hidingsNotIn 23 = .ok (.iload_n 3, 1) := by decide +kernel
theorem dX2_hidingsNotIn_24 : decode cX2_hidingsNotIn 24 = .ok (.iaload, 1) := by decide +kernel
theorem dX2_hidingsNotIn_25 : decode cX2_hidingsNotIn 25 = .ok (.iconst (-1), 1) := by decide +kernel
theorem dX2_hidingsNotIn_26 : decode cX2_hidingsNotIn 26 = .ok (.ixor, 1) := by decide +kernel
theorem dX2_hidingsNotIn_27 : decode cX2_hidingsNotIn 27 = .ok (.iand, 1) := by decide +kernel
theorem dX2_hidingsNotIn_28 : decode cX2_hidingsNotIn 28 = .ok (.invokestatic 91, 3) := by decide +kernel
theorem dX2_hidingsNotIn_31 : decode cX2_hidingsNotIn 31 = .ok (.iadd, 1) := by decide +kernel
theorem dX2_hidingsNotIn_32 : decode cX2_hidingsNotIn 32 = .ok (.istore_n 2, 1) := by decide +kernel
theorem dX2_hidingsNotIn_33 : decode cX2_hidingsNotIn 33 = .ok (.iinc 3 1, 3) := by decide +kernel
theorem dX2_hidingsNotIn_36 : decode cX2_hidingsNotIn 36 = .ok (.goto (-32), 3) := by decide +kernel
theorem dX2_hidingsNotIn_39 : decode cX2_hidingsNotIn 39 = .ok (.iload_n 2, 1) := by decide +kernel
theorem dX2_hidingsNotIn_40 : decode cX2_hidingsNotIn 40 = .ok (.ireturn, 1) := by decide +kernel
theorem dX2_slotDrawn_0 : decode cX2_slotDrawn 0 = .ok (.iload_n 1, 1) := by decide +kernel
theorem dX2_slotDrawn_1 : decode cX2_slotDrawn 1 = .ok (.ifCond .lt 20, 3) := by decide +kernel
theorem dX2_slotDrawn_4 : decode cX2_slotDrawn 4 = .ok (.iload_n 1, 1) := by decide +kernel
theorem dX2_slotDrawn_5 : decode cX2_slotDrawn 5 = .ok (.aload_n 0, 1) := by decide +kernel
theorem dX2_slotDrawn_6 : decode cX2_slotDrawn 6 = .ok (.getfield 71, 3) := by decide +kernel
theorem dX2_slotDrawn_9 : decode cX2_slotDrawn 9 = .ok (.if_icmp .ge 12, 3) := by decide +kernel
theorem dX2_slotDrawn_12 : decode cX2_slotDrawn 12 = .ok (.aload_n 0, 1) := by decide +kernel
theorem dX2_slotDrawn_13 : decode cX2_slotDrawn 13 = .ok (.getfield 18, 3) := by decide +kernel
theorem dX2_slotDrawn_16 : decode cX2_slotDrawn 16 = .ok (.iload_n 1, 1) := by decide +kernel
theorem dX2_slotDrawn_17 : decode cX2_slotDrawn 17 = .ok (.iaload, 1) := by decide +kernel
theorem dX2_slotDrawn_18 : decode cX2_slotDrawn 18 = .ok (.goto 4, 3) := by decide +kernel
theorem dX2_slotDrawn_21 : decode cX2_slotDrawn 21 = .ok (.iconst (-1), 1) := by decide +kernel
theorem dX2_slotDrawn_22 : decode cX2_slotDrawn 22 = .ok (.ireturn, 1) := by decide +kernel
theorem dX2_greatestLayer_0 : decode cX2_greatestLayer 0 = .ok (.bipush (-5), 2) := by decide +kernel
theorem dX2_greatestLayer_2 : decode cX2_greatestLayer 2 = .ok (.istore_n 1, 1) := by decide +kernel
theorem dX2_greatestLayer_3 : decode cX2_greatestLayer 3 = .ok (.iconst 0, 1) := by decide +kernel
theorem dX2_greatestLayer_4 : decode cX2_greatestLayer 4 = .ok (.istore_n 2, 1) := by decide +kernel
theorem dX2_greatestLayer_5 : decode cX2_greatestLayer 5 = .ok (.iload_n 2, 1) := by decide +kernel
theorem dX2_greatestLayer_6 : decode cX2_greatestLayer 6 = .ok (.aload_n 0, 1) := by decide +kernel
theorem dX2_greatestLayer_7 : decode cX2_greatestLayer 7 = .ok (.getfield 30, 3) := by decide +kernel
theorem dX2_greatestLayer_10 : decode cX2_greatestLayer 10 = .ok (.if_icmp .ge 20, 3) := by decide +kernel
theorem dX2_greatestLayer_13 : decode cX2_greatestLayer 13 = .ok (.iload_n 1, 1) := by decide +kernel
theorem dX2_greatestLayer_14 : decode cX2_greatestLayer 14 = .ok (.aload_n 0, 1) := by decide +kernel
theorem dX2_greatestLayer_15 : decode cX2_greatestLayer 15 = .ok (.getfield 21, 3) := by decide +kernel
theorem dX2_greatestLayer_18 : decode cX2_greatestLayer 18 = .ok (.iload_n 2, 1) := by decide +kernel
theorem dX2_greatestLayer_19 : decode cX2_greatestLayer 19 = .ok (.iaload, 1) := by decide +kernel
theorem dX2_greatestLayer_20 : decode cX2_greatestLayer 20 = .ok (.invokestatic 85, 3) := by decide +kernel
theorem dX2_greatestLayer_23 : decode cX2_greatestLayer 23 = .ok (.istore_n 1, 1) := by decide +kernel
theorem dX2_greatestLayer_24 : decode cX2_greatestLayer 24 = .ok (.iinc 2 1, 3) := by decide +kernel
theorem dX2_greatestLayer_27 : decode cX2_greatestLayer 27 = .ok (.goto (-22), 3) := by decide +kernel
theorem dX2_greatestLayer_30 : decode cX2_greatestLayer 30 = .ok (.iload_n 1, 1) := by decide +kernel
theorem dX2_greatestLayer_31 : decode cX2_greatestLayer 31 = .ok (.ireturn, 1) := by decide +kernel
set_option maxRecDepth 20000 in
theorem ggX2_firstNotDrawnUnder_X2_hasBit : GoodIn wsX2_firstNotDrawnUnder wsX2_hasBit := goodIn_r _ [7] (by decide +kernel) (by decide +kernel)
set_option maxRecDepth 20000 in
theorem gX2_firstNotDrawnUnder_X2_hasBit : GoodIn wsX2_firstNotDrawnUnder (va_wsS RX2 58 yX2_hasBit wsX2_hasBit) := goodIn_app (goodIn_of _ (by decide +kernel)) ggX2_firstNotDrawnUnder_X2_hasBit
theorem dX2_firstNotDrawnUnder_0 : decode cX2_firstNotDrawnUnder 0 = .ok (.iconst 0, 1) := by decide +kernel
theorem dX2_firstNotDrawnUnder_1 : decode cX2_firstNotDrawnUnder 1 = .ok (.istore_n 2, 1) := by decide +kernel
theorem dX2_firstNotDrawnUnder_2 : decode cX2_firstNotDrawnUnder 2 = .ok (.iload_n 2, 1) := by decide +kernel
theorem dX2_firstNotDrawnUnder_3 : decode cX2_firstNotDrawnUnder 3 = .ok (.aload_n 0, 1) := by decide +kernel
theorem dX2_firstNotDrawnUnder_4 : decode cX2_firstNotDrawnUnder 4 = .ok (.getfield 30, 3) := by decide +kernel
theorem dX2_firstNotDrawnUnder_7 : decode cX2_firstNotDrawnUnder 7 = .ok (.if_icmp .ge 35, 3) := by decide +kernel
theorem dX2_firstNotDrawnUnder_10 : decode cX2_firstNotDrawnUnder 10 = .ok (.aload_n 0, 1) := by decide +kernel
theorem dX2_firstNotDrawnUnder_11 : decode cX2_firstNotDrawnUnder 11 = .ok (.getfield 9, 3) := by decide +kernel
theorem dX2_firstNotDrawnUnder_14 : decode cX2_firstNotDrawnUnder 14 = .ok (.iload_n 1, 1) := by decide +kernel
theorem dX2_firstNotDrawnUnder_15 : decode cX2_firstNotDrawnUnder 15 = .ok (.iaload, 1) := by decide +kernel
theorem dX2_firstNotDrawnUnder_16 : decode cX2_firstNotDrawnUnder 16 = .ok (.iload_n 2, 1) := by decide +kernel
theorem dX2_firstNotDrawnUnder_17 : decode cX2_firstNotDrawnUnder 17 = .ok (.invokestatic 58, 3) := by decide +kernel
theorem dX2_firstNotDrawnUnder_20 : decode cX2_firstNotDrawnUnder 20 = .ok (.ifCond .eq 16, 3) := by decide +kernel
theorem dX2_firstNotDrawnUnder_23 : decode cX2_firstNotDrawnUnder 23 = .ok (.aload_n 0, 1) := by decide +kernel
theorem dX2_firstNotDrawnUnder_24 : decode cX2_firstNotDrawnUnder 24 = .ok (.getfield 68, 3) := by decide +kernel
theorem dX2_firstNotDrawnUnder_27 : decode cX2_firstNotDrawnUnder 27 = .ok (.iload_n 2, 1) := by decide +kernel
theorem dX2_firstNotDrawnUnder_28 : decode cX2_firstNotDrawnUnder 28 = .ok (.invokestatic 58, 3) := by decide +kernel
theorem dX2_firstNotDrawnUnder_31 : decode cX2_firstNotDrawnUnder 31 = .ok (.ifCond .ne 5, 3) := by decide +kernel
theorem dX2_firstNotDrawnUnder_34 : decode cX2_firstNotDrawnUnder 34 = .ok (.iload_n 2, 1) := by decide +kernel
theorem dX2_firstNotDrawnUnder_35 : decode cX2_firstNotDrawnUnder 35 = .ok (.ireturn, 1) := by decide +kernel
theorem dX2_firstNotDrawnUnder_36 : decode cX2_firstNotDrawnUnder 36 = .ok (.iinc 2 1, 3) := by decide +kernel
theorem dX2_firstNotDrawnUnder_39 : decode cX2_firstNotDrawnUnder 39 = .ok (.goto (-37), 3) := by decide +kernel
theorem dX2_firstNotDrawnUnder_42 : decode cX2_firstNotDrawnUnder 42 = .ok (.iconst (-1), 1) := by decide +kernel
theorem dX2_firstNotDrawnUnder_43 : decode cX2_firstNotDrawnUnder 43 = .ok (.ireturn, 1) := by decide +kernel
set_option maxRecDepth 20000 in
theorem ggX2_isInRing_X2_hasBit : GoodIn wsX2_isInRing wsX2_hasBit := goodIn_r _ [5] (by decide +kernel) (by decide +kernel)
set_option maxRecDepth 20000 in
theorem gX2_isInRing_X2_hasBit : GoodIn wsX2_isInRing (va_wsS RX2 58 yX2_hasBit wsX2_hasBit) := goodIn_app (goodIn_of _ (by decide +kernel)) ggX2_isInRing_X2_hasBit
theorem dX2_isInRing_0 : decode cX2_isInRing 0 = .ok (.aload_n 0, 1) := by decide +kernel
theorem dX2_isInRing_1 : decode cX2_isInRing 1 = .ok (.getfield 15, 3) := by decide +kernel
theorem dX2_isInRing_4 : decode cX2_isInRing 4 = .ok (.iload_n 1, 1) := by decide +kernel
theorem dX2_isInRing_5 : decode cX2_isInRing 5 = .ok (.iaload, 1) := by decide +kernel
theorem dX2_isInRing_6 : decode cX2_isInRing 6 = .ok (.iload_n 1, 1) := by decide +kernel
theorem dX2_isInRing_7 : decode cX2_isInRing 7 = .ok (.invokestatic 58, 3) := by decide +kernel
theorem dX2_isInRing_10 : decode cX2_isInRing 10 = .ok (.ireturn, 1) := by decide +kernel
set_option maxRecDepth 20000 in
theorem ggX2_boxesInRings_X2_isInRing : GoodIn wsX2_boxesInRings wsX2_isInRing := goodIn_r _ [6, 7, 8, 9, 5, 10, 11, 12, 13, 14, 15, 16, 17] (by decide +kernel) (by decide +kernel)
set_option maxRecDepth 20000 in
theorem gX2_boxesInRings_X2_isInRing : GoodIn wsX2_boxesInRings (wsV RX2 99 RX2 yX2_isInRing wsX2_isInRing) := goodIn_app (goodIn_of _ (by decide +kernel)) ggX2_boxesInRings_X2_isInRing
theorem dX2_boxesInRings_0 : decode cX2_boxesInRings 0 = .ok (.iconst 0, 1) := by decide +kernel
theorem dX2_boxesInRings_1 : decode cX2_boxesInRings 1 = .ok (.istore_n 1, 1) := by decide +kernel
theorem dX2_boxesInRings_2 : decode cX2_boxesInRings 2 = .ok (.iconst 0, 1) := by decide +kernel
theorem dX2_boxesInRings_3 : decode cX2_boxesInRings 3 = .ok (.istore_n 2, 1) := by decide +kernel
theorem dX2_boxesInRings_4 : decode cX2_boxesInRings 4 = .ok (.iload_n 2, 1) := by decide +kernel
theorem dX2_boxesInRings_5 : decode cX2_boxesInRings 5 = .ok (.aload_n 0, 1) := by decide +kernel
theorem dX2_boxesInRings_6 : decode cX2_boxesInRings 6 = .ok (.getfield 30, 3) := by decide +kernel
theorem dX2_boxesInRings_9 : decode cX2_boxesInRings 9 = .ok (.if_icmp .ge 20, 3) := by decide +kernel
theorem dX2_boxesInRings_12 : decode cX2_boxesInRings 12 = .ok (.aload_n 0, 1) := by decide +kernel
theorem dX2_boxesInRings_13 : decode cX2_boxesInRings 13 = .ok (.iload_n 2, 1) := by decide +kernel
theorem dX2_boxesInRings_14 : decode cX2_boxesInRings 14 = .ok (.invokevirtual 99, 3) := by decide +kernel
theorem dX2_boxesInRings_17 : decode cX2_boxesInRings 17 = .ok (.ifCond .eq 6, 3) := by decide +kernel
theorem dX2_boxesInRings_20 : decode cX2_boxesInRings 20 = .ok (.iinc 1 1, 3) := by decide +kernel
theorem dX2_boxesInRings_23 : decode cX2_boxesInRings 23 = .ok (.iinc 2 1, 3) := by decide +kernel
theorem dX2_boxesInRings_26 : decode cX2_boxesInRings 26 = .ok (.goto (-22), 3) := by decide +kernel
theorem dX2_boxesInRings_29 : decode cX2_boxesInRings 29 = .ok (.iload_n 1, 1) := by decide +kernel
theorem dX2_boxesInRings_30 : decode cX2_boxesInRings 30 = .ok (.ireturn, 1) := by decide +kernel
set_option maxRecDepth 20000 in
theorem ggX2_shortestRing_X2_shortestRingOf : GoodIn wsX2_shortestRing wsX2_shortestRingOf := goodIn_r _ [6, 7, 1, 8, 9, 5, 10, 11, 12, 13, 14, 15, 16, 17, 18, 19, 20, 21] (by decide +kernel) (by decide +kernel)
set_option maxRecDepth 20000 in
theorem gX2_shortestRing_X2_shortestRingOf : GoodIn wsX2_shortestRing (wsV RX2 103 RX2 yX2_shortestRingOf wsX2_shortestRingOf) := goodIn_app (goodIn_of _ (by decide +kernel)) ggX2_shortestRing_X2_shortestRingOf
theorem dX2_shortestRing_0 : decode cX2_shortestRing 0 = .ok (.bipush (-5), 2) := by decide +kernel
theorem dX2_shortestRing_2 : decode cX2_shortestRing 2 = .ok (.istore_n 1, 1) := by decide +kernel
theorem dX2_shortestRing_3 : decode cX2_shortestRing 3 = .ok (.iconst 0, 1) := by decide +kernel
theorem dX2_shortestRing_4 : decode cX2_shortestRing 4 = .ok (.istore_n 2, 1) := by decide +kernel
theorem dX2_shortestRing_5 : decode cX2_shortestRing 5 = .ok (.iload_n 2, 1) := by decide +kernel
theorem dX2_shortestRing_6 : decode cX2_shortestRing 6 = .ok (.aload_n 0, 1) := by decide +kernel
theorem dX2_shortestRing_7 : decode cX2_shortestRing 7 = .ok (.getfield 30, 3) := by decide +kernel
theorem dX2_shortestRing_10 : decode cX2_shortestRing 10 = .ok (.if_icmp .ge 34, 3) := by decide +kernel
theorem dX2_shortestRing_13 : decode cX2_shortestRing 13 = .ok (.aload_n 0, 1) := by decide +kernel
theorem dX2_shortestRing_14 : decode cX2_shortestRing 14 = .ok (.iload_n 2, 1) := by decide +kernel
theorem dX2_shortestRing_15 : decode cX2_shortestRing 15 = .ok (.invokevirtual 103, 3) := by decide +kernel
theorem dX2_shortestRing_18 : decode cX2_shortestRing 18 = .ok (.istore_n 3, 1) := by decide +kernel
theorem dX2_shortestRing_19 : decode cX2_shortestRing 19 = .ok (.iload_n 3, 1) := by decide +kernel
theorem dX2_shortestRing_20 : decode cX2_shortestRing 20 = .ok (.bipush (-5), 2) := by decide +kernel
theorem dX2_shortestRing_22 : decode cX2_shortestRing 22 = .ok (.if_icmp .eq 16, 3) := by decide +kernel
theorem dX2_shortestRing_25 : decode cX2_shortestRing 25 = .ok (.iload_n 1, 1) := by decide +kernel
theorem dX2_shortestRing_26 : decode cX2_shortestRing 26 = .ok (.bipush (-5), 2) := by decide +kernel
theorem dX2_shortestRing_28 : decode cX2_shortestRing 28 = .ok (.if_icmp .eq 8, 3) := by decide +kernel
theorem dX2_shortestRing_31 : decode cX2_shortestRing 31 = .ok (.iload_n 3, 1) := by decide +kernel
theorem dX2_shortestRing_32 : decode cX2_shortestRing 32 = .ok (.iload_n 1, 1) := by decide +kernel
theorem dX2_shortestRing_33 : decode cX2_shortestRing 33 = .ok (.if_icmp .ge 5, 3) := by decide +kernel
theorem dX2_shortestRing_36 : decode cX2_shortestRing 36 = .ok (.iload_n 3, 1) := by decide +kernel
theorem dX2_shortestRing_37 : decode cX2_shortestRing 37 = .ok (.istore_n 1, 1) := by decide +kernel
theorem dX2_shortestRing_38 : decode cX2_shortestRing 38 = .ok (.iinc 2 1, 3) := by decide +kernel
theorem dX2_shortestRing_41 : decode cX2_shortestRing 41 = .ok (.goto (-36), 3) := by decide +kernel
theorem dX2_shortestRing_44 : decode cX2_shortestRing 44 = .ok (.iload_n 1, 1) := by decide +kernel
theorem dX2_shortestRing_45 : decode cX2_shortestRing 45 = .ok (.ireturn, 1) := by decide +kernel
set_option maxRecDepth 20000 in
theorem ggX2_shortestRingOf_X2_hasBit : GoodIn wsX2_shortestRingOf wsX2_hasBit := goodIn_r _ [6] (by decide +kernel) (by decide +kernel)
set_option maxRecDepth 20000 in
theorem gX2_shortestRingOf_X2_hasBit : GoodIn wsX2_shortestRingOf (va_wsS RX2 58 yX2_hasBit wsX2_hasBit) := goodIn_app (goodIn_of _ (by decide +kernel)) ggX2_shortestRingOf_X2_hasBit
set_option maxRecDepth 20000 in
theorem ggX2_shortestRingOf_X2_bitsHiddenByAll : GoodIn wsX2_shortestRingOf wsX2_bitsHiddenByAll := goodIn_r _ [10, 2, 1, 3, 4, 5, 6, 11, 12, 13, 14, 15, 16, 17] (by decide +kernel) (by decide +kernel)
set_option maxRecDepth 20000 in
theorem gX2_shortestRingOf_X2_bitsHiddenByAll : GoodIn wsX2_shortestRingOf (wsV RX2 106 RX2 yX2_bitsHiddenByAll wsX2_bitsHiddenByAll) := goodIn_app (goodIn_of _ (by decide +kernel)) ggX2_shortestRingOf_X2_bitsHiddenByAll
theorem dX2_shortestRingOf_0 : decode cX2_shortestRingOf 0 = .ok (.aload_n 0, 1) := by decide +kernel
theorem dX2_shortestRingOf_1 : decode cX2_shortestRingOf 1 = .ok (.getfield 9, 3) := by decide +kernel
theorem dX2_shortestRingOf_4 : decode cX2_shortestRingOf 4 = .ok (.iload_n 1, 1) := by decide +kernel
theorem dX2_shortestRingOf_5 : decode cX2_shortestRingOf 5 = .ok (.iaload, 1) := by decide +kernel
theorem dX2_shortestRingOf_6 : decode cX2_shortestRingOf 6 = .ok (.istore_n 2, 1) := by decide +kernel
end
section
theorem dX2_shortestRingOf_7 : decode cX2_shortestRingOf 7 = .ok (.iconst 1, 1) := by decide +kernel
theorem dX2_shortestRingOf_8 : decode cX2_shortestRingOf 8 = .ok (.istore_n 3, 1) := by decide +kernel
theorem dX2_shortestRingOf_9 : decode cX2_shortestRingOf 9 = .ok (.iload_n 3, 1) := by decide +kernel
theorem dX2_shortestRingOf_10 : decode cX2_shortestRingOf 10 = .ok (.aload_n 0, 1) := by decide +kernel
theorem dX2_shortestRingOf_11 : decode cX2_shortestRingOf 11 = .ok (.getfield 30, 3) := by decide +kernel
theorem dX2_shortestRingOf_14 : decode cX2_shortestRingOf 14 = .ok (.if_icmp .gt 27, 3) := by decide +kernel
theorem dX2_shortestRingOf_17 : decode cX2_shortestRingOf 17 = .ok (.iload_n 2, 1) := by decide +kernel
theorem dX2_shortestRingOf_18 : decode cX2_shortestRingOf 18 = .ok (.iload_n 1, 1) := by decide +kernel
theorem dX2_shortestRingOf_19 : decode cX2_shortestRingOf 19 = .ok (.invokestatic 58, 3) := by decide +kernel
theorem dX2_shortestRingOf_22 : decode cX2_shortestRingOf 22 = .ok (.ifCond .eq 5, 3) := by decide +kernel
theorem dX2_shortestRingOf_25 : decode cX2_shortestRingOf 25 = .ok (.iload_n 3, 1) := by decide +kernel
theorem dX2_shortestRingOf_26 : decode cX2_shortestRingOf 26 = .ok (.ireturn, 1) := by decide +kernel
theorem dX2_shortestRingOf_27 : decode cX2_shortestRingOf 27 = .ok (.iload_n 2, 1) := by decide +kernel
theorem dX2_shortestRingOf_28 : decode cX2_shortestRingOf 28 = .ok (.aload_n 0, 1) := by decide +kernel
theorem dX2_shortestRingOf_29 : decode cX2_shortestRingOf 29 = .ok (.iload_n 2, 1) := by decide +kernel
theorem dX2_shortestRingOf_30 : decode cX2_shortestRingOf 30 = .ok (.invokevirtual 106, 3) := by decide +kernel
theorem dX2_shortestRingOf_33 : decode cX2_shortestRingOf 33 = .ok (.ior, 1) := by decide +kernel
theorem dX2_shortestRingOf_34 : decode cX2_shortestRingOf 34 = .ok (.istore_n 2, 1) := by decide +kernel
theorem dX2_shortestRingOf_35 : decode cX2_shortestRingOf 35 = .ok (.iinc 3 1, 3) := by decide +kernel
theorem dX2_shortestRingOf_38 : decode cX2_shortestRingOf 38 = .ok (.goto (-29), 3) := by decide +kernel
theorem dX2_shortestRingOf_41 : decode cX2_shortestRingOf 41 = .ok (.bipush (-5), 2) := by decide +kernel
theorem dX2_shortestRingOf_43 : decode cX2_shortestRingOf 43 = .ok (.ireturn, 1) := by decide +kernel
set_option maxRecDepth 20000 in
theorem ggX2_bitsHiddenByAll_X2_hasBit : GoodIn wsX2_bitsHiddenByAll wsX2_hasBit := goodIn_r _ [6] (by decide +kernel) (by decide +kernel)
set_option maxRecDepth 20000 in
theorem gX2_bitsHiddenByAll_X2_hasBit : GoodIn wsX2_bitsHiddenByAll (va_wsS RX2 58 yX2_hasBit wsX2_hasBit) := goodIn_app (goodIn_of _ (by decide +kernel)) ggX2_bitsHiddenByAll_X2_hasBit
theorem dX2_bitsHiddenByAll_0 : decode cX2_bitsHiddenByAll 0 = .ok (.iconst 0, 1) := by decide +kernel
theorem dX2_bitsHiddenByAll_1 : decode cX2_bitsHiddenByAll 1 = .ok (.istore_n 2, 1) := by decide +kernel
theorem dX2_bitsHiddenByAll_2 : decode cX2_bitsHiddenByAll 2 = .ok (.iconst 0, 1) := by decide +kernel
theorem dX2_bitsHiddenByAll_3 : decode cX2_bitsHiddenByAll 3 = .ok (.istore_n 3, 1) := by decide +kernel
theorem dX2_bitsHiddenByAll_4 : decode cX2_bitsHiddenByAll 4 = .ok (.iload_n 3, 1) := by decide +kernel
theorem dX2_bitsHiddenByAll_5 : decode cX2_bitsHiddenByAll 5 = .ok (.aload_n 0, 1) := by decide +kernel
theorem dX2_bitsHiddenByAll_6 : decode cX2_bitsHiddenByAll 6 = .ok (.getfield 30, 3) := by decide +kernel
theorem dX2_bitsHiddenByAll_9 : decode cX2_bitsHiddenByAll 9 = .ok (.if_icmp .ge 26, 3) := by decide +kernel
theorem dX2_bitsHiddenByAll_12 : decode cX2_bitsHiddenByAll 12 = .ok (.iload_n 1, 1) := by decide +kernel
theorem dX2_bitsHiddenByAll_13 : decode cX2_bitsHiddenByAll 13 = .ok (.iload_n 3, 1) := by decide +kernel
theorem dX2_bitsHiddenByAll_14 : decode cX2_bitsHiddenByAll 14 = .ok (.invokestatic 58, 3) := by decide +kernel
theorem dX2_bitsHiddenByAll_17 : decode cX2_bitsHiddenByAll 17 = .ok (.ifCond .eq 12, 3) := by decide +kernel
theorem dX2_bitsHiddenByAll_20 : decode cX2_bitsHiddenByAll 20 = .ok (.iload_n 2, 1) := by decide +kernel
theorem dX2_bitsHiddenByAll_21 : decode cX2_bitsHiddenByAll 21 = .ok (.aload_n 0, 1) := by decide +kernel
theorem dX2_bitsHiddenByAll_22 : decode cX2_bitsHiddenByAll 22 = .ok (.getfield 9, 3) := by decide +kernel
theorem dX2_bitsHiddenByAll_25 : decode cX2_bitsHiddenByAll 25 = .ok (.iload_n 3, 1) := by decide +kernel
theorem dX2_bitsHiddenByAll_26 : decode cX2_bitsHiddenByAll 26 = .ok (.iaload, 1) := by decide +kernel
theorem dX2_bitsHiddenByAll_27 : decode cX2_bitsHiddenByAll 27 = .ok (.ior, 1) := by decide +kernel
theorem dX2_bitsHiddenByAll_28 : decode cX2_bitsHiddenByAll 28 = .ok (.istore_n 2, 1) := by decide +kernel
theorem dX2_bitsHiddenByAll_29 : decode cX2_bitsHiddenByAll 29 = .ok (.iinc 3 1, 3) := by decide +kernel
theorem dX2_bitsHiddenByAll_32 : decode cX2_bitsHiddenByAll 32 = .ok (.goto (-28), 3) := by decide +kernel
theorem dX2_bitsHiddenByAll_35 : decode cX2_bitsHiddenByAll 35 = .ok (.iload_n 2, 1) := by decide +kernel
theorem dX2_bitsHiddenByAll_36 : decode cX2_bitsHiddenByAll 36 = .ok (.ireturn, 1) := by decide +kernel
set_option maxRecDepth 20000 in
theorem ggX2_greatestInRings_X2_isInRing : GoodIn wsX2_greatestInRings wsX2_isInRing := goodIn_r _ [7, 8, 9, 10, 6, 11, 23, 24, 25, 26, 27, 28, 29] (by decide +kernel) (by decide +kernel)
set_option maxRecDepth 20000 in
theorem gX2_greatestInRings_X2_isInRing : GoodIn wsX2_greatestInRings (wsV RX2 99 RX2 yX2_isInRing wsX2_isInRing) := goodIn_app (goodIn_of _ (by decide +kernel)) ggX2_greatestInRings_X2_isInRing
set_option maxRecDepth 20000 in
theorem ggX2_greatestInRings_X0_volume : GoodIn wsX2_greatestInRings wsX0_volume := goodIn_r _ [16, 17, 18, 19, 15, 20, 21, 22, 35, 36, 37] (by decide +kernel) (by decide +kernel)
set_option maxRecDepth 20000 in
theorem gX2_greatestInRings_X0_volume : GoodIn wsX2_greatestInRings (wsV RX2 109 RX0 yX0_volume wsX0_volume) := goodIn_app (goodIn_of _ (by decide +kernel)) ggX2_greatestInRings_X0_volume
theorem dX2_greatestInRings_0 : decode cX2_greatestInRings 0 = .ok (.iconst (-1), 1) := by decide +kernel
theorem dX2_greatestInRings_1 : decode cX2_greatestInRings 1 = .ok (.istore_n 2, 1) := by decide +kernel
theorem dX2_greatestInRings_2 : decode cX2_greatestInRings 2 = .ok (.iconst 0, 1) := by decide +kernel
theorem dX2_greatestInRings_3 : decode cX2_greatestInRings 3 = .ok (.istore_n 3, 1) := by decide +kernel
theorem dX2_greatestInRings_4 : decode cX2_greatestInRings 4 = .ok (.iload_n 3, 1) := by decide +kernel
theorem dX2_greatestInRings_5 : decode cX2_greatestInRings 5 = .ok (.aload_n 0, 1) := by decide +kernel
theorem dX2_greatestInRings_6 : decode cX2_greatestInRings 6 = .ok (.getfield 30, 3) := by decide +kernel
theorem dX2_greatestInRings_9 : decode cX2_greatestInRings 9 = .ok (.if_icmp .ge 45, 3) := by decide +kernel
theorem dX2_greatestInRings_12 : decode cX2_greatestInRings 12 = .ok (.aload_n 0, 1) := by decide +kernel
theorem dX2_greatestInRings_13 : decode cX2_greatestInRings 13 = .ok (.iload_n 3, 1) := by decide +kernel
theorem dX2_greatestInRings_14 : decode cX2_greatestInRings 14 = .ok (.invokevirtual 99, 3) := by decide +kernel
theorem dX2_greatestInRings_17 : decode cX2_greatestInRings 17 = .ok (.ifCond .eq 31, 3) := by decide +kernel
theorem dX2_greatestInRings_20 : decode cX2_greatestInRings 20 = .ok (.iload_n 2, 1) := by decide +kernel
theorem dX2_greatestInRings_21 : decode cX2_greatestInRings 21 = .ok (.iconst (-1), 1) := by decide +kernel
theorem dX2_greatestInRings_22 : decode cX2_greatestInRings 22 = .ok (.if_icmp .eq 24, 3) := by decide +kernel
theorem dX2_greatestInRings_25 : decode cX2_greatestInRings 25 = .ok (.aload_n 1, 1) := by decide +kernel
theorem dX2_greatestInRings_26 : decode cX2_greatestInRings 26 = .ok (.getfield 42, 3) := by decide +kernel
theorem dX2_greatestInRings_29 : decode cX2_greatestInRings 29 = .ok (.iload_n 3, 1) := by decide +kernel
theorem dX2_greatestInRings_30 : decode cX2_greatestInRings 30 = .ok (.aaload, 1) := by decide +kernel
theorem dX2_greatestInRings_31 : decode cX2_greatestInRings 31 = .ok (.invokevirtual 109, 3) := by decide +kernel
theorem dX2_greatestInRings_34 : decode cX2_greatestInRings 34 = .ok (.aload_n 1, 1) := by decide +kernel
theorem dX2_greatestInRings_35 : decode cX2_greatestInRings 35 = .ok (.getfield 42, 3) := by decide +kernel
theorem dX2_greatestInRings_38 : decode cX2_greatestInRings 38 = .ok (.iload_n 2, 1) := by decide +kernel
theorem dX2_greatestInRings_39 : decode cX2_greatestInRings 39 = .ok (.aaload, 1) := by decide +kernel
theorem dX2_greatestInRings_40 : decode cX2_greatestInRings 40 = .ok (.invokevirtual 109, 3) := by decide +kernel
theorem dX2_greatestInRings_43 : decode cX2_greatestInRings 43 = .ok (.if_icmp .le 5, 3) := by decide +kernel
theorem dX2_greatestInRings_46 : decode cX2_greatestInRings 46 = .ok (.iload_n 3, 1) := by decide +kernel
theorem dX2_greatestInRings_47 : decode cX2_greatestInRings 47 = .ok (.istore_n 2, 1) := by decide +kernel
theorem dX2_greatestInRings_48 : decode cX2_greatestInRings 48 = .ok (.iinc 3 1, 3) := by decide +kernel
theorem dX2_greatestInRings_51 : decode cX2_greatestInRings 51 = .ok (.goto (-47), 3) := by decide +kernel
theorem dX2_greatestInRings_54 : decode cX2_greatestInRings 54 = .ok (.iload_n 2, 1) := by decide +kernel
theorem dX2_greatestInRings_55 : decode cX2_greatestInRings 55 = .ok (.ireturn, 1) := by decide +kernel
set_option maxRecDepth 20000 in
theorem ggX3_init_X0_init : GoodIn wsX3_init wsX0_init := goodIn_r _ [9, 10, 2, 3, 11, 12, 13, 19, 20, 21] (by decide +kernel) (by decide +kernel)
set_option maxRecDepth 20000 in
theorem gX3_init_X0_init_n17 : GoodIn wsX3_init (wsX0_init) := ggX3_init_X0_init
theorem dX3_init_0 : decode cX3_init 0 = .ok (.aload_n 0, 1) := by decide +kernel
theorem dX3_init_1 : decode cX3_init 1 = .ok (.invokespecial 3, 3) := by decide +kernel
theorem dX3_init_4 : decode cX3_init 4 = .ok (.aload_n 0, 1) := by decide +kernel
theorem dX3_init_5 : decode cX3_init 5 = .ok (.bipush 16, 2) := by decide +kernel
theorem dX3_init_7 : decode cX3_init 7 = .ok (.anewarray 9, 3) := by decide +kernel
theorem dX3_init_10 : decode cX3_init 10 = .ok (.putfield 11, 3) := by decide +kernel
theorem dX3_init_13 : decode cX3_init 13 = .ok (.iconst 0, 1) := by decide +kernel
theorem dX3_init_14 : decode cX3_init 14 = .ok (.istore_n 1, 1) := by decide +kernel
theorem dX3_init_15 : decode cX3_init 15 = .ok (.iload_n 1, 1) := by decide +kernel
theorem dX3_init_16 : decode cX3_init 16 = .ok (.bipush 16, 2) := by decide +kernel
theorem dX3_init_18 : decode cX3_init 18 = .ok (.if_icmp .ge 22, 3) := by decide +kernel
theorem dX3_init_21 : decode cX3_init 21 = .ok (.aload_n 0, 1) := by decide +kernel
theorem dX3_init_22 : decode cX3_init 22 = .ok (.getfield 11, 3) := by decide +kernel
theorem dX3_init_25 : decode cX3_init 25 = .ok (.iload_n 1, 1) := by decide +kernel
theorem dX3_init_26 : decode cX3_init 26 = .ok (.new 9, 3) := by decide +kernel
theorem dX3_init_29 : decode cX3_init 29 = .ok (.dup, 1) := by decide +kernel
theorem dX3_init_30 : decode cX3_init 30 = .ok (.invokespecial 17, 3) := by decide +kernel
theorem dX3_init_33 : decode cX3_init 33 = .ok (.aastore, 1) := by decide +kernel
theorem dX3_init_34 : decode cX3_init 34 = .ok (.iinc 1 1, 3) := by decide +kernel
theorem dX3_init_37 : decode cX3_init 37 = .ok (.goto (-22), 3) := by decide +kernel
theorem dX3_init_40 : decode cX3_init 40 = .ok (.return_, 1) := by decide +kernel
set_option maxRecDepth 20000 in
theorem ggX3_copyFrom_X0_copyFrom : GoodIn wsX3_copyFrom wsX0_copyFrom := goodIn_r _ [10, 11, 12, 13, 14, 15, 16, 17, 23, 24, 25] (by decide +kernel) (by decide +kernel)
set_option maxRecDepth 20000 in
theorem gX3_copyFrom_X0_copyFrom : GoodIn wsX3_copyFrom (wsV RX3 31 RX0 yX0_copyFrom wsX0_copyFrom) := goodIn_app (goodIn_of _ (by decide +kernel)) ggX3_copyFrom_X0_copyFrom
theorem dX3_copyFrom_0 : decode cX3_copyFrom 0 = .ok (.aload_n 0, 1) := by decide +kernel
theorem dX3_copyFrom_1 : decode cX3_copyFrom 1 = .ok (.aload_n 1, 1) := by decide +kernel
theorem dX3_copyFrom_2 : decode cX3_copyFrom 2 = .ok (.getfield 18, 3) := by decide +kernel
theorem dX3_copyFrom_5 : decode cX3_copyFrom 5 = .ok (.putfield 18, 3) := by decide +kernel
theorem dX3_copyFrom_8 : decode cX3_copyFrom 8 = .ok (.aload_n 0, 1) := by decide +kernel
theorem dX3_copyFrom_9 : decode cX3_copyFrom 9 = .ok (.aload_n 1, 1) := by decide +kernel
theorem dX3_copyFrom_10 : decode cX3_copyFrom 10 = .ok (.getfield 22, 3) := by decide +kernel
theorem dX3_copyFrom_13 : decode cX3_copyFrom 13 = .ok (.putfield 22, 3) := by decide +kernel
theorem dX3_copyFrom_16 : decode cX3_copyFrom 16 = .ok (.aload_n 0, 1) := by decide +kernel
theorem dX3_copyFrom_17 : decode cX3_copyFrom 17 = .ok (.aload_n 1, 1) := by decide +kernel
theorem dX3_copyFrom_18 : decode cX3_copyFrom 18 = .ok (.getfield 25, 3) := by decide +kernel
theorem dX3_copyFrom_21 : decode cX3_copyFrom 21 = .ok (.putfield 25, 3) := by decide +kernel
theorem dX3_copyFrom_24 : decode cX3_copyFrom 24 = .ok (.aload_n 0, 1) := by decide +kernel
theorem dX3_copyFrom_25 : decode cX3_copyFrom 25 = .ok (.aload_n 1, 1) := by decide +kernel
theorem dX3_copyFrom_26 : decode cX3_copyFrom 26 = .ok (.getfield 28, 3) := by decide +kernel
theorem dX3_copyFrom_29 : decode cX3_copyFrom 29 = .ok (.putfield 28, 3) := by decide +kernel
theorem dX3_copyFrom_32 : decode cX3_copyFrom 32 = .ok (.iconst 0, 1) := by decide +kernel
theorem dX3_copyFrom_33 : decode cX3_copyFrom 33 = .ok (.istore_n 2, 1) := by decide +kernel
theorem dX3_copyFrom_34 : decode cX3_copyFrom 34 = .ok (.iload_n 2, 1) := by decide +kernel
theorem dX3_copyFrom_35 : decode cX3_copyFrom 35 = .ok (.aload_n 0, 1) := by decide +kernel
theorem dX3_copyFrom_36 : decode cX3_copyFrom 36 = .ok (.getfield 18, 3) := by decide +kernel
theorem dX3_copyFrom_39 : decode cX3_copyFrom 39 = .ok (.if_icmp .ge 24, 3) := by decide +kernel
theorem dX3_copyFrom_42 : decode cX3_copyFrom 42 = .ok (.aload_n 0, 1) := by decide +kernel
theorem dX3_copyFrom_43 : decode cX3_copyFrom 43 = .ok (.getfield 11, 3) := by decide +kernel
theorem dX3_copyFrom_46 : decode cX3_copyFrom 46 = .ok (.iload_n 2, 1) := by decide +kernel
theorem dX3_copyFrom_47 : decode cX3_copyFrom 47 = .ok (.aaload, 1) := by decide +kernel
theorem dX3_copyFrom_48 : decode cX3_copyFrom 48 = .ok (.aload_n 1, 1) := by decide +kernel
theorem dX3_copyFrom_49 : decode cX3_copyFrom 49 = .ok (.getfield 11, 3) := by decide +kernel
theorem dX3_copyFrom_52 : decode cX3_copyFrom 52 = .ok (.iload_n 2, 1) := by decide +kernel
theorem dX3_copyFrom_53 : decode cX3_copyFrom 53 = .ok (.aaload, 1) := by decide +kernel
theorem dX3_copyFrom_54 : decode cX3_copyFrom 54 = .ok (.invokevirtual 31, 3) := by decide +kernel
theorem dX3_copyFrom_57 : decode cX3_copyFrom 57 = .ok (.iinc 2 1, 3) := by decide +kernel
theorem dX3_copyFrom_60 : decode cX3_copyFrom 60 = .ok (.goto (-26), 3) := by decide +kernel
theorem dX3_copyFrom_63 : decode cX3_copyFrom 63 = .ok (.return_, 1) := by decide +kernel
theorem dX3_isFull_0 : decode cX3_isFull 0 = .ok (.aload_n 0, 1) := by decide +kernel
theorem dX3_isFull_1 : decode cX3_isFull 1 = .ok (.getfield 18, 3) := by decide +kernel
theorem dX3_isFull_4 : decode cX3_isFull 4 = .ok (.bipush 16, 2) := by decide +kernel
theorem dX3_isFull_6 : decode cX3_isFull 6 = .ok (.if_icmp .lt 7, 3) := by decide +kernel
theorem dX3_isFull_9 : decode cX3_isFull 9 = .ok (.iconst 1, 1) := by decide +kernel
theorem dX3_isFull_10 : decode cX3_isFull 10 = .ok (.goto 4, 3) := by decide +kernel
theorem dX3_isFull_13 : decode cX3_isFull 13 = .ok (.iconst 0, 1) := by decide +kernel
theorem dX3_isFull_14 : decode cX3_isFull 14 = .ok (.ireturn, 1) := by decide +kernel
theorem dX3_slotOf_0 : decode cX3_slotOf 0 = .ok (.iconst 0, 1) := by decide +kernel
theorem dX3_slotOf_1 : decode cX3_slotOf 1 = .ok (.istore_n 2, 1) := by decide +kernel
theorem dX3_slotOf_2 : decode cX3_slotOf 2 = .ok (.iload_n 2, 1) := by decide +kernel
theorem dX3_slotOf_3 : decode cX3_slotOf 3 = .ok (.aload_n 0, 1) := by decide +kernel
theorem dX3_slotOf_4 : decode cX3_slotOf 4 = .ok (.getfield 18, 3) := by decide +kernel
theorem dX3_slotOf_7 : decode cX3_slotOf 7 = .ok (.if_icmp .ge 24, 3) := by decide +kernel
theorem dX3_slotOf_10 : decode cX3_slotOf 10 = .ok (.aload_n 0, 1) := by decide +kernel
theorem dX3_slotOf_11 : decode cX3_slotOf 11 = .ok (.getfield 11, 3) := by decide +kernel
theorem dX3_slotOf_14 : decode cX3_slotOf 14 = .ok (.iload_n 2, 1) := by decide +kernel
theorem dX3_slotOf_15 : decode cX3_slotOf 15 = .ok (.aaload, 1) := by decide +kernel
theorem dX3_slotOf_16 : decode cX3_slotOf 16 = .ok (.getfield 35, 3) := by decide +kernel
theorem dX3_slotOf_19 : decode cX3_slotOf 19 = .ok (.iload_n 1, 1) := by decide +kernel
theorem dX3_slotOf_20 : decode cX3_slotOf 20 = .ok (.if_icmp .ne 5, 3) := by decide +kernel
theorem dX3_slotOf_23 : decode cX3_slotOf 23 = .ok (.iload_n 2, 1) := by decide +kernel
theorem dX3_slotOf_24 : decode cX3_slotOf 24 = .ok (.ireturn, 1) := by decide +kernel
theorem dX3_slotOf_25 : decode cX3_slotOf 25 = .ok (.iinc 2 1, 3) := by decide +kernel
theorem dX3_slotOf_28 : decode cX3_slotOf 28 = .ok (.goto (-26), 3) := by decide +kernel
theorem dX3_slotOf_31 : decode cX3_slotOf 31 = .ok (.iconst (-1), 1) := by decide +kernel
theorem dX3_slotOf_32 : decode cX3_slotOf 32 = .ok (.ireturn, 1) := by decide +kernel
set_option maxRecDepth 20000 in
theorem ggX3_isCutBy_X0_cuts : GoodIn wsX3_isCutBy wsX0_cuts := goodIn_r _ [7, 8, 9, 10, 6, 11, 12, 13, 19, 20, 21] (by decide +kernel) (by decide +kernel)
set_option maxRecDepth 20000 in
theorem gX3_isCutBy_X0_cuts : GoodIn wsX3_isCutBy (wsV RX3 38 RX0 yX0_cuts wsX0_cuts) := goodIn_app (goodIn_of _ (by decide +kernel)) ggX3_isCutBy_X0_cuts
theorem dX3_isCutBy_0 : decode cX3_isCutBy 0 = .ok (.iconst 0, 1) := by decide +kernel
theorem dX3_isCutBy_1 : decode cX3_isCutBy 1 = .ok (.istore_n 3, 1) := by decide +kernel
theorem dX3_isCutBy_2 : decode cX3_isCutBy 2 = .ok (.iload_n 3, 1) := by decide +kernel
theorem dX3_isCutBy_3 : decode cX3_isCutBy 3 = .ok (.aload_n 0, 1) := by decide +kernel
theorem dX3_isCutBy_4 : decode cX3_isCutBy 4 = .ok (.getfield 18, 3) := by decide +kernel
theorem dX3_isCutBy_7 : decode cX3_isCutBy 7 = .ok (.if_icmp .ge 29, 3) := by decide +kernel
theorem dX3_isCutBy_10 : decode cX3_isCutBy 10 = .ok (.iload_n 3, 1) := by decide +kernel
theorem dX3_isCutBy_11 : decode cX3_isCutBy 11 = .ok (.iload_n 2, 1) := by decide +kernel
theorem dX3_isCutBy_12 : decode cX3_isCutBy 12 = .ok (.if_icmp .eq 18, 3) := by decide +kernel
theorem dX3_isCutBy_15 : decode cX3_isCutBy 15 = .ok (.aload_n 0, 1) := by decide +kernel
theorem dX3_isCutBy_16 : decode cX3_isCutBy 16 = .ok (.getfield 11, 3) := by decide +kernel
theorem dX3_isCutBy_19 : decode cX3_isCutBy 19 = .ok (.iload_n 3, 1) := by decide +kernel
theorem dX3_isCutBy_20 : decode cX3_isCutBy 20 = .ok (.aaload, 1) := by decide +kernel
theorem dX3_isCutBy_21 : decode cX3_isCutBy 21 = .ok (.aload_n 1, 1) := by decide +kernel
theorem dX3_isCutBy_22 : decode cX3_isCutBy 22 = .ok (.invokevirtual 38, 3) := by decide +kernel
theorem dX3_isCutBy_25 : decode cX3_isCutBy 25 = .ok (.ifCond .eq 5, 3) := by decide +kernel
theorem dX3_isCutBy_28 : decode cX3_isCutBy 28 = .ok (.iconst 1, 1) := by decide +kernel
theorem dX3_isCutBy_29 : decode cX3_isCutBy 29 = .ok (.ireturn, 1) := by decide +kernel
theorem dX3_isCutBy_30 : decode cX3_isCutBy 30 = .ok (.iinc 3 1, 3) := by decide +kernel
theorem dX3_isCutBy_33 : decode cX3_isCutBy 33 = .ok (.goto (-31), 3) := by decide +kernel
theorem dX3_isCutBy_36 : decode cX3_isCutBy 36 = .ok (.iconst 0, 1) := by decide +kernel
theorem dX3_isCutBy_37 : decode cX3_isCutBy 37 = .ok (.ireturn, 1) := by decide +kernel
set_option maxRecDepth 20000 in
theorem ggX3_append_X3_isFull : GoodIn wsX3_append wsX3_isFull := goodIn_r _ [9, 2, 22, 23, 24, 25, 26] (by decide +kernel) (by decide +kernel)
set_option maxRecDepth 20000 in
theorem gX3_append_X3_isFull : GoodIn wsX3_append (wsV RX3 42 RX3 yX3_isFull wsX3_isFull) := goodIn_app (goodIn_of _ (by decide +kernel)) ggX3_append_X3_isFull
set_option maxRecDepth 20000 in
theorem ggX3_append_X0_copyFrom : GoodIn wsX3_append wsX0_copyFrom := goodIn_r _ [14, 15, 16, 17, 18, 19, 20, 21, 27, 28, 29] (by decide +kernel) (by decide +kernel)
set_option maxRecDepth 20000 in
theorem gX3_append_X0_copyFrom : GoodIn wsX3_append (wsV RX3 31 RX0 yX0_copyFrom wsX0_copyFrom) := goodIn_app (goodIn_of _ (by decide +kernel)) ggX3_append_X0_copyFrom
theorem dX3_append_0 : decode cX3_append 0 = .ok (.aload_n 0, 1) := by decide +kernel
theorem dX3_append_1 : decode cX3_append 1 = .ok (.invokevirtual 42, 3) := by decide +kernel
theorem dX3_append_4 : decode cX3_append 4 = .ok (.ifCond .eq 6, 3) := by decide +kernel
theorem dX3_append_7 : decode cX3_append 7 = .ok (.bipush (-3), 2) := by decide +kernel
theorem dX3_append_9 : decode cX3_append 9 = .ok (.ireturn, 1) := by decide +kernel
theorem dX3_append_10 : decode cX3_append 10 = .ok (.aload_n 0, 1) := by decide +kernel
theorem dX3_append_11 : decode cX3_append 11 = .ok (.getfield 11, 3) := by decide +kernel
theorem dX3_append_14 : decode cX3_append 14 = .ok (.aload_n 0, 1) := by decide +kernel
theorem dX3_append_15 : decode cX3_append 15 = .ok (.getfield 18, 3) := by decide +kernel
theorem dX3_append_18 : decode cX3_append 18 = .ok (.aaload, 1) := by decide +kernel
theorem dX3_append_19 : decode cX3_append 19 = .ok (.astore_n 2, 1) := by decide +kernel
theorem dX3_append_20 : decode cX3_append 20 = .ok (.aload_n 2, 1) := by decide +kernel
theorem dX3_append_21 : decode cX3_append 21 = .ok (.aload_n 1, 1) := by decide +kernel
theorem dX3_append_22 : decode cX3_append 22 = .ok (.invokevirtual 31, 3) := by decide +kernel
theorem dX3_append_25 : decode cX3_append 25 = .ok (.aload_n 2, 1) := by decide +kernel
theorem dX3_append_26 : decode cX3_append 26 = .ok (.aload_n 0, 1) := by decide +kernel
theorem dX3_append_27 : decode cX3_append 27 = .ok (.getfield 22, 3) := by decide +kernel
theorem dX3_append_30 : decode cX3_append 30 = .ok (.putfield 35, 3) := by decide +kernel
theorem dX3_append_33 : decode cX3_append 33 = .ok (.aload_n 0, 1) := by decide +kernel
theorem dX3_append_34 : decode cX3_append 34 = .ok (.dup, 1) := by decide +kernel
theorem dX3_append_35 : decode cX3_append 35 = .ok (.getfield 18, 3) := by decide +kernel
theorem dX3_append_38 : decode cX3_append 38 = .ok (.iconst 1, 1) := by decide +kernel
theorem dX3_append_39 : decode cX3_append 39 = .ok (.iadd, 1) := by decide +kernel
theorem dX3_append_40 : decode cX3_append 40 = .ok (.putfield 18, 3) := by decide +kernel
theorem dX3_append_43 : decode cX3_append 43 = .ok (.aload_n 0, 1) := by decide +kernel
theorem dX3_append_44 : decode cX3_append 44 = .ok (.dup, 1) := by decide +kernel
theorem dX3_append_45 : decode cX3_append 45 = .ok (.getfield 22, 3) := by decide +kernel
theorem dX3_append_48 : decode cX3_append 48 = .ok (.iconst 1, 1) := by decide +kernel
theorem dX3_append_49 : decode cX3_append 49 = .ok (.iadd, 1) := by decide +kernel
theorem dX3_append_50 : decode cX3_append 50 = .ok (.putfield 22, 3) := by decide +kernel
theorem dX3_append_53 : decode cX3_append 53 = .ok (.aload_n 2, 1) := by decide +kernel
theorem dX3_append_54 : decode cX3_append 54 = .ok (.getfield 35, 3) := by decide +kernel
theorem dX3_append_57 : decode cX3_append 57 = .ok (.ireturn, 1) := by decide +kernel
set_option maxRecDepth 20000 in
theorem ggX3_takeOut_X0_copyFrom : GoodIn wsX3_takeOut wsX0_copyFrom := goodIn_r _ [7, 8, 9, 10, 11, 12, 13, 14, 20, 21, 22] (by decide +kernel) (by decide +kernel)
set_option maxRecDepth 20000 in
theorem gX3_takeOut_X0_copyFrom : GoodIn wsX3_takeOut (wsV RX3 31 RX0 yX0_copyFrom wsX0_copyFrom) := goodIn_app (goodIn_of _ (by decide +kernel)) ggX3_takeOut_X0_copyFrom
theorem dX3_takeOut_0 : decode cX3_takeOut 0 = .ok (.iload_n 1, 1) := by decide +kernel
theorem dX3_takeOut_1 : decode cX3_takeOut 1 = .ok (.istore_n 2, 1) := by decide +kernel
theorem dX3_takeOut_2 : decode cX3_takeOut 2 = .ok (.iload_n 2, 1) := by decide +kernel
theorem dX3_takeOut_3 : decode cX3_takeOut 3 = .ok (.iconst 1, 1) := by decide +kernel
theorem dX3_takeOut_4 : decode cX3_takeOut 4 = .ok (.iadd, 1) := by decide +kernel
theorem dX3_takeOut_5 : decode cX3_takeOut 5 = .ok (.aload_n 0, 1) := by decide +kernel
theorem dX3_takeOut_6 : decode cX3_takeOut 6 = .ok (.getfield 18, 3) := by decide +kernel
theorem dX3_takeOut_9 : decode cX3_takeOut 9 = .ok (.if_icmp .ge 26, 3) := by decide +kernel
theorem dX3_takeOut_12 : decode cX3_takeOut 12 = .ok (.aload_n 0, 1) := by decide +kernel
theorem dX3_takeOut_13 : decode cX3_takeOut 13 = .ok (.getfield 11, 3) := by decide +kernel
theorem dX3_takeOut_16 : decode cX3_takeOut 16 = .ok (.iload_n 2, 1) := by decide +kernel
theorem dX3_takeOut_17 : decode cX3_takeOut 17 = .ok (.aaload, 1) := by decide +kernel
theorem dX3_takeOut_18 : decode cX3_takeOut 18 = .ok (.aload_n 0, 1) := by decide +kernel
theorem dX3_takeOut_19 : decode cX3_takeOut 19 = .ok (.getfield 11, 3) := by decide +kernel
theorem dX3_takeOut_22 : decode cX3_takeOut 22 = .ok (.iload_n 2, 1) := by decide +kernel
theorem dX3_takeOut_23 : decode cX3_takeOut 23 = .ok (.iconst 1, 1) := by decide +kernel
theorem dX3_takeOut_24 : decode cX3_takeOut 24 = .ok (.iadd, 1) := by decide +kernel
theorem dX3_takeOut_25 : decode cX3_takeOut 25 = .ok (.aaload, 1) := by decide +kernel
theorem dX3_takeOut_26 : decode cX3_takeOut 26 = .ok (.invokevirtual 31, 3) := by decide +kernel
theorem dX3_takeOut_29 : decode cX3_takeOut 29 = .ok (.iinc 2 1, 3) := by decide +kernel
theorem dX3_takeOut_32 : decode cX3_takeOut 32 = .ok (.goto (-30), 3) := by decide +kernel
theorem dX3_takeOut_35 : decode cX3_takeOut 35 = .ok (.aload_n 0, 1) := by decide +kernel
theorem dX3_takeOut_36 : decode cX3_takeOut 36 = .ok (.dup, 1) := by decide +kernel
theorem dX3_takeOut_37 : decode cX3_takeOut 37 = .ok (.getfield 18, 3) := by decide +kernel
theorem dX3_takeOut_40 : decode cX3_takeOut 40 = .ok (.iconst 1, 1) := by decide +kernel
theorem dX3_takeOut_41 : decode cX3_takeOut 41 = .ok (.isub, 1) := by decide +kernel
theorem dX3_takeOut_42 : decode cX3_takeOut 42 = .ok (.putfield 18, 3) := by decide +kernel
theorem dX3_takeOut_45 : decode cX3_takeOut 45 = .ok (.return_, 1) := by decide +kernel
set_option maxRecDepth 20000 in
theorem ggX3_cutInTwo_X3_append : GoodIn wsX3_cutInTwo wsX3_append := goodIn_r _ [10, 1, 2, 11, 12, 13, 14, 15, 9, 16, 17, 18, 19, 20, 21, 22, 23, 24, 25, 26, 27, 28, 29, 30, 31, 32, 33, 34, 35, 36] (by decide +kernel) (by decide +kernel)
set_option maxRecDepth 20000 in
theorem gX3_cutInTwo_X3_append : GoodIn wsX3_cutInTwo (wsV RX3 46 RX3 yX3_append wsX3_append) := goodIn_app (goodIn_of _ (by decide +kernel)) ggX3_cutInTwo_X3_append
theorem dX3_cutInTwo_0 : decode cX3_cutInTwo 0 = .ok (.aload_n 0, 1) := by decide +kernel
theorem dX3_cutInTwo_1 : decode cX3_cutInTwo 1 = .ok (.aload_n 0, 1) := by decide +kernel
theorem dX3_cutInTwo_2 : decode cX3_cutInTwo 2 = .ok (.getfield 11, 3) := by decide +kernel
theorem dX3_cutInTwo_5 : decode cX3_cutInTwo 5 = .ok (.iload_n 1, 1) := by decide +kernel
theorem dX3_cutInTwo_6 : decode cX3_cutInTwo 6 = .ok (.aaload, 1) := by decide +kernel
theorem dX3_cutInTwo_7 : decode cX3_cutInTwo 7 = .ok (.invokevirtual 46, 3) := by decide +kernel
theorem dX3_cutInTwo_10 : decode cX3_cutInTwo 10 = .ok (.istore 4, 2) := by decide +kernel
theorem dX3_cutInTwo_12 : decode cX3_cutInTwo 12 = .ok (.iload 4, 2) := by decide +kernel
theorem dX3_cutInTwo_14 : decode cX3_cutInTwo 14 = .ok (.ifCond .ge 6, 3) := by decide +kernel
theorem dX3_cutInTwo_17 : decode cX3_cutInTwo 17 = .ok (.iload 4, 2) := by decide +kernel
theorem dX3_cutInTwo_19 : decode cX3_cutInTwo 19 = .ok (.ireturn, 1) := by decide +kernel
theorem dX3_cutInTwo_20 : decode cX3_cutInTwo 20 = .ok (.aload_n 0, 1) := by decide +kernel
theorem dX3_cutInTwo_21 : decode cX3_cutInTwo 21 = .ok (.getfield 11, 3) := by decide +kernel
theorem dX3_cutInTwo_24 : decode cX3_cutInTwo 24 = .ok (.aload_n 0, 1) := by decide +kernel
theorem dX3_cutInTwo_25 : decode cX3_cutInTwo 25 = .ok (.getfield 18, 3) := by decide +kernel
theorem dX3_cutInTwo_28 : decode cX3_cutInTwo 28 = .ok (.iconst 1, 1) := by decide +kernel
theorem dX3_cutInTwo_29 : decode cX3_cutInTwo 29 = .ok (.isub, 1) := by decide +kernel
theorem dX3_cutInTwo_30 : decode cX3_cutInTwo 30 = .ok (.aaload, 1) := by decide +kernel
theorem dX3_cutInTwo_31 : decode cX3_cutInTwo 31 = .ok (.getfield 50, 3) := by decide +kernel
theorem dX3_cutInTwo_34 : decode cX3_cutInTwo 34 = .ok (.iload_n 2, 1) := by decide +kernel
theorem dX3_cutInTwo_35 : decode cX3_cutInTwo 35 = .ok (.iload_n 3, 1) := by decide +kernel
theorem dX3_cutInTwo_36 : decode cX3_cutInTwo 36 = .ok (.iastore, 1) := by decide +kernel
theorem dX3_cutInTwo_37 : decode cX3_cutInTwo 37 = .ok (.aload_n 0, 1) := by decide +kernel
theorem dX3_cutInTwo_38 : decode cX3_cutInTwo 38 = .ok (.getfield 11, 3) := by decide +kernel
theorem dX3_cutInTwo_41 : decode cX3_cutInTwo 41 = .ok (.iload_n 1, 1) := by decide +kernel
theorem dX3_cutInTwo_42 : decode cX3_cutInTwo 42 = .ok (.aaload, 1) := by decide +kernel
theorem dX3_cutInTwo_43 : decode cX3_cutInTwo 43 = .ok (.getfield 54, 3) := by decide +kernel
theorem dX3_cutInTwo_46 : decode cX3_cutInTwo 46 = .ok (.iload_n 2, 1) := by decide +kernel
theorem dX3_cutInTwo_47 : decode cX3_cutInTwo 47 = .ok (.iload_n 3, 1) := by decide +kernel
theorem dX3_cutInTwo_48 : decode cX3_cutInTwo 48 = .ok (.iastore, 1) := by decide +kernel
theorem dX3_cutInTwo_49 : decode cX3_cutInTwo 49 = .ok (.aload_n 0, 1) := by decide +kernel
theorem dX3_cutInTwo_50 : decode cX3_cutInTwo 50 = .ok (.dup, 1) := by decide +kernel
theorem dX3_cutInTwo_51 : decode cX3_cutInTwo 51 = .ok (.getfield 25, 3) := by decide +kernel
theorem dX3_cutInTwo_54 : decode cX3_cutInTwo 54 = .ok (.iconst 1, 1) := by decide +kernel
theorem dX3_cutInTwo_55 : decode cX3_cutInTwo 55 = .ok (.iadd, 1) := by decide +kernel
theorem dX3_cutInTwo_56 : decode cX3_cutInTwo 56 = .ok (.putfield 25, 3) := by decide +kernel
theorem dX3_cutInTwo_59 : decode cX3_cutInTwo 59 = .ok (.iload 4, 2) := by decide +kernel
theorem dX3_cutInTwo_61 : decode cX3_cutInTwo 61 = .ok (.ireturn, 1) := by decide +kernel
theorem dX3_quarterTurn_0 : decode cX3_quarterTurn 0 = .ok (.iconst 0, 1) := by decide +kernel
theorem dX3_quarterTurn_1 : decode cX3_quarterTurn 1 = .ok (.istore_n 1, 1) := by decide +kernel
theorem dX3_quarterTurn_2 : decode cX3_quarterTurn 2 = .ok (.iload_n 1, 1) := by decide +kernel
theorem dX3_quarterTurn_3 : decode cX3_quarterTurn 3 = .ok (.aload_n 0, 1) := by decide +kernel
theorem dX3_quarterTurn_4 : decode cX3_quarterTurn 4 = .ok (.getfield 18, 3) := by decide +kernel
theorem dX3_quarterTurn_7 : decode cX3_quarterTurn 7 = .ok (.if_icmp .ge 76, 3) := by decide +kernel
theorem dX3_quarterTurn_10 : decode cX3_quarterTurn 10 = .ok (.aload_n 0, 1) := by decide +kernel
theorem dX3_quarterTurn_11 : decode cX3_quarterTurn 11 = .ok (.getfield 11, 3) := by decide +kernel
theorem dX3_quarterTurn_14 : decode cX3_quarterTurn 14 = .ok (.iload_n 1, 1) := by decide +kernel
theorem dX3_quarterTurn_15 : decode cX3_quarterTurn 15 = .ok (.aaload, 1) := by decide +kernel
theorem dX3_quarterTurn_16 : decode cX3_quarterTurn 16 = .ok (.astore_n 2, 1) := by decide +kernel
theorem dX3_quarterTurn_17 : decode cX3_quarterTurn 17 = .ok (.aload_n 2, 1) := by decide +kernel
theorem dX3_quarterTurn_18 : decode cX3_quarterTurn 18 = .ok (.getfield 50, 3) := by decide +kernel
theorem dX3_quarterTurn_21 : decode cX3_quarterTurn 21 = .ok (.iconst 0, 1) := by decide +kernel
theorem dX3_quarterTurn_22 : decode cX3_quarterTurn 22 = .ok (.iaload, 1) := by decide +kernel
theorem dX3_quarterTurn_23 : decode cX3_quarterTurn 23 = .ok (.istore_n 3, 1) := by decide +kernel
theorem dX3_quarterTurn_24 : decode cX3_quarterTurn 24 = .ok (.aload_n 2, 1) := by decide +kernel
theorem dX3_quarterTurn_25 : decode cX3_quarterTurn 25 = .ok (.getfield 54, 3) := by decide +kernel
theorem dX3_quarterTurn_28 : decode cX3_quarterTurn 28 = .ok (.iconst 0, 1) := by decide +kernel
theorem dX3_quarterTurn_29 : decode cX3_quarterTurn 29 = .ok (.iaload, 1) := by decide +kernel
theorem dX3_quarterTurn_30 : decode cX3_quarterTurn 30 = .ok (.istore 4, 2) := by decide +kernel
theorem dX3_quarterTurn_32 : decode cX3_quarterTurn 32 = .ok (.aload_n 2, 1) := by decide +kernel
theorem dX3_quarterTurn_33 : decode cX3_quarterTurn 33 = .ok (.getfield 50, 3) := by decide +kernel
theorem dX3_quarterTurn_36 : decode cX3_quarterTurn 36 = .ok (.iconst 0, 1) := by decide +kernel
theorem dX3_quarterTurn_37 : decode cX3_quarterTurn 37 = .ok (.bipush 32, 2) := by decide +kernel
theorem dX3_quarterTurn_39 : decode cX3_quarterTurn 39 = .ok (.aload_n 2, 1) := by decide +kernel
theorem dX3_quarterTurn_40 : decode cX3_quarterTurn 40 = .ok (.getfield 54, 3) := by decide +kernel
theorem dX3_quarterTurn_43 : decode cX3_quarterTurn 43 = .ok (.iconst 1, 1) := by decide +kernel
theorem dX3_quarterTurn_44 : decode cX3_quarterTurn 44 = .ok (.iaload, 1) := by decide +kernel
theorem dX3_quarterTurn_45 : decode cX3_quarterTurn 45 = .ok (.isub, 1) := by decide +kernel
theorem dX3_quarterTurn_46 : decode cX3_quarterTurn 46 = .ok (.iastore, 1) := by decide +kernel
theorem dX3_quarterTurn_47 : decode cX3_quarterTurn 47 = .ok (.aload_n 2, 1) := by decide +kernel
theorem dX3_quarterTurn_48 : decode cX3_quarterTurn 48 = .ok (.getfield 54, 3) := by decide +kernel
theorem dX3_quarterTurn_51 : decode cX3_quarterTurn 51 = .ok (.iconst 0, 1) := by decide +kernel
theorem dX3_quarterTurn_52 : decode cX3_quarterTurn 52 = .ok (.bipush 32, 2) := by decide +kernel
theorem dX3_quarterTurn_54 : decode cX3_quarterTurn 54 = .ok (.aload_n 2, 1) := by decide +kernel
theorem dX3_quarterTurn_55 : decode cX3_quarterTurn 55 = .ok (.getfield 50, 3) := by decide +kernel
theorem dX3_quarterTurn_58 : decode cX3_quarterTurn 58 = .ok (.iconst 1, 1) := by decide +kernel
theorem dX3_quarterTurn_59 : decode cX3_quarterTurn 59 = .ok (.iaload, 1) := by decide +kernel
theorem dX3_quarterTurn_60 : decode cX3_quarterTurn 60 = .ok (.isub, 1) := by decide +kernel
theorem dX3_quarterTurn_61 : decode cX3_quarterTurn 61 = .ok (.iastore, 1) := by decide +kernel
theorem dX3_quarterTurn_62 : decode cX3_quarterTurn 62 = .ok (.aload_n 2, 1) := by decide +kernel
theorem dX3_quarterTurn_63 : decode cX3_quarterTurn 63 = .ok (.getfield 50, 3) := by decide +kernel
theorem dX3_quarterTurn_66 : decode cX3_quarterTurn 66 = .ok (.iconst 1, 1) := by decide +kernel
theorem dX3_quarterTurn_67 : decode cX3_quarterTurn 67 = .ok (.iload_n 3, 1) := by decide +kernel
theorem dX3_quarterTurn_68 : decode cX3_quarterTurn 68 = .ok (.iastore, 1) := by decide +kernel
theorem dX3_quarterTurn_69 : decode cX3_quarterTurn 69 = .ok (.aload_n 2, 1) := by decide +kernel
theorem dX3_quarterTurn_70 : decode cX3_quarterTurn 70 = .ok (.getfield 54, 3) := by decide +kernel
theorem dX3_quarterTurn_73 : decode cX3_quarterTurn 73 = .ok (.iconst 1, 1) := by decide +kernel
theorem dX3_quarterTurn_74 : decode cX3_quarterTurn 74 = .ok (.iload 4, 2) := by decide +kernel
theorem dX3_quarterTurn_76 : decode cX3_quarterTurn 76 = .ok (.iastore, 1) := by decide +kernel
theorem dX3_quarterTurn_77 : decode cX3_quarterTurn 77 = .ok (.iinc 1 1, 3) := by decide +kernel
theorem dX3_quarterTurn_80 : decode cX3_quarterTurn 80 = .ok (.goto (-78), 3) := by decide +kernel
theorem dX3_quarterTurn_83 : decode cX3_quarterTurn 83 = .ok (.return_, 1) := by decide +kernel
set_option maxRecDepth 20000 in
theorem ggX3_weightInDrawing_X0_sumOfCorner : GoodIn wsX3_weightInDrawing wsX0_sumOfCorner := goodIn_r _ [7, 8, 23, 24, 25] (by decide +kernel) (by decide +kernel)
set_option maxRecDepth 20000 in
theorem gX3_weightInDrawing_X0_sumOfCorner : GoodIn wsX3_weightInDrawing (wsV RX3 57 RX0 yX0_sumOfCorner wsX0_sumOfCorner) := goodIn_app (goodIn_of _ (by decide +kernel)) ggX3_weightInDrawing_X0_sumOfCorner
set_option maxRecDepth 20000 in
theorem ggX3_weightInDrawing_X0_volume : GoodIn wsX3_weightInDrawing wsX0_volume := goodIn_r _ [12, 13, 14, 15, 6, 16, 17, 8, 23, 24, 25] (by decide +kernel) (by decide +kernel)
set_option maxRecDepth 20000 in
theorem gX3_weightInDrawing_X0_volume : GoodIn wsX3_weightInDrawing (wsV RX3 61 RX0 yX0_volume wsX0_volume) := goodIn_app (goodIn_of _ (by decide +kernel)) ggX3_weightInDrawing_X0_volume
theorem dX3_weightInDrawing_0 : decode cX3_weightInDrawing 0 = .ok (.aload_n 0, 1) := by decide +kernel
theorem dX3_weightInDrawing_1 : decode cX3_weightInDrawing 1 = .ok (.getfield 28, 3) := by decide +kernel
theorem dX3_weightInDrawing_4 : decode cX3_weightInDrawing 4 = .ok (.lookupswitch 48 #[(1, 28), (2, 38)], 28) := by decide +kernel
theorem dX3_weightInDrawing_32 : decode cX3_weightInDrawing 32 = .ok (.aload_n 0, 1) := by decide +kernel
theorem dX3_weightInDrawing_33 : decode cX3_weightInDrawing 33 = .ok (.getfield 11, 3) := by decide +kernel
theorem dX3_weightInDrawing_36 : decode cX3_weightInDrawing 36 = .ok (.iload_n 1, 1) := by decide +kernel
theorem dX3_weightInDrawing_37 : decode cX3_weightInDrawing 37 = .ok (.aaload, 1) := by decide +kernel
theorem dX3_weightInDrawing_38 : decode cX3_weightInDrawing 38 = .ok (.invokevirtual 57, 3) := by decide +kernel
theorem dX3_weightInDrawing_41 : decode cX3_weightInDrawing 41 = .ok (.ireturn, 1) := by decide +kernel
theorem dX3_weightInDrawing_42 : decode cX3_weightInDrawing 42 = .ok (.aload_n 0, 1) := by decide +kernel
theorem dX3_weightInDrawing_43 : decode cX3_weightInDrawing 43 = .ok (.getfield 11, 3) := by decide +kernel
theorem dX3_weightInDrawing_46 : decode cX3_weightInDrawing 46 = .ok (.iload_n 1, 1) := by decide +kernel
theorem dX3_weightInDrawing_47 : decode cX3_weightInDrawing 47 = .ok (.aaload, 1) := by decide +kernel
theorem dX3_weightInDrawing_48 : decode cX3_weightInDrawing 48 = .ok (.invokevirtual 61, 3) := by decide +kernel
theorem dX3_weightInDrawing_51 : decode cX3_weightInDrawing 51 = .ok (.ireturn, 1) := by decide +kernel
theorem dX3_weightInDrawing_52 : decode cX3_weightInDrawing 52 = .ok (.iconst 0, 1) := by decide +kernel
theorem dX3_weightInDrawing_53 : decode cX3_weightInDrawing 53 = .ok (.ireturn, 1) := by decide +kernel
set_option maxRecDepth 20000 in
theorem ggX3_volume_X0_volume : GoodIn wsX3_volume wsX0_volume := goodIn_r _ [7, 8, 9, 10, 6, 11, 12, 13, 19, 20, 21] (by decide +kernel) (by decide +kernel)
set_option maxRecDepth 20000 in
theorem gX3_volume_X0_volume : GoodIn wsX3_volume (wsV RX3 61 RX0 yX0_volume wsX0_volume) := goodIn_app (goodIn_of _ (by decide +kernel)) ggX3_volume_X0_volume
theorem dX3_volume_0 : decode cX3_volume 0 = .ok (.iconst 0, 1) := by decide +kernel
theorem dX3_volume_1 : decode cX3_volume 1 = .ok (.istore_n 1, 1) := by decide +kernel
theorem dX3_volume_2 : decode cX3_volume 2 = .ok (.iconst 0, 1) := by decide +kernel
theorem dX3_volume_3 : decode cX3_volume 3 = .ok (.istore_n 2, 1) := by decide +kernel
theorem dX3_volume_4 : decode cX3_volume 4 = .ok (.iload_n 2, 1) := by decide +kernel
theorem dX3_volume_5 : decode cX3_volume 5 = .ok (.aload_n 0, 1) := by decide +kernel
theorem dX3_volume_6 : decode cX3_volume 6 = .ok (.getfield 18, 3) := by decide +kernel
theorem dX3_volume_9 : decode cX3_volume 9 = .ok (.if_icmp .ge 21, 3) := by decide +kernel
theorem dX3_volume_12 : decode cX3_volume 12 = .ok (.iload_n 1, 1) := by decide +kernel
theorem dX3_volume_13 : decode cX3_volume 13 = .ok (.aload_n 0, 1) := by decide +kernel
theorem dX3_volume_14 : decode cX3_volume 14 = .ok (.getfield 11, 3) := by decide +kernel
theorem dX3_volume_17 : decode cX3_volume 17 = .ok (.iload_n 2, 1) := by decide +kernel
theorem dX3_volume_18 : decode cX3_volume 18 = .ok (.aaload, 1) := by decide +kernel
theorem dX3_volume_19 : decode cX3_volume 19 = .ok (.invokevirtual 61, 3) := by decide +kernel
theorem dX3_volume_22 : decode cX3_volume 22 = .ok (.iadd, 1) := by decide +kernel
theorem dX3_volume_23 : decode cX3_volume 23 = .ok (.istore_n 1, 1) := by decide +kernel
theorem dX3_volume_24 : decode cX3_volume 24 = .ok (.iinc 2 1, 3) := by decide +kernel
theorem dX3_volume_27 : decode cX3_volume 27 = .ok (.goto (-23), 3) := by decide +kernel
theorem dX3_volume_30 : decode cX3_volume 30 = .ok (.iload_n 1, 1) := by decide +kernel
theorem dX3_volume_31 : decode cX3_volume 31 = .ok (.ireturn, 1) := by decide +kernel
set_option maxRecDepth 20000 in
theorem ggX3_groundUnder_X0_isBelow : GoodIn wsX3_groundUnder wsX0_isBelow := goodIn_r _ [12, 13, 14, 15, 16, 17, 11, 18, 24, 25, 26] (by decide +kernel) (by decide +kernel)
set_option maxRecDepth 20000 in
theorem gX3_groundUnder_X0_isBelow : GoodIn wsX3_groundUnder (wsV RX3 64 RX0 yX0_isBelow wsX0_isBelow) := goodIn_app (goodIn_of _ (by decide +kernel)) ggX3_groundUnder_X0_isBelow
theorem dX3_groundUnder_0 : decode cX3_groundUnder 0 = .ok (.iconst 0, 1) := by decide +kernel
theorem dX3_groundUnder_1 : decode cX3_groundUnder 1 = .ok (.istore_n 2, 1) := by decide +kernel
theorem dX3_groundUnder_2 : decode cX3_groundUnder 2 = .ok (.iconst 0, 1) := by decide +kernel
theorem dX3_groundUnder_3 : decode cX3_groundUnder 3 = .ok (.istore_n 3, 1) := by decide +kernel
theorem dX3_groundUnder_4 : decode cX3_groundUnder 4 = .ok (.iload_n 3, 1) := by decide +kernel
theorem dX3_groundUnder_5 : decode cX3_groundUnder 5 = .ok (.aload_n 0, 1) := by decide +kernel
theorem dX3_groundUnder_6 : decode cX3_groundUnder 6 = .ok (.getfield 18, 3) := by decide +kernel
theorem dX3_groundUnder_9 : decode cX3_groundUnder 9 = .ok (.if_icmp .ge 43, 3) := by decide +kernel
theorem dX3_groundUnder_12 : decode cX3_groundUnder 12 = .ok (.aload_n 0, 1) := by decide +kernel
theorem dX3_groundUnder_13 : decode cX3_groundUnder 13 = .ok (.getfield 11, 3) := by decide +kernel
theorem dX3_groundUnder_16 : decode cX3_groundUnder 16 = .ok (.iload_n 3, 1) := by decide +kernel
theorem dX3_groundUnder_17 : decode cX3_groundUnder 17 = .ok (.aaload, 1) := by decide +kernel
theorem dX3_groundUnder_18 : decode cX3_groundUnder 18 = .ok (.aload_n 0, 1) := by decide +kernel
theorem dX3_groundUnder_19 : decode cX3_groundUnder 19 = .ok (.getfield 11, 3) := by decide +kernel
theorem dX3_groundUnder_22 : decode cX3_groundUnder 22 = .ok (.iload_n 1, 1) := by decide +kernel
theorem dX3_groundUnder_23 : decode cX3_groundUnder 23 = .ok (.aaload, 1) := by decide +kernel
theorem dX3_groundUnder_24 : decode cX3_groundUnder 24 = .ok (.invokevirtual 64, 3) := by decide +kernel
theorem dX3_groundUnder_27 : decode cX3_groundUnder 27 = .ok (.ifCond .eq 19, 3) := by decide +kernel
theorem dX3_groundUnder_30 : decode cX3_groundUnder 30 = .ok (.iload_n 2, 1) := by decide +kernel
theorem dX3_groundUnder_31 : decode cX3_groundUnder 31 = .ok (.aload_n 0, 1) := by decide +kernel
theorem dX3_groundUnder_32 : decode cX3_groundUnder 32 = .ok (.getfield 11, 3) := by decide +kernel
theorem dX3_groundUnder_35 : decode cX3_groundUnder 35 = .ok (.iload_n 3, 1) := by decide +kernel
theorem dX3_groundUnder_36 : decode cX3_groundUnder 36 = .ok (.aaload, 1) := by decide +kernel
theorem dX3_groundUnder_37 : decode cX3_groundUnder 37 = .ok (.getfield 54, 3) := by decide +kernel
theorem dX3_groundUnder_40 : decode cX3_groundUnder 40 = .ok (.iconst 2, 1) := by decide +kernel
theorem dX3_groundUnder_41 : decode cX3_groundUnder 41 = .ok (.iaload, 1) := by decide +kernel
theorem dX3_groundUnder_42 : decode cX3_groundUnder 42 = .ok (.invokestatic 67, 3) := by decide +kernel
theorem dX3_groundUnder_45 : decode cX3_groundUnder 45 = .ok (.istore_n 2, 1) := by decide +kernel
theorem dX3_groundUnder_46 : decode cX3_groundUnder 46 = .ok (.iinc 3 1, 3) := by decide +kernel
theorem dX3_groundUnder_49 : decode cX3_groundUnder 49 = .ok (.goto (-45), 3) := by decide +kernel
theorem dX3_groundUnder_52 : decode cX3_groundUnder 52 = .ok (.iload_n 2, 1) := by decide +kernel
theorem dX3_groundUnder_53 : decode cX3_groundUnder 53 = .ok (.ireturn, 1) := by decide +kernel
set_option maxRecDepth 20000 in
theorem ggX3_boxesBelow_X0_isBelow : GoodIn wsX3_boxesBelow wsX0_isBelow := goodIn_r _ [7, 8, 9, 10, 11, 12, 6, 13, 19, 20, 21] (by decide +kernel) (by decide +kernel)
set_option maxRecDepth 20000 in
theorem gX3_boxesBelow_X0_isBelow : GoodIn wsX3_boxesBelow (wsV RX3 64 RX0 yX0_isBelow wsX0_isBelow) := goodIn_app (goodIn_of _ (by decide +kernel)) ggX3_boxesBelow_X0_isBelow
theorem dX3_boxesBelow_0 : decode cX3_boxesBelow 0 = .ok (.iconst 0, 1) := by decide +kernel
theorem dX3_boxesBelow_1 : decode cX3_boxesBelow 1 = .ok (.istore_n 2, 1) := by decide +kernel
theorem dX3_boxesBelow_2 : decode cX3_boxesBelow 2 = .ok (.iconst 0, 1) := by decide +kernel
theorem dX3_boxesBelow_3 : decode cX3_boxesBelow 3 = .ok (.istore_n 3, 1) := by decide +kernel
theorem dX3_boxesBelow_4 : decode cX3_boxesBelow 4 = .ok (.iload_n 3, 1) := by decide +kernel
theorem dX3_boxesBelow_5 : decode cX3_boxesBelow 5 = .ok (.aload_n 0, 1) := by decide +kernel
theorem dX3_boxesBelow_6 : decode cX3_boxesBelow 6 = .ok (.getfield 18, 3) := by decide +kernel
theorem dX3_boxesBelow_9 : decode cX3_boxesBelow 9 = .ok (.if_icmp .ge 30, 3) := by decide +kernel
theorem dX3_boxesBelow_12 : decode cX3_boxesBelow 12 = .ok (.aload_n 0, 1) := by decide +kernel
theorem dX3_boxesBelow_13 : decode cX3_boxesBelow 13 = .ok (.getfield 11, 3) := by decide +kernel
theorem dX3_boxesBelow_16 : decode cX3_boxesBelow 16 = .ok (.iload_n 3, 1) := by decide +kernel
theorem dX3_boxesBelow_17 : decode cX3_boxesBelow 17 = .ok (.aaload, 1) := by decide +kernel
theorem dX3_boxesBelow_18 : decode cX3_boxesBelow 18 = .ok (.aload_n 0, 1) := by decide +kernel
theorem dX3_boxesBelow_19 : decode cX3_boxesBelow 19 = .ok (.getfield 11, 3) := by decide +kernel
theorem dX3_boxesBelow_22 : decode cX3_boxesBelow 22 = .ok (.iload_n 1, 1) := by decide +kernel
theorem dX3_boxesBelow_23 : decode cX3_boxesBelow 23 = .ok (.aaload, 1) := by decide +kernel
theorem dX3_boxesBelow_24 : decode cX3_boxesBelow 24 = .ok (.invokevirtual 64, 3) := by decide +kernel
theorem dX3_boxesBelow_27 : decode cX3_boxesBelow 27 = .ok (.ifCond .eq 6, 3) := by decide +kernel
theorem dX3_boxesBelow_30 : decode cX3_boxesBelow 30 = .ok (.iinc 2 1, 3) := by decide +kernel
theorem dX3_boxesBelow_33 : decode cX3_boxesBelow 33 = .ok (.iinc 3 1, 3) := by decide +kernel
theorem dX3_boxesBelow_36 : decode cX3_boxesBelow 36 = .ok (.goto (-32), 3) := by decide +kernel
theorem dX3_boxesBelow_39 : decode cX3_boxesBelow 39 = .ok (.iload_n 2, 1) := by decide +kernel
theorem dX3_boxesBelow_40 : decode cX3_boxesBelow 40 = .ok (.ireturn, 1) := by decide +kernel
set_option maxRecDepth 20000 in
theorem ggX3_supportsOf_X0_isBelow : GoodIn wsX3_supportsOf wsX0_isBelow := goodIn_r _ [9, 10, 11, 12, 13, 14, 8, 15, 21, 22, 23] (by decide +kernel) (by decide +kernel)
set_option maxRecDepth 20000 in
theorem gX3_supportsOf_X0_isBelow : GoodIn wsX3_supportsOf (wsV RX3 64 RX0 yX0_isBelow wsX0_isBelow) := goodIn_app (goodIn_of _ (by decide +kernel)) ggX3_supportsOf_X0_isBelow
theorem dX3_supportsOf_0 : decode cX3_supportsOf 0 = .ok (.aload_n 0, 1) := by decide +kernel
theorem dX3_supportsOf_1 : decode cX3_supportsOf 1 = .ok (.getfield 11, 3) := by decide +kernel
theorem dX3_supportsOf_4 : decode cX3_supportsOf 4 = .ok (.iload_n 1, 1) := by decide +kernel
theorem dX3_supportsOf_5 : decode cX3_supportsOf 5 = .ok (.aaload, 1) := by decide +kernel
theorem dX3_supportsOf_6 : decode cX3_supportsOf 6 = .ok (.astore_n 2, 1) := by decide +kernel
theorem dX3_supportsOf_7 : decode cX3_supportsOf 7 = .ok (.iconst 0, 1) := by decide +kernel
theorem dX3_supportsOf_8 : decode cX3_supportsOf 8 = .ok (.istore_n 3, 1) := by decide +kernel
theorem dX3_supportsOf_9 : decode cX3_supportsOf 9 = .ok (.iconst 0, 1) := by decide +kernel
theorem dX3_supportsOf_10 : decode cX3_supportsOf 10 = .ok (.istore 4, 2) := by decide +kernel
theorem dX3_supportsOf_12 : decode cX3_supportsOf 12 = .ok (.iload 4, 2) := by decide +kernel
theorem dX3_supportsOf_14 : decode cX3_supportsOf 14 = .ok (.aload_n 0, 1) := by decide +kernel
theorem dX3_supportsOf_15 : decode cX3_supportsOf 15 = .ok (.getfield 18, 3) := by decide +kernel
theorem dX3_supportsOf_18 : decode cX3_supportsOf 18 = .ok (.if_icmp .ge 47, 3) := by decide +kernel
theorem dX3_supportsOf_21 : decode cX3_supportsOf 21 = .ok (.aload_n 0, 1) := by decide +kernel
theorem dX3_supportsOf_22 : decode cX3_supportsOf 22 = .ok (.getfield 11, 3) := by decide +kernel
theorem dX3_supportsOf_25 : decode cX3_supportsOf 25 = .ok (.iload 4, 2) := by decide +kernel
theorem dX3_supportsOf_27 : decode cX3_supportsOf 27 = .ok (.aaload, 1) := by decide +kernel
theorem dX3_supportsOf_28 : decode cX3_supportsOf 28 = .ok (.aload_n 2, 1) := by decide +kernel
theorem dX3_supportsOf_29 : decode cX3_supportsOf 29 = .ok (.invokevirtual 64, 3) := by decide +kernel
theorem dX3_supportsOf_32 : decode cX3_supportsOf 32 = .ok (.ifCond .eq 27, 3) := by decide +kernel
theorem dX3_supportsOf_35 : decode cX3_supportsOf 35 = .ok (.aload_n 0, 1) := by decide +kernel
theorem dX3_supportsOf_36 : decode cX3_supportsOf 36 = .ok (.getfield 11, 3) := by decide +kernel
theorem dX3_supportsOf_39 : decode cX3_supportsOf 39 = .ok (.iload 4, 2) := by decide +kernel
theorem dX3_supportsOf_41 : decode cX3_supportsOf 41 = .ok (.aaload, 1) := by decide +kernel
theorem dX3_supportsOf_42 : decode cX3_supportsOf 42 = .ok (.getfield 54, 3) := by decide +kernel
theorem dX3_supportsOf_45 : decode cX3_supportsOf 45 = .ok (.iconst 2, 1) := by decide +kernel
theorem dX3_supportsOf_46 : decode cX3_supportsOf 46 = .ok (.iaload, 1) := by decide +kernel
theorem dX3_supportsOf_47 : decode cX3_supportsOf 47 = .ok (.aload_n 2, 1) := by decide +kernel
theorem dX3_supportsOf_48 : decode cX3_supportsOf 48 = .ok (.getfield 50, 3) := by decide +kernel
theorem dX3_supportsOf_51 : decode cX3_supportsOf 51 = .ok (.iconst 2, 1) := by decide +kernel
theorem dX3_supportsOf_52 : decode cX3_supportsOf 52 = .ok (.iaload, 1) := by decide +kernel
theorem dX3_supportsOf_53 : decode cX3_supportsOf 53 = .ok (.if_icmp .ne 6, 3) := by decide +kernel
theorem dX3_supportsOf_56 : decode cX3_supportsOf 56 = .ok (.iinc 3 1, 3) := by decide +kernel
theorem dX3_supportsOf_59 : decode cX3_supportsOf 59 = .ok (.iinc 4 1, 3) := by decide +kernel
theorem dX3_supportsOf_62 : decode cX3_supportsOf 62 = .ok (.goto (-50), 3) := by decide +kernel
theorem dX3_supportsOf_65 : decode cX3_supportsOf 65 = .ok (.iload_n 3, 1) := by decide +kernel
theorem dX3_supportsOf_66 : decode cX3_supportsOf 66 = .ok (.ireturn, 1) := by decide +kernel
set_option maxRecDepth 20000 in
theorem ggX3_shadowOn_X0_isBelow : GoodIn wsX3_shadowOn wsX0_isBelow := goodIn_r _ [9, 10, 11, 12, 13, 14, 8, 15, 40, 41, 42] (by decide +kernel) (by decide +kernel)
set_option maxRecDepth 20000 in
theorem gX3_shadowOn_X0_isBelow : GoodIn wsX3_shadowOn (wsV RX3 64 RX0 yX0_isBelow wsX0_isBelow) := goodIn_app (goodIn_of _ (by decide +kernel)) ggX3_shadowOn_X0_isBelow
set_option maxRecDepth 20000 in
theorem ggX3_shadowOn_X0_coversRow : GoodIn wsX3_shadowOn wsX0_coversRow := goodIn_r _ [19, 11, 10, 40, 41, 42] (by decide +kernel) (by decide +kernel)
set_option maxRecDepth 20000 in
theorem gX3_shadowOn_X0_coversRow : GoodIn wsX3_shadowOn (wsV RX3 73 RX0 yX0_coversRow wsX0_coversRow) := goodIn_app (goodIn_of _ (by decide +kernel)) ggX3_shadowOn_X0_coversRow
set_option maxRecDepth 20000 in
theorem ggX3_shadowOn_X0_rowOfCells : GoodIn wsX3_shadowOn wsX0_rowOfCells := goodIn_r _ [23, 11, 24, 25, 26, 8, 27, 10, 40, 41, 42] (by decide +kernel) (by decide +kernel)
set_option maxRecDepth 20000 in
theorem gX3_shadowOn_X0_rowOfCells : GoodIn wsX3_shadowOn (wsV RX3 77 RX0 yX0_rowOfCells wsX0_rowOfCells) := goodIn_app (goodIn_of _ (by decide +kernel)) ggX3_shadowOn_X0_rowOfCells
set_option maxRecDepth 20000 in
theorem ggX3_shadowOn_J6_bitCount_0f7a4 : GoodIn wsX3_shadowOn wsJ6_bitCount_0f7a4 := goodIn_r _ [31, 32, 33, 34] (by decide +kernel) (by decide +kernel)
set_option maxRecDepth 20000 in
theorem gX3_shadowOn_J6_bitCount_0f7a4 : GoodIn wsX3_shadowOn (va_wsS RX3 80 yJ6_bitCount_0f7a4 wsJ6_bitCount_0f7a4) := goodIn_app (goodIn_of _ (by decide +kernel)) ggX3_shadowOn_J6_bitCount_0f7a4
theorem dX3_shadowOn_0 : decode cX3_shadowOn 0 = .ok (.aload_n 0, 1) := by decide +kernel
theorem dX3_shadowOn_1 : decode cX3_shadowOn 1 = .ok (.getfield 11, 3) := by decide +kernel
theorem dX3_shadowOn_4 : decode cX3_shadowOn 4 = .ok (.iload_n 1, 1) := by decide +kernel
theorem dX3_shadowOn_5 : decode cX3_shadowOn 5 = .ok (.aaload, 1) := by decide +kernel
theorem dX3_shadowOn_6 : decode cX3_shadowOn 6 = .ok (.astore_n 2, 1) := by decide +kernel
theorem dX3_shadowOn_7 : decode cX3_shadowOn 7 = .ok (.iconst 0, 1) := by decide +kernel
theorem dX3_shadowOn_8 : decode cX3_shadowOn 8 = .ok (.istore_n 3, 1) := by decide +kernel
theorem dX3_shadowOn_9 : decode cX3_shadowOn 9 = .ok (.aload_n 2, 1) := by decide +kernel
theorem dX3_shadowOn_10 : decode cX3_shadowOn 10 = .ok (.getfield 50, 3) := by decide +kernel
theorem dX3_shadowOn_13 : decode cX3_shadowOn 13 = .ok (.iconst 1, 1) := by decide +kernel
theorem dX3_shadowOn_14 : decode cX3_shadowOn 14 = .ok (.iaload, 1) := by decide +kernel
theorem dX3_shadowOn_15 : decode cX3_shadowOn 15 = .ok (.istore 4, 2) := by decide +kernel
theorem dX3_shadowOn_17 : decode cX3_shadowOn 17 = .ok (.iload 4, 2) := by decide +kernel
theorem dX3_shadowOn_19 : decode cX3_shadowOn 19 = .ok (.aload_n 2, 1) := by decide +kernel
theorem dX3_shadowOn_20 : decode cX3_shadowOn 20 = .ok (.getfield 54, 3) := by decide +kernel
theorem dX3_shadowOn_23 : decode cX3_shadowOn 23 = .ok (.iconst 1, 1) := by decide +kernel
theorem dX3_shadowOn_24 : decode cX3_shadowOn 24 = .ok (.iaload, 1) := by decide +kernel
theorem dX3_shadowOn_25 : decode cX3_shadowOn 25 = .ok (.if_icmp .ge 87, 3) := by decide +kernel
theorem dX3_shadowOn_28 : decode cX3_shadowOn 28 = .ok (.iconst 0, 1) := by decide +kernel
theorem dX3_shadowOn_29 : decode cX3_shadowOn 29 = .ok (.istore 5, 2) := by decide +kernel
theorem dX3_shadowOn_31 : decode cX3_shadowOn 31 = .ok (.iconst 0, 1) := by decide +kernel
theorem dX3_shadowOn_32 : decode cX3_shadowOn 32 = .ok (.istore 6, 2) := by decide +kernel
theorem dX3_shadowOn_34 : decode cX3_shadowOn 34 = .ok (.iload 6, 2) := by decide +kernel
theorem dX3_shadowOn_36 : decode cX3_shadowOn 36 = .ok (.aload_n 0, 1) := by decide +kernel
theorem dX3_shadowOn_37 : decode cX3_shadowOn 37 = .ok (.getfield 18, 3) := by decide +kernel
theorem dX3_shadowOn_40 : decode cX3_shadowOn 40 = .ok (.if_icmp .ge 53, 3) := by decide +kernel
theorem dX3_shadowOn_43 : decode cX3_shadowOn 43 = .ok (.aload_n 2, 1) := by decide +kernel
theorem dX3_shadowOn_44 : decode cX3_shadowOn 44 = .ok (.aload_n 0, 1) := by decide +kernel
theorem dX3_shadowOn_45 : decode cX3_shadowOn 45 = .ok (.getfield 11, 3) := by decide +kernel
theorem dX3_shadowOn_48 : decode cX3_shadowOn 48 = .ok (.iload 6, 2) := by decide +kernel
theorem dX3_shadowOn_50 : decode cX3_shadowOn 50 = .ok (.aaload, 1) := by decide +kernel
theorem dX3_shadowOn_51 : decode cX3_shadowOn 51 = .ok (.invokevirtual 64, 3) := by decide +kernel
theorem dX3_shadowOn_54 : decode cX3_shadowOn 54 = .ok (.ifCond .eq 33, 3) := by decide +kernel
theorem dX3_shadowOn_57 : decode cX3_shadowOn 57 = .ok (.aload_n 0, 1) := by decide +kernel
theorem dX3_shadowOn_58 : decode cX3_shadowOn 58 = .ok (.getfield 11, 3) := by decide +kernel
theorem dX3_shadowOn_61 : decode cX3_shadowOn 61 = .ok (.iload 6, 2) := by decide +kernel
theorem dX3_shadowOn_63 : decode cX3_shadowOn 63 = .ok (.aaload, 1) := by decide +kernel
theorem dX3_shadowOn_64 : decode cX3_shadowOn 64 = .ok (.iload 4, 2) := by decide +kernel
theorem dX3_shadowOn_66 : decode cX3_shadowOn 66 = .ok (.invokevirtual 73, 3) := by decide +kernel
theorem dX3_shadowOn_69 : decode cX3_shadowOn 69 = .ok (.ifCond .eq 18, 3) := by decide +kernel
theorem dX3_shadowOn_72 : decode cX3_shadowOn 72 = .ok (.iload 5, 2) := by decide +kernel
theorem dX3_shadowOn_74 : decode cX3_shadowOn 74 = .ok (.aload_n 0, 1) := by decide +kernel
theorem dX3_shadowOn_75 : decode cX3_shadowOn 75 = .ok (.getfield 11, 3) := by decide +kernel
theorem dX3_shadowOn_78 : decode cX3_shadowOn 78 = .ok (.iload 6, 2) := by decide +kernel
theorem dX3_shadowOn_80 : decode cX3_shadowOn 80 = .ok (.aaload, 1) := by decide +kernel
theorem dX3_shadowOn_81 : decode cX3_shadowOn 81 = .ok (.invokevirtual 77, 3) := by decide +kernel
theorem dX3_shadowOn_84 : decode cX3_shadowOn 84 = .ok (.ior, 1) := by decide +kernel
theorem dX3_shadowOn_85 : decode cX3_shadowOn 85 = .ok (.istore 5, 2) := by decide +kernel
theorem dX3_shadowOn_87 : decode cX3_shadowOn 87 = .ok (.iinc 6 1, 3) := by decide +kernel
theorem dX3_shadowOn_90 : decode cX3_shadowOn 90 = .ok (.goto (-56), 3) := by decide +kernel
theorem dX3_shadowOn_93 : decode cX3_shadowOn 93 = .ok (.iload_n 3, 1) := by decide +kernel
theorem dX3_shadowOn_94 : decode cX3_shadowOn 94 = .ok (.iload 5, 2) := by decide +kernel
theorem dX3_shadowOn_96 : decode cX3_shadowOn 96 = .ok (.aload_n 2, 1) := by decide +kernel
theorem dX3_shadowOn_97 : decode cX3_shadowOn 97 = .ok (.invokevirtual 77, 3) := by decide +kernel
theorem dX3_shadowOn_100 : decode cX3_shadowOn 100 = .ok (.iand, 1) := by decide +kernel
theorem dX3_shadowOn_101 : decode cX3_shadowOn 101 = .ok (.invokestatic 80, 3) := by decide +kernel
theorem dX3_shadowOn_104 : decode cX3_shadowOn 104 = .ok (.iadd, 1) := by decide +kernel
theorem dX3_shadowOn_105 : decode cX3_shadowOn 105 = .ok (.istore_n 3, 1) := by decide +kernel
theorem dX3_shadowOn_106 : decode cX3_shadowOn 106 = .ok (.iinc 4 1, 3) := by decide +kernel
theorem dX3_shadowOn_109 : decode cX3_shadowOn 109 = .ok (.goto (-92), 3) := by decide +kernel
theorem dX3_shadowOn_112 : decode cX3_shadowOn 112 = .ok (.iload_n 3, 1) := by decide +kernel
theorem dX3_shadowOn_113 : decode cX3_shadowOn 113 = .ok (.ireturn, 1) := by decide +kernel
set_option maxRecDepth 20000 in
theorem ggX3_shadow_X3_shadowOn : GoodIn wsX3_shadow wsX3_shadowOn := goodIn_r _ [6, 7, 8, 9, 1, 10, 11, 12, 13, 14, 15, 16, 17, 18, 19, 20, 21, 22, 23, 24, 25, 26, 27, 28, 29, 30, 31, 32, 33, 34, 35, 36, 37, 38, 39, 40, 41, 42, 43, 44, 45, 46, 47] (by decide +kernel) (by decide +kernel)
set_option maxRecDepth 20000 in
theorem gX3_shadow_X3_shadowOn : GoodIn wsX3_shadow (wsV RX3 86 RX3 yX3_shadowOn wsX3_shadowOn) := goodIn_app (goodIn_of _ (by decide +kernel)) ggX3_shadow_X3_shadowOn
theorem dX3_shadow_0 : decode cX3_shadow 0 = .ok (.iconst 0, 1) := by decide +kernel
theorem dX3_shadow_1 : decode cX3_shadow 1 = .ok (.istore_n 1, 1) := by decide +kernel
theorem dX3_shadow_2 : decode cX3_shadow 2 = .ok (.iconst 0, 1) := by decide +kernel
theorem dX3_shadow_3 : decode cX3_shadow 3 = .ok (.istore_n 2, 1) := by decide +kernel
theorem dX3_shadow_4 : decode cX3_shadow 4 = .ok (.iload_n 2, 1) := by decide +kernel
theorem dX3_shadow_5 : decode cX3_shadow 5 = .ok (.aload_n 0, 1) := by decide +kernel
theorem dX3_shadow_6 : decode cX3_shadow 6 = .ok (.getfield 18, 3) := by decide +kernel
theorem dX3_shadow_9 : decode cX3_shadow 9 = .ok (.if_icmp .ge 17, 3) := by decide +kernel
theorem dX3_shadow_12 : decode cX3_shadow 12 = .ok (.iload_n 1, 1) := by decide +kernel
theorem dX3_shadow_13 : decode cX3_shadow 13 = .ok (.aload_n 0, 1) := by decide +kernel
theorem dX3_shadow_14 : decode cX3_shadow 14 = .ok (.iload_n 2, 1) := by decide +kernel
theorem dX3_shadow_15 : decode cX3_shadow 15 = .ok (.invokevirtual 86, 3) := by decide +kernel
theorem dX3_shadow_18 : decode cX3_shadow 18 = .ok (.iadd, 1) := by decide +kernel
theorem dX3_shadow_19 : decode cX3_shadow 19 = .ok (.istore_n 1, 1) := by decide +kernel
theorem dX3_shadow_20 : decode cX3_shadow 20 = .ok (.iinc 2 1, 3) := by decide +kernel
theorem dX3_shadow_23 : decode cX3_shadow 23 = .ok (.goto (-19), 3) := by decide +kernel
theorem dX3_shadow_26 : decode cX3_shadow 26 = .ok (.iload_n 1, 1) := by decide +kernel
theorem dX3_shadow_27 : decode cX3_shadow 27 = .ok (.ireturn, 1) := by decide +kernel
theorem dX4_init_0 : decode cX4_init 0 = .ok (.aload_n 0, 1) := by decide +kernel
theorem dX4_init_1 : decode cX4_init 1 = .ok (.invokespecial 3, 3) := by decide +kernel
theorem dX4_init_4 : decode cX4_init 4 = .ok (.aload_n 0, 1) := by decide +kernel
theorem dX4_init_5 : decode cX4_init 5 = .ok (.bipush 80, 2) := by decide +kernel
theorem dX4_init_7 : decode cX4_init 7 = .ok (.newarray .char, 2) := by decide +kernel
theorem dX4_init_9 : decode cX4_init 9 = .ok (.putfield 9, 3) := by decide +kernel
theorem dX4_init_12 : decode cX4_init 12 = .ok (.aload_n 0, 1) := by decide +kernel
theorem dX4_init_13 : decode cX4_init 13 = .ok (.bipush 41, 2) := by decide +kernel
theorem dX4_init_15 : decode cX4_init 15 = .ok (.newarray .int, 2) := by decide +kernel
theorem dX4_init_17 : decode cX4_init 17 = .ok (.putfield 15, 3) := by decide +kernel
theorem dX4_init_20 : decode cX4_init 20 = .ok (.return_, 1) := by decide +kernel
theorem dX4_append_0 : decode cX4_append 0 = .ok (.aload_n 0, 1) := by decide +kernel
theorem dX4_append_1 : decode cX4_append 1 = .ok (.getfield 19, 3) := by decide +kernel
theorem dX4_append_4 : decode cX4_append 4 = .ok (.bipush 80, 2) := by decide +kernel
theorem dX4_append_6 : decode cX4_append 6 = .ok (.if_icmp .lt 5, 3) := by decide +kernel
theorem dX4_append_9 : decode cX4_append 9 = .ok (.iconst 0, 1) := by decide +kernel
theorem dX4_append_10 : decode cX4_append 10 = .ok (.ireturn, 1) := by decide +kernel
theorem dX4_append_11 : decode cX4_append 11 = .ok (.aload_n 0, 1) := by decide +kernel
theorem dX4_append_12 : decode cX4_append 12 = .ok (.getfield 9, 3) := by decide +kernel
theorem dX4_append_15 : decode cX4_append 15 = .ok (.aload_n 0, 1) := by decide +kernel
theorem dX4_append_16 : decode cX4_append 16 = .ok (.getfield 19, 3) := by decide +kernel
theorem dX4_append_19 : decode cX4_append 19 = .ok (.iload_n 1, 1) := by decide +kernel
theorem dX4_append_20 : decode cX4_append 20 = .ok (.castore, 1) := by decide +kernel
theorem dX4_append_21 : decode cX4_append 21 = .ok (.aload_n 0, 1) := by decide +kernel
theorem dX4_append_22 : decode cX4_append 22 = .ok (.dup, 1) := by decide +kernel
theorem dX4_append_23 : decode cX4_append 23 = .ok (.getfield 19, 3) := by decide +kernel
theorem dX4_append_26 : decode cX4_append 26 = .ok (.iconst 1, 1) := by decide +kernel
theorem dX4_append_27 : decode cX4_append 27 = .ok (.iadd, 1) := by decide +kernel
theorem dX4_append_28 : decode cX4_append 28 = .ok (.putfield 19, 3) := by decide +kernel
theorem dX4_append_31 : decode cX4_append 31 = .ok (.iconst 1, 1) := by decide +kernel
theorem dX4_append_32 : decode cX4_append 32 = .ok (.ireturn, 1) := by decide +kernel
set_option maxRecDepth 20000 in
theorem ggX4_read_X4_withDigit : GoodIn wsX4_read wsX4_withDigit := goodIn_r _ [7] (by decide +kernel) (by decide +kernel)
set_option maxRecDepth 20000 in
theorem gX4_read_X4_withDigit : GoodIn wsX4_read (va_wsS RX4 26 yX4_withDigit wsX4_withDigit) := goodIn_app (goodIn_of _ (by decide +kernel)) ggX4_read_X4_withDigit
set_option maxRecDepth 20000 in
theorem ggX4_read_X4_signBehind : GoodIn wsX4_read wsX4_signBehind := goodIn_r _ [10] (by decide +kernel) (by decide +kernel)
set_option maxRecDepth 20000 in
theorem gX4_read_X4_signBehind : GoodIn wsX4_read (va_wsS RX4 30 yX4_signBehind wsX4_signBehind) := goodIn_app (goodIn_of _ (by decide +kernel)) ggX4_read_X4_signBehind
set_option maxRecDepth 20000 in
theorem ggX4_read_X4_store : GoodIn wsX4_read wsX4_store := goodIn_r _ [14, 1, 15, 16, 17, 18, 19] (by decide +kernel) (by decide +kernel)
set_option maxRecDepth 20000 in
theorem gX4_read_X4_store : GoodIn wsX4_read (wsV RX4 34 RX4 yX4_store wsX4_store) := goodIn_app (goodIn_of _ (by decide +kernel)) ggX4_read_X4_store
theorem dX4_read_0 : decode cX4_read 0 = .ok (.aload_n 0, 1) := by decide +kernel
theorem dX4_read_1 : decode cX4_read 1 = .ok (.iconst 0, 1) := by decide +kernel
theorem dX4_read_2 : decode cX4_read 2 = .ok (.putfield 23, 3) := by decide +kernel
theorem dX4_read_5 : decode cX4_read 5 = .ok (.iconst 0, 1) := by decide +kernel
theorem dX4_read_6 : decode cX4_read 6 = .ok (.istore_n 1, 1) := by decide +kernel
theorem dX4_read_7 : decode cX4_read 7 = .ok (.iconst (-1), 1) := by decide +kernel
theorem dX4_read_8 : decode cX4_read 8 = .ok (.istore_n 2, 1) := by decide +kernel
theorem dX4_read_9 : decode cX4_read 9 = .ok (.iconst 0, 1) := by decide +kernel
theorem dX4_read_10 : decode cX4_read 10 = .ok (.istore_n 3, 1) := by decide +kernel
theorem dX4_read_11 : decode cX4_read 11 = .ok (.iload_n 3, 1) := by decide +kernel
theorem dX4_read_12 : decode cX4_read 12 = .ok (.aload_n 0, 1) := by decide +kernel
theorem dX4_read_13 : decode cX4_read 13 = .ok (.getfield 19, 3) := by decide +kernel
theorem dX4_read_16 : decode cX4_read 16 = .ok (.if_icmp .ge 92, 3) := by decide +kernel
theorem dX4_read_19 : decode cX4_read 19 = .ok (.aload_n 0, 1) := by decide +kernel
theorem dX4_read_20 : decode cX4_read 20 = .ok (.getfield 9, 3) := by decide +kernel
theorem dX4_read_23 : decode cX4_read 23 = .ok (.iload_n 3, 1) := by decide +kernel
theorem dX4_read_24 : decode cX4_read 24 = .ok (.caload, 1) := by decide +kernel
theorem dX4_read_25 : decode cX4_read 25 = .ok (.istore 4, 2) := by decide +kernel
theorem dX4_read_27 : decode cX4_read 27 = .ok (.iload 4, 2) := by decide +kernel
theorem dX4_read_29 : decode cX4_read 29 = .ok (.bipush 48, 2) := by decide +kernel
theorem dX4_read_31 : decode cX4_read 31 = .ok (.if_icmp .lt 29, 3) := by decide +kernel
theorem dX4_read_34 : decode cX4_read 34 = .ok (.iload 4, 2) := by decide +kernel
theorem dX4_read_36 : decode cX4_read 36 = .ok (.bipush 57, 2) := by decide +kernel
theorem dX4_read_38 : decode cX4_read 38 = .ok (.if_icmp .gt 22, 3) := by decide +kernel
theorem dX4_read_41 : decode cX4_read 41 = .ok (.iload_n 2, 1) := by decide +kernel
theorem dX4_read_42 : decode cX4_read 42 = .ok (.iload 4, 2) := by decide +kernel
theorem dX4_read_44 : decode cX4_read 44 = .ok (.bipush 48, 2) := by decide +kernel
theorem dX4_read_46 : decode cX4_read 46 = .ok (.isub, 1) := by decide +kernel
theorem dX4_read_47 : decode cX4_read 47 = .ok (.iload_n 1, 1) := by decide +kernel
theorem dX4_read_48 : decode cX4_read 48 = .ok (.invokestatic 26, 3) := by decide +kernel
theorem dX4_read_51 : decode cX4_read 51 = .ok (.istore_n 2, 1) := by decide +kernel
theorem dX4_read_52 : decode cX4_read 52 = .ok (.iload_n 2, 1) := by decide +kernel
theorem dX4_read_53 : decode cX4_read 53 = .ok (.bipush (-2), 2) := by decide +kernel
theorem dX4_read_55 : decode cX4_read 55 = .ok (.if_icmp .ne 47, 3) := by decide +kernel
theorem dX4_read_58 : decode cX4_read 58 = .ok (.iload_n 3, 1) := by decide +kernel
theorem dX4_read_59 : decode cX4_read 59 = .ok (.ireturn, 1) := by decide +kernel
theorem dX4_read_60 : decode cX4_read 60 = .ok (.iload_n 2, 1) := by decide +kernel
theorem dX4_read_61 : decode cX4_read 61 = .ok (.iconst (-1), 1) := by decide +kernel
theorem dX4_read_62 : decode cX4_read 62 = .ok (.if_icmp .eq 38, 3) := by decide +kernel
theorem dX4_read_65 : decode cX4_read 65 = .ok (.iload 4, 2) := by decide +kernel
theorem dX4_read_67 : decode cX4_read 67 = .ok (.iload_n 1, 1) := by decide +kernel
theorem dX4_read_68 : decode cX4_read 68 = .ok (.invokestatic 30, 3) := by decide +kernel
theorem dX4_read_71 : decode cX4_read 71 = .ok (.if_icmp .ne 29, 3) := by decide +kernel
theorem dX4_read_74 : decode cX4_read 74 = .ok (.aload_n 0, 1) := by decide +kernel
theorem dX4_read_75 : decode cX4_read 75 = .ok (.iload_n 2, 1) := by decide +kernel
theorem dX4_read_76 : decode cX4_read 76 = .ok (.invokevirtual 34, 3) := by decide +kernel
theorem dX4_read_79 : decode cX4_read 79 = .ok (.iconst (-1), 1) := by decide +kernel
theorem dX4_read_80 : decode cX4_read 80 = .ok (.istore_n 2, 1) := by decide +kernel
theorem dX4_read_81 : decode cX4_read 81 = .ok (.iload_n 1, 1) := by decide +kernel
theorem dX4_read_82 : decode cX4_read 82 = .ok (.iconst 1, 1) := by decide +kernel
theorem dX4_read_83 : decode cX4_read 83 = .ok (.iadd, 1) := by decide +kernel
theorem dX4_read_84 : decode cX4_read 84 = .ok (.bipush 6, 2) := by decide +kernel
theorem dX4_read_86 : decode cX4_read 86 = .ok (.if_icmp .ge 9, 3) := by decide +kernel
theorem dX4_read_89 : decode cX4_read 89 = .ok (.iload_n 1, 1) := by decide +kernel
theorem dX4_read_90 : decode cX4_read 90 = .ok (.iconst 1, 1) := by decide +kernel
theorem dX4_read_91 : decode cX4_read 91 = .ok (.iadd, 1) := by decide +kernel
theorem dX4_read_92 : decode cX4_read 92 = .ok (.goto 4, 3) := by decide +kernel
theorem dX4_read_95 : decode cX4_read 95 = .ok (.iconst 0, 1) := by decide +kernel
theorem dX4_read_96 : decode cX4_read 96 = .ok (.istore_n 1, 1) := by decide +kernel
theorem dX4_read_97 : decode cX4_read 97 = .ok (.goto 5, 3) := by decide +kernel
theorem dX4_read_100 : decode cX4_read 100 = .ok (.iload_n 3, 1) := by decide +kernel
theorem dX4_read_101 : decode cX4_read 101 = .ok (.ireturn, 1) := by decide +kernel
theorem dX4_read_102 : decode cX4_read 102 = .ok (.iinc 3 1, 3) := by decide +kernel
theorem dX4_read_105 : decode cX4_read 105 = .ok (.goto (-94), 3) := by decide +kernel
theorem dX4_read_108 : decode cX4_read 108 = .ok (.iload_n 2, 1) := by decide +kernel
theorem dX4_read_109 : decode cX4_read 109 = .ok (.iconst (-1), 1) := by decide +kernel
theorem dX4_read_110 : decode cX4_read 110 = .ok (.if_icmp .eq 11, 3) := by decide +kernel
theorem dX4_read_113 : decode cX4_read 113 = .ok (.iload_n 1, 1) := by decide +kernel
theorem dX4_read_114 : decode cX4_read 114 = .ok (.iconst 1, 1) := by decide +kernel
theorem dX4_read_115 : decode cX4_read 115 = .ok (.iadd, 1) := by decide +kernel
theorem dX4_read_116 : decode cX4_read 116 = .ok (.bipush 6, 2) := by decide +kernel
theorem dX4_read_118 : decode cX4_read 118 = .ok (.if_icmp .ge 8, 3) := by decide +kernel
theorem dX4_read_121 : decode cX4_read 121 = .ok (.aload_n 0, 1) := by decide +kernel
theorem dX4_read_122 : decode cX4_read 122 = .ok (.getfield 19, 3) := by decide +kernel
theorem dX4_read_125 : decode cX4_read 125 = .ok (.ireturn, 1) := by decide +kernel
theorem dX4_read_126 : decode cX4_read 126 = .ok (.aload_n 0, 1) := by decide +kernel
theorem dX4_read_127 : decode cX4_read 127 = .ok (.iload_n 2, 1) := by decide +kernel
theorem dX4_read_128 : decode cX4_read 128 = .ok (.invokevirtual 34, 3) := by decide +kernel
theorem dX4_read_131 : decode cX4_read 131 = .ok (.iconst (-1), 1) := by decide +kernel
theorem dX4_read_132 : decode cX4_read 132 = .ok (.ireturn, 1) := by decide +kernel
theorem dX4_withDigit_0 : decode cX4_withDigit 0 = .ok (.iload_n 2, 1) := by decide +kernel
theorem dX4_withDigit_1 : decode cX4_withDigit 1 = .ok (.iconst 3, 1) := by decide +kernel
theorem dX4_withDigit_2 : decode cX4_withDigit 2 = .ok (.if_icmp .lt 7, 3) := by decide +kernel
theorem dX4_withDigit_5 : decode cX4_withDigit 5 = .ok (.iconst 1, 1) := by decide +kernel
theorem dX4_withDigit_6 : decode cX4_withDigit 6 = .ok (.goto 4, 3) := by decide +kernel
theorem dX4_withDigit_9 : decode cX4_withDigit 9 = .ok (.iconst 0, 1) := by decide +kernel
theorem dX4_withDigit_10 : decode cX4_withDigit 10 = .ok (.istore_n 3, 1) := by decide +kernel
theorem dX4_withDigit_11 : decode cX4_withDigit 11 = .ok (.iload_n 0, 1) := by decide +kernel
theorem dX4_withDigit_12 : decode cX4_withDigit 12 = .ok (.iconst (-1), 1) := by decide +kernel
theorem dX4_withDigit_13 : decode cX4_withDigit 13 = .ok (.if_icmp .ne 18, 3) := by decide +kernel
theorem dX4_withDigit_16 : decode cX4_withDigit 16 = .ok (.iload_n 3, 1) := by decide +kernel
theorem dX4_withDigit_17 : decode cX4_withDigit 17 = .ok (.ifCond .eq 12, 3) := by decide +kernel
theorem dX4_withDigit_20 : decode cX4_withDigit 20 = .ok (.iload_n 1, 1) := by decide +kernel
theorem dX4_withDigit_21 : decode cX4_withDigit 21 = .ok (.ifCond .ne 8, 3) := by decide +kernel
theorem dX4_withDigit_24 : decode cX4_withDigit 24 = .ok (.bipush (-2), 2) := by decide +kernel
theorem dX4_withDigit_26 : decode cX4_withDigit 26 = .ok (.goto 4, 3) := by decide +kernel
theorem dX4_withDigit_29 : decode cX4_withDigit 29 = .ok (.iload_n 1, 1) := by decide +kernel
theorem dX4_withDigit_30 : decode cX4_withDigit 30 = .ok (.ireturn, 1) := by decide +kernel
theorem dX4_withDigit_31 : decode cX4_withDigit 31 = .ok (.iload_n 0, 1) := by decide +kernel
theorem dX4_withDigit_32 : decode cX4_withDigit 32 = .ok (.bipush 10, 2) := by decide +kernel
theorem dX4_withDigit_34 : decode cX4_withDigit 34 = .ok (.imul, 1) := by decide +kernel
theorem dX4_withDigit_35 : decode cX4_withDigit 35 = .ok (.iload_n 1, 1) := by decide +kernel
theorem dX4_withDigit_36 : decode cX4_withDigit 36 = .ok (.iadd, 1) := by decide +kernel
theorem dX4_withDigit_37 : decode cX4_withDigit 37 = .ok (.istore 4, 2) := by decide +kernel
theorem dX4_withDigit_39 : decode cX4_withDigit 39 = .ok (.iload 4, 2) := by decide +kernel
theorem dX4_withDigit_41 : decode cX4_withDigit 41 = .ok (.iload_n 3, 1) := by decide +kernel
theorem dX4_withDigit_42 : decode cX4_withDigit 42 = .ok (.ifCond .eq 8, 3) := by decide +kernel
theorem dX4_withDigit_45 : decode cX4_withDigit 45 = .ok (.bipush 12, 2) := by decide +kernel
theorem dX4_withDigit_47 : decode cX4_withDigit 47 = .ok (.goto 5, 3) := by decide +kernel
theorem dX4_withDigit_50 : decode cX4_withDigit 50 = .ok (.bipush 31, 2) := by decide +kernel
theorem dX4_withDigit_52 : decode cX4_withDigit 52 = .ok (.if_icmp .le 7, 3) := by decide +kernel
theorem dX4_withDigit_55 : decode cX4_withDigit 55 = .ok (.iconst 1, 1) := by decide +kernel
theorem dX4_withDigit_56 : decode cX4_withDigit 56 = .ok (.goto 4, 3) := by decide +kernel
theorem dX4_withDigit_59 : decode cX4_withDigit 59 = .ok (.iconst 0, 1) := by decide +kernel
theorem dX4_withDigit_60 : decode cX4_withDigit 60 = .ok (.istore 5, 2) := by decide +kernel
theorem dX4_withDigit_62 : decode cX4_withDigit 62 = .ok (.iload_n 0, 1) := by decide +kernel
theorem dX4_withDigit_63 : decode cX4_withDigit 63 = .ok (.ifCond .eq 8, 3) := by decide +kernel
theorem dX4_withDigit_66 : decode cX4_withDigit 66 = .ok (.iload 5, 2) := by decide +kernel
theorem dX4_withDigit_68 : decode cX4_withDigit 68 = .ok (.ifCond .eq 8, 3) := by decide +kernel
theorem dX4_withDigit_71 : decode cX4_withDigit 71 = .ok (.bipush (-2), 2) := by decide +kernel
theorem dX4_withDigit_73 : decode cX4_withDigit 73 = .ok (.goto 5, 3) := by decide +kernel
theorem dX4_withDigit_76 : decode cX4_withDigit 76 = .ok (.iload 4, 2) := by decide +kernel
theorem dX4_withDigit_78 : decode cX4_withDigit 78 = .ok (.ireturn, 1) := by decide +kernel
theorem dX4_signBehind_0 : decode cX4_signBehind 0 = .ok (.iload_n 0, 1) := by decide +kernel
theorem dX4_signBehind_1 : decode cX4_signBehind 1 = .ok (.iconst 2, 1) := by decide +kernel
theorem dX4_signBehind_2 : decode cX4_signBehind 2 = .ok (.if_icmp .ne 6, 3) := by decide +kernel
theorem dX4_signBehind_5 : decode cX4_signBehind 5 = .ok (.bipush 58, 2) := by decide +kernel
theorem dX4_signBehind_7 : decode cX4_signBehind 7 = .ok (.ireturn, 1) := by decide +kernel
theorem dX4_signBehind_8 : decode cX4_signBehind 8 = .ok (.iload_n 0, 1) := by decide +kernel
theorem dX4_signBehind_9 : decode cX4_signBehind 9 = .ok (.iconst 5, 1) := by decide +kernel
theorem dX4_signBehind_10 : decode cX4_signBehind 10 = .ok (.if_icmp .ne 8, 3) := by decide +kernel
theorem dX4_signBehind_13 : decode cX4_signBehind 13 = .ok (.bipush 59, 2) := by decide +kernel
theorem dX4_signBehind_15 : decode cX4_signBehind 15 = .ok (.goto 5, 3) := by decide +kernel
theorem dX4_signBehind_18 : decode cX4_signBehind 18 = .ok (.bipush 44, 2) := by decide +kernel
theorem dX4_signBehind_20 : decode cX4_signBehind 20 = .ok (.ireturn, 1) := by decide +kernel
theorem dX4_store_0 : decode cX4_store 0 = .ok (.aload_n 0, 1) := by decide +kernel
theorem dX4_store_1 : decode cX4_store 1 = .ok (.getfield 23, 3) := by decide +kernel
theorem dX4_store_4 : decode cX4_store 4 = .ok (.aload_n 0, 1) := by decide +kernel
theorem dX4_store_5 : decode cX4_store 5 = .ok (.getfield 15, 3) := by decide +kernel
theorem dX4_store_8 : decode cX4_store 8 = .ok (.arraylength, 1) := by decide +kernel
theorem dX4_store_9 : decode cX4_store 9 = .ok (.if_icmp .ge 23, 3) := by decide +kernel
theorem dX4_store_12 : decode cX4_store 12 = .ok (.aload_n 0, 1) := by decide +kernel
theorem dX4_store_13 : decode cX4_store 13 = .ok (.getfield 15, 3) := by decide +kernel
theorem dX4_store_16 : decode cX4_store 16 = .ok (.aload_n 0, 1) := by decide +kernel
theorem dX4_store_17 : decode cX4_store 17 = .ok (.getfield 23, 3) := by decide +kernel
theorem dX4_store_20 : decode cX4_store 20 = .ok (.iload_n 1, 1) := by decide +kernel
theorem dX4_store_21 : decode cX4_store 21 = .ok (.iastore, 1) := by decide +kernel
theorem dX4_store_22 : decode cX4_store 22 = .ok (.aload_n 0, 1) := by decide +kernel
theorem dX4_store_23 : decode cX4_store 23 = .ok (.dup, 1) := by decide +kernel
theorem dX4_store_24 : decode cX4_store 24 = .ok (.getfield 23, 3) := by decide +kernel
theorem dX4_store_27 : decode cX4_store 27 = .ok (.iconst 1, 1) := by decide +kernel
theorem dX4_store_28 : decode cX4_store 28 = .ok (.iadd, 1) := by decide +kernel
theorem dX4_store_29 : decode cX4_store 29 = .ok (.putfield 23, 3) := by decide +kernel
theorem dX4_store_32 : decode cX4_store 32 = .ok (.return_, 1) := by decide +kernel
theorem dX4_boxCount_0 : decode cX4_boxCount 0 = .ok (.aload_n 0, 1) := by decide +kernel
theorem dX4_boxCount_1 : decode cX4_boxCount 1 = .ok (.getfield 23, 3) := by decide +kernel
theorem dX4_boxCount_4 : decode cX4_boxCount 4 = .ok (.bipush 6, 2) := by decide +kernel
theorem dX4_boxCount_6 : decode cX4_boxCount 6 = .ok (.idiv, 1) := by decide +kernel
theorem dX4_boxCount_7 : decode cX4_boxCount 7 = .ok (.ireturn, 1) := by decide +kernel
theorem dX4_valueOf_0 : decode cX4_valueOf 0 = .ok (.iload_n 1, 1) := by decide +kernel
theorem dX4_valueOf_1 : decode cX4_valueOf 1 = .ok (.bipush 6, 2) := by decide +kernel
theorem dX4_valueOf_3 : decode cX4_valueOf 3 = .ok (.imul, 1) := by decide +kernel
theorem dX4_valueOf_4 : decode cX4_valueOf 4 = .ok (.iload_n 2, 1) := by decide +kernel
theorem dX4_valueOf_5 : decode cX4_valueOf 5 = .ok (.iadd, 1) := by decide +kernel
theorem dX4_valueOf_6 : decode cX4_valueOf 6 = .ok (.istore_n 3, 1) := by decide +kernel
theorem dX4_valueOf_7 : decode cX4_valueOf 7 = .ok (.iload_n 3, 1) := by decide +kernel
theorem dX4_valueOf_8 : decode cX4_valueOf 8 = .ok (.ifCond .lt 20, 3) := by decide +kernel
theorem dX4_valueOf_11 : decode cX4_valueOf 11 = .ok (.iload_n 3, 1) := by decide +kernel
theorem dX4_valueOf_12 : decode cX4_valueOf 12 = .ok (.aload_n 0, 1) := by decide +kernel
theorem dX4_valueOf_13 : decode cX4_valueOf 13 = .ok (.getfield 23, 3) := by decide +kernel
theorem dX4_valueOf_16 : decode cX4_valueOf 16 = .ok (.if_icmp .ge 12, 3) := by decide +kernel
theorem dX4_valueOf_19 : decode cX4_valueOf 19 = .ok (.aload_n 0, 1) := by decide +kernel
theorem dX4_valueOf_20 : decode cX4_valueOf 20 = .ok (.getfield 15, 3) := by decide +kernel
theorem dX4_valueOf_23 : decode cX4_valueOf 23 = .ok (.iload_n 3, 1) := by decide +kernel
theorem dX4_valueOf_24 : decode cX4_valueOf 24 = .ok (.iaload, 1) := by decide +kernel
theorem dX4_valueOf_25 : decode cX4_valueOf 25 = .ok (.goto 4, 3) := by decide +kernel
theorem dX4_valueOf_28 : decode cX4_valueOf 28 = .ok (.iconst 0, 1) := by decide +kernel
theorem dX4_valueOf_29 : decode cX4_valueOf 29 = .ok (.ireturn, 1) := by decide +kernel
set_option maxRecDepth 20000 in
theorem ggX5_init_X3_init : GoodIn wsX5_init wsX3_init := goodIn_r _ [30, 31, 2, 3, 32, 33, 24, 25, 34, 35, 36, 37, 38, 39, 60, 61, 62, 63, 64, 87, 88, 89] (by decide +kernel) (by decide +kernel)
set_option maxRecDepth 20000 in
theorem gX5_init_X3_init : GoodIn wsX5_init (wsX3_init) := ggX5_init_X3_init
set_option maxRecDepth 20000 in
theorem ggX5_init_X1_init : GoodIn wsX5_init wsX1_init := goodIn_r _ [42, 43, 2, 3, 44, 45, 5, 6, 46, 29, 30, 31, 32, 33, 24, 25, 34, 35, 36, 37, 38, 39, 74, 75, 60, 61, 62, 63, 64, 87, 88, 89] (by decide +kernel) (by decide +kernel)
set_option maxRecDepth 20000 in
theorem gX5_init_X1_init : GoodIn wsX5_init (wsX1_init) := ggX5_init_X1_init
set_option maxRecDepth 20000 in
theorem ggX5_init_X4_init : GoodIn wsX5_init wsX4_init := goodIn_r _ [48, 49, 2, 3, 50, 51, 37, 52, 76, 77, 78, 79] (by decide +kernel) (by decide +kernel)
set_option maxRecDepth 20000 in
theorem gX5_init_X4_init_n31 : GoodIn wsX5_init (wsX4_init) := ggX5_init_X4_init
set_option maxRecDepth 20000 in
theorem ggX5_init_X2_init : GoodIn wsX5_init wsX2_init := goodIn_r _ [54, 55, 2, 3, 37, 56, 57, 58, 59, 80, 81, 82, 83, 84, 85, 86] (by decide +kernel) (by decide +kernel)
set_option maxRecDepth 20000 in
theorem gX5_init_X2_init_n38 : GoodIn wsX5_init (wsX2_init) := ggX5_init_X2_init
set_option maxRecDepth 20000 in
theorem ggX5_init_X0_init : GoodIn wsX5_init wsX0_init := goodIn_r _ [35, 36, 2, 3, 37, 38, 39, 87, 88, 89] (by decide +kernel) (by decide +kernel)
set_option maxRecDepth 20000 in
theorem gX5_init_X0_init_n48 : GoodIn wsX5_init (wsX0_init) := ggX5_init_X0_init
theorem dX5_init_0 : decode cX5_init 0 = .ok (.aload_n 0, 1) := by decide +kernel
theorem dX5_init_1 : decode cX5_init 1 = .ok (.invokespecial 1, 3) := by decide +kernel
theorem dX5_init_4 : decode cX5_init 4 = .ok (.aload_n 0, 1) := by decide +kernel
theorem dX5_init_5 : decode cX5_init 5 = .ok (.new 7, 3) := by decide +kernel
theorem dX5_init_8 : decode cX5_init 8 = .ok (.dup, 1) := by decide +kernel
theorem dX5_init_9 : decode cX5_init 9 = .ok (.invokespecial 9, 3) := by decide +kernel
theorem dX5_init_12 : decode cX5_init 12 = .ok (.putfield 10, 3) := by decide +kernel
theorem dX5_init_15 : decode cX5_init 15 = .ok (.aload_n 0, 1) := by decide +kernel
theorem dX5_init_16 : decode cX5_init 16 = .ok (.new 7, 3) := by decide +kernel
theorem dX5_init_19 : decode cX5_init 19 = .ok (.dup, 1) := by decide +kernel
theorem dX5_init_20 : decode cX5_init 20 = .ok (.invokespecial 9, 3) := by decide +kernel
theorem dX5_init_23 : decode cX5_init 23 = .ok (.putfield 16, 3) := by decide +kernel
theorem dX5_init_26 : decode cX5_init 26 = .ok (.aload_n 0, 1) := by decide +kernel
theorem dX5_init_27 : decode cX5_init 27 = .ok (.new 7, 3) := by decide +kernel
theorem dX5_init_30 : decode cX5_init 30 = .ok (.dup, 1) := by decide +kernel
theorem dX5_init_31 : decode cX5_init 31 = .ok (.invokespecial 9, 3) := by decide +kernel
theorem dX5_init_34 : decode cX5_init 34 = .ok (.putfield 19, 3) := by decide +kernel
theorem dX5_init_37 : decode cX5_init 37 = .ok (.aload_n 0, 1) := by decide +kernel
theorem dX5_init_38 : decode cX5_init 38 = .ok (.new 22, 3) := by decide +kernel
theorem dX5_init_41 : decode cX5_init 41 = .ok (.dup, 1) := by decide +kernel
theorem dX5_init_42 : decode cX5_init 42 = .ok (.invokespecial 24, 3) := by decide +kernel
theorem dX5_init_45 : decode cX5_init 45 = .ok (.putfield 25, 3) := by decide +kernel
theorem dX5_init_48 : decode cX5_init 48 = .ok (.aload_n 0, 1) := by decide +kernel
theorem dX5_init_49 : decode cX5_init 49 = .ok (.new 29, 3) := by decide +kernel
theorem dX5_init_52 : decode cX5_init 52 = .ok (.dup, 1) := by decide +kernel
theorem dX5_init_53 : decode cX5_init 53 = .ok (.invokespecial 31, 3) := by decide +kernel
theorem dX5_init_56 : decode cX5_init 56 = .ok (.putfield 32, 3) := by decide +kernel
theorem dX5_init_59 : decode cX5_init 59 = .ok (.aload_n 0, 1) := by decide +kernel
theorem dX5_init_60 : decode cX5_init 60 = .ok (.new 36, 3) := by decide +kernel
theorem dX5_init_63 : decode cX5_init 63 = .ok (.dup, 1) := by decide +kernel
theorem dX5_init_64 : decode cX5_init 64 = .ok (.invokespecial 38, 3) := by decide +kernel
theorem dX5_init_67 : decode cX5_init 67 = .ok (.putfield 39, 3) := by decide +kernel
theorem dX5_init_70 : decode cX5_init 70 = .ok (.aload_n 0, 1) := by decide +kernel
theorem dX5_init_71 : decode cX5_init 71 = .ok (.new 36, 3) := by decide +kernel
theorem dX5_init_74 : decode cX5_init 74 = .ok (.dup, 1) := by decide +kernel
theorem dX5_init_75 : decode cX5_init 75 = .ok (.invokespecial 38, 3) := by decide +kernel
theorem dX5_init_78 : decode cX5_init 78 = .ok (.putfield 43, 3) := by decide +kernel
theorem dX5_init_81 : decode cX5_init 81 = .ok (.aload_n 0, 1) := by decide +kernel
theorem dX5_init_82 : decode cX5_init 82 = .ok (.new 46, 3) := by decide +kernel
theorem dX5_init_85 : decode cX5_init 85 = .ok (.dup, 1) := by decide +kernel
theorem dX5_init_86 : decode cX5_init 86 = .ok (.invokespecial 48, 3) := by decide +kernel
theorem dX5_init_89 : decode cX5_init 89 = .ok (.putfield 49, 3) := by decide +kernel
theorem dX5_init_92 : decode cX5_init 92 = .ok (.aload_n 0, 1) := by decide +kernel
theorem dX5_init_93 : decode cX5_init 93 = .ok (.iconst 0, 1) := by decide +kernel
theorem dX5_init_94 : decode cX5_init 94 = .ok (.putfield 53, 3) := by decide +kernel
theorem dX5_init_97 : decode cX5_init 97 = .ok (.return_, 1) := by decide +kernel
set_option maxRecDepth 20000 in
theorem ggX5_add_X3_copyFrom : GoodIn wsX5_add wsX3_copyFrom := goodIn_r _ [7, 8, 9, 10, 11, 12, 13, 14, 15, 16, 17, 18, 19, 20, 21, 22, 23, 24, 83, 84, 85, 86, 87, 88, 89, 90] (by decide +kernel) (by decide +kernel)
set_option maxRecDepth 20000 in
theorem gX5_add_X3_copyFrom : GoodIn wsX5_add (wsV RX5 57 RX3 yX3_copyFrom wsX3_copyFrom) := goodIn_app (goodIn_of _ (by decide +kernel)) ggX5_add_X3_copyFrom
set_option maxRecDepth 20000 in
theorem ggX5_add_X5_enter : GoodIn wsX5_add wsX5_enter := goodIn_r _ [29, 30, 31, 32, 33, 16, 34, 19, 24, 35, 36, 37, 6, 38, 8, 12, 39, 40, 41, 42, 43, 44, 45, 46, 47, 48, 49, 50, 51, 52, 53, 54, 9, 55, 56, 13, 14, 15, 17, 18, 20, 21, 22, 23, 74, 75, 76, 77, 78, 79, 80, 81, 82, 88, 89, 90, 83, 84, 85, 86, 87] (by decide +kernel) (by decide +kernel)
set_option maxRecDepth 20000 in
theorem gX5_add_X5_enter : GoodIn wsX5_add (wsV RX5 61 RX5 yX5_enter wsX5_enter) := goodIn_app (goodIn_of _ (by decide +kernel)) ggX5_add_X5_enter
set_option maxRecDepth 20000 in
theorem ggX5_add_X5_adoptTrial : GoodIn wsX5_add wsX5_adoptTrial := goodIn_r _ [60, 61, 2, 1, 62, 63, 64, 65, 66, 67, 68, 69, 70, 71, 72, 73, 4, 5, 6, 7, 8, 9, 10, 11, 12, 13, 14, 15, 16, 17, 18, 19, 20, 21, 22, 23, 24, 3, 74, 75, 76, 77, 78, 79, 80, 81, 82, 91, 92, 83, 84, 85, 86, 87, 88, 89, 90] (by decide +kernel) (by decide +kernel)
set_option maxRecDepth 20000 in
theorem gX5_add_X5_adoptTrial : GoodIn wsX5_add (wsV RX5 65 RX5 yX5_adoptTrial wsX5_adoptTrial) := goodIn_app (goodIn_of _ (by decide +kernel)) ggX5_add_X5_adoptTrial
theorem dX5_add_0 : decode cX5_add 0 = .ok (.aload_n 0, 1) := by decide +kernel
theorem dX5_add_1 : decode cX5_add 1 = .ok (.getfield 16, 3) := by decide +kernel
theorem dX5_add_4 : decode cX5_add 4 = .ok (.aload_n 0, 1) := by decide +kernel
theorem dX5_add_5 : decode cX5_add 5 = .ok (.getfield 10, 3) := by decide +kernel
theorem dX5_add_8 : decode cX5_add 8 = .ok (.invokevirtual 57, 3) := by decide +kernel
theorem dX5_add_11 : decode cX5_add 11 = .ok (.aload_n 0, 1) := by decide +kernel
theorem dX5_add_12 : decode cX5_add 12 = .ok (.aload_n 0, 1) := by decide +kernel
theorem dX5_add_13 : decode cX5_add 13 = .ok (.getfield 16, 3) := by decide +kernel
theorem dX5_add_16 : decode cX5_add 16 = .ok (.iload_n 1, 1) := by decide +kernel
theorem dX5_add_17 : decode cX5_add 17 = .ok (.iload_n 2, 1) := by decide +kernel
theorem dX5_add_18 : decode cX5_add 18 = .ok (.iload_n 3, 1) := by decide +kernel
theorem dX5_add_19 : decode cX5_add 19 = .ok (.iload 4, 2) := by decide +kernel
theorem dX5_add_21 : decode cX5_add 21 = .ok (.iload 5, 2) := by decide +kernel
theorem dX5_add_23 : decode cX5_add 23 = .ok (.iload 6, 2) := by decide +kernel
theorem dX5_add_25 : decode cX5_add 25 = .ok (.invokevirtual 61, 3) := by decide +kernel
theorem dX5_add_28 : decode cX5_add 28 = .ok (.istore 7, 2) := by decide +kernel
theorem dX5_add_30 : decode cX5_add 30 = .ok (.iload 7, 2) := by decide +kernel
theorem dX5_add_32 : decode cX5_add 32 = .ok (.ifCond .lt 7, 3) := by decide +kernel
theorem dX5_add_35 : decode cX5_add 35 = .ok (.aload_n 0, 1) := by decide +kernel
theorem dX5_add_36 : decode cX5_add 36 = .ok (.invokevirtual 65, 3) := by decide +kernel
theorem dX5_add_39 : decode cX5_add 39 = .ok (.iload 7, 2) := by decide +kernel
theorem dX5_add_41 : decode cX5_add 41 = .ok (.ireturn, 1) := by decide +kernel
set_option maxRecDepth 20000 in
theorem ggX5_remove_X3_slotOf : GoodIn wsX5_remove wsX3_slotOf := goodIn_r _ [8, 9, 10, 11, 70, 71, 72, 73, 74, 75, 76, 77] (by decide +kernel) (by decide +kernel)
set_option maxRecDepth 20000 in
theorem gX5_remove_X3_slotOf : GoodIn wsX5_remove (wsV RX5 68 RX3 yX3_slotOf wsX3_slotOf) := goodIn_app (goodIn_of _ (by decide +kernel)) ggX5_remove_X3_slotOf
set_option maxRecDepth 20000 in
theorem ggX5_remove_X0_volume : GoodIn wsX5_remove wsX0_volume := goodIn_r _ [16, 17, 18, 19, 15, 20, 21, 22, 75, 76, 77] (by decide +kernel) (by decide +kernel)
set_option maxRecDepth 20000 in
theorem gX5_remove_X0_volume : GoodIn wsX5_remove (wsV RX5 76 RX0 yX0_volume wsX0_volume) := goodIn_app (goodIn_of _ (by decide +kernel)) ggX5_remove_X0_volume
set_option maxRecDepth 20000 in
theorem ggX5_remove_X3_copyFrom : GoodIn wsX5_remove wsX3_copyFrom := goodIn_r _ [26, 9, 27, 28, 29, 10, 30, 31, 32, 15, 33, 34, 22, 35, 36, 37, 38, 21, 70, 71, 72, 73, 74, 75, 76, 77] (by decide +kernel) (by decide +kernel)
set_option maxRecDepth 20000 in
theorem gX5_remove_X3_copyFrom : GoodIn wsX5_remove (wsV RX5 57 RX3 yX3_copyFrom wsX3_copyFrom) := goodIn_app (goodIn_of _ (by decide +kernel)) ggX5_remove_X3_copyFrom
set_option maxRecDepth 20000 in
theorem ggX5_remove_X3_takeOut : GoodIn wsX5_remove wsX3_takeOut := goodIn_r _ [42, 9, 10, 30, 31, 32, 15, 33, 34, 22, 35, 36, 37, 38, 21, 70, 71, 72, 73, 74, 75, 76, 77] (by decide +kernel) (by decide +kernel)
set_option maxRecDepth 20000 in
theorem gX5_remove_X3_takeOut : GoodIn wsX5_remove (wsV RX5 80 RX3 yX3_takeOut wsX3_takeOut) := goodIn_app (goodIn_of _ (by decide +kernel)) ggX5_remove_X3_takeOut
set_option maxRecDepth 20000 in
theorem ggX5_remove_X5_adoptTrial : GoodIn wsX5_remove wsX5_adoptTrial := goodIn_r _ [47, 48, 1, 3, 49, 50, 51, 52, 53, 54, 55, 56, 57, 58, 59, 60, 24, 25, 7, 26, 9, 27, 28, 29, 10, 30, 31, 32, 15, 33, 34, 22, 35, 36, 37, 38, 21, 23, 61, 62, 63, 64, 65, 66, 67, 68, 69, 78, 79, 70, 71, 72, 73, 74, 75, 76, 77] (by decide +kernel) (by decide +kernel)
set_option maxRecDepth 20000 in
theorem gX5_remove_X5_adoptTrial : GoodIn wsX5_remove (wsV RX5 65 RX5 yX5_adoptTrial wsX5_adoptTrial) := goodIn_app (goodIn_of _ (by decide +kernel)) ggX5_remove_X5_adoptTrial
theorem dX5_remove_0 : decode cX5_remove 0 = .ok (.aload_n 0, 1) := by decide +kernel
theorem dX5_remove_1 : decode cX5_remove 1 = .ok (.getfield 10, 3) := by decide +kernel
theorem dX5_remove_4 : decode cX5_remove 4 = .ok (.iload_n 1, 1) := by decide +kernel
theorem dX5_remove_5 : decode cX5_remove 5 = .ok (.invokevirtual 68, 3) := by decide +kernel
theorem dX5_remove_8 : decode cX5_remove 8 = .ok (.istore_n 2, 1) := by decide +kernel
theorem dX5_remove_9 : decode cX5_remove 9 = .ok (.iload_n 2, 1) := by decide +kernel
theorem dX5_remove_10 : decode cX5_remove 10 = .ok (.iconst (-1), 1) := by decide +kernel
theorem dX5_remove_11 : decode cX5_remove 11 = .ok (.if_icmp .ne 5, 3) := by decide +kernel
theorem dX5_remove_14 : decode cX5_remove 14 = .ok (.iconst (-1), 1) := by decide +kernel
theorem dX5_remove_15 : decode cX5_remove 15 = .ok (.ireturn, 1) := by decide +kernel
theorem dX5_remove_16 : decode cX5_remove 16 = .ok (.aload_n 0, 1) := by decide +kernel
theorem dX5_remove_17 : decode cX5_remove 17 = .ok (.getfield 10, 3) := by decide +kernel
theorem dX5_remove_20 : decode cX5_remove 20 = .ok (.getfield 72, 3) := by decide +kernel
theorem dX5_remove_23 : decode cX5_remove 23 = .ok (.iload_n 2, 1) := by decide +kernel
theorem dX5_remove_24 : decode cX5_remove 24 = .ok (.aaload, 1) := by decide +kernel
theorem dX5_remove_25 : decode cX5_remove 25 = .ok (.invokevirtual 76, 3) := by decide +kernel
theorem dX5_remove_28 : decode cX5_remove 28 = .ok (.istore_n 3, 1) := by decide +kernel
theorem dX5_remove_29 : decode cX5_remove 29 = .ok (.aload_n 0, 1) := by decide +kernel
theorem dX5_remove_30 : decode cX5_remove 30 = .ok (.getfield 16, 3) := by decide +kernel
theorem dX5_remove_33 : decode cX5_remove 33 = .ok (.aload_n 0, 1) := by decide +kernel
theorem dX5_remove_34 : decode cX5_remove 34 = .ok (.getfield 10, 3) := by decide +kernel
theorem dX5_remove_37 : decode cX5_remove 37 = .ok (.invokevirtual 57, 3) := by decide +kernel
theorem dX5_remove_40 : decode cX5_remove 40 = .ok (.aload_n 0, 1) := by decide +kernel
theorem dX5_remove_41 : decode cX5_remove 41 = .ok (.getfield 16, 3) := by decide +kernel
theorem dX5_remove_44 : decode cX5_remove 44 = .ok (.iload_n 2, 1) := by decide +kernel
theorem dX5_remove_45 : decode cX5_remove 45 = .ok (.invokevirtual 80, 3) := by decide +kernel
theorem dX5_remove_48 : decode cX5_remove 48 = .ok (.aload_n 0, 1) := by decide +kernel
theorem dX5_remove_49 : decode cX5_remove 49 = .ok (.invokevirtual 65, 3) := by decide +kernel
theorem dX5_remove_52 : decode cX5_remove 52 = .ok (.iload_n 3, 1) := by decide +kernel
theorem dX5_remove_53 : decode cX5_remove 53 = .ok (.ireturn, 1) := by decide +kernel
set_option maxRecDepth 20000 in
theorem ggX5_move_X3_slotOf : GoodIn wsX5_move wsX3_slotOf := goodIn_r _ [10, 11, 12, 13, 79, 80, 81, 82, 83, 84, 85, 86] (by decide +kernel) (by decide +kernel)
set_option maxRecDepth 20000 in
theorem gX5_move_X3_slotOf : GoodIn wsX5_move (wsV RX5 68 RX3 yX3_slotOf wsX3_slotOf) := goodIn_app (goodIn_of _ (by decide +kernel)) ggX5_move_X3_slotOf
set_option maxRecDepth 20000 in
theorem ggX5_move_X5_isDirection : GoodIn wsX5_move wsX5_isDirection := goodIn_r _ [17] (by decide +kernel) (by decide +kernel)
set_option maxRecDepth 20000 in
theorem gX5_move_X5_isDirection : GoodIn wsX5_move (va_wsS RX5 84 yX5_isDirection wsX5_isDirection) := goodIn_app (goodIn_of _ (by decide +kernel)) ggX5_move_X5_isDirection
set_option maxRecDepth 20000 in
theorem ggX5_move_X3_copyFrom : GoodIn wsX5_move wsX3_copyFrom := goodIn_r _ [21, 11, 22, 23, 24, 12, 25, 26, 27, 28, 29, 30, 31, 32, 33, 34, 35, 36, 79, 80, 81, 82, 83, 84, 85, 86] (by decide +kernel) (by decide +kernel)
set_option maxRecDepth 20000 in
theorem gX5_move_X3_copyFrom : GoodIn wsX5_move (wsV RX5 57 RX3 yX3_copyFrom wsX3_copyFrom) := goodIn_app (goodIn_of _ (by decide +kernel)) ggX5_move_X3_copyFrom
set_option maxRecDepth 20000 in
theorem ggX5_move_X0_shift : GoodIn wsX5_move wsX0_shift := goodIn_r _ [40, 31, 36, 84, 85, 86] (by decide +kernel) (by decide +kernel)
set_option maxRecDepth 20000 in
theorem gX5_move_X0_shift : GoodIn wsX5_move (wsV RX5 95 RX0 yX0_shift wsX0_shift) := goodIn_app (goodIn_of _ (by decide +kernel)) ggX5_move_X0_shift
set_option maxRecDepth 20000 in
theorem ggX5_move_X3_isCutBy : GoodIn wsX5_move wsX3_isCutBy := goodIn_r _ [44, 11, 12, 45, 46, 47, 28, 48, 49, 50, 51, 52, 31, 36, 79, 80, 81, 82, 83, 84, 85, 86] (by decide +kernel) (by decide +kernel)
set_option maxRecDepth 20000 in
theorem gX5_move_X3_isCutBy : GoodIn wsX5_move (wsV RX5 99 RX3 yX3_isCutBy wsX3_isCutBy) := goodIn_app (goodIn_of _ (by decide +kernel)) ggX5_move_X3_isCutBy
set_option maxRecDepth 20000 in
theorem ggX5_move_X5_adoptTrial : GoodIn wsX5_move wsX5_adoptTrial := goodIn_r _ [56, 57, 1, 2, 58, 59, 60, 61, 62, 63, 64, 65, 66, 67, 68, 69, 19, 20, 9, 21, 11, 22, 23, 24, 12, 25, 26, 27, 28, 29, 30, 31, 32, 33, 34, 35, 36, 18, 70, 71, 72, 73, 74, 75, 76, 77, 78, 87, 88, 79, 80, 81, 82, 83, 84, 85, 86] (by decide +kernel) (by decide +kernel)
set_option maxRecDepth 20000 in
theorem gX5_move_X5_adoptTrial : GoodIn wsX5_move (wsV RX5 65 RX5 yX5_adoptTrial wsX5_adoptTrial) := goodIn_app (goodIn_of _ (by decide +kernel)) ggX5_move_X5_adoptTrial
theorem dX5_move_0 : decode cX5_move 0 = .ok (.aload_n 0, 1) := by decide +kernel
theorem dX5_move_1 : decode cX5_move 1 = .ok (.getfield 10, 3) := by decide +kernel
theorem dX5_move_4 : decode cX5_move 4 = .ok (.iload_n 1, 1) := by decide +kernel
theorem dX5_move_5 : decode cX5_move 5 = .ok (.invokevirtual 68, 3) := by decide +kernel
theorem dX5_move_8 : decode cX5_move 8 = .ok (.istore 4, 2) := by decide +kernel
theorem dX5_move_10 : decode cX5_move 10 = .ok (.iload 4, 2) := by decide +kernel
theorem dX5_move_12 : decode cX5_move 12 = .ok (.iconst (-1), 1) := by decide +kernel
theorem dX5_move_13 : decode cX5_move 13 = .ok (.if_icmp .eq 10, 3) := by decide +kernel
theorem dX5_move_16 : decode cX5_move 16 = .ok (.iload_n 2, 1) := by decide +kernel
theorem dX5_move_17 : decode cX5_move 17 = .ok (.invokestatic 84, 3) := by decide +kernel
theorem dX5_move_20 : decode cX5_move 20 = .ok (.ifCond .ne 5, 3) := by decide +kernel
theorem dX5_move_23 : decode cX5_move 23 = .ok (.iconst (-1), 1) := by decide +kernel
theorem dX5_move_24 : decode cX5_move 24 = .ok (.ireturn, 1) := by decide +kernel
theorem dX5_move_25 : decode cX5_move 25 = .ok (.aload_n 0, 1) := by decide +kernel
theorem dX5_move_26 : decode cX5_move 26 = .ok (.getfield 16, 3) := by decide +kernel
theorem dX5_move_29 : decode cX5_move 29 = .ok (.aload_n 0, 1) := by decide +kernel
theorem dX5_move_30 : decode cX5_move 30 = .ok (.getfield 10, 3) := by decide +kernel
theorem dX5_move_33 : decode cX5_move 33 = .ok (.invokevirtual 57, 3) := by decide +kernel
theorem dX5_move_36 : decode cX5_move 36 = .ok (.aload_n 0, 1) := by decide +kernel
theorem dX5_move_37 : decode cX5_move 37 = .ok (.getfield 16, 3) := by decide +kernel
theorem dX5_move_40 : decode cX5_move 40 = .ok (.getfield 72, 3) := by decide +kernel
theorem dX5_move_43 : decode cX5_move 43 = .ok (.iload 4, 2) := by decide +kernel
theorem dX5_move_45 : decode cX5_move 45 = .ok (.aaload, 1) := by decide +kernel
theorem dX5_move_46 : decode cX5_move 46 = .ok (.astore 5, 2) := by decide +kernel
theorem dX5_move_48 : decode cX5_move 48 = .ok (.iload_n 3, 1) := by decide +kernel
theorem dX5_move_49 : decode cX5_move 49 = .ok (.aload 5, 2) := by decide +kernel
theorem dX5_move_51 : decode cX5_move 51 = .ok (.getfield 88, 3) := by decide +kernel
theorem dX5_move_54 : decode cX5_move 54 = .ok (.iload_n 2, 1) := by decide +kernel
theorem dX5_move_55 : decode cX5_move 55 = .ok (.iaload, 1) := by decide +kernel
theorem dX5_move_56 : decode cX5_move 56 = .ok (.ineg, 1) := by decide +kernel
theorem dX5_move_57 : decode cX5_move 57 = .ok (.if_icmp .lt 17, 3) := by decide +kernel
theorem dX5_move_60 : decode cX5_move 60 = .ok (.iload_n 3, 1) := by decide +kernel
theorem dX5_move_61 : decode cX5_move 61 = .ok (.bipush 32, 2) := by decide +kernel
theorem dX5_move_63 : decode cX5_move 63 = .ok (.aload 5, 2) := by decide +kernel
theorem dX5_move_65 : decode cX5_move 65 = .ok (.getfield 92, 3) := by decide +kernel
theorem dX5_move_68 : decode cX5_move 68 = .ok (.iload_n 2, 1) := by decide +kernel
theorem dX5_move_69 : decode cX5_move 69 = .ok (.iaload, 1) := by decide +kernel
theorem dX5_move_70 : decode cX5_move 70 = .ok (.isub, 1) := by decide +kernel
theorem dX5_move_71 : decode cX5_move 71 = .ok (.if_icmp .le 6, 3) := by decide +kernel
theorem dX5_move_74 : decode cX5_move 74 = .ok (.bipush (-2), 2) := by decide +kernel
theorem dX5_move_76 : decode cX5_move 76 = .ok (.ireturn, 1) := by decide +kernel
theorem dX5_move_77 : decode cX5_move 77 = .ok (.aload 5, 2) := by decide +kernel
theorem dX5_move_79 : decode cX5_move 79 = .ok (.iload_n 2, 1) := by decide +kernel
theorem dX5_move_80 : decode cX5_move 80 = .ok (.iload_n 3, 1) := by decide +kernel
theorem dX5_move_81 : decode cX5_move 81 = .ok (.invokevirtual 95, 3) := by decide +kernel
theorem dX5_move_84 : decode cX5_move 84 = .ok (.aload_n 0, 1) := by decide +kernel
theorem dX5_move_85 : decode cX5_move 85 = .ok (.getfield 16, 3) := by decide +kernel
theorem dX5_move_88 : decode cX5_move 88 = .ok (.aload 5, 2) := by decide +kernel
theorem dX5_move_90 : decode cX5_move 90 = .ok (.iload 4, 2) := by decide +kernel
theorem dX5_move_92 : decode cX5_move 92 = .ok (.invokevirtual 99, 3) := by decide +kernel
theorem dX5_move_95 : decode cX5_move 95 = .ok (.ifCond .eq 6, 3) := by decide +kernel
theorem dX5_move_98 : decode cX5_move 98 = .ok (.bipush (-4), 2) := by decide +kernel
theorem dX5_move_100 : decode cX5_move 100 = .ok (.ireturn, 1) := by decide +kernel
theorem dX5_move_101 : decode cX5_move 101 = .ok (.iload_n 3, 1) := by decide +kernel
theorem dX5_move_102 : decode cX5_move 102 = .ok (.ifCond .ne 6, 3) := by decide +kernel
theorem dX5_move_105 : decode cX5_move 105 = .ok (.bipush (-5), 2) := by decide +kernel
theorem dX5_move_107 : decode cX5_move 107 = .ok (.ireturn, 1) := by decide +kernel
theorem dX5_move_108 : decode cX5_move 108 = .ok (.aload_n 0, 1) := by decide +kernel
theorem dX5_move_109 : decode cX5_move 109 = .ok (.invokevirtual 65, 3) := by decide +kernel
theorem dX5_move_112 : decode cX5_move 112 = .ok (.aload_n 0, 1) := by decide +kernel
theorem dX5_move_113 : decode cX5_move 113 = .ok (.getfield 10, 3) := by decide +kernel
theorem dX5_move_116 : decode cX5_move 116 = .ok (.getfield 72, 3) := by decide +kernel
theorem dX5_move_119 : decode cX5_move 119 = .ok (.iload 4, 2) := by decide +kernel
theorem dX5_move_121 : decode cX5_move 121 = .ok (.aaload, 1) := by decide +kernel
theorem dX5_move_122 : decode cX5_move 122 = .ok (.getfield 88, 3) := by decide +kernel
theorem dX5_move_125 : decode cX5_move 125 = .ok (.iload_n 2, 1) := by decide +kernel
theorem dX5_move_126 : decode cX5_move 126 = .ok (.iaload, 1) := by decide +kernel
theorem dX5_move_127 : decode cX5_move 127 = .ok (.ireturn, 1) := by decide +kernel
set_option maxRecDepth 20000 in
theorem ggX5_fall_X3_slotOf : GoodIn wsX5_fall wsX3_slotOf := goodIn_r _ [9, 10, 11, 12, 80, 81, 82, 83, 84, 85, 86, 87] (by decide +kernel) (by decide +kernel)
set_option maxRecDepth 20000 in
theorem gX5_fall_X3_slotOf : GoodIn wsX5_fall (wsV RX5 68 RX3 yX3_slotOf wsX3_slotOf) := goodIn_app (goodIn_of _ (by decide +kernel)) ggX5_fall_X3_slotOf
set_option maxRecDepth 20000 in
theorem ggX5_fall_X3_groundUnder : GoodIn wsX5_fall wsX3_groundUnder := goodIn_r _ [16, 10, 11, 17, 18, 19, 20, 21, 22, 23, 24, 25, 26, 27, 28, 29, 30, 31, 32, 80, 81, 82, 83, 84, 85, 86, 87] (by decide +kernel) (by decide +kernel)
set_option maxRecDepth 20000 in
theorem gX5_fall_X3_groundUnder : GoodIn wsX5_fall (wsV RX5 103 RX3 yX3_groundUnder wsX3_groundUnder) := goodIn_app (goodIn_of _ (by decide +kernel)) ggX5_fall_X3_groundUnder
set_option maxRecDepth 20000 in
theorem ggX5_fall_X3_copyFrom : GoodIn wsX5_fall wsX3_copyFrom := goodIn_r _ [36, 10, 37, 38, 39, 11, 40, 41, 42, 25, 43, 44, 28, 45, 46, 47, 48, 27, 80, 81, 82, 83, 84, 85, 86, 87] (by decide +kernel) (by decide +kernel)
set_option maxRecDepth 20000 in
theorem gX5_fall_X3_copyFrom : GoodIn wsX5_fall (wsV RX5 57 RX3 yX3_copyFrom wsX3_copyFrom) := goodIn_app (goodIn_of _ (by decide +kernel)) ggX5_fall_X3_copyFrom
set_option maxRecDepth 20000 in
theorem ggX5_fall_X0_shift : GoodIn wsX5_fall wsX0_shift := goodIn_r _ [52, 28, 27, 85, 86, 87] (by decide +kernel) (by decide +kernel)
set_option maxRecDepth 20000 in
theorem gX5_fall_X0_shift : GoodIn wsX5_fall (wsV RX5 95 RX0 yX0_shift wsX0_shift) := goodIn_app (goodIn_of _ (by decide +kernel)) ggX5_fall_X0_shift
set_option maxRecDepth 20000 in
theorem ggX5_fall_X5_adoptTrial : GoodIn wsX5_fall wsX5_adoptTrial := goodIn_r _ [57, 58, 1, 4, 59, 60, 61, 62, 63, 64, 65, 66, 67, 68, 69, 70, 34, 35, 8, 36, 10, 37, 38, 39, 11, 40, 41, 42, 25, 43, 44, 28, 45, 46, 47, 48, 27, 33, 71, 72, 73, 74, 75, 76, 77, 78, 79, 88, 89, 80, 81, 82, 83, 84, 85, 86, 87] (by decide +kernel) (by decide +kernel)
set_option maxRecDepth 20000 in
theorem gX5_fall_X5_adoptTrial : GoodIn wsX5_fall (wsV RX5 65 RX5 yX5_adoptTrial wsX5_adoptTrial) := goodIn_app (goodIn_of _ (by decide +kernel)) ggX5_fall_X5_adoptTrial
theorem dX5_fall_0 : decode cX5_fall 0 = .ok (.aload_n 0, 1) := by decide +kernel
theorem dX5_fall_1 : decode cX5_fall 1 = .ok (.getfield 10, 3) := by decide +kernel
theorem dX5_fall_4 : decode cX5_fall 4 = .ok (.iload_n 1, 1) := by decide +kernel
theorem dX5_fall_5 : decode cX5_fall 5 = .ok (.invokevirtual 68, 3) := by decide +kernel
theorem dX5_fall_8 : decode cX5_fall 8 = .ok (.istore_n 2, 1) := by decide +kernel
theorem dX5_fall_9 : decode cX5_fall 9 = .ok (.iload_n 2, 1) := by decide +kernel
theorem dX5_fall_10 : decode cX5_fall 10 = .ok (.iconst (-1), 1) := by decide +kernel
theorem dX5_fall_11 : decode cX5_fall 11 = .ok (.if_icmp .ne 5, 3) := by decide +kernel
theorem dX5_fall_14 : decode cX5_fall 14 = .ok (.iconst (-1), 1) := by decide +kernel
theorem dX5_fall_15 : decode cX5_fall 15 = .ok (.ireturn, 1) := by decide +kernel
theorem dX5_fall_16 : decode cX5_fall 16 = .ok (.aload_n 0, 1) := by decide +kernel
theorem dX5_fall_17 : decode cX5_fall 17 = .ok (.getfield 10, 3) := by decide +kernel
theorem dX5_fall_20 : decode cX5_fall 20 = .ok (.getfield 72, 3) := by decide +kernel
theorem dX5_fall_23 : decode cX5_fall 23 = .ok (.iload_n 2, 1) := by decide +kernel
theorem dX5_fall_24 : decode cX5_fall 24 = .ok (.aaload, 1) := by decide +kernel
theorem dX5_fall_25 : decode cX5_fall 25 = .ok (.getfield 88, 3) := by decide +kernel
theorem dX5_fall_28 : decode cX5_fall 28 = .ok (.iconst 2, 1) := by decide +kernel
theorem dX5_fall_29 : decode cX5_fall 29 = .ok (.iaload, 1) := by decide +kernel
theorem dX5_fall_30 : decode cX5_fall 30 = .ok (.aload_n 0, 1) := by decide +kernel
theorem dX5_fall_31 : decode cX5_fall 31 = .ok (.getfield 10, 3) := by decide +kernel
theorem dX5_fall_34 : decode cX5_fall 34 = .ok (.iload_n 2, 1) := by decide +kernel
theorem dX5_fall_35 : decode cX5_fall 35 = .ok (.invokevirtual 103, 3) := by decide +kernel
theorem dX5_fall_38 : decode cX5_fall 38 = .ok (.isub, 1) := by decide +kernel
theorem dX5_fall_39 : decode cX5_fall 39 = .ok (.istore_n 3, 1) := by decide +kernel
theorem dX5_fall_40 : decode cX5_fall 40 = .ok (.iload_n 3, 1) := by decide +kernel
theorem dX5_fall_41 : decode cX5_fall 41 = .ok (.ifCond .gt 6, 3) := by decide +kernel
theorem dX5_fall_44 : decode cX5_fall 44 = .ok (.bipush (-5), 2) := by decide +kernel
theorem dX5_fall_46 : decode cX5_fall 46 = .ok (.ireturn, 1) := by decide +kernel
theorem dX5_fall_47 : decode cX5_fall 47 = .ok (.aload_n 0, 1) := by decide +kernel
theorem dX5_fall_48 : decode cX5_fall 48 = .ok (.getfield 16, 3) := by decide +kernel
theorem dX5_fall_51 : decode cX5_fall 51 = .ok (.aload_n 0, 1) := by decide +kernel
theorem dX5_fall_52 : decode cX5_fall 52 = .ok (.getfield 10, 3) := by decide +kernel
theorem dX5_fall_55 : decode cX5_fall 55 = .ok (.invokevirtual 57, 3) := by decide +kernel
theorem dX5_fall_58 : decode cX5_fall 58 = .ok (.aload_n 0, 1) := by decide +kernel
theorem dX5_fall_59 : decode cX5_fall 59 = .ok (.getfield 16, 3) := by decide +kernel
theorem dX5_fall_62 : decode cX5_fall 62 = .ok (.getfield 72, 3) := by decide +kernel
theorem dX5_fall_65 : decode cX5_fall 65 = .ok (.iload_n 2, 1) := by decide +kernel
theorem dX5_fall_66 : decode cX5_fall 66 = .ok (.aaload, 1) := by decide +kernel
theorem dX5_fall_67 : decode cX5_fall 67 = .ok (.iconst 2, 1) := by decide +kernel
theorem dX5_fall_68 : decode cX5_fall 68 = .ok (.iload_n 3, 1) := by decide +kernel
theorem dX5_fall_69 : decode cX5_fall 69 = .ok (.ineg, 1) := by decide +kernel
theorem dX5_fall_70 : decode cX5_fall 70 = .ok (.invokevirtual 95, 3) := by decide +kernel
theorem dX5_fall_73 : decode cX5_fall 73 = .ok (.aload_n 0, 1) := by decide +kernel
theorem dX5_fall_74 : decode cX5_fall 74 = .ok (.invokevirtual 65, 3) := by decide +kernel
theorem dX5_fall_77 : decode cX5_fall 77 = .ok (.iload_n 3, 1) := by decide +kernel
theorem dX5_fall_78 : decode cX5_fall 78 = .ok (.ireturn, 1) := by decide +kernel
set_option maxRecDepth 20000 in
theorem ggX5_split_X3_slotOf : GoodIn wsX5_split wsX3_slotOf := goodIn_r _ [10, 11, 12, 13, 78, 79, 80, 81, 82, 83, 84, 85] (by decide +kernel) (by decide +kernel)
set_option maxRecDepth 20000 in
theorem gX5_split_X3_slotOf : GoodIn wsX5_split (wsV RX5 68 RX3 yX3_slotOf wsX3_slotOf) := goodIn_app (goodIn_of _ (by decide +kernel)) ggX5_split_X3_slotOf
set_option maxRecDepth 20000 in
theorem ggX5_split_X5_isDirection : GoodIn wsX5_split wsX5_isDirection := goodIn_r _ [17] (by decide +kernel) (by decide +kernel)
set_option maxRecDepth 20000 in
theorem gX5_split_X5_isDirection : GoodIn wsX5_split (va_wsS RX5 84 yX5_isDirection wsX5_isDirection) := goodIn_app (goodIn_of _ (by decide +kernel)) ggX5_split_X5_isDirection
set_option maxRecDepth 20000 in
theorem ggX5_split_X3_isFull : GoodIn wsX5_split wsX3_isFull := goodIn_r _ [21, 11, 78, 79, 80, 81, 82] (by decide +kernel) (by decide +kernel)
set_option maxRecDepth 20000 in
theorem gX5_split_X3_isFull : GoodIn wsX5_split (wsV RX5 106 RX3 yX3_isFull wsX3_isFull) := goodIn_app (goodIn_of _ (by decide +kernel)) ggX5_split_X3_isFull
set_option maxRecDepth 20000 in
theorem ggX5_split_X3_copyFrom : GoodIn wsX5_split wsX3_copyFrom := goodIn_r _ [25, 11, 26, 27, 28, 12, 29, 30, 31, 32, 33, 34, 35, 36, 37, 38, 39, 40, 78, 79, 80, 81, 82, 83, 84, 85] (by decide +kernel) (by decide +kernel)
set_option maxRecDepth 20000 in
theorem gX5_split_X3_copyFrom : GoodIn wsX5_split (wsV RX5 57 RX3 yX3_copyFrom wsX3_copyFrom) := goodIn_app (goodIn_of _ (by decide +kernel)) ggX5_split_X3_copyFrom
set_option maxRecDepth 20000 in
theorem ggX5_split_X3_cutInTwo : GoodIn wsX5_split wsX3_cutInTwo := goodIn_r _ [44, 12, 11, 45, 46, 27, 47, 48, 49, 9, 50, 26, 13, 51, 19, 20, 21, 29, 30, 31, 32, 33, 34, 35, 36, 37, 38, 39, 40, 78, 79, 80, 81, 82, 83, 84, 85] (by decide +kernel) (by decide +kernel)
set_option maxRecDepth 20000 in
theorem gX5_split_X3_cutInTwo : GoodIn wsX5_split (wsV RX5 110 RX3 yX3_cutInTwo wsX3_cutInTwo) := goodIn_app (goodIn_of _ (by decide +kernel)) ggX5_split_X3_cutInTwo
set_option maxRecDepth 20000 in
theorem ggX5_split_X5_adoptTrial : GoodIn wsX5_split wsX5_adoptTrial := goodIn_r _ [55, 56, 1, 5, 57, 58, 59, 60, 61, 62, 63, 64, 65, 66, 67, 68, 23, 24, 9, 25, 11, 26, 27, 28, 12, 29, 30, 31, 32, 33, 34, 35, 36, 37, 38, 39, 40, 22, 69, 70, 71, 72, 73, 74, 75, 76, 77, 86, 87, 78, 79, 80, 81, 82, 83, 84, 85] (by decide +kernel) (by decide +kernel)
set_option maxRecDepth 20000 in
theorem gX5_split_X5_adoptTrial : GoodIn wsX5_split (wsV RX5 65 RX5 yX5_adoptTrial wsX5_adoptTrial) := goodIn_app (goodIn_of _ (by decide +kernel)) ggX5_split_X5_adoptTrial
theorem dX5_split_0 : decode cX5_split 0 = .ok (.aload_n 0, 1) := by decide +kernel
theorem dX5_split_1 : decode cX5_split 1 = .ok (.getfield 10, 3) := by decide +kernel
theorem dX5_split_4 : decode cX5_split 4 = .ok (.iload_n 1, 1) := by decide +kernel
theorem dX5_split_5 : decode cX5_split 5 = .ok (.invokevirtual 68, 3) := by decide +kernel
theorem dX5_split_8 : decode cX5_split 8 = .ok (.istore 4, 2) := by decide +kernel
theorem dX5_split_10 : decode cX5_split 10 = .ok (.iload 4, 2) := by decide +kernel
theorem dX5_split_12 : decode cX5_split 12 = .ok (.iconst (-1), 1) := by decide +kernel
theorem dX5_split_13 : decode cX5_split 13 = .ok (.if_icmp .eq 10, 3) := by decide +kernel
theorem dX5_split_16 : decode cX5_split 16 = .ok (.iload_n 2, 1) := by decide +kernel
theorem dX5_split_17 : decode cX5_split 17 = .ok (.invokestatic 84, 3) := by decide +kernel
theorem dX5_split_20 : decode cX5_split 20 = .ok (.ifCond .ne 5, 3) := by decide +kernel
theorem dX5_split_23 : decode cX5_split 23 = .ok (.iconst (-1), 1) := by decide +kernel
theorem dX5_split_24 : decode cX5_split 24 = .ok (.ireturn, 1) := by decide +kernel
theorem dX5_split_25 : decode cX5_split 25 = .ok (.aload_n 0, 1) := by decide +kernel
theorem dX5_split_26 : decode cX5_split 26 = .ok (.getfield 10, 3) := by decide +kernel
theorem dX5_split_29 : decode cX5_split 29 = .ok (.getfield 72, 3) := by decide +kernel
theorem dX5_split_32 : decode cX5_split 32 = .ok (.iload 4, 2) := by decide +kernel
theorem dX5_split_34 : decode cX5_split 34 = .ok (.aaload, 1) := by decide +kernel
theorem dX5_split_35 : decode cX5_split 35 = .ok (.astore 5, 2) := by decide +kernel
theorem dX5_split_37 : decode cX5_split 37 = .ok (.iload_n 3, 1) := by decide +kernel
theorem dX5_split_38 : decode cX5_split 38 = .ok (.aload 5, 2) := by decide +kernel
theorem dX5_split_40 : decode cX5_split 40 = .ok (.getfield 88, 3) := by decide +kernel
theorem dX5_split_43 : decode cX5_split 43 = .ok (.iload_n 2, 1) := by decide +kernel
theorem dX5_split_44 : decode cX5_split 44 = .ok (.iaload, 1) := by decide +kernel
theorem dX5_split_45 : decode cX5_split 45 = .ok (.if_icmp .le 14, 3) := by decide +kernel
theorem dX5_split_48 : decode cX5_split 48 = .ok (.iload_n 3, 1) := by decide +kernel
theorem dX5_split_49 : decode cX5_split 49 = .ok (.aload 5, 2) := by decide +kernel
theorem dX5_split_51 : decode cX5_split 51 = .ok (.getfield 92, 3) := by decide +kernel
theorem dX5_split_54 : decode cX5_split 54 = .ok (.iload_n 2, 1) := by decide +kernel
theorem dX5_split_55 : decode cX5_split 55 = .ok (.iaload, 1) := by decide +kernel
theorem dX5_split_56 : decode cX5_split 56 = .ok (.if_icmp .lt 6, 3) := by decide +kernel
theorem dX5_split_59 : decode cX5_split 59 = .ok (.bipush (-2), 2) := by decide +kernel
theorem dX5_split_61 : decode cX5_split 61 = .ok (.ireturn, 1) := by decide +kernel
theorem dX5_split_62 : decode cX5_split 62 = .ok (.aload_n 0, 1) := by decide +kernel
theorem dX5_split_63 : decode cX5_split 63 = .ok (.getfield 10, 3) := by decide +kernel
theorem dX5_split_66 : decode cX5_split 66 = .ok (.invokevirtual 106, 3) := by decide +kernel
theorem dX5_split_69 : decode cX5_split 69 = .ok (.ifCond .eq 6, 3) := by decide +kernel
theorem dX5_split_72 : decode cX5_split 72 = .ok (.bipush (-3), 2) := by decide +kernel
theorem dX5_split_74 : decode cX5_split 74 = .ok (.ireturn, 1) := by decide +kernel
theorem dX5_split_75 : decode cX5_split 75 = .ok (.aload_n 0, 1) := by decide +kernel
theorem dX5_split_76 : decode cX5_split 76 = .ok (.getfield 16, 3) := by decide +kernel
theorem dX5_split_79 : decode cX5_split 79 = .ok (.aload_n 0, 1) := by decide +kernel
theorem dX5_split_80 : decode cX5_split 80 = .ok (.getfield 10, 3) := by decide +kernel
theorem dX5_split_83 : decode cX5_split 83 = .ok (.invokevirtual 57, 3) := by decide +kernel
theorem dX5_split_86 : decode cX5_split 86 = .ok (.aload_n 0, 1) := by decide +kernel
theorem dX5_split_87 : decode cX5_split 87 = .ok (.getfield 16, 3) := by decide +kernel
theorem dX5_split_90 : decode cX5_split 90 = .ok (.iload 4, 2) := by decide +kernel
theorem dX5_split_92 : decode cX5_split 92 = .ok (.iload_n 2, 1) := by decide +kernel
theorem dX5_split_93 : decode cX5_split 93 = .ok (.iload_n 3, 1) := by decide +kernel
theorem dX5_split_94 : decode cX5_split 94 = .ok (.invokevirtual 110, 3) := by decide +kernel
theorem dX5_split_97 : decode cX5_split 97 = .ok (.istore 6, 2) := by decide +kernel
theorem dX5_split_99 : decode cX5_split 99 = .ok (.aload_n 0, 1) := by decide +kernel
theorem dX5_split_100 : decode cX5_split 100 = .ok (.invokevirtual 65, 3) := by decide +kernel
theorem dX5_split_103 : decode cX5_split 103 = .ok (.iload 6, 2) := by decide +kernel
theorem dX5_split_105 : decode cX5_split 105 = .ok (.ireturn, 1) := by decide +kernel
set_option maxRecDepth 20000 in
theorem ggX5_breakRing_X3_copyFrom : GoodIn wsX5_breakRing wsX3_copyFrom := goodIn_r _ [7, 8, 9, 10, 11, 12, 13, 14, 15, 16, 17, 18, 19, 20, 21, 22, 23, 24, 162, 163, 164, 165, 166, 167, 168, 169] (by decide +kernel) (by decide +kernel)
set_option maxRecDepth 20000 in
theorem gX5_breakRing_X3_copyFrom : GoodIn wsX5_breakRing (wsV RX5 57 RX3 yX3_copyFrom wsX3_copyFrom) := goodIn_app (goodIn_of _ (by decide +kernel)) ggX5_breakRing_X3_copyFrom
set_option maxRecDepth 20000 in
theorem ggX5_breakRing_X5_breakOne : GoodIn wsX5_breakRing wsX5_breakOne := goodIn_r _ [29, 30, 31, 32, 33, 34, 35, 36, 37, 38, 39, 40, 41, 42, 43, 44, 45, 46, 47, 16, 48, 19, 24, 49, 50, 51, 52, 53, 54, 55, 56, 57, 58, 59, 60, 61, 62, 21, 22, 23, 63, 64, 65, 66, 67, 68, 69, 70, 71, 72, 73, 74, 75, 76, 77, 78, 79, 80, 81, 82, 83, 84, 6, 85, 11, 12, 86, 87, 88, 89, 90, 91, 92, 93, 94, 95, 96, 97, 98, 99, 100, 101, 102, 103, 104, 105, 106, 107, 108, 109, 110, 111, 112, 113, 114, 115, 116, 117, 118, 119, 120, 121, 122, 123, 8, 124, 125, 126, 127, 128, 129, 10, 130, 131, 132, 133, 9, 134, 135, 13, 14, 15, 17, 18, 20, 153, 154, 155, 156, 157, 158, 159, 160, 161, 162, 163, 164, 165, 166, 167, 168, 169, 170, 171, 172, 173, 174, 175, 176] (by decide +kernel) (by decide +kernel)
set_option maxRecDepth 20000 in
theorem gX5_breakRing_X5_breakOne : GoodIn wsX5_breakRing (wsV RX5 114 RX5 yX5_breakOne wsX5_breakOne) := goodIn_app (goodIn_of _ (by decide +kernel)) ggX5_breakRing_X5_breakOne
set_option maxRecDepth 20000 in
theorem ggX5_breakRing_X5_adoptTrial : GoodIn wsX5_breakRing wsX5_adoptTrial := goodIn_r _ [139, 140, 2, 1, 141, 142, 143, 144, 145, 146, 147, 148, 149, 150, 151, 152, 4, 5, 6, 7, 8, 9, 10, 11, 12, 13, 14, 15, 16, 17, 18, 19, 20, 21, 22, 23, 24, 3, 153, 154, 155, 156, 157, 158, 159, 160, 161, 177, 178, 162, 163, 164, 165, 166, 167, 168, 169] (by decide +kernel) (by decide +kernel)
set_option maxRecDepth 20000 in
theorem gX5_breakRing_X5_adoptTrial : GoodIn wsX5_breakRing (wsV RX5 65 RX5 yX5_adoptTrial wsX5_adoptTrial) := goodIn_app (goodIn_of _ (by decide +kernel)) ggX5_breakRing_X5_adoptTrial
theorem dX5_breakRing_0 : decode cX5_breakRing 0 = .ok (.aload_n 0, 1) := by decide +kernel
theorem dX5_breakRing_1 : decode cX5_breakRing 1 = .ok (.getfield 16, 3) := by decide +kernel
theorem dX5_breakRing_4 : decode cX5_breakRing 4 = .ok (.aload_n 0, 1) := by decide +kernel
theorem dX5_breakRing_5 : decode cX5_breakRing 5 = .ok (.getfield 10, 3) := by decide +kernel
theorem dX5_breakRing_8 : decode cX5_breakRing 8 = .ok (.invokevirtual 57, 3) := by decide +kernel
theorem dX5_breakRing_11 : decode cX5_breakRing 11 = .ok (.aload_n 0, 1) := by decide +kernel
theorem dX5_breakRing_12 : decode cX5_breakRing 12 = .ok (.aload_n 0, 1) := by decide +kernel
theorem dX5_breakRing_13 : decode cX5_breakRing 13 = .ok (.getfield 16, 3) := by decide +kernel
theorem dX5_breakRing_16 : decode cX5_breakRing 16 = .ok (.invokevirtual 114, 3) := by decide +kernel
theorem dX5_breakRing_19 : decode cX5_breakRing 19 = .ok (.istore_n 1, 1) := by decide +kernel
theorem dX5_breakRing_20 : decode cX5_breakRing 20 = .ok (.iload_n 1, 1) := by decide +kernel
theorem dX5_breakRing_21 : decode cX5_breakRing 21 = .ok (.ifCond .lt 7, 3) := by decide +kernel
theorem dX5_breakRing_24 : decode cX5_breakRing 24 = .ok (.aload_n 0, 1) := by decide +kernel
theorem dX5_breakRing_25 : decode cX5_breakRing 25 = .ok (.invokevirtual 65, 3) := by decide +kernel
theorem dX5_breakRing_28 : decode cX5_breakRing 28 = .ok (.iload_n 1, 1) := by decide +kernel
theorem dX5_breakRing_29 : decode cX5_breakRing 29 = .ok (.ireturn, 1) := by decide +kernel
set_option maxRecDepth 20000 in
theorem ggX5_turn_X3_copyFrom : GoodIn wsX5_turn wsX3_copyFrom := goodIn_r _ [10, 11, 12, 13, 14, 15, 16, 17, 18, 19, 20, 21, 22, 23, 24, 25, 26, 27, 145, 146, 147, 148, 149, 150, 151, 152] (by decide +kernel) (by decide +kernel)
set_option maxRecDepth 20000 in
theorem gX5_turn_X3_copyFrom : GoodIn wsX5_turn (wsV RX5 57 RX3 yX3_copyFrom wsX3_copyFrom) := goodIn_app (goodIn_of _ (by decide +kernel)) ggX5_turn_X3_copyFrom
set_option maxRecDepth 20000 in
theorem ggX5_turn_X3_quarterTurn : GoodIn wsX5_turn wsX3_quarterTurn := goodIn_r _ [31, 11, 15, 32, 33, 145, 146, 147, 148, 149, 150, 151, 152] (by decide +kernel) (by decide +kernel)
set_option maxRecDepth 20000 in
theorem gX5_turn_X3_quarterTurn : GoodIn wsX5_turn (wsV RX5 122 RX3 yX3_quarterTurn wsX3_quarterTurn) := goodIn_app (goodIn_of _ (by decide +kernel)) ggX5_turn_X3_quarterTurn
set_option maxRecDepth 20000 in
theorem ggX5_turn_X2_look : GoodIn wsX5_turn wsX2_look := goodIn_r _ [38, 39, 40, 41, 42, 43, 37, 44, 45, 46, 47, 48, 19, 49, 22, 27, 50, 51, 52, 53, 54, 55, 56, 57, 58, 59, 60, 61, 62, 63, 24, 25, 26, 64, 65, 66, 67, 68, 69, 70, 71, 72, 73, 74, 75, 76, 77, 78, 79, 80, 81, 82, 83, 84, 85, 9, 86, 14, 15, 87, 88, 89, 90, 91, 92, 93, 94, 95, 96, 97, 98, 99, 100, 101, 102, 103, 104, 105, 106, 145, 146, 147, 148, 149, 153, 154, 155, 156, 157, 158, 159, 150, 151, 152] (by decide +kernel) (by decide +kernel)
set_option maxRecDepth 20000 in
theorem gX5_turn_X2_look : GoodIn wsX5_turn (wsV RX5 125 RX2 yX2_look wsX2_look) := goodIn_app (goodIn_of _ (by decide +kernel)) ggX5_turn_X2_look
set_option maxRecDepth 20000 in
theorem ggX5_turn_X2_hidingsNotIn : GoodIn wsX5_turn wsX2_hidingsNotIn := goodIn_r _ [110, 40, 41, 111, 112, 113, 114, 115, 116, 117, 153, 154, 155, 156, 157, 158, 159] (by decide +kernel) (by decide +kernel)
set_option maxRecDepth 20000 in
theorem gX5_turn_X2_hidingsNotIn : GoodIn wsX5_turn (wsV RX5 128 RX2 yX2_hidingsNotIn wsX2_hidingsNotIn) := goodIn_app (goodIn_of _ (by decide +kernel)) ggX5_turn_X2_hidingsNotIn
set_option maxRecDepth 20000 in
theorem ggX5_turn_X5_adoptTrial : GoodIn wsX5_turn wsX5_adoptTrial := goodIn_r _ [122, 123, 1, 3, 124, 125, 126, 127, 128, 129, 130, 131, 132, 133, 134, 135, 7, 8, 9, 10, 11, 12, 13, 14, 15, 16, 17, 18, 19, 20, 21, 22, 23, 24, 25, 26, 27, 6, 136, 137, 138, 139, 140, 141, 142, 143, 144, 160, 161, 145, 146, 147, 148, 149, 150, 151, 152] (by decide +kernel) (by decide +kernel)
set_option maxRecDepth 20000 in
theorem gX5_turn_X5_adoptTrial : GoodIn wsX5_turn (wsV RX5 65 RX5 yX5_adoptTrial wsX5_adoptTrial) := goodIn_app (goodIn_of _ (by decide +kernel)) ggX5_turn_X5_adoptTrial
theorem dX5_turn_0 : decode cX5_turn 0 = .ok (.aload_n 0, 1) := by decide +kernel
theorem dX5_turn_1 : decode cX5_turn 1 = .ok (.getfield 10, 3) := by decide +kernel
theorem dX5_turn_4 : decode cX5_turn 4 = .ok (.getfield 118, 3) := by decide +kernel
theorem dX5_turn_7 : decode cX5_turn 7 = .ok (.ifCond .ne 6, 3) := by decide +kernel
theorem dX5_turn_10 : decode cX5_turn 10 = .ok (.bipush (-5), 2) := by decide +kernel
theorem dX5_turn_12 : decode cX5_turn 12 = .ok (.ireturn, 1) := by decide +kernel
theorem dX5_turn_13 : decode cX5_turn 13 = .ok (.aload_n 0, 1) := by decide +kernel
theorem dX5_turn_14 : decode cX5_turn 14 = .ok (.getfield 16, 3) := by decide +kernel
theorem dX5_turn_17 : decode cX5_turn 17 = .ok (.aload_n 0, 1) := by decide +kernel
theorem dX5_turn_18 : decode cX5_turn 18 = .ok (.getfield 10, 3) := by decide +kernel
theorem dX5_turn_21 : decode cX5_turn 21 = .ok (.invokevirtual 57, 3) := by decide +kernel
theorem dX5_turn_24 : decode cX5_turn 24 = .ok (.aload_n 0, 1) := by decide +kernel
theorem dX5_turn_25 : decode cX5_turn 25 = .ok (.getfield 16, 3) := by decide +kernel
theorem dX5_turn_28 : decode cX5_turn 28 = .ok (.invokevirtual 122, 3) := by decide +kernel
theorem dX5_turn_31 : decode cX5_turn 31 = .ok (.aload_n 0, 1) := by decide +kernel
theorem dX5_turn_32 : decode cX5_turn 32 = .ok (.getfield 39, 3) := by decide +kernel
theorem dX5_turn_35 : decode cX5_turn 35 = .ok (.aload_n 0, 1) := by decide +kernel
theorem dX5_turn_36 : decode cX5_turn 36 = .ok (.getfield 10, 3) := by decide +kernel
theorem dX5_turn_39 : decode cX5_turn 39 = .ok (.invokevirtual 125, 3) := by decide +kernel
theorem dX5_turn_42 : decode cX5_turn 42 = .ok (.aload_n 0, 1) := by decide +kernel
theorem dX5_turn_43 : decode cX5_turn 43 = .ok (.getfield 43, 3) := by decide +kernel
theorem dX5_turn_46 : decode cX5_turn 46 = .ok (.aload_n 0, 1) := by decide +kernel
theorem dX5_turn_47 : decode cX5_turn 47 = .ok (.getfield 16, 3) := by decide +kernel
theorem dX5_turn_50 : decode cX5_turn 50 = .ok (.invokevirtual 125, 3) := by decide +kernel
theorem dX5_turn_53 : decode cX5_turn 53 = .ok (.aload_n 0, 1) := by decide +kernel
theorem dX5_turn_54 : decode cX5_turn 54 = .ok (.getfield 39, 3) := by decide +kernel
theorem dX5_turn_57 : decode cX5_turn 57 = .ok (.aload_n 0, 1) := by decide +kernel
theorem dX5_turn_58 : decode cX5_turn 58 = .ok (.getfield 43, 3) := by decide +kernel
theorem dX5_turn_61 : decode cX5_turn 61 = .ok (.invokevirtual 128, 3) := by decide +kernel
theorem dX5_turn_64 : decode cX5_turn 64 = .ok (.istore_n 1, 1) := by decide +kernel
theorem dX5_turn_65 : decode cX5_turn 65 = .ok (.aload_n 0, 1) := by decide +kernel
theorem dX5_turn_66 : decode cX5_turn 66 = .ok (.invokevirtual 65, 3) := by decide +kernel
theorem dX5_turn_69 : decode cX5_turn 69 = .ok (.iload_n 1, 1) := by decide +kernel
theorem dX5_turn_70 : decode cX5_turn 70 = .ok (.ireturn, 1) := by decide +kernel
set_option maxRecDepth 20000 in
theorem ggX5_set_X3_copyFrom : GoodIn wsX5_set wsX3_copyFrom := goodIn_r _ [8, 9, 10, 11, 12, 13, 14, 15, 16, 17, 18, 19, 20, 21, 22, 23, 24, 25, 53, 54, 55, 56, 57, 58, 59, 60] (by decide +kernel) (by decide +kernel)
set_option maxRecDepth 20000 in
theorem gX5_set_X3_copyFrom : GoodIn wsX5_set (wsV RX5 57 RX3 yX3_copyFrom wsX3_copyFrom) := goodIn_app (goodIn_of _ (by decide +kernel)) ggX5_set_X3_copyFrom
set_option maxRecDepth 20000 in
theorem ggX5_set_X5_adoptTrial : GoodIn wsX5_set wsX5_adoptTrial := goodIn_r _ [30, 31, 1, 3, 32, 33, 34, 35, 36, 37, 38, 39, 40, 41, 42, 43, 5, 6, 7, 8, 9, 10, 11, 12, 13, 14, 15, 16, 17, 18, 19, 20, 21, 22, 23, 24, 25, 4, 44, 45, 46, 47, 48, 49, 50, 51, 52, 61, 62, 53, 54, 55, 56, 57, 58, 59, 60] (by decide +kernel) (by decide +kernel)
set_option maxRecDepth 20000 in
theorem gX5_set_X5_adoptTrial : GoodIn wsX5_set (wsV RX5 65 RX5 yX5_adoptTrial wsX5_adoptTrial) := goodIn_app (goodIn_of _ (by decide +kernel)) ggX5_set_X5_adoptTrial
theorem dX5_set_0 : decode cX5_set 0 = .ok (.iload_n 1, 1) := by decide +kernel
theorem dX5_set_1 : decode cX5_set 1 = .ok (.ifCond .eq 5, 3) := by decide +kernel
theorem dX5_set_4 : decode cX5_set 4 = .ok (.iconst (-1), 1) := by decide +kernel
theorem dX5_set_5 : decode cX5_set 5 = .ok (.ireturn, 1) := by decide +kernel
theorem dX5_set_6 : decode cX5_set 6 = .ok (.iload_n 2, 1) := by decide +kernel
theorem dX5_set_7 : decode cX5_set 7 = .ok (.ifCond .lt 8, 3) := by decide +kernel
theorem dX5_set_10 : decode cX5_set 10 = .ok (.iload_n 2, 1) := by decide +kernel
theorem dX5_set_11 : decode cX5_set 11 = .ok (.iconst 2, 1) := by decide +kernel
theorem dX5_set_12 : decode cX5_set 12 = .ok (.if_icmp .le 6, 3) := by decide +kernel
theorem dX5_set_15 : decode cX5_set 15 = .ok (.bipush (-2), 2) := by decide +kernel
theorem dX5_set_17 : decode cX5_set 17 = .ok (.ireturn, 1) := by decide +kernel
theorem dX5_set_18 : decode cX5_set 18 = .ok (.aload_n 0, 1) := by decide +kernel
theorem dX5_set_19 : decode cX5_set 19 = .ok (.getfield 10, 3) := by decide +kernel
theorem dX5_set_22 : decode cX5_set 22 = .ok (.getfield 132, 3) := by decide +kernel
theorem dX5_set_25 : decode cX5_set 25 = .ok (.istore_n 3, 1) := by decide +kernel
theorem dX5_set_26 : decode cX5_set 26 = .ok (.iload_n 2, 1) := by decide +kernel
theorem dX5_set_27 : decode cX5_set 27 = .ok (.iload_n 3, 1) := by decide +kernel
theorem dX5_set_28 : decode cX5_set 28 = .ok (.if_icmp .ne 6, 3) := by decide +kernel
theorem dX5_set_31 : decode cX5_set 31 = .ok (.bipush (-5), 2) := by decide +kernel
theorem dX5_set_33 : decode cX5_set 33 = .ok (.ireturn, 1) := by decide +kernel
theorem dX5_set_34 : decode cX5_set 34 = .ok (.aload_n 0, 1) := by decide +kernel
theorem dX5_set_35 : decode cX5_set 35 = .ok (.getfield 16, 3) := by decide +kernel
theorem dX5_set_38 : decode cX5_set 38 = .ok (.aload_n 0, 1) := by decide +kernel
theorem dX5_set_39 : decode cX5_set 39 = .ok (.getfield 10, 3) := by decide +kernel
theorem dX5_set_42 : decode cX5_set 42 = .ok (.invokevirtual 57, 3) := by decide +kernel
theorem dX5_set_45 : decode cX5_set 45 = .ok (.aload_n 0, 1) := by decide +kernel
theorem dX5_set_46 : decode cX5_set 46 = .ok (.getfield 16, 3) := by decide +kernel
theorem dX5_set_49 : decode cX5_set 49 = .ok (.iload_n 2, 1) := by decide +kernel
theorem dX5_set_50 : decode cX5_set 50 = .ok (.putfield 132, 3) := by decide +kernel
theorem dX5_set_53 : decode cX5_set 53 = .ok (.aload_n 0, 1) := by decide +kernel
theorem dX5_set_54 : decode cX5_set 54 = .ok (.invokevirtual 65, 3) := by decide +kernel
theorem dX5_set_57 : decode cX5_set 57 = .ok (.iload_n 3, 1) := by decide +kernel
theorem dX5_set_58 : decode cX5_set 58 = .ok (.ireturn, 1) := by decide +kernel
set_option maxRecDepth 20000 in
theorem ggX5_type_X4_append : GoodIn wsX5_type wsX4_append := goodIn_r _ [7, 8, 9, 19, 20, 21, 22] (by decide +kernel) (by decide +kernel)
set_option maxRecDepth 20000 in
theorem gX5_type_X4_append : GoodIn wsX5_type (wsV RX5 135 RX4 yX4_append wsX4_append) := goodIn_app (goodIn_of _ (by decide +kernel)) ggX5_type_X4_append
theorem dX5_type_0 : decode cX5_type 0 = .ok (.aload_n 0, 1) := by decide +kernel
theorem dX5_type_1 : decode cX5_type 1 = .ok (.getfield 32, 3) := by decide +kernel
theorem dX5_type_4 : decode cX5_type 4 = .ok (.iload_n 1, 1) := by decide +kernel
theorem dX5_type_5 : decode cX5_type 5 = .ok (.invokevirtual 135, 3) := by decide +kernel
theorem dX5_type_8 : decode cX5_type 8 = .ok (.ifCond .eq 13, 3) := by decide +kernel
theorem dX5_type_11 : decode cX5_type 11 = .ok (.aload_n 0, 1) := by decide +kernel
theorem dX5_type_12 : decode cX5_type 12 = .ok (.getfield 32, 3) := by decide +kernel
theorem dX5_type_15 : decode cX5_type 15 = .ok (.getfield 139, 3) := by decide +kernel
theorem dX5_type_18 : decode cX5_type 18 = .ok (.goto 5, 3) := by decide +kernel
theorem dX5_type_21 : decode cX5_type 21 = .ok (.bipush (-3), 2) := by decide +kernel
theorem dX5_type_23 : decode cX5_type 23 = .ok (.ireturn, 1) := by decide +kernel
theorem dX5_clearText_0 : decode cX5_clearText 0 = .ok (.aload_n 0, 1) := by decide +kernel
theorem dX5_clearText_1 : decode cX5_clearText 1 = .ok (.getfield 32, 3) := by decide +kernel
theorem dX5_clearText_4 : decode cX5_clearText 4 = .ok (.getfield 139, 3) := by decide +kernel
theorem dX5_clearText_7 : decode cX5_clearText 7 = .ok (.istore_n 1, 1) := by decide +kernel
theorem dX5_clearText_8 : decode cX5_clearText 8 = .ok (.aload_n 0, 1) := by decide +kernel
theorem dX5_clearText_9 : decode cX5_clearText 9 = .ok (.getfield 32, 3) := by decide +kernel
theorem dX5_clearText_12 : decode cX5_clearText 12 = .ok (.iconst 0, 1) := by decide +kernel
theorem dX5_clearText_13 : decode cX5_clearText 13 = .ok (.putfield 139, 3) := by decide +kernel
theorem dX5_clearText_16 : decode cX5_clearText 16 = .ok (.iload_n 1, 1) := by decide +kernel
theorem dX5_clearText_17 : decode cX5_clearText 17 = .ok (.ireturn, 1) := by decide +kernel
set_option maxRecDepth 20000 in
theorem ggX5_addAll_X4_read : GoodIn wsX5_addAll wsX4_read := goodIn_r _ [8, 9, 10, 11, 12, 13, 7, 14, 15, 16, 17, 18, 19, 20, 21, 22, 111, 112, 113, 114] (by decide +kernel) (by decide +kernel)
set_option maxRecDepth 20000 in
theorem gX5_addAll_X4_read : GoodIn wsX5_addAll (wsV RX5 142 RX4 yX4_read wsX4_read) := goodIn_app (goodIn_of _ (by decide +kernel)) ggX5_addAll_X4_read
set_option maxRecDepth 20000 in
theorem ggX5_addAll_X3_copyFrom : GoodIn wsX5_addAll wsX3_copyFrom := goodIn_r _ [27, 28, 29, 30, 31, 32, 33, 34, 35, 36, 37, 38, 39, 40, 41, 42, 43, 44, 115, 116, 117, 118, 119, 120, 121, 122] (by decide +kernel) (by decide +kernel)
set_option maxRecDepth 20000 in
theorem gX5_addAll_X3_copyFrom : GoodIn wsX5_addAll (wsV RX5 57 RX3 yX3_copyFrom wsX3_copyFrom) := goodIn_app (goodIn_of _ (by decide +kernel)) ggX5_addAll_X3_copyFrom
set_option maxRecDepth 20000 in
theorem ggX5_addAll_X4_boxCount : GoodIn wsX5_addAll wsX4_boxCount := goodIn_r _ [48, 9, 111, 112, 113, 114] (by decide +kernel) (by decide +kernel)
set_option maxRecDepth 20000 in
theorem gX5_addAll_X4_boxCount : GoodIn wsX5_addAll (wsV RX5 145 RX4 yX4_boxCount wsX4_boxCount) := goodIn_app (goodIn_of _ (by decide +kernel)) ggX5_addAll_X4_boxCount
set_option maxRecDepth 20000 in
theorem ggX5_addAll_X4_valueOf : GoodIn wsX5_addAll wsX4_valueOf := goodIn_r _ [52, 9, 22, 111, 112, 113, 114] (by decide +kernel) (by decide +kernel)
set_option maxRecDepth 20000 in
theorem gX5_addAll_X4_valueOf : GoodIn wsX5_addAll (wsV RX5 148 RX4 yX4_valueOf wsX4_valueOf) := goodIn_app (goodIn_of _ (by decide +kernel)) ggX5_addAll_X4_valueOf
set_option maxRecDepth 20000 in
theorem ggX5_addAll_X5_enter : GoodIn wsX5_addAll wsX5_enter := goodIn_r _ [57, 58, 59, 60, 61, 36, 62, 39, 44, 63, 64, 65, 26, 66, 28, 32, 67, 68, 69, 70, 71, 72, 73, 74, 75, 76, 77, 78, 79, 80, 81, 82, 29, 83, 84, 33, 34, 35, 37, 38, 40, 41, 42, 43, 102, 103, 104, 105, 106, 107, 108, 109, 110, 120, 121, 122, 115, 116, 117, 118, 119] (by decide +kernel) (by decide +kernel)
set_option maxRecDepth 20000 in
theorem gX5_addAll_X5_enter : GoodIn wsX5_addAll (wsV RX5 61 RX5 yX5_enter wsX5_enter) := goodIn_app (goodIn_of _ (by decide +kernel)) ggX5_addAll_X5_enter
set_option maxRecDepth 20000 in
theorem ggX5_addAll_X5_adoptTrial : GoodIn wsX5_addAll wsX5_adoptTrial := goodIn_r _ [88, 89, 3, 2, 90, 91, 92, 93, 94, 95, 96, 97, 98, 99, 100, 101, 24, 25, 26, 27, 28, 29, 30, 31, 32, 33, 34, 35, 36, 37, 38, 39, 40, 41, 42, 43, 44, 23, 102, 103, 104, 105, 106, 107, 108, 109, 110, 123, 124, 115, 116, 117, 118, 119, 120, 121, 122] (by decide +kernel) (by decide +kernel)
set_option maxRecDepth 20000 in
theorem gX5_addAll_X5_adoptTrial : GoodIn wsX5_addAll (wsV RX5 65 RX5 yX5_adoptTrial wsX5_adoptTrial) := goodIn_app (goodIn_of _ (by decide +kernel)) ggX5_addAll_X5_adoptTrial
theorem dX5_addAll_0 : decode cX5_addAll 0 = .ok (.aload_n 0, 1) := by decide +kernel
theorem dX5_addAll_1 : decode cX5_addAll 1 = .ok (.getfield 32, 3) := by decide +kernel
theorem dX5_addAll_4 : decode cX5_addAll 4 = .ok (.invokevirtual 142, 3) := by decide +kernel
theorem dX5_addAll_7 : decode cX5_addAll 7 = .ok (.istore_n 1, 1) := by decide +kernel
theorem dX5_addAll_8 : decode cX5_addAll 8 = .ok (.iload_n 1, 1) := by decide +kernel
theorem dX5_addAll_9 : decode cX5_addAll 9 = .ok (.iconst (-1), 1) := by decide +kernel
theorem dX5_addAll_10 : decode cX5_addAll 10 = .ok (.if_icmp .eq 8, 3) := by decide +kernel
theorem dX5_addAll_13 : decode cX5_addAll 13 = .ok (.bipush (-100), 2) := by decide +kernel
theorem dX5_addAll_15 : decode cX5_addAll 15 = .ok (.iload_n 1, 1) := by decide +kernel
theorem dX5_addAll_16 : decode cX5_addAll 16 = .ok (.isub, 1) := by decide +kernel
theorem dX5_addAll_17 : decode cX5_addAll 17 = .ok (.ireturn, 1) := by decide +kernel
theorem dX5_addAll_18 : decode cX5_addAll 18 = .ok (.aload_n 0, 1) := by decide +kernel
theorem dX5_addAll_19 : decode cX5_addAll 19 = .ok (.getfield 16, 3) := by decide +kernel
theorem dX5_addAll_22 : decode cX5_addAll 22 = .ok (.aload_n 0, 1) := by decide +kernel
theorem dX5_addAll_23 : decode cX5_addAll 23 = .ok (.getfield 10, 3) := by decide +kernel
theorem dX5_addAll_26 : decode cX5_addAll 26 = .ok (.invokevirtual 57, 3) := by decide +kernel
theorem dX5_addAll_29 : decode cX5_addAll 29 = .ok (.aload_n 0, 1) := by decide +kernel
theorem dX5_addAll_30 : decode cX5_addAll 30 = .ok (.getfield 32, 3) := by decide +kernel
theorem dX5_addAll_33 : decode cX5_addAll 33 = .ok (.invokevirtual 145, 3) := by decide +kernel
theorem dX5_addAll_36 : decode cX5_addAll 36 = .ok (.istore_n 2, 1) := by decide +kernel
theorem dX5_addAll_37 : decode cX5_addAll 37 = .ok (.iconst 0, 1) := by decide +kernel
theorem dX5_addAll_38 : decode cX5_addAll 38 = .ok (.istore_n 3, 1) := by decide +kernel
theorem dX5_addAll_39 : decode cX5_addAll 39 = .ok (.iload_n 3, 1) := by decide +kernel
theorem dX5_addAll_40 : decode cX5_addAll 40 = .ok (.iload_n 2, 1) := by decide +kernel
theorem dX5_addAll_41 : decode cX5_addAll 41 = .ok (.if_icmp .ge 81, 3) := by decide +kernel
theorem dX5_addAll_44 : decode cX5_addAll 44 = .ok (.aload_n 0, 1) := by decide +kernel
theorem dX5_addAll_45 : decode cX5_addAll 45 = .ok (.aload_n 0, 1) := by decide +kernel
theorem dX5_addAll_46 : decode cX5_addAll 46 = .ok (.getfield 16, 3) := by decide +kernel
theorem dX5_addAll_49 : decode cX5_addAll 49 = .ok (.aload_n 0, 1) := by decide +kernel
theorem dX5_addAll_50 : decode cX5_addAll 50 = .ok (.getfield 32, 3) := by decide +kernel
theorem dX5_addAll_53 : decode cX5_addAll 53 = .ok (.iload_n 3, 1) := by decide +kernel
theorem dX5_addAll_54 : decode cX5_addAll 54 = .ok (.iconst 0, 1) := by decide +kernel
theorem dX5_addAll_55 : decode cX5_addAll 55 = .ok (.invokevirtual 148, 3) := by decide +kernel
theorem dX5_addAll_58 : decode cX5_addAll 58 = .ok (.aload_n 0, 1) := by decide +kernel
theorem dX5_addAll_59 : decode cX5_addAll 59 = .ok (.getfield 32, 3) := by decide +kernel
theorem dX5_addAll_62 : decode cX5_addAll 62 = .ok (.iload_n 3, 1) := by decide +kernel
theorem dX5_addAll_63 : decode cX5_addAll 63 = .ok (.iconst 1, 1) := by decide +kernel
theorem dX5_addAll_64 : decode cX5_addAll 64 = .ok (.invokevirtual 148, 3) := by decide +kernel
theorem dX5_addAll_67 : decode cX5_addAll 67 = .ok (.aload_n 0, 1) := by decide +kernel
theorem dX5_addAll_68 : decode cX5_addAll 68 = .ok (.getfield 32, 3) := by decide +kernel
theorem dX5_addAll_71 : decode cX5_addAll 71 = .ok (.iload_n 3, 1) := by decide +kernel
theorem dX5_addAll_72 : decode cX5_addAll 72 = .ok (.iconst 2, 1) := by decide +kernel
theorem dX5_addAll_73 : decode cX5_addAll 73 = .ok (.invokevirtual 148, 3) := by decide +kernel
theorem dX5_addAll_76 : decode cX5_addAll 76 = .ok (.aload_n 0, 1) := by decide +kernel
theorem dX5_addAll_77 : decode cX5_addAll 77 = .ok (.getfield 32, 3) := by decide +kernel
theorem dX5_addAll_80 : decode cX5_addAll 80 = .ok (.iload_n 3, 1) := by decide +kernel
theorem dX5_addAll_81 : decode cX5_addAll 81 = .ok (.iconst 3, 1) := by decide +kernel
theorem dX5_addAll_82 : decode cX5_addAll 82 = .ok (.invokevirtual 148, 3) := by decide +kernel
theorem dX5_addAll_85 : decode cX5_addAll 85 = .ok (.aload_n 0, 1) := by decide +kernel
theorem dX5_addAll_86 : decode cX5_addAll 86 = .ok (.getfield 32, 3) := by decide +kernel
theorem dX5_addAll_89 : decode cX5_addAll 89 = .ok (.iload_n 3, 1) := by decide +kernel
theorem dX5_addAll_90 : decode cX5_addAll 90 = .ok (.iconst 4, 1) := by decide +kernel
theorem dX5_addAll_91 : decode cX5_addAll 91 = .ok (.invokevirtual 148, 3) := by decide +kernel
theorem dX5_addAll_94 : decode cX5_addAll 94 = .ok (.aload_n 0, 1) := by decide +kernel
theorem dX5_addAll_95 : decode cX5_addAll 95 = .ok (.getfield 32, 3) := by decide +kernel
theorem dX5_addAll_98 : decode cX5_addAll 98 = .ok (.iload_n 3, 1) := by decide +kernel
theorem dX5_addAll_99 : decode cX5_addAll 99 = .ok (.iconst 5, 1) := by decide +kernel
theorem dX5_addAll_100 : decode cX5_addAll 100 = .ok (.invokevirtual 148, 3) := by decide +kernel
theorem dX5_addAll_103 : decode cX5_addAll 103 = .ok (.invokevirtual 61, 3) := by decide +kernel
theorem dX5_addAll_106 : decode cX5_addAll 106 = .ok (.istore 4, 2) := by decide +kernel
theorem dX5_addAll_108 : decode cX5_addAll 108 = .ok (.iload 4, 2) := by decide +kernel
theorem dX5_addAll_110 : decode cX5_addAll 110 = .ok (.ifCond .ge 6, 3) := by decide +kernel
theorem dX5_addAll_113 : decode cX5_addAll 113 = .ok (.iload 4, 2) := by decide +kernel
theorem dX5_addAll_115 : decode cX5_addAll 115 = .ok (.ireturn, 1) := by decide +kernel
theorem dX5_addAll_116 : decode cX5_addAll 116 = .ok (.iinc 3 1, 3) := by decide +kernel
theorem dX5_addAll_119 : decode cX5_addAll 119 = .ok (.goto (-80), 3) := by decide +kernel
theorem dX5_addAll_122 : decode cX5_addAll 122 = .ok (.aload_n 0, 1) := by decide +kernel
theorem dX5_addAll_123 : decode cX5_addAll 123 = .ok (.invokevirtual 65, 3) := by decide +kernel
theorem dX5_addAll_126 : decode cX5_addAll 126 = .ok (.iload_n 2, 1) := by decide +kernel
theorem dX5_addAll_127 : decode cX5_addAll 127 = .ok (.ireturn, 1) := by decide +kernel
set_option maxRecDepth 20000 in
theorem ggX5_undo_X1_recall : GoodIn wsX5_undo wsX1_recall := goodIn_r _ [8, 9, 10, 11, 12, 13, 14, 15, 16, 17, 18, 19, 20, 21, 22, 23, 24, 25, 26, 27, 28, 29, 30, 31, 32, 42, 43, 44, 45, 46, 47, 48, 49, 50, 51] (by decide +kernel) (by decide +kernel)
set_option maxRecDepth 20000 in
theorem gX5_undo_X1_recall : GoodIn wsX5_undo (wsV RX5 153 RX1 yX1_recall wsX1_recall) := goodIn_app (goodIn_of _ (by decide +kernel)) ggX5_undo_X1_recall
theorem dX5_undo_0 : decode cX5_undo 0 = .ok (.aload_n 0, 1) := by decide +kernel
theorem dX5_undo_1 : decode cX5_undo 1 = .ok (.getfield 25, 3) := by decide +kernel
theorem dX5_undo_4 : decode cX5_undo 4 = .ok (.getfield 152, 3) := by decide +kernel
theorem dX5_undo_7 : decode cX5_undo 7 = .ok (.ifCond .ne 6, 3) := by decide +kernel
theorem dX5_undo_10 : decode cX5_undo 10 = .ok (.bipush (-5), 2) := by decide +kernel
theorem dX5_undo_12 : decode cX5_undo 12 = .ok (.ireturn, 1) := by decide +kernel
theorem dX5_undo_13 : decode cX5_undo 13 = .ok (.aload_n 0, 1) := by decide +kernel
theorem dX5_undo_14 : decode cX5_undo 14 = .ok (.getfield 25, 3) := by decide +kernel
theorem dX5_undo_17 : decode cX5_undo 17 = .ok (.aload_n 0, 1) := by decide +kernel
theorem dX5_undo_18 : decode cX5_undo 18 = .ok (.getfield 10, 3) := by decide +kernel
theorem dX5_undo_21 : decode cX5_undo 21 = .ok (.invokevirtual 153, 3) := by decide +kernel
theorem dX5_undo_24 : decode cX5_undo 24 = .ok (.aload_n 0, 1) := by decide +kernel
theorem dX5_undo_25 : decode cX5_undo 25 = .ok (.getfield 25, 3) := by decide +kernel
theorem dX5_undo_28 : decode cX5_undo 28 = .ok (.getfield 152, 3) := by decide +kernel
theorem dX5_undo_31 : decode cX5_undo 31 = .ok (.ireturn, 1) := by decide +kernel
set_option maxRecDepth 20000 in
theorem ggX5_keep_X3_copyFrom : GoodIn wsX5_keep wsX3_copyFrom := goodIn_r _ [9, 10, 11, 12, 13, 14, 15, 16, 17, 18, 19, 20, 21, 22, 23, 24, 25, 26, 36, 37, 38, 39, 40, 41, 42, 43] (by decide +kernel) (by decide +kernel)
set_option maxRecDepth 20000 in
theorem gX5_keep_X3_copyFrom : GoodIn wsX5_keep (wsV RX5 57 RX3 yX3_copyFrom wsX3_copyFrom) := goodIn_app (goodIn_of _ (by decide +kernel)) ggX5_keep_X3_copyFrom
theorem dX5_keep_0 : decode cX5_keep 0 = .ok (.aload_n 0, 1) := by decide +kernel
theorem dX5_keep_1 : decode cX5_keep 1 = .ok (.getfield 19, 3) := by decide +kernel
theorem dX5_keep_4 : decode cX5_keep 4 = .ok (.aload_n 0, 1) := by decide +kernel
theorem dX5_keep_5 : decode cX5_keep 5 = .ok (.getfield 10, 3) := by decide +kernel
theorem dX5_keep_8 : decode cX5_keep 8 = .ok (.invokevirtual 57, 3) := by decide +kernel
theorem dX5_keep_11 : decode cX5_keep 11 = .ok (.aload_n 0, 1) := by decide +kernel
theorem dX5_keep_12 : decode cX5_keep 12 = .ok (.iconst 1, 1) := by decide +kernel
theorem dX5_keep_13 : decode cX5_keep 13 = .ok (.putfield 53, 3) := by decide +kernel
theorem dX5_keep_16 : decode cX5_keep 16 = .ok (.aload_n 0, 1) := by decide +kernel
theorem dX5_keep_17 : decode cX5_keep 17 = .ok (.getfield 10, 3) := by decide +kernel
theorem dX5_keep_20 : decode cX5_keep 20 = .ok (.getfield 118, 3) := by decide +kernel
theorem dX5_keep_23 : decode cX5_keep 23 = .ok (.ireturn, 1) := by decide +kernel
set_option maxRecDepth 20000 in
theorem ggX5_restore_X3_copyFrom : GoodIn wsX5_restore wsX3_copyFrom := goodIn_r _ [10, 11, 12, 13, 14, 15, 16, 17, 18, 19, 20, 21, 22, 23, 24, 25, 26, 27, 55, 56, 57, 58, 59, 60, 61, 62] (by decide +kernel) (by decide +kernel)
set_option maxRecDepth 20000 in
theorem gX5_restore_X3_copyFrom : GoodIn wsX5_restore (wsV RX5 57 RX3 yX3_copyFrom wsX3_copyFrom) := goodIn_app (goodIn_of _ (by decide +kernel)) ggX5_restore_X3_copyFrom
set_option maxRecDepth 20000 in
theorem ggX5_restore_X5_adoptTrial : GoodIn wsX5_restore wsX5_adoptTrial := goodIn_r _ [32, 33, 4, 2, 34, 35, 36, 37, 38, 39, 40, 41, 42, 43, 44, 45, 7, 8, 9, 10, 11, 12, 13, 14, 15, 16, 17, 18, 19, 20, 21, 22, 23, 24, 25, 26, 27, 6, 46, 47, 48, 49, 50, 51, 52, 53, 54, 63, 64, 55, 56, 57, 58, 59, 60, 61, 62] (by decide +kernel) (by decide +kernel)
set_option maxRecDepth 20000 in
theorem gX5_restore_X5_adoptTrial : GoodIn wsX5_restore (wsV RX5 65 RX5 yX5_adoptTrial wsX5_adoptTrial) := goodIn_app (goodIn_of _ (by decide +kernel)) ggX5_restore_X5_adoptTrial
theorem dX5_restore_0 : decode cX5_restore 0 = .ok (.aload_n 0, 1) := by decide +kernel
theorem dX5_restore_1 : decode cX5_restore 1 = .ok (.getfield 53, 3) := by decide +kernel
theorem dX5_restore_4 : decode cX5_restore 4 = .ok (.ifCond .ne 6, 3) := by decide +kernel
theorem dX5_restore_7 : decode cX5_restore 7 = .ok (.bipush (-5), 2) := by decide +kernel
theorem dX5_restore_9 : decode cX5_restore 9 = .ok (.ireturn, 1) := by decide +kernel
theorem dX5_restore_10 : decode cX5_restore 10 = .ok (.aload_n 0, 1) := by decide +kernel
theorem dX5_restore_11 : decode cX5_restore 11 = .ok (.getfield 16, 3) := by decide +kernel
theorem dX5_restore_14 : decode cX5_restore 14 = .ok (.aload_n 0, 1) := by decide +kernel
theorem dX5_restore_15 : decode cX5_restore 15 = .ok (.getfield 19, 3) := by decide +kernel
theorem dX5_restore_18 : decode cX5_restore 18 = .ok (.invokevirtual 57, 3) := by decide +kernel
theorem dX5_restore_21 : decode cX5_restore 21 = .ok (.aload_n 0, 1) := by decide +kernel
theorem dX5_restore_22 : decode cX5_restore 22 = .ok (.invokevirtual 65, 3) := by decide +kernel
theorem dX5_restore_25 : decode cX5_restore 25 = .ok (.aload_n 0, 1) := by decide +kernel
theorem dX5_restore_26 : decode cX5_restore 26 = .ok (.getfield 10, 3) := by decide +kernel
theorem dX5_restore_29 : decode cX5_restore 29 = .ok (.getfield 118, 3) := by decide +kernel
theorem dX5_restore_32 : decode cX5_restore 32 = .ok (.ireturn, 1) := by decide +kernel
theorem dX5_box_0 : decode cX5_box 0 = .ok (.iload_n 1, 1) := by decide +kernel
theorem dX5_box_1 : decode cX5_box 1 = .ok (.ifCond .ge 6, 3) := by decide +kernel
theorem dX5_box_4 : decode cX5_box 4 = .ok (.bipush (-2), 2) := by decide +kernel
theorem dX5_box_6 : decode cX5_box 6 = .ok (.ireturn, 1) := by decide +kernel
theorem dX5_box_7 : decode cX5_box 7 = .ok (.iload_n 1, 1) := by decide +kernel
theorem dX5_box_8 : decode cX5_box 8 = .ok (.aload_n 0, 1) := by decide +kernel
theorem dX5_box_9 : decode cX5_box 9 = .ok (.getfield 10, 3) := by decide +kernel
theorem dX5_box_12 : decode cX5_box 12 = .ok (.getfield 118, 3) := by decide +kernel
theorem dX5_box_15 : decode cX5_box 15 = .ok (.if_icmp .ge 18, 3) := by decide +kernel
theorem dX5_box_18 : decode cX5_box 18 = .ok (.aload_n 0, 1) := by decide +kernel
theorem dX5_box_19 : decode cX5_box 19 = .ok (.getfield 10, 3) := by decide +kernel
theorem dX5_box_22 : decode cX5_box 22 = .ok (.getfield 72, 3) := by decide +kernel
theorem dX5_box_25 : decode cX5_box 25 = .ok (.iload_n 1, 1) := by decide +kernel
theorem dX5_box_26 : decode cX5_box 26 = .ok (.aaload, 1) := by decide +kernel
theorem dX5_box_27 : decode cX5_box 27 = .ok (.getfield 156, 3) := by decide +kernel
theorem dX5_box_30 : decode cX5_box 30 = .ok (.goto 5, 3) := by decide +kernel
theorem dX5_box_33 : decode cX5_box 33 = .ok (.bipush (-5), 2) := by decide +kernel
theorem dX5_box_35 : decode cX5_box 35 = .ok (.ireturn, 1) := by decide +kernel
set_option maxRecDepth 20000 in
theorem ggX5_end_X3_slotOf : GoodIn wsX5_end wsX3_slotOf := goodIn_r _ [9, 10, 11, 12, 26, 27, 28, 29, 30, 31, 32, 33] (by decide +kernel) (by decide +kernel)
set_option maxRecDepth 20000 in
theorem gX5_end_X3_slotOf : GoodIn wsX5_end (wsV RX5 68 RX3 yX3_slotOf wsX3_slotOf) := goodIn_app (goodIn_of _ (by decide +kernel)) ggX5_end_X3_slotOf
set_option maxRecDepth 20000 in
theorem ggX5_end_X5_isDirection : GoodIn wsX5_end wsX5_isDirection := goodIn_r _ [16] (by decide +kernel) (by decide +kernel)
set_option maxRecDepth 20000 in
theorem gX5_end_X5_isDirection : GoodIn wsX5_end (va_wsS RX5 84 yX5_isDirection wsX5_isDirection) := goodIn_app (goodIn_of _ (by decide +kernel)) ggX5_end_X5_isDirection
theorem dX5_end_0 : decode cX5_end 0 = .ok (.aload_n 0, 1) := by decide +kernel
theorem dX5_end_1 : decode cX5_end 1 = .ok (.getfield 10, 3) := by decide +kernel
theorem dX5_end_4 : decode cX5_end 4 = .ok (.iload_n 1, 1) := by decide +kernel
theorem dX5_end_5 : decode cX5_end 5 = .ok (.invokevirtual 68, 3) := by decide +kernel
theorem dX5_end_8 : decode cX5_end 8 = .ok (.istore 4, 2) := by decide +kernel
theorem dX5_end_10 : decode cX5_end 10 = .ok (.iload 4, 2) := by decide +kernel
theorem dX5_end_12 : decode cX5_end 12 = .ok (.iconst (-1), 1) := by decide +kernel
theorem dX5_end_13 : decode cX5_end 13 = .ok (.if_icmp .eq 10, 3) := by decide +kernel
theorem dX5_end_16 : decode cX5_end 16 = .ok (.iload_n 2, 1) := by decide +kernel
theorem dX5_end_17 : decode cX5_end 17 = .ok (.invokestatic 84, 3) := by decide +kernel
theorem dX5_end_20 : decode cX5_end 20 = .ok (.ifCond .ne 5, 3) := by decide +kernel
theorem dX5_end_23 : decode cX5_end 23 = .ok (.iconst (-1), 1) := by decide +kernel
theorem dX5_end_24 : decode cX5_end 24 = .ok (.ireturn, 1) := by decide +kernel
theorem dX5_end_25 : decode cX5_end 25 = .ok (.aload_n 0, 1) := by decide +kernel
theorem dX5_end_26 : decode cX5_end 26 = .ok (.getfield 10, 3) := by decide +kernel
theorem dX5_end_29 : decode cX5_end 29 = .ok (.getfield 72, 3) := by decide +kernel
theorem dX5_end_32 : decode cX5_end 32 = .ok (.iload 4, 2) := by decide +kernel
theorem dX5_end_34 : decode cX5_end 34 = .ok (.aaload, 1) := by decide +kernel
theorem dX5_end_35 : decode cX5_end 35 = .ok (.astore 5, 2) := by decide +kernel
theorem dX5_end_37 : decode cX5_end 37 = .ok (.iload_n 3, 1) := by decide +kernel
theorem dX5_end_38 : decode cX5_end 38 = .ok (.ifCond .eq 13, 3) := by decide +kernel
theorem dX5_end_41 : decode cX5_end 41 = .ok (.aload 5, 2) := by decide +kernel
theorem dX5_end_43 : decode cX5_end 43 = .ok (.getfield 92, 3) := by decide +kernel
theorem dX5_end_46 : decode cX5_end 46 = .ok (.iload_n 2, 1) := by decide +kernel
theorem dX5_end_47 : decode cX5_end 47 = .ok (.iaload, 1) := by decide +kernel
theorem dX5_end_48 : decode cX5_end 48 = .ok (.goto 10, 3) := by decide +kernel
theorem dX5_end_51 : decode cX5_end 51 = .ok (.aload 5, 2) := by decide +kernel
theorem dX5_end_53 : decode cX5_end 53 = .ok (.getfield 88, 3) := by decide +kernel
theorem dX5_end_56 : decode cX5_end 56 = .ok (.iload_n 2, 1) := by decide +kernel
theorem dX5_end_57 : decode cX5_end 57 = .ok (.iaload, 1) := by decide +kernel
theorem dX5_end_58 : decode cX5_end 58 = .ok (.ireturn, 1) := by decide +kernel
set_option maxRecDepth 20000 in
theorem ggX5_ofBox_X3_slotOf : GoodIn wsX5_ofBox wsX3_slotOf := goodIn_r _ [9, 10, 11, 12, 163, 164, 165, 166, 167, 175, 176, 177] (by decide +kernel) (by decide +kernel)
set_option maxRecDepth 20000 in
theorem gX5_ofBox_X3_slotOf : GoodIn wsX5_ofBox (wsV RX5 68 RX3 yX3_slotOf wsX3_slotOf) := goodIn_app (goodIn_of _ (by decide +kernel)) ggX5_ofBox_X3_slotOf
set_option maxRecDepth 20000 in
theorem ggX5_ofBox_X0_volume : GoodIn wsX5_ofBox wsX0_volume := goodIn_r _ [17, 18, 19, 20, 16, 21, 22, 23, 175, 176, 177] (by decide +kernel) (by decide +kernel)
set_option maxRecDepth 20000 in
theorem gX5_ofBox_X0_volume : GoodIn wsX5_ofBox (wsV RX5 76 RX0 yX0_volume wsX0_volume) := goodIn_app (goodIn_of _ (by decide +kernel)) ggX5_ofBox_X0_volume
set_option maxRecDepth 20000 in
theorem ggX5_ofBox_X5_look : GoodIn wsX5_ofBox wsX5_look := goodIn_r _ [28, 29, 1, 30, 31, 32, 33, 34, 35, 36, 37, 38, 39, 40, 41, 42, 43, 44, 16, 45, 23, 22, 46, 47, 48, 49, 50, 51, 52, 53, 54, 55, 56, 57, 58, 59, 60, 61, 62, 63, 64, 65, 66, 67, 68, 69, 70, 71, 72, 73, 74, 75, 76, 77, 78, 79, 80, 81, 82, 83, 84, 8, 85, 86, 11, 87, 88, 89, 90, 91, 14, 15, 17, 18, 19, 20, 21, 92, 93, 94, 95, 96, 97, 98, 99, 154, 155, 156, 157, 158, 159, 160, 161, 162, 163, 164, 165, 166, 167, 168, 169, 170, 171, 172, 173, 174, 175, 176, 177] (by decide +kernel) (by decide +kernel)
set_option maxRecDepth 20000 in
theorem gX5_ofBox_X5_look : GoodIn wsX5_ofBox (wsV RX5 159 RX5 yX5_look wsX5_look) := goodIn_app (goodIn_of _ (by decide +kernel)) ggX5_ofBox_X5_look
set_option maxRecDepth 20000 in
theorem ggX5_ofBox_X2_hiddenBy : GoodIn wsX5_ofBox wsX2_hiddenBy := goodIn_r _ [103, 37, 104, 105, 106, 107, 108, 109, 110, 168, 169, 170, 171, 172, 173, 174] (by decide +kernel) (by decide +kernel)
set_option maxRecDepth 20000 in
theorem gX5_ofBox_X2_hiddenBy : GoodIn wsX5_ofBox (wsV RX5 162 RX2 yX2_hiddenBy wsX2_hiddenBy) := goodIn_app (goodIn_of _ (by decide +kernel)) ggX5_ofBox_X2_hiddenBy
set_option maxRecDepth 20000 in
theorem ggX5_ofBox_X2_hidersOf : GoodIn wsX5_ofBox wsX2_hidersOf := goodIn_r _ [114, 36, 37, 63, 64, 33, 65, 168, 169, 170, 171, 172, 173, 174] (by decide +kernel) (by decide +kernel)
set_option maxRecDepth 20000 in
theorem gX5_ofBox_X2_hidersOf : GoodIn wsX5_ofBox (wsV RX5 165 RX2 yX2_hidersOf wsX2_hidersOf) := goodIn_app (goodIn_of _ (by decide +kernel)) ggX5_ofBox_X2_hidersOf
set_option maxRecDepth 20000 in
theorem ggX5_ofBox_X2_shortestRingOf : GoodIn wsX5_ofBox wsX2_shortestRingOf := goodIn_r _ [118, 37, 36, 63, 64, 33, 65, 119, 120, 121, 122, 168, 169, 170, 171, 172, 173, 174] (by decide +kernel) (by decide +kernel)
set_option maxRecDepth 20000 in
theorem gX5_ofBox_X2_shortestRingOf : GoodIn wsX5_ofBox (wsV RX5 171 RX2 yX2_shortestRingOf wsX2_shortestRingOf) := goodIn_app (goodIn_of _ (by decide +kernel)) ggX5_ofBox_X2_shortestRingOf
set_option maxRecDepth 20000 in
theorem ggX5_ofBox_X3_supportsOf : GoodIn wsX5_ofBox wsX3_supportsOf := goodIn_r _ [126, 11, 10, 127, 128, 129, 130, 131, 16, 132, 22, 23, 133, 134, 135, 136, 163, 164, 165, 166, 167, 175, 176, 177] (by decide +kernel) (by decide +kernel)
set_option maxRecDepth 20000 in
theorem gX5_ofBox_X3_supportsOf : GoodIn wsX5_ofBox (wsV RX5 174 RX3 yX3_supportsOf wsX3_supportsOf) := goodIn_app (goodIn_of _ (by decide +kernel)) ggX5_ofBox_X3_supportsOf
set_option maxRecDepth 20000 in
theorem ggX5_ofBox_X3_boxesBelow : GoodIn wsX5_ofBox wsX3_boxesBelow := goodIn_r _ [140, 10, 11, 129, 130, 131, 16, 132, 22, 23, 133, 134, 135, 136, 163, 164, 165, 166, 167, 175, 176, 177] (by decide +kernel) (by decide +kernel)
set_option maxRecDepth 20000 in
theorem gX5_ofBox_X3_boxesBelow : GoodIn wsX5_ofBox (wsV RX5 177 RX3 yX3_boxesBelow wsX3_boxesBelow) := goodIn_app (goodIn_of _ (by decide +kernel)) ggX5_ofBox_X3_boxesBelow
set_option maxRecDepth 20000 in
theorem ggX5_ofBox_X3_shadowOn : GoodIn wsX5_ofBox wsX3_shadowOn := goodIn_r _ [144, 11, 128, 127, 10, 129, 130, 131, 16, 132, 22, 23, 133, 134, 135, 136, 145, 146, 147, 148, 149, 150, 151, 152, 18, 19, 20, 21, 153, 105, 106, 107, 108, 109, 110, 163, 164, 165, 166, 167, 175, 176, 177] (by decide +kernel) (by decide +kernel)
set_option maxRecDepth 20000 in
theorem gX5_ofBox_X3_shadowOn : GoodIn wsX5_ofBox (wsV RX5 180 RX3 yX3_shadowOn wsX3_shadowOn) := goodIn_app (goodIn_of _ (by decide +kernel)) ggX5_ofBox_X3_shadowOn
theorem dX5_ofBox_0 : decode cX5_ofBox 0 = .ok (.aload_n 0, 1) := by decide +kernel
theorem dX5_ofBox_1 : decode cX5_ofBox 1 = .ok (.getfield 10, 3) := by decide +kernel
theorem dX5_ofBox_4 : decode cX5_ofBox 4 = .ok (.iload_n 1, 1) := by decide +kernel
theorem dX5_ofBox_5 : decode cX5_ofBox 5 = .ok (.invokevirtual 68, 3) := by decide +kernel
theorem dX5_ofBox_8 : decode cX5_ofBox 8 = .ok (.istore_n 3, 1) := by decide +kernel
theorem dX5_ofBox_9 : decode cX5_ofBox 9 = .ok (.iload_n 3, 1) := by decide +kernel
theorem dX5_ofBox_10 : decode cX5_ofBox 10 = .ok (.iconst (-1), 1) := by decide +kernel
theorem dX5_ofBox_11 : decode cX5_ofBox 11 = .ok (.if_icmp .ne 5, 3) := by decide +kernel
theorem dX5_ofBox_14 : decode cX5_ofBox 14 = .ok (.iconst (-1), 1) := by decide +kernel
theorem dX5_ofBox_15 : decode cX5_ofBox 15 = .ok (.ireturn, 1) := by decide +kernel
theorem dX5_ofBox_16 : decode cX5_ofBox 16 = .ok (.iload_n 2, 1) := by decide +kernel
theorem dX5_ofBox_17 : decode cX5_ofBox 17 = .ok (.tableswitch 162 0 8 #[51, 64, 73, 82, 92, 101, 110, 119, 128], 51) := by decide +kernel
theorem dX5_ofBox_68 : decode cX5_ofBox 68 = .ok (.aload_n 0, 1) := by decide +kernel
theorem dX5_ofBox_69 : decode cX5_ofBox 69 = .ok (.getfield 10, 3) := by decide +kernel
theorem dX5_ofBox_72 : decode cX5_ofBox 72 = .ok (.getfield 72, 3) := by decide +kernel
theorem dX5_ofBox_75 : decode cX5_ofBox 75 = .ok (.iload_n 3, 1) := by decide +kernel
theorem dX5_ofBox_76 : decode cX5_ofBox 76 = .ok (.aaload, 1) := by decide +kernel
theorem dX5_ofBox_77 : decode cX5_ofBox 77 = .ok (.invokevirtual 76, 3) := by decide +kernel
theorem dX5_ofBox_80 : decode cX5_ofBox 80 = .ok (.ireturn, 1) := by decide +kernel
theorem dX5_ofBox_81 : decode cX5_ofBox 81 = .ok (.aload_n 0, 1) := by decide +kernel
theorem dX5_ofBox_82 : decode cX5_ofBox 82 = .ok (.invokevirtual 159, 3) := by decide +kernel
theorem dX5_ofBox_85 : decode cX5_ofBox 85 = .ok (.iload_n 3, 1) := by decide +kernel
theorem dX5_ofBox_86 : decode cX5_ofBox 86 = .ok (.invokevirtual 162, 3) := by decide +kernel
theorem dX5_ofBox_89 : decode cX5_ofBox 89 = .ok (.ireturn, 1) := by decide +kernel
theorem dX5_ofBox_90 : decode cX5_ofBox 90 = .ok (.aload_n 0, 1) := by decide +kernel
theorem dX5_ofBox_91 : decode cX5_ofBox 91 = .ok (.invokevirtual 159, 3) := by decide +kernel
theorem dX5_ofBox_94 : decode cX5_ofBox 94 = .ok (.iload_n 3, 1) := by decide +kernel
theorem dX5_ofBox_95 : decode cX5_ofBox 95 = .ok (.invokevirtual 165, 3) := by decide +kernel
theorem dX5_ofBox_98 : decode cX5_ofBox 98 = .ok (.ireturn, 1) := by decide +kernel
theorem dX5_ofBox_99 : decode cX5_ofBox 99 = .ok (.aload_n 0, 1) := by decide +kernel
theorem dX5_ofBox_100 : decode cX5_ofBox 100 = .ok (.invokevirtual 159, 3) := by decide +kernel
theorem dX5_ofBox_103 : decode cX5_ofBox 103 = .ok (.getfield 168, 3) := by decide +kernel
theorem dX5_ofBox_106 : decode cX5_ofBox 106 = .ok (.iload_n 3, 1) := by decide +kernel
theorem dX5_ofBox_107 : decode cX5_ofBox 107 = .ok (.iaload, 1) := by decide +kernel
theorem dX5_ofBox_108 : decode cX5_ofBox 108 = .ok (.ireturn, 1) := by decide +kernel
theorem dX5_ofBox_109 : decode cX5_ofBox 109 = .ok (.aload_n 0, 1) := by decide +kernel
theorem dX5_ofBox_110 : decode cX5_ofBox 110 = .ok (.invokevirtual 159, 3) := by decide +kernel
theorem dX5_ofBox_113 : decode cX5_ofBox 113 = .ok (.iload_n 3, 1) := by decide +kernel
theorem dX5_ofBox_114 : decode cX5_ofBox 114 = .ok (.invokevirtual 171, 3) := by decide +kernel
theorem dX5_ofBox_117 : decode cX5_ofBox 117 = .ok (.ireturn, 1) := by decide +kernel
theorem dX5_ofBox_118 : decode cX5_ofBox 118 = .ok (.aload_n 0, 1) := by decide +kernel
theorem dX5_ofBox_119 : decode cX5_ofBox 119 = .ok (.getfield 10, 3) := by decide +kernel
theorem dX5_ofBox_122 : decode cX5_ofBox 122 = .ok (.iload_n 3, 1) := by decide +kernel
theorem dX5_ofBox_123 : decode cX5_ofBox 123 = .ok (.invokevirtual 174, 3) := by decide +kernel
theorem dX5_ofBox_126 : decode cX5_ofBox 126 = .ok (.ireturn, 1) := by decide +kernel
theorem dX5_ofBox_127 : decode cX5_ofBox 127 = .ok (.aload_n 0, 1) := by decide +kernel
theorem dX5_ofBox_128 : decode cX5_ofBox 128 = .ok (.getfield 10, 3) := by decide +kernel
theorem dX5_ofBox_131 : decode cX5_ofBox 131 = .ok (.iload_n 3, 1) := by decide +kernel
theorem dX5_ofBox_132 : decode cX5_ofBox 132 = .ok (.invokevirtual 177, 3) := by decide +kernel
theorem dX5_ofBox_135 : decode cX5_ofBox 135 = .ok (.ireturn, 1) := by decide +kernel
theorem dX5_ofBox_136 : decode cX5_ofBox 136 = .ok (.aload_n 0, 1) := by decide +kernel
theorem dX5_ofBox_137 : decode cX5_ofBox 137 = .ok (.getfield 10, 3) := by decide +kernel
theorem dX5_ofBox_140 : decode cX5_ofBox 140 = .ok (.iload_n 3, 1) := by decide +kernel
theorem dX5_ofBox_141 : decode cX5_ofBox 141 = .ok (.invokevirtual 180, 3) := by decide +kernel
theorem dX5_ofBox_144 : decode cX5_ofBox 144 = .ok (.ireturn, 1) := by decide +kernel
theorem dX5_ofBox_145 : decode cX5_ofBox 145 = .ok (.aload_n 0, 1) := by decide +kernel
theorem dX5_ofBox_146 : decode cX5_ofBox 146 = .ok (.getfield 10, 3) := by decide +kernel
theorem dX5_ofBox_149 : decode cX5_ofBox 149 = .ok (.getfield 72, 3) := by decide +kernel
theorem dX5_ofBox_152 : decode cX5_ofBox 152 = .ok (.iload_n 3, 1) := by decide +kernel
theorem dX5_ofBox_153 : decode cX5_ofBox 153 = .ok (.aaload, 1) := by decide +kernel
theorem dX5_ofBox_154 : decode cX5_ofBox 154 = .ok (.getfield 88, 3) := by decide +kernel
theorem dX5_ofBox_157 : decode cX5_ofBox 157 = .ok (.iconst 2, 1) := by decide +kernel
theorem dX5_ofBox_158 : decode cX5_ofBox 158 = .ok (.iaload, 1) := by decide +kernel
theorem dX5_ofBox_159 : decode cX5_ofBox 159 = .ok (.ifCond .eq 14, 3) := by decide +kernel
theorem dX5_ofBox_162 : decode cX5_ofBox 162 = .ok (.aload_n 0, 1) := by decide +kernel
theorem dX5_ofBox_163 : decode cX5_ofBox 163 = .ok (.getfield 10, 3) := by decide +kernel
theorem dX5_ofBox_166 : decode cX5_ofBox 166 = .ok (.iload_n 3, 1) := by decide +kernel
theorem dX5_ofBox_167 : decode cX5_ofBox 167 = .ok (.invokevirtual 174, 3) := by decide +kernel
theorem dX5_ofBox_170 : decode cX5_ofBox 170 = .ok (.ifCond .le 7, 3) := by decide +kernel
theorem dX5_ofBox_173 : decode cX5_ofBox 173 = .ok (.iconst 1, 1) := by decide +kernel
theorem dX5_ofBox_174 : decode cX5_ofBox 174 = .ok (.goto 4, 3) := by decide +kernel
theorem dX5_ofBox_177 : decode cX5_ofBox 177 = .ok (.iconst 0, 1) := by decide +kernel
theorem dX5_ofBox_178 : decode cX5_ofBox 178 = .ok (.ireturn, 1) := by decide +kernel
theorem dX5_ofBox_179 : decode cX5_ofBox 179 = .ok (.bipush (-2), 2) := by decide +kernel
theorem dX5_ofBox_181 : decode cX5_ofBox 181 = .ok (.ireturn, 1) := by decide +kernel
set_option maxRecDepth 20000 in
theorem ggX5_pair_X3_slotOf : GoodIn wsX5_pair wsX3_slotOf := goodIn_r _ [7, 8, 9, 10, 35, 36, 37, 38, 39, 40, 41, 42] (by decide +kernel) (by decide +kernel)
set_option maxRecDepth 20000 in
theorem gX5_pair_X3_slotOf : GoodIn wsX5_pair (wsV RX5 68 RX3 yX3_slotOf wsX3_slotOf) := goodIn_app (goodIn_of _ (by decide +kernel)) ggX5_pair_X3_slotOf
set_option maxRecDepth 20000 in
theorem ggX5_pair_X0_directionOfHiding : GoodIn wsX5_pair wsX0_directionOfHiding := goodIn_r _ [15, 16, 17, 18, 19, 20, 14, 21, 22, 23, 24, 25, 40, 41, 42] (by decide +kernel) (by decide +kernel)
set_option maxRecDepth 20000 in
theorem gX5_pair_X0_directionOfHiding : GoodIn wsX5_pair (wsV RX5 183 RX0 yX0_directionOfHiding wsX0_directionOfHiding) := goodIn_app (goodIn_of _ (by decide +kernel)) ggX5_pair_X0_directionOfHiding
theorem dX5_pair_0 : decode cX5_pair 0 = .ok (.aload_n 0, 1) := by decide +kernel
theorem dX5_pair_1 : decode cX5_pair 1 = .ok (.getfield 10, 3) := by decide +kernel
theorem dX5_pair_4 : decode cX5_pair 4 = .ok (.iload_n 1, 1) := by decide +kernel
theorem dX5_pair_5 : decode cX5_pair 5 = .ok (.invokevirtual 68, 3) := by decide +kernel
theorem dX5_pair_8 : decode cX5_pair 8 = .ok (.istore_n 3, 1) := by decide +kernel
theorem dX5_pair_9 : decode cX5_pair 9 = .ok (.aload_n 0, 1) := by decide +kernel
theorem dX5_pair_10 : decode cX5_pair 10 = .ok (.getfield 10, 3) := by decide +kernel
theorem dX5_pair_13 : decode cX5_pair 13 = .ok (.iload_n 2, 1) := by decide +kernel
theorem dX5_pair_14 : decode cX5_pair 14 = .ok (.invokevirtual 68, 3) := by decide +kernel
theorem dX5_pair_17 : decode cX5_pair 17 = .ok (.istore 4, 2) := by decide +kernel
theorem dX5_pair_19 : decode cX5_pair 19 = .ok (.iload_n 3, 1) := by decide +kernel
theorem dX5_pair_20 : decode cX5_pair 20 = .ok (.iconst (-1), 1) := by decide +kernel
theorem dX5_pair_21 : decode cX5_pair 21 = .ok (.if_icmp .eq 9, 3) := by decide +kernel
theorem dX5_pair_24 : decode cX5_pair 24 = .ok (.iload 4, 2) := by decide +kernel
theorem dX5_pair_26 : decode cX5_pair 26 = .ok (.iconst (-1), 1) := by decide +kernel
theorem dX5_pair_27 : decode cX5_pair 27 = .ok (.if_icmp .ne 5, 3) := by decide +kernel
theorem dX5_pair_30 : decode cX5_pair 30 = .ok (.iconst (-1), 1) := by decide +kernel
theorem dX5_pair_31 : decode cX5_pair 31 = .ok (.ireturn, 1) := by decide +kernel
theorem dX5_pair_32 : decode cX5_pair 32 = .ok (.iload_n 3, 1) := by decide +kernel
theorem dX5_pair_33 : decode cX5_pair 33 = .ok (.iload 4, 2) := by decide +kernel
theorem dX5_pair_35 : decode cX5_pair 35 = .ok (.if_icmp .ne 6, 3) := by decide +kernel
theorem dX5_pair_38 : decode cX5_pair 38 = .ok (.bipush (-2), 2) := by decide +kernel
theorem dX5_pair_40 : decode cX5_pair 40 = .ok (.ireturn, 1) := by decide +kernel
theorem dX5_pair_41 : decode cX5_pair 41 = .ok (.aload_n 0, 1) := by decide +kernel
theorem dX5_pair_42 : decode cX5_pair 42 = .ok (.getfield 10, 3) := by decide +kernel
theorem dX5_pair_45 : decode cX5_pair 45 = .ok (.getfield 72, 3) := by decide +kernel
theorem dX5_pair_48 : decode cX5_pair 48 = .ok (.iload_n 3, 1) := by decide +kernel
theorem dX5_pair_49 : decode cX5_pair 49 = .ok (.aaload, 1) := by decide +kernel
theorem dX5_pair_50 : decode cX5_pair 50 = .ok (.aload_n 0, 1) := by decide +kernel
theorem dX5_pair_51 : decode cX5_pair 51 = .ok (.getfield 10, 3) := by decide +kernel
theorem dX5_pair_54 : decode cX5_pair 54 = .ok (.getfield 72, 3) := by decide +kernel
theorem dX5_pair_57 : decode cX5_pair 57 = .ok (.iload 4, 2) := by decide +kernel
theorem dX5_pair_59 : decode cX5_pair 59 = .ok (.aaload, 1) := by decide +kernel
theorem dX5_pair_60 : decode cX5_pair 60 = .ok (.invokevirtual 183, 3) := by decide +kernel
theorem dX5_pair_63 : decode cX5_pair 63 = .ok (.istore 5, 2) := by decide +kernel
theorem dX5_pair_65 : decode cX5_pair 65 = .ok (.iload 5, 2) := by decide +kernel
theorem dX5_pair_67 : decode cX5_pair 67 = .ok (.iconst (-1), 1) := by decide +kernel
theorem dX5_pair_68 : decode cX5_pair 68 = .ok (.if_icmp .eq 8, 3) := by decide +kernel
theorem dX5_pair_71 : decode cX5_pair 71 = .ok (.iconst 1, 1) := by decide +kernel
theorem dX5_pair_72 : decode cX5_pair 72 = .ok (.iload 5, 2) := by decide +kernel
theorem dX5_pair_74 : decode cX5_pair 74 = .ok (.iadd, 1) := by decide +kernel
theorem dX5_pair_75 : decode cX5_pair 75 = .ok (.ireturn, 1) := by decide +kernel
theorem dX5_pair_76 : decode cX5_pair 76 = .ok (.aload_n 0, 1) := by decide +kernel
theorem dX5_pair_77 : decode cX5_pair 77 = .ok (.getfield 10, 3) := by decide +kernel
theorem dX5_pair_80 : decode cX5_pair 80 = .ok (.getfield 72, 3) := by decide +kernel
theorem dX5_pair_83 : decode cX5_pair 83 = .ok (.iload 4, 2) := by decide +kernel
theorem dX5_pair_85 : decode cX5_pair 85 = .ok (.aaload, 1) := by decide +kernel
theorem dX5_pair_86 : decode cX5_pair 86 = .ok (.aload_n 0, 1) := by decide +kernel
theorem dX5_pair_87 : decode cX5_pair 87 = .ok (.getfield 10, 3) := by decide +kernel
theorem dX5_pair_90 : decode cX5_pair 90 = .ok (.getfield 72, 3) := by decide +kernel
theorem dX5_pair_93 : decode cX5_pair 93 = .ok (.iload_n 3, 1) := by decide +kernel
theorem dX5_pair_94 : decode cX5_pair 94 = .ok (.aaload, 1) := by decide +kernel
theorem dX5_pair_95 : decode cX5_pair 95 = .ok (.invokevirtual 183, 3) := by decide +kernel
theorem dX5_pair_98 : decode cX5_pair 98 = .ok (.istore 6, 2) := by decide +kernel
theorem dX5_pair_100 : decode cX5_pair 100 = .ok (.iload 6, 2) := by decide +kernel
theorem dX5_pair_102 : decode cX5_pair 102 = .ok (.iconst (-1), 1) := by decide +kernel
theorem dX5_pair_103 : decode cX5_pair 103 = .ok (.if_icmp .eq 10, 3) := by decide +kernel
theorem dX5_pair_106 : decode cX5_pair 106 = .ok (.iconst 4, 1) := by decide +kernel
theorem dX5_pair_107 : decode cX5_pair 107 = .ok (.iload 6, 2) := by decide +kernel
theorem dX5_pair_109 : decode cX5_pair 109 = .ok (.iadd, 1) := by decide +kernel
theorem dX5_pair_110 : decode cX5_pair 110 = .ok (.goto 4, 3) := by decide +kernel
theorem dX5_pair_113 : decode cX5_pair 113 = .ok (.iconst 0, 1) := by decide +kernel
theorem dX5_pair_114 : decode cX5_pair 114 = .ok (.ireturn, 1) := by decide +kernel
set_option maxRecDepth 20000 in
theorem ggX5_drawn_X5_look : GoodIn wsX5_drawn wsX5_look := goodIn_r _ [8, 9, 1, 10, 11, 12, 13, 14, 15, 16, 17, 18, 19, 20, 21, 22, 23, 24, 25, 26, 27, 28, 29, 30, 31, 32, 33, 34, 35, 36, 37, 38, 39, 40, 41, 42, 43, 44, 45, 46, 47, 48, 49, 50, 51, 52, 53, 54, 55, 56, 57, 58, 59, 60, 61, 62, 63, 64, 65, 66, 67, 68, 69, 70, 71, 72, 73, 74, 75, 76, 77, 78, 79, 80, 81, 82, 83, 84, 85, 86, 87, 88, 89, 90, 91, 96, 97, 98, 99, 100, 101, 102, 103, 104, 105, 106, 107, 108, 109, 113, 114, 115, 116, 117, 118, 119, 110, 111, 112] (by decide +kernel) (by decide +kernel)
set_option maxRecDepth 20000 in
theorem gX5_drawn_X5_look : GoodIn wsX5_drawn (wsV RX5 159 RX5 yX5_look wsX5_look) := goodIn_app (goodIn_of _ (by decide +kernel)) ggX5_drawn_X5_look
set_option maxRecDepth 20000 in
theorem ggX5_drawn_X2_slotDrawn : GoodIn wsX5_drawn wsX2_slotDrawn := goodIn_r _ [95, 55, 56, 113, 114, 115, 116, 117, 118, 119] (by decide +kernel) (by decide +kernel)
set_option maxRecDepth 20000 in
theorem gX5_drawn_X2_slotDrawn : GoodIn wsX5_drawn (wsV RX5 187 RX2 yX2_slotDrawn wsX2_slotDrawn) := goodIn_app (goodIn_of _ (by decide +kernel)) ggX5_drawn_X2_slotDrawn
theorem dX5_drawn_0 : decode cX5_drawn 0 = .ok (.iload_n 1, 1) := by decide +kernel
theorem dX5_drawn_1 : decode cX5_drawn 1 = .ok (.ifCond .ge 6, 3) := by decide +kernel
theorem dX5_drawn_4 : decode cX5_drawn 4 = .ok (.bipush (-2), 2) := by decide +kernel
theorem dX5_drawn_6 : decode cX5_drawn 6 = .ok (.ireturn, 1) := by decide +kernel
theorem dX5_drawn_7 : decode cX5_drawn 7 = .ok (.aload_n 0, 1) := by decide +kernel
theorem dX5_drawn_8 : decode cX5_drawn 8 = .ok (.invokevirtual 159, 3) := by decide +kernel
theorem dX5_drawn_11 : decode cX5_drawn 11 = .ok (.iload_n 1, 1) := by decide +kernel
theorem dX5_drawn_12 : decode cX5_drawn 12 = .ok (.invokevirtual 187, 3) := by decide +kernel
theorem dX5_drawn_15 : decode cX5_drawn 15 = .ok (.istore_n 2, 1) := by decide +kernel
theorem dX5_drawn_16 : decode cX5_drawn 16 = .ok (.iload_n 2, 1) := by decide +kernel
theorem dX5_drawn_17 : decode cX5_drawn 17 = .ok (.iconst (-1), 1) := by decide +kernel
theorem dX5_drawn_18 : decode cX5_drawn 18 = .ok (.if_icmp .ne 8, 3) := by decide +kernel
theorem dX5_drawn_21 : decode cX5_drawn 21 = .ok (.bipush (-5), 2) := by decide +kernel
theorem dX5_drawn_23 : decode cX5_drawn 23 = .ok (.goto 15, 3) := by decide +kernel
theorem dX5_drawn_26 : decode cX5_drawn 26 = .ok (.aload_n 0, 1) := by decide +kernel
theorem dX5_drawn_27 : decode cX5_drawn 27 = .ok (.getfield 10, 3) := by decide +kernel
theorem dX5_drawn_30 : decode cX5_drawn 30 = .ok (.getfield 72, 3) := by decide +kernel
theorem dX5_drawn_33 : decode cX5_drawn 33 = .ok (.iload_n 2, 1) := by decide +kernel
theorem dX5_drawn_34 : decode cX5_drawn 34 = .ok (.aaload, 1) := by decide +kernel
theorem dX5_drawn_35 : decode cX5_drawn 35 = .ok (.getfield 156, 3) := by decide +kernel
theorem dX5_drawn_38 : decode cX5_drawn 38 = .ok (.ireturn, 1) := by decide +kernel
set_option maxRecDepth 20000 in
theorem ggX5_total_X5_look : GoodIn wsX5_total wsX5_look := goodIn_r _ [15, 16, 1, 17, 18, 19, 20, 21, 22, 23, 24, 25, 26, 27, 28, 29, 30, 31, 32, 33, 34, 35, 36, 37, 38, 39, 40, 41, 42, 43, 44, 45, 46, 47, 48, 49, 50, 51, 52, 53, 54, 55, 56, 57, 58, 59, 60, 61, 62, 63, 64, 65, 66, 67, 68, 69, 70, 71, 72, 73, 74, 75, 76, 77, 78, 79, 80, 81, 82, 83, 84, 85, 86, 87, 88, 89, 90, 91, 92, 93, 94, 95, 96, 97, 98, 170, 171, 172, 173, 174, 175, 176, 177, 178, 179, 180, 181, 182, 183, 184, 185, 186, 187, 188, 189, 190, 197, 198, 199] (by decide +kernel) (by decide +kernel)
set_option maxRecDepth 20000 in
theorem gX5_total_X5_look : GoodIn wsX5_total (wsV RX5 159 RX5 yX5_look wsX5_look) := goodIn_app (goodIn_of _ (by decide +kernel)) ggX5_total_X5_look
set_option maxRecDepth 20000 in
theorem ggX5_total_X2_hidings : GoodIn wsX5_total wsX2_hidings := goodIn_r _ [102, 23, 103, 104, 105, 20, 106, 24, 107, 108, 109, 110, 111, 112, 113, 184, 185, 186, 187, 188, 189, 190] (by decide +kernel) (by decide +kernel)
set_option maxRecDepth 20000 in
theorem gX5_total_X2_hidings : GoodIn wsX5_total (wsV RX5 193 RX2 yX2_hidings wsX2_hidings) := goodIn_app (goodIn_of _ (by decide +kernel)) ggX5_total_X2_hidings
set_option maxRecDepth 20000 in
theorem ggX5_total_X2_boxesInRings : GoodIn wsX5_total wsX2_boxesInRings := goodIn_r _ [117, 23, 118, 119, 120, 20, 121, 48, 53, 54, 55, 184, 185, 186, 187, 188, 189, 190] (by decide +kernel) (by decide +kernel)
set_option maxRecDepth 20000 in
theorem gX5_total_X2_boxesInRings : GoodIn wsX5_total (wsV RX5 199 RX2 yX2_boxesInRings wsX2_boxesInRings) := goodIn_app (goodIn_of _ (by decide +kernel)) ggX5_total_X2_boxesInRings
set_option maxRecDepth 20000 in
theorem ggX5_total_X2_shortestRing : GoodIn wsX5_total wsX2_shortestRing := goodIn_r _ [125, 23, 126, 127, 128, 20, 129, 24, 53, 54, 55, 130, 131, 132, 133, 184, 185, 186, 187, 188, 189, 190] (by decide +kernel) (by decide +kernel)
set_option maxRecDepth 20000 in
theorem gX5_total_X2_shortestRing : GoodIn wsX5_total (wsV RX5 202 RX2 yX2_shortestRing wsX2_shortestRing) := goodIn_app (goodIn_of _ (by decide +kernel)) ggX5_total_X2_shortestRing
set_option maxRecDepth 20000 in
theorem ggX5_total_X2_greatestLayer : GoodIn wsX5_total wsX2_greatestLayer := goodIn_r _ [137, 23, 60, 95, 96, 97, 98, 184, 185, 186, 187, 188, 189, 190] (by decide +kernel) (by decide +kernel)
set_option maxRecDepth 20000 in
theorem gX5_total_X2_greatestLayer : GoodIn wsX5_total (wsV RX5 205 RX2 yX2_greatestLayer wsX2_greatestLayer) := goodIn_app (goodIn_of _ (by decide +kernel)) ggX5_total_X2_greatestLayer
set_option maxRecDepth 20000 in
theorem ggX5_total_X3_volume : GoodIn wsX5_total wsX3_volume := goodIn_r _ [141, 142, 78, 83, 84, 85, 32, 86, 87, 88, 89, 90, 35, 34, 179, 180, 181, 182, 183, 197, 198, 199] (by decide +kernel) (by decide +kernel)
set_option maxRecDepth 20000 in
theorem gX5_total_X3_volume : GoodIn wsX5_total (wsV RX5 211 RX3 yX3_volume wsX3_volume) := goodIn_app (goodIn_of _ (by decide +kernel)) ggX5_total_X3_volume
set_option maxRecDepth 20000 in
theorem ggX5_total_X3_shadow : GoodIn wsX5_total wsX3_shadow := goodIn_r _ [146, 142, 147, 148, 149, 75, 150, 78, 151, 152, 153, 154, 155, 32, 156, 35, 34, 157, 158, 159, 160, 161, 162, 163, 164, 165, 166, 167, 168, 87, 88, 89, 90, 169, 108, 109, 110, 111, 112, 113, 179, 180, 181, 182, 183, 197, 198, 199] (by decide +kernel) (by decide +kernel)
set_option maxRecDepth 20000 in
theorem gX5_total_X3_shadow : GoodIn wsX5_total (wsV RX5 212 RX3 yX3_shadow wsX3_shadow) := goodIn_app (goodIn_of _ (by decide +kernel)) ggX5_total_X3_shadow
theorem dX5_total_0 : decode cX5_total 0 = .ok (.iload_n 1, 1) := by decide +kernel
theorem dX5_total_1 : decode cX5_total 1 = .ok (.tableswitch 171 0 12 #[67, 75, 83, 91, 99, 107, 115, 123, 131, 139, 147, 155, 163], 67) := by decide +kernel
theorem dX5_total_68 : decode cX5_total 68 = .ok (.aload_n 0, 1) := by decide +kernel
theorem dX5_total_69 : decode cX5_total 69 = .ok (.getfield 10, 3) := by decide +kernel
theorem dX5_total_72 : decode cX5_total 72 = .ok (.getfield 118, 3) := by decide +kernel
theorem dX5_total_75 : decode cX5_total 75 = .ok (.ireturn, 1) := by decide +kernel
theorem dX5_total_76 : decode cX5_total 76 = .ok (.aload_n 0, 1) := by decide +kernel
theorem dX5_total_77 : decode cX5_total 77 = .ok (.getfield 10, 3) := by decide +kernel
theorem dX5_total_80 : decode cX5_total 80 = .ok (.getfield 190, 3) := by decide +kernel
theorem dX5_total_83 : decode cX5_total 83 = .ok (.ireturn, 1) := by decide +kernel
theorem dX5_total_84 : decode cX5_total 84 = .ok (.aload_n 0, 1) := by decide +kernel
theorem dX5_total_85 : decode cX5_total 85 = .ok (.invokevirtual 159, 3) := by decide +kernel
theorem dX5_total_88 : decode cX5_total 88 = .ok (.invokevirtual 193, 3) := by decide +kernel
theorem dX5_total_91 : decode cX5_total 91 = .ok (.ireturn, 1) := by decide +kernel
theorem dX5_total_92 : decode cX5_total 92 = .ok (.aload_n 0, 1) := by decide +kernel
theorem dX5_total_93 : decode cX5_total 93 = .ok (.invokevirtual 159, 3) := by decide +kernel
theorem dX5_total_96 : decode cX5_total 96 = .ok (.getfield 196, 3) := by decide +kernel
theorem dX5_total_99 : decode cX5_total 99 = .ok (.ireturn, 1) := by decide +kernel
theorem dX5_total_100 : decode cX5_total 100 = .ok (.aload_n 0, 1) := by decide +kernel
theorem dX5_total_101 : decode cX5_total 101 = .ok (.invokevirtual 159, 3) := by decide +kernel
theorem dX5_total_104 : decode cX5_total 104 = .ok (.invokevirtual 199, 3) := by decide +kernel
end
section
theorem dX5_total_107 : decode cX5_total 107 = .ok (.ireturn, 1) := by decide +kernel
theorem dX5_total_108 : decode cX5_total 108 = .ok (.aload_n 0, 1) := by decide +kernel
theorem dX5_total_109 : decode cX5_total 109 = .ok (.invokevirtual 159, 3) := by decide +kernel
theorem dX5_total_112 : decode cX5_total 112 = .ok (.invokevirtual 202, 3) := by decide +kernel
theorem dX5_total_115 : decode cX5_total 115 = .ok (.ireturn, 1) := by decide +kernel
theorem dX5_total_116 : decode cX5_total 116 = .ok (.aload_n 0, 1) := by decide +kernel
theorem dX5_total_117 : decode cX5_total 117 = .ok (.invokevirtual 159, 3) := by decide +kernel
theorem dX5_total_120 : decode cX5_total 120 = .ok (.invokevirtual 205, 3) := by decide +kernel
theorem dX5_total_123 : decode cX5_total 123 = .ok (.ireturn, 1) := by decide +kernel
theorem dX5_total_124 : decode cX5_total 124 = .ok (.aload_n 0, 1) := by decide +kernel
theorem dX5_total_125 : decode cX5_total 125 = .ok (.getfield 10, 3) := by decide +kernel
theorem dX5_total_128 : decode cX5_total 128 = .ok (.getfield 208, 3) := by decide +kernel
theorem dX5_total_131 : decode cX5_total 131 = .ok (.ireturn, 1) := by decide +kernel
theorem dX5_total_132 : decode cX5_total 132 = .ok (.aload_n 0, 1) := by decide +kernel
theorem dX5_total_133 : decode cX5_total 133 = .ok (.getfield 10, 3) := by decide +kernel
theorem dX5_total_136 : decode cX5_total 136 = .ok (.invokevirtual 211, 3) := by decide +kernel
theorem dX5_total_139 : decode cX5_total 139 = .ok (.ireturn, 1) := by decide +kernel
theorem dX5_total_140 : decode cX5_total 140 = .ok (.aload_n 0, 1) := by decide +kernel
theorem dX5_total_141 : decode cX5_total 141 = .ok (.getfield 10, 3) := by decide +kernel
theorem dX5_total_144 : decode cX5_total 144 = .ok (.invokevirtual 212, 3) := by decide +kernel
theorem dX5_total_147 : decode cX5_total 147 = .ok (.ireturn, 1) := by decide +kernel
theorem dX5_total_148 : decode cX5_total 148 = .ok (.aload_n 0, 1) := by decide +kernel
theorem dX5_total_149 : decode cX5_total 149 = .ok (.getfield 10, 3) := by decide +kernel
theorem dX5_total_152 : decode cX5_total 152 = .ok (.getfield 132, 3) := by decide +kernel
theorem dX5_total_155 : decode cX5_total 155 = .ok (.ireturn, 1) := by decide +kernel
theorem dX5_total_156 : decode cX5_total 156 = .ok (.aload_n 0, 1) := by decide +kernel
theorem dX5_total_157 : decode cX5_total 157 = .ok (.getfield 25, 3) := by decide +kernel
theorem dX5_total_160 : decode cX5_total 160 = .ok (.getfield 152, 3) := by decide +kernel
theorem dX5_total_163 : decode cX5_total 163 = .ok (.ireturn, 1) := by decide +kernel
theorem dX5_total_164 : decode cX5_total 164 = .ok (.aload_n 0, 1) := by decide +kernel
theorem dX5_total_165 : decode cX5_total 165 = .ok (.getfield 32, 3) := by decide +kernel
theorem dX5_total_168 : decode cX5_total 168 = .ok (.getfield 139, 3) := by decide +kernel
theorem dX5_total_171 : decode cX5_total 171 = .ok (.ireturn, 1) := by decide +kernel
theorem dX5_total_172 : decode cX5_total 172 = .ok (.bipush (-2), 2) := by decide +kernel
theorem dX5_total_174 : decode cX5_total 174 = .ok (.ireturn, 1) := by decide +kernel
set_option maxRecDepth 20000 in
theorem ggX5_waitsFor_X3_slotOf : GoodIn wsX5_waitsFor wsX3_slotOf := goodIn_r _ [8, 9, 10, 11, 111, 112, 113, 114, 115, 116, 117, 118] (by decide +kernel) (by decide +kernel)
set_option maxRecDepth 20000 in
theorem gX5_waitsFor_X3_slotOf : GoodIn wsX5_waitsFor (wsV RX5 68 RX3 yX3_slotOf wsX3_slotOf) := goodIn_app (goodIn_of _ (by decide +kernel)) ggX5_waitsFor_X3_slotOf
set_option maxRecDepth 20000 in
theorem ggX5_waitsFor_X5_look : GoodIn wsX5_waitsFor wsX5_look := goodIn_r _ [16, 17, 1, 18, 19, 20, 21, 22, 23, 24, 25, 26, 27, 28, 29, 30, 31, 32, 33, 34, 35, 36, 37, 38, 39, 40, 41, 42, 43, 44, 45, 46, 47, 48, 49, 50, 51, 52, 53, 54, 55, 56, 57, 58, 59, 60, 61, 62, 63, 64, 65, 66, 67, 68, 69, 70, 71, 72, 73, 74, 75, 7, 76, 77, 10, 78, 79, 80, 81, 82, 83, 84, 85, 86, 87, 88, 89, 90, 91, 92, 93, 94, 95, 96, 97, 102, 103, 104, 105, 106, 107, 108, 109, 110, 111, 112, 113, 114, 115, 119, 120, 121, 122, 123, 124, 125, 116, 117, 118] (by decide +kernel) (by decide +kernel)
set_option maxRecDepth 20000 in
theorem gX5_waitsFor_X5_look : GoodIn wsX5_waitsFor (wsV RX5 159 RX5 yX5_look wsX5_look) := goodIn_app (goodIn_of _ (by decide +kernel)) ggX5_waitsFor_X5_look
set_option maxRecDepth 20000 in
theorem ggX5_waitsFor_X2_firstNotDrawnUnder : GoodIn wsX5_waitsFor wsX2_firstNotDrawnUnder := goodIn_r _ [101, 24, 25, 62, 54, 55, 21, 56, 119, 120, 121, 122, 123, 124, 125] (by decide +kernel) (by decide +kernel)
set_option maxRecDepth 20000 in
theorem gX5_waitsFor_X2_firstNotDrawnUnder : GoodIn wsX5_waitsFor (wsV RX5 215 RX2 yX2_firstNotDrawnUnder wsX2_firstNotDrawnUnder) := goodIn_app (goodIn_of _ (by decide +kernel)) ggX5_waitsFor_X2_firstNotDrawnUnder
theorem dX5_waitsFor_0 : decode cX5_waitsFor 0 = .ok (.aload_n 0, 1) := by decide +kernel
theorem dX5_waitsFor_1 : decode cX5_waitsFor 1 = .ok (.getfield 10, 3) := by decide +kernel
theorem dX5_waitsFor_4 : decode cX5_waitsFor 4 = .ok (.iload_n 1, 1) := by decide +kernel
theorem dX5_waitsFor_5 : decode cX5_waitsFor 5 = .ok (.invokevirtual 68, 3) := by decide +kernel
theorem dX5_waitsFor_8 : decode cX5_waitsFor 8 = .ok (.istore_n 2, 1) := by decide +kernel
theorem dX5_waitsFor_9 : decode cX5_waitsFor 9 = .ok (.iload_n 2, 1) := by decide +kernel
theorem dX5_waitsFor_10 : decode cX5_waitsFor 10 = .ok (.iconst (-1), 1) := by decide +kernel
theorem dX5_waitsFor_11 : decode cX5_waitsFor 11 = .ok (.if_icmp .ne 5, 3) := by decide +kernel
theorem dX5_waitsFor_14 : decode cX5_waitsFor 14 = .ok (.iconst (-1), 1) := by decide +kernel
theorem dX5_waitsFor_15 : decode cX5_waitsFor 15 = .ok (.ireturn, 1) := by decide +kernel
theorem dX5_waitsFor_16 : decode cX5_waitsFor 16 = .ok (.aload_n 0, 1) := by decide +kernel
theorem dX5_waitsFor_17 : decode cX5_waitsFor 17 = .ok (.invokevirtual 159, 3) := by decide +kernel
theorem dX5_waitsFor_20 : decode cX5_waitsFor 20 = .ok (.iload_n 2, 1) := by decide +kernel
theorem dX5_waitsFor_21 : decode cX5_waitsFor 21 = .ok (.invokevirtual 215, 3) := by decide +kernel
theorem dX5_waitsFor_24 : decode cX5_waitsFor 24 = .ok (.istore_n 3, 1) := by decide +kernel
theorem dX5_waitsFor_25 : decode cX5_waitsFor 25 = .ok (.iload_n 3, 1) := by decide +kernel
theorem dX5_waitsFor_26 : decode cX5_waitsFor 26 = .ok (.iconst (-1), 1) := by decide +kernel
theorem dX5_waitsFor_27 : decode cX5_waitsFor 27 = .ok (.if_icmp .ne 8, 3) := by decide +kernel
theorem dX5_waitsFor_30 : decode cX5_waitsFor 30 = .ok (.bipush (-5), 2) := by decide +kernel
theorem dX5_waitsFor_32 : decode cX5_waitsFor 32 = .ok (.goto 15, 3) := by decide +kernel
theorem dX5_waitsFor_35 : decode cX5_waitsFor 35 = .ok (.aload_n 0, 1) := by decide +kernel
theorem dX5_waitsFor_36 : decode cX5_waitsFor 36 = .ok (.getfield 10, 3) := by decide +kernel
theorem dX5_waitsFor_39 : decode cX5_waitsFor 39 = .ok (.getfield 72, 3) := by decide +kernel
theorem dX5_waitsFor_42 : decode cX5_waitsFor 42 = .ok (.iload_n 3, 1) := by decide +kernel
theorem dX5_waitsFor_43 : decode cX5_waitsFor 43 = .ok (.aaload, 1) := by decide +kernel
theorem dX5_waitsFor_44 : decode cX5_waitsFor 44 = .ok (.getfield 156, 3) := by decide +kernel
theorem dX5_waitsFor_47 : decode cX5_waitsFor 47 = .ok (.ireturn, 1) := by decide +kernel
set_option maxRecDepth 20000 in
theorem ggX5_breaks_X3_copyFrom : GoodIn wsX5_breaks wsX3_copyFrom := goodIn_r _ [7, 8, 9, 10, 11, 12, 13, 14, 15, 16, 17, 18, 19, 20, 21, 22, 23, 24, 145, 146, 147, 148, 149, 150, 151, 152] (by decide +kernel) (by decide +kernel)
set_option maxRecDepth 20000 in
theorem gX5_breaks_X3_copyFrom : GoodIn wsX5_breaks (wsV RX5 57 RX3 yX3_copyFrom wsX3_copyFrom) := goodIn_app (goodIn_of _ (by decide +kernel)) ggX5_breaks_X3_copyFrom
set_option maxRecDepth 20000 in
theorem ggX5_breaks_X5_breakOne : GoodIn wsX5_breaks wsX5_breakOne := goodIn_r _ [29, 30, 31, 32, 33, 34, 35, 36, 37, 38, 39, 40, 41, 42, 43, 44, 45, 46, 47, 16, 48, 19, 24, 49, 50, 51, 52, 53, 54, 55, 56, 57, 58, 59, 60, 61, 62, 21, 22, 23, 63, 64, 65, 66, 67, 68, 69, 70, 71, 72, 73, 74, 75, 76, 77, 78, 79, 80, 81, 82, 83, 84, 6, 85, 11, 12, 86, 87, 88, 89, 90, 91, 92, 93, 94, 95, 96, 97, 98, 99, 100, 101, 102, 103, 104, 105, 106, 107, 108, 109, 110, 111, 112, 113, 114, 115, 116, 117, 118, 119, 120, 121, 122, 123, 8, 124, 125, 126, 127, 128, 129, 10, 130, 131, 132, 133, 9, 134, 135, 13, 14, 15, 17, 18, 20, 136, 137, 138, 139, 140, 141, 142, 143, 144, 145, 146, 147, 148, 149, 150, 151, 152, 153, 154, 155, 156, 157, 158, 159] (by decide +kernel) (by decide +kernel)
set_option maxRecDepth 20000 in
theorem gX5_breaks_X5_breakOne : GoodIn wsX5_breaks (wsV RX5 114 RX5 yX5_breakOne wsX5_breakOne) := goodIn_app (goodIn_of _ (by decide +kernel)) ggX5_breaks_X5_breakOne
theorem dX5_breaks_0 : decode cX5_breaks 0 = .ok (.aload_n 0, 1) := by decide +kernel
theorem dX5_breaks_1 : decode cX5_breaks 1 = .ok (.getfield 16, 3) := by decide +kernel
theorem dX5_breaks_4 : decode cX5_breaks 4 = .ok (.aload_n 0, 1) := by decide +kernel
theorem dX5_breaks_5 : decode cX5_breaks 5 = .ok (.getfield 10, 3) := by decide +kernel
theorem dX5_breaks_8 : decode cX5_breaks 8 = .ok (.invokevirtual 57, 3) := by decide +kernel
theorem dX5_breaks_11 : decode cX5_breaks 11 = .ok (.iconst 0, 1) := by decide +kernel
theorem dX5_breaks_12 : decode cX5_breaks 12 = .ok (.istore_n 1, 1) := by decide +kernel
theorem dX5_breaks_13 : decode cX5_breaks 13 = .ok (.iload_n 1, 1) := by decide +kernel
theorem dX5_breaks_14 : decode cX5_breaks 14 = .ok (.bipush 16, 2) := by decide +kernel
theorem dX5_breaks_16 : decode cX5_breaks 16 = .ok (.if_icmp .gt 32, 3) := by decide +kernel
theorem dX5_breaks_19 : decode cX5_breaks 19 = .ok (.aload_n 0, 1) := by decide +kernel
theorem dX5_breaks_20 : decode cX5_breaks 20 = .ok (.aload_n 0, 1) := by decide +kernel
theorem dX5_breaks_21 : decode cX5_breaks 21 = .ok (.getfield 16, 3) := by decide +kernel
theorem dX5_breaks_24 : decode cX5_breaks 24 = .ok (.invokevirtual 114, 3) := by decide +kernel
theorem dX5_breaks_27 : decode cX5_breaks 27 = .ok (.istore_n 2, 1) := by decide +kernel
theorem dX5_breaks_28 : decode cX5_breaks 28 = .ok (.iload_n 2, 1) := by decide +kernel
theorem dX5_breaks_29 : decode cX5_breaks 29 = .ok (.bipush (-5), 2) := by decide +kernel
theorem dX5_breaks_31 : decode cX5_breaks 31 = .ok (.if_icmp .ne 5, 3) := by decide +kernel
theorem dX5_breaks_34 : decode cX5_breaks 34 = .ok (.iload_n 1, 1) := by decide +kernel
theorem dX5_breaks_35 : decode cX5_breaks 35 = .ok (.ireturn, 1) := by decide +kernel
theorem dX5_breaks_36 : decode cX5_breaks 36 = .ok (.iload_n 2, 1) := by decide +kernel
theorem dX5_breaks_37 : decode cX5_breaks 37 = .ok (.ifCond .ge 5, 3) := by decide +kernel
theorem dX5_breaks_40 : decode cX5_breaks 40 = .ok (.iload_n 2, 1) := by decide +kernel
theorem dX5_breaks_41 : decode cX5_breaks 41 = .ok (.ireturn, 1) := by decide +kernel
theorem dX5_breaks_42 : decode cX5_breaks 42 = .ok (.iinc 1 1, 3) := by decide +kernel
theorem dX5_breaks_45 : decode cX5_breaks 45 = .ok (.goto (-32), 3) := by decide +kernel
theorem dX5_breaks_48 : decode cX5_breaks 48 = .ok (.bipush (-3), 2) := by decide +kernel
theorem dX5_breaks_50 : decode cX5_breaks 50 = .ok (.ireturn, 1) := by decide +kernel
set_option maxRecDepth 20000 in
theorem ggX5_drawnWithout_X3_slotOf : GoodIn wsX5_drawnWithout wsX3_slotOf := goodIn_r _ [9, 10, 11, 12, 125, 126, 127, 128, 129, 130, 131, 132] (by decide +kernel) (by decide +kernel)
set_option maxRecDepth 20000 in
theorem gX5_drawnWithout_X3_slotOf : GoodIn wsX5_drawnWithout (wsV RX5 68 RX3 yX3_slotOf wsX3_slotOf) := goodIn_app (goodIn_of _ (by decide +kernel)) ggX5_drawnWithout_X3_slotOf
set_option maxRecDepth 20000 in
theorem ggX5_drawnWithout_X3_copyFrom : GoodIn wsX5_drawnWithout wsX3_copyFrom := goodIn_r _ [16, 10, 17, 18, 19, 11, 20, 21, 22, 23, 24, 25, 26, 27, 28, 29, 30, 31, 125, 126, 127, 128, 129, 130, 131, 132] (by decide +kernel) (by decide +kernel)
set_option maxRecDepth 20000 in
theorem gX5_drawnWithout_X3_copyFrom : GoodIn wsX5_drawnWithout (wsV RX5 57 RX3 yX3_copyFrom wsX3_copyFrom) := goodIn_app (goodIn_of _ (by decide +kernel)) ggX5_drawnWithout_X3_copyFrom
set_option maxRecDepth 20000 in
theorem ggX5_drawnWithout_X3_takeOut : GoodIn wsX5_drawnWithout wsX3_takeOut := goodIn_r _ [35, 10, 11, 20, 21, 22, 23, 24, 25, 26, 27, 28, 29, 30, 31, 125, 126, 127, 128, 129, 130, 131, 132] (by decide +kernel) (by decide +kernel)
set_option maxRecDepth 20000 in
theorem gX5_drawnWithout_X3_takeOut : GoodIn wsX5_drawnWithout (wsV RX5 80 RX3 yX3_takeOut wsX3_takeOut) := goodIn_app (goodIn_of _ (by decide +kernel)) ggX5_drawnWithout_X3_takeOut
set_option maxRecDepth 20000 in
theorem ggX5_drawnWithout_X2_look : GoodIn wsX5_drawnWithout wsX2_look := goodIn_r _ [40, 41, 42, 43, 44, 45, 39, 46, 47, 48, 49, 50, 23, 51, 26, 31, 52, 53, 54, 55, 56, 57, 58, 59, 60, 61, 62, 63, 64, 65, 28, 29, 30, 66, 67, 68, 69, 70, 71, 72, 73, 74, 75, 76, 77, 78, 79, 80, 81, 82, 83, 84, 85, 86, 87, 8, 88, 19, 11, 89, 90, 91, 92, 93, 94, 95, 96, 97, 98, 99, 100, 101, 102, 103, 104, 105, 106, 107, 108, 125, 126, 127, 128, 129, 118, 119, 120, 121, 122, 123, 124, 130, 131, 132] (by decide +kernel) (by decide +kernel)
set_option maxRecDepth 20000 in
theorem gX5_drawnWithout_X2_look : GoodIn wsX5_drawnWithout (wsV RX5 125 RX2 yX2_look wsX2_look) := goodIn_app (goodIn_of _ (by decide +kernel)) ggX5_drawnWithout_X2_look
theorem dX5_drawnWithout_0 : decode cX5_drawnWithout 0 = .ok (.aload_n 0, 1) := by decide +kernel
theorem dX5_drawnWithout_1 : decode cX5_drawnWithout 1 = .ok (.getfield 10, 3) := by decide +kernel
theorem dX5_drawnWithout_4 : decode cX5_drawnWithout 4 = .ok (.iload_n 1, 1) := by decide +kernel
theorem dX5_drawnWithout_5 : decode cX5_drawnWithout 5 = .ok (.invokevirtual 68, 3) := by decide +kernel
theorem dX5_drawnWithout_8 : decode cX5_drawnWithout 8 = .ok (.istore_n 2, 1) := by decide +kernel
theorem dX5_drawnWithout_9 : decode cX5_drawnWithout 9 = .ok (.iload_n 2, 1) := by decide +kernel
theorem dX5_drawnWithout_10 : decode cX5_drawnWithout 10 = .ok (.iconst (-1), 1) := by decide +kernel
theorem dX5_drawnWithout_11 : decode cX5_drawnWithout 11 = .ok (.if_icmp .ne 5, 3) := by decide +kernel
theorem dX5_drawnWithout_14 : decode cX5_drawnWithout 14 = .ok (.iconst (-1), 1) := by decide +kernel
theorem dX5_drawnWithout_15 : decode cX5_drawnWithout 15 = .ok (.ireturn, 1) := by decide +kernel
theorem dX5_drawnWithout_16 : decode cX5_drawnWithout 16 = .ok (.aload_n 0, 1) := by decide +kernel
theorem dX5_drawnWithout_17 : decode cX5_drawnWithout 17 = .ok (.getfield 16, 3) := by decide +kernel
theorem dX5_drawnWithout_20 : decode cX5_drawnWithout 20 = .ok (.aload_n 0, 1) := by decide +kernel
theorem dX5_drawnWithout_21 : decode cX5_drawnWithout 21 = .ok (.getfield 10, 3) := by decide +kernel
theorem dX5_drawnWithout_24 : decode cX5_drawnWithout 24 = .ok (.invokevirtual 57, 3) := by decide +kernel
theorem dX5_drawnWithout_27 : decode cX5_drawnWithout 27 = .ok (.aload_n 0, 1) := by decide +kernel
theorem dX5_drawnWithout_28 : decode cX5_drawnWithout 28 = .ok (.getfield 16, 3) := by decide +kernel
theorem dX5_drawnWithout_31 : decode cX5_drawnWithout 31 = .ok (.iload_n 2, 1) := by decide +kernel
theorem dX5_drawnWithout_32 : decode cX5_drawnWithout 32 = .ok (.invokevirtual 80, 3) := by decide +kernel
theorem dX5_drawnWithout_35 : decode cX5_drawnWithout 35 = .ok (.aload_n 0, 1) := by decide +kernel
theorem dX5_drawnWithout_36 : decode cX5_drawnWithout 36 = .ok (.getfield 39, 3) := by decide +kernel
theorem dX5_drawnWithout_39 : decode cX5_drawnWithout 39 = .ok (.aload_n 0, 1) := by decide +kernel
theorem dX5_drawnWithout_40 : decode cX5_drawnWithout 40 = .ok (.getfield 16, 3) := by decide +kernel
theorem dX5_drawnWithout_43 : decode cX5_drawnWithout 43 = .ok (.invokevirtual 125, 3) := by decide +kernel
theorem dX5_drawnWithout_46 : decode cX5_drawnWithout 46 = .ok (.aload_n 0, 1) := by decide +kernel
theorem dX5_drawnWithout_47 : decode cX5_drawnWithout 47 = .ok (.getfield 39, 3) := by decide +kernel
theorem dX5_drawnWithout_50 : decode cX5_drawnWithout 50 = .ok (.getfield 196, 3) := by decide +kernel
theorem dX5_drawnWithout_53 : decode cX5_drawnWithout 53 = .ok (.ireturn, 1) := by decide +kernel
theorem dX5_isDirection_0 : decode cX5_isDirection 0 = .ok (.iload_n 0, 1) := by decide +kernel
theorem dX5_isDirection_1 : decode cX5_isDirection 1 = .ok (.ifCond .lt 12, 3) := by decide +kernel
theorem dX5_isDirection_4 : decode cX5_isDirection 4 = .ok (.iload_n 0, 1) := by decide +kernel
theorem dX5_isDirection_5 : decode cX5_isDirection 5 = .ok (.iconst 3, 1) := by decide +kernel
theorem dX5_isDirection_6 : decode cX5_isDirection 6 = .ok (.if_icmp .ge 7, 3) := by decide +kernel
theorem dX5_isDirection_9 : decode cX5_isDirection 9 = .ok (.iconst 1, 1) := by decide +kernel
theorem dX5_isDirection_10 : decode cX5_isDirection 10 = .ok (.goto 4, 3) := by decide +kernel
theorem dX5_isDirection_13 : decode cX5_isDirection 13 = .ok (.iconst 0, 1) := by decide +kernel
theorem dX5_isDirection_14 : decode cX5_isDirection 14 = .ok (.ireturn, 1) := by decide +kernel
set_option maxRecDepth 20000 in
theorem ggX5_look_X2_look : GoodIn wsX5_look wsX2_look := goodIn_r _ [7, 8, 9, 10, 11, 12, 6, 13, 14, 15, 16, 17, 18, 19, 20, 21, 22, 23, 24, 25, 26, 27, 28, 29, 30, 31, 32, 33, 34, 35, 36, 37, 38, 39, 40, 41, 42, 43, 44, 45, 46, 47, 48, 49, 50, 51, 52, 53, 54, 55, 56, 57, 58, 59, 60, 61, 62, 63, 64, 65, 66, 67, 68, 69, 70, 71, 72, 73, 74, 75, 76, 77, 78, 79, 80, 81, 82, 83, 84, 94, 95, 96, 97, 98, 99, 100, 101, 102, 103, 104, 105, 106, 107, 108] (by decide +kernel) (by decide +kernel)
set_option maxRecDepth 20000 in
theorem gX5_look_X2_look : GoodIn wsX5_look (wsV RX5 125 RX2 yX2_look wsX2_look) := goodIn_app (goodIn_of _ (by decide +kernel)) ggX5_look_X2_look
theorem dX5_look_0 : decode cX5_look 0 = .ok (.aload_n 0, 1) := by decide +kernel
theorem dX5_look_1 : decode cX5_look 1 = .ok (.getfield 39, 3) := by decide +kernel
theorem dX5_look_4 : decode cX5_look 4 = .ok (.aload_n 0, 1) := by decide +kernel
theorem dX5_look_5 : decode cX5_look 5 = .ok (.getfield 10, 3) := by decide +kernel
theorem dX5_look_8 : decode cX5_look 8 = .ok (.invokevirtual 125, 3) := by decide +kernel
theorem dX5_look_11 : decode cX5_look 11 = .ok (.aload_n 0, 1) := by decide +kernel
theorem dX5_look_12 : decode cX5_look 12 = .ok (.getfield 39, 3) := by decide +kernel
theorem dX5_look_15 : decode cX5_look 15 = .ok (.areturn, 1) := by decide +kernel
set_option maxRecDepth 20000 in
theorem ggX5_adoptTrial_X1_remember : GoodIn wsX5_adoptTrial wsX1_remember := goodIn_r _ [8, 9, 10, 11, 12, 13, 7, 14, 15, 16, 17, 18, 19, 20, 21, 22, 23, 24, 25, 26, 27, 28, 29, 30, 31, 32, 33, 34, 35, 36, 47, 48, 49, 50, 51, 52, 53, 54, 55, 56] (by decide +kernel) (by decide +kernel)
set_option maxRecDepth 20000 in
theorem gX5_adoptTrial_X1_remember : GoodIn wsX5_adoptTrial (wsV RX5 218 RX1 yX1_remember wsX1_remember) := goodIn_app (goodIn_of _ (by decide +kernel)) ggX5_adoptTrial_X1_remember
set_option maxRecDepth 20000 in
theorem ggX5_adoptTrial_X3_copyFrom : GoodIn wsX5_adoptTrial wsX3_copyFrom := goodIn_r _ [19, 20, 21, 22, 23, 24, 25, 26, 27, 28, 29, 30, 31, 32, 33, 34, 35, 36, 49, 50, 51, 52, 53, 54, 55, 56] (by decide +kernel) (by decide +kernel)
set_option maxRecDepth 20000 in
theorem gX5_adoptTrial_X3_copyFrom : GoodIn wsX5_adoptTrial (wsV RX5 57 RX3 yX3_copyFrom wsX3_copyFrom) := goodIn_app (goodIn_of _ (by decide +kernel)) ggX5_adoptTrial_X3_copyFrom
theorem dX5_adoptTrial_0 : decode cX5_adoptTrial 0 = .ok (.aload_n 0, 1) := by decide +kernel
theorem dX5_adoptTrial_1 : decode cX5_adoptTrial 1 = .ok (.getfield 25, 3) := by decide +kernel
theorem dX5_adoptTrial_4 : decode cX5_adoptTrial 4 = .ok (.aload_n 0, 1) := by decide +kernel
theorem dX5_adoptTrial_5 : decode cX5_adoptTrial 5 = .ok (.getfield 10, 3) := by decide +kernel
theorem dX5_adoptTrial_8 : decode cX5_adoptTrial 8 = .ok (.invokevirtual 218, 3) := by decide +kernel
theorem dX5_adoptTrial_11 : decode cX5_adoptTrial 11 = .ok (.aload_n 0, 1) := by decide +kernel
theorem dX5_adoptTrial_12 : decode cX5_adoptTrial 12 = .ok (.getfield 10, 3) := by decide +kernel
theorem dX5_adoptTrial_15 : decode cX5_adoptTrial 15 = .ok (.aload_n 0, 1) := by decide +kernel
theorem dX5_adoptTrial_16 : decode cX5_adoptTrial 16 = .ok (.getfield 16, 3) := by decide +kernel
theorem dX5_adoptTrial_19 : decode cX5_adoptTrial 19 = .ok (.invokevirtual 57, 3) := by decide +kernel
theorem dX5_adoptTrial_22 : decode cX5_adoptTrial 22 = .ok (.return_, 1) := by decide +kernel
set_option maxRecDepth 20000 in
theorem ggX5_enter_X0_lay : GoodIn wsX5_enter wsX0_lay := goodIn_r _ [6, 7, 8, 53, 54, 55] (by decide +kernel) (by decide +kernel)
set_option maxRecDepth 20000 in
theorem gX5_enter_X0_lay : GoodIn wsX5_enter (wsV RX5 221 RX0 yX0_lay wsX0_lay) := goodIn_app (goodIn_of _ (by decide +kernel)) ggX5_enter_X0_lay
set_option maxRecDepth 20000 in
theorem ggX5_enter_X3_isCutBy : GoodIn wsX5_enter wsX3_isCutBy := goodIn_r _ [13, 14, 15, 16, 17, 18, 5, 19, 20, 21, 22, 23, 7, 8, 56, 57, 58, 59, 60, 53, 54, 55] (by decide +kernel) (by decide +kernel)
set_option maxRecDepth 20000 in
theorem gX5_enter_X3_isCutBy : GoodIn wsX5_enter (wsV RX5 99 RX3 yX3_isCutBy wsX3_isCutBy) := goodIn_app (goodIn_of _ (by decide +kernel)) ggX5_enter_X3_isCutBy
set_option maxRecDepth 20000 in
theorem ggX5_enter_X3_isFull : GoodIn wsX5_enter wsX3_isFull := goodIn_r _ [27, 14, 56, 57, 58, 59, 60] (by decide +kernel) (by decide +kernel)
set_option maxRecDepth 20000 in
theorem gX5_enter_X3_isFull : GoodIn wsX5_enter (wsV RX5 106 RX3 yX3_isFull wsX3_isFull) := goodIn_app (goodIn_of _ (by decide +kernel)) ggX5_enter_X3_isFull
set_option maxRecDepth 20000 in
theorem ggX5_enter_X3_append : GoodIn wsX5_enter wsX3_append := goodIn_r _ [31, 15, 14, 32, 33, 34, 25, 26, 12, 27, 35, 36, 37, 5, 38, 39, 7, 40, 41, 42, 43, 8, 56, 57, 58, 59, 60, 53, 54, 55] (by decide +kernel) (by decide +kernel)
set_option maxRecDepth 20000 in
theorem gX5_enter_X3_append : GoodIn wsX5_enter (wsV RX5 225 RX3 yX3_append wsX3_append) := goodIn_app (goodIn_of _ (by decide +kernel)) ggX5_enter_X3_append
theorem dX5_enter_0 : decode cX5_enter 0 = .ok (.aload_n 0, 1) := by decide +kernel
theorem dX5_enter_1 : decode cX5_enter 1 = .ok (.getfield 49, 3) := by decide +kernel
theorem dX5_enter_4 : decode cX5_enter 4 = .ok (.iconst 0, 1) := by decide +kernel
theorem dX5_enter_5 : decode cX5_enter 5 = .ok (.iload_n 2, 1) := by decide +kernel
theorem dX5_enter_6 : decode cX5_enter 6 = .ok (.iload 5, 2) := by decide +kernel
theorem dX5_enter_8 : decode cX5_enter 8 = .ok (.invokevirtual 221, 3) := by decide +kernel
theorem dX5_enter_11 : decode cX5_enter 11 = .ok (.ifCond .eq 36, 3) := by decide +kernel
theorem dX5_enter_14 : decode cX5_enter 14 = .ok (.aload_n 0, 1) := by decide +kernel
theorem dX5_enter_15 : decode cX5_enter 15 = .ok (.getfield 49, 3) := by decide +kernel
theorem dX5_enter_18 : decode cX5_enter 18 = .ok (.iconst 1, 1) := by decide +kernel
theorem dX5_enter_19 : decode cX5_enter 19 = .ok (.iload_n 3, 1) := by decide +kernel
theorem dX5_enter_20 : decode cX5_enter 20 = .ok (.iload 6, 2) := by decide +kernel
theorem dX5_enter_22 : decode cX5_enter 22 = .ok (.invokevirtual 221, 3) := by decide +kernel
theorem dX5_enter_25 : decode cX5_enter 25 = .ok (.ifCond .eq 22, 3) := by decide +kernel
theorem dX5_enter_28 : decode cX5_enter 28 = .ok (.aload_n 0, 1) := by decide +kernel
theorem dX5_enter_29 : decode cX5_enter 29 = .ok (.getfield 49, 3) := by decide +kernel
theorem dX5_enter_32 : decode cX5_enter 32 = .ok (.iconst 2, 1) := by decide +kernel
theorem dX5_enter_33 : decode cX5_enter 33 = .ok (.iload 4, 2) := by decide +kernel
theorem dX5_enter_35 : decode cX5_enter 35 = .ok (.iload 7, 2) := by decide +kernel
theorem dX5_enter_37 : decode cX5_enter 37 = .ok (.invokevirtual 221, 3) := by decide +kernel
theorem dX5_enter_40 : decode cX5_enter 40 = .ok (.ifCond .eq 7, 3) := by decide +kernel
theorem dX5_enter_43 : decode cX5_enter 43 = .ok (.iconst 1, 1) := by decide +kernel
theorem dX5_enter_44 : decode cX5_enter 44 = .ok (.goto 4, 3) := by decide +kernel
theorem dX5_enter_47 : decode cX5_enter 47 = .ok (.iconst 0, 1) := by decide +kernel
theorem dX5_enter_48 : decode cX5_enter 48 = .ok (.istore 8, 2) := by decide +kernel
theorem dX5_enter_50 : decode cX5_enter 50 = .ok (.iload 8, 2) := by decide +kernel
theorem dX5_enter_52 : decode cX5_enter 52 = .ok (.ifCond .ne 6, 3) := by decide +kernel
theorem dX5_enter_55 : decode cX5_enter 55 = .ok (.bipush (-2), 2) := by decide +kernel
theorem dX5_enter_57 : decode cX5_enter 57 = .ok (.ireturn, 1) := by decide +kernel
theorem dX5_enter_58 : decode cX5_enter 58 = .ok (.aload_n 1, 1) := by decide +kernel
theorem dX5_enter_59 : decode cX5_enter 59 = .ok (.aload_n 0, 1) := by decide +kernel
theorem dX5_enter_60 : decode cX5_enter 60 = .ok (.getfield 49, 3) := by decide +kernel
theorem dX5_enter_63 : decode cX5_enter 63 = .ok (.iconst (-1), 1) := by decide +kernel
theorem dX5_enter_64 : decode cX5_enter 64 = .ok (.invokevirtual 99, 3) := by decide +kernel
theorem dX5_enter_67 : decode cX5_enter 67 = .ok (.ifCond .eq 6, 3) := by decide +kernel
theorem dX5_enter_70 : decode cX5_enter 70 = .ok (.bipush (-4), 2) := by decide +kernel
theorem dX5_enter_72 : decode cX5_enter 72 = .ok (.ireturn, 1) := by decide +kernel
theorem dX5_enter_73 : decode cX5_enter 73 = .ok (.aload_n 1, 1) := by decide +kernel
theorem dX5_enter_74 : decode cX5_enter 74 = .ok (.invokevirtual 106, 3) := by decide +kernel
theorem dX5_enter_77 : decode cX5_enter 77 = .ok (.ifCond .eq 8, 3) := by decide +kernel
theorem dX5_enter_80 : decode cX5_enter 80 = .ok (.bipush (-3), 2) := by decide +kernel
theorem dX5_enter_82 : decode cX5_enter 82 = .ok (.goto 11, 3) := by decide +kernel
theorem dX5_enter_85 : decode cX5_enter 85 = .ok (.aload_n 1, 1) := by decide +kernel
theorem dX5_enter_86 : decode cX5_enter 86 = .ok (.aload_n 0, 1) := by decide +kernel
theorem dX5_enter_87 : decode cX5_enter 87 = .ok (.getfield 49, 3) := by decide +kernel
theorem dX5_enter_90 : decode cX5_enter 90 = .ok (.invokevirtual 225, 3) := by decide +kernel
theorem dX5_enter_93 : decode cX5_enter 93 = .ok (.ireturn, 1) := by decide +kernel
set_option maxRecDepth 20000 in
theorem ggX5_breakOne_X2_look : GoodIn wsX5_breakOne wsX2_look := goodIn_r _ [8, 9, 10, 11, 12, 13, 7, 14, 15, 16, 17, 18, 19, 20, 21, 22, 23, 24, 25, 26, 27, 28, 29, 30, 31, 32, 33, 34, 35, 36, 37, 38, 39, 40, 41, 42, 43, 44, 45, 46, 47, 48, 49, 50, 51, 52, 53, 54, 55, 56, 57, 58, 59, 60, 61, 62, 63, 64, 65, 66, 67, 68, 69, 70, 71, 72, 73, 74, 75, 76, 77, 78, 79, 80, 81, 82, 83, 84, 85, 134, 135, 136, 137, 138, 142, 143, 144, 145, 146, 147, 148, 139, 140, 141] (by decide +kernel) (by decide +kernel)
set_option maxRecDepth 20000 in
theorem gX5_breakOne_X2_look : GoodIn wsX5_breakOne (wsV RX5 125 RX2 yX2_look wsX2_look) := goodIn_app (goodIn_of _ (by decide +kernel)) ggX5_breakOne_X2_look
set_option maxRecDepth 20000 in
theorem ggX5_breakOne_X2_greatestInRings : GoodIn wsX5_breakOne wsX2_greatestInRings := goodIn_r _ [89, 10, 15, 90, 91, 92, 7, 93, 35, 40, 41, 42, 94, 71, 72, 19, 73, 74, 75, 76, 77, 22, 21, 142, 143, 144, 145, 146, 147, 148, 134, 135, 136, 137, 138, 139, 140, 141] (by decide +kernel) (by decide +kernel)
set_option maxRecDepth 20000 in
theorem gX5_breakOne_X2_greatestInRings : GoodIn wsX5_breakOne (wsV RX5 227 RX2 yX2_greatestInRings wsX2_greatestInRings) := goodIn_app (goodIn_of _ (by decide +kernel)) ggX5_breakOne_X2_greatestInRings
set_option maxRecDepth 20000 in
theorem ggX5_breakOne_X0_longestDirection : GoodIn wsX5_breakOne wsX0_longestDirection := goodIn_r _ [98, 74, 75, 76, 19, 77, 22, 21, 139, 140, 141] (by decide +kernel) (by decide +kernel)
set_option maxRecDepth 20000 in
theorem gX5_breakOne_X0_longestDirection : GoodIn wsX5_breakOne (wsV RX5 230 RX0 yX0_longestDirection wsX0_longestDirection) := goodIn_app (goodIn_of _ (by decide +kernel)) ggX5_breakOne_X0_longestDirection
set_option maxRecDepth 20000 in
theorem ggX5_breakOne_X0_size : GoodIn wsX5_breakOne wsX0_size := goodIn_r _ [77, 22, 21, 139, 140, 141] (by decide +kernel) (by decide +kernel)
set_option maxRecDepth 20000 in
theorem gX5_breakOne_X0_size : GoodIn wsX5_breakOne (wsV RX5 233 RX0 yX0_size wsX0_size) := goodIn_app (goodIn_of _ (by decide +kernel)) ggX5_breakOne_X0_size
set_option maxRecDepth 20000 in
theorem ggX5_breakOne_X3_isFull : GoodIn wsX5_breakOne wsX3_isFull := goodIn_r _ [103, 104, 134, 135, 136, 137, 138] (by decide +kernel) (by decide +kernel)
set_option maxRecDepth 20000 in
theorem gX5_breakOne_X3_isFull : GoodIn wsX5_breakOne (wsV RX5 106 RX3 yX3_isFull wsX3_isFull) := goodIn_app (goodIn_of _ (by decide +kernel)) ggX5_breakOne_X3_isFull
set_option maxRecDepth 20000 in
theorem ggX5_breakOne_X3_cutInTwo : GoodIn wsX5_breakOne wsX3_cutInTwo := goodIn_r _ [108, 65, 104, 109, 110, 111, 112, 113, 114, 62, 115, 116, 117, 118, 101, 102, 103, 119, 120, 121, 19, 122, 123, 21, 124, 37, 38, 39, 22, 134, 135, 136, 137, 138, 139, 140, 141] (by decide +kernel) (by decide +kernel)
set_option maxRecDepth 20000 in
theorem gX5_breakOne_X3_cutInTwo : GoodIn wsX5_breakOne (wsV RX5 110 RX3 yX3_cutInTwo wsX3_cutInTwo) := goodIn_app (goodIn_of _ (by decide +kernel)) ggX5_breakOne_X3_cutInTwo
theorem dX5_breakOne_0 : decode cX5_breakOne 0 = .ok (.aload_n 0, 1) := by decide +kernel
theorem dX5_breakOne_1 : decode cX5_breakOne 1 = .ok (.getfield 39, 3) := by decide +kernel
theorem dX5_breakOne_4 : decode cX5_breakOne 4 = .ok (.aload_n 1, 1) := by decide +kernel
theorem dX5_breakOne_5 : decode cX5_breakOne 5 = .ok (.invokevirtual 125, 3) := by decide +kernel
theorem dX5_breakOne_8 : decode cX5_breakOne 8 = .ok (.aload_n 0, 1) := by decide +kernel
theorem dX5_breakOne_9 : decode cX5_breakOne 9 = .ok (.getfield 39, 3) := by decide +kernel
theorem dX5_breakOne_12 : decode cX5_breakOne 12 = .ok (.aload_n 1, 1) := by decide +kernel
theorem dX5_breakOne_13 : decode cX5_breakOne 13 = .ok (.invokevirtual 227, 3) := by decide +kernel
theorem dX5_breakOne_16 : decode cX5_breakOne 16 = .ok (.istore_n 2, 1) := by decide +kernel
theorem dX5_breakOne_17 : decode cX5_breakOne 17 = .ok (.iload_n 2, 1) := by decide +kernel
theorem dX5_breakOne_18 : decode cX5_breakOne 18 = .ok (.iconst (-1), 1) := by decide +kernel
theorem dX5_breakOne_19 : decode cX5_breakOne 19 = .ok (.if_icmp .ne 6, 3) := by decide +kernel
theorem dX5_breakOne_22 : decode cX5_breakOne 22 = .ok (.bipush (-5), 2) := by decide +kernel
theorem dX5_breakOne_24 : decode cX5_breakOne 24 = .ok (.ireturn, 1) := by decide +kernel
theorem dX5_breakOne_25 : decode cX5_breakOne 25 = .ok (.aload_n 1, 1) := by decide +kernel
theorem dX5_breakOne_26 : decode cX5_breakOne 26 = .ok (.getfield 72, 3) := by decide +kernel
theorem dX5_breakOne_29 : decode cX5_breakOne 29 = .ok (.iload_n 2, 1) := by decide +kernel
theorem dX5_breakOne_30 : decode cX5_breakOne 30 = .ok (.aaload, 1) := by decide +kernel
theorem dX5_breakOne_31 : decode cX5_breakOne 31 = .ok (.astore_n 3, 1) := by decide +kernel
theorem dX5_breakOne_32 : decode cX5_breakOne 32 = .ok (.aload_n 3, 1) := by decide +kernel
theorem dX5_breakOne_33 : decode cX5_breakOne 33 = .ok (.invokevirtual 230, 3) := by decide +kernel
theorem dX5_breakOne_36 : decode cX5_breakOne 36 = .ok (.istore 4, 2) := by decide +kernel
theorem dX5_breakOne_38 : decode cX5_breakOne 38 = .ok (.aload_n 3, 1) := by decide +kernel
theorem dX5_breakOne_39 : decode cX5_breakOne 39 = .ok (.iload 4, 2) := by decide +kernel
theorem dX5_breakOne_41 : decode cX5_breakOne 41 = .ok (.invokevirtual 233, 3) := by decide +kernel
theorem dX5_breakOne_44 : decode cX5_breakOne 44 = .ok (.istore 5, 2) := by decide +kernel
theorem dX5_breakOne_46 : decode cX5_breakOne 46 = .ok (.iload 5, 2) := by decide +kernel
theorem dX5_breakOne_48 : decode cX5_breakOne 48 = .ok (.iconst 1, 1) := by decide +kernel
theorem dX5_breakOne_49 : decode cX5_breakOne 49 = .ok (.if_icmp .gt 6, 3) := by decide +kernel
theorem dX5_breakOne_52 : decode cX5_breakOne 52 = .ok (.bipush (-4), 2) := by decide +kernel
theorem dX5_breakOne_54 : decode cX5_breakOne 54 = .ok (.ireturn, 1) := by decide +kernel
theorem dX5_breakOne_55 : decode cX5_breakOne 55 = .ok (.aload_n 1, 1) := by decide +kernel
theorem dX5_breakOne_56 : decode cX5_breakOne 56 = .ok (.invokevirtual 106, 3) := by decide +kernel
theorem dX5_breakOne_59 : decode cX5_breakOne 59 = .ok (.ifCond .eq 6, 3) := by decide +kernel
theorem dX5_breakOne_62 : decode cX5_breakOne 62 = .ok (.bipush (-3), 2) := by decide +kernel
theorem dX5_breakOne_64 : decode cX5_breakOne 64 = .ok (.ireturn, 1) := by decide +kernel
theorem dX5_breakOne_65 : decode cX5_breakOne 65 = .ok (.aload_n 1, 1) := by decide +kernel
theorem dX5_breakOne_66 : decode cX5_breakOne 66 = .ok (.iload_n 2, 1) := by decide +kernel
theorem dX5_breakOne_67 : decode cX5_breakOne 67 = .ok (.iload 4, 2) := by decide +kernel
theorem dX5_breakOne_69 : decode cX5_breakOne 69 = .ok (.aload_n 3, 1) := by decide +kernel
theorem dX5_breakOne_70 : decode cX5_breakOne 70 = .ok (.getfield 88, 3) := by decide +kernel
theorem dX5_breakOne_73 : decode cX5_breakOne 73 = .ok (.iload 4, 2) := by decide +kernel
theorem dX5_breakOne_75 : decode cX5_breakOne 75 = .ok (.iaload, 1) := by decide +kernel
theorem dX5_breakOne_76 : decode cX5_breakOne 76 = .ok (.iload 5, 2) := by decide +kernel
theorem dX5_breakOne_78 : decode cX5_breakOne 78 = .ok (.iconst 2, 1) := by decide +kernel
theorem dX5_breakOne_79 : decode cX5_breakOne 79 = .ok (.idiv, 1) := by decide +kernel
theorem dX5_breakOne_80 : decode cX5_breakOne 80 = .ok (.iadd, 1) := by decide +kernel
theorem dX5_breakOne_81 : decode cX5_breakOne 81 = .ok (.invokevirtual 110, 3) := by decide +kernel
theorem dX5_breakOne_84 : decode cX5_breakOne 84 = .ok (.ireturn, 1) := by decide +kernel
theorem dX6_init_0 : decode cX6_init 0 = .ok (.aload_n 0, 1) := by decide +kernel
theorem dX6_init_1 : decode cX6_init 1 = .ok (.invokespecial 1, 3) := by decide +kernel
theorem dX6_init_4 : decode cX6_init 4 = .ok (.aload_n 0, 1) := by decide +kernel
theorem dX6_init_5 : decode cX6_init 5 = .ok (.bipush 116, 2) := by decide +kernel
theorem dX6_init_7 : decode cX6_init 7 = .ok (.newarray .int, 2) := by decide +kernel
theorem dX6_init_9 : decode cX6_init 9 = .ok (.putfield 7, 3) := by decide +kernel
theorem dX6_init_12 : decode cX6_init 12 = .ok (.aload_n 0, 1) := by decide +kernel
theorem dX6_init_13 : decode cX6_init 13 = .ok (.bipush 116, 2) := by decide +kernel
theorem dX6_init_15 : decode cX6_init 15 = .ok (.newarray .int, 2) := by decide +kernel
theorem dX6_init_17 : decode cX6_init 17 = .ok (.putfield 13, 3) := by decide +kernel
theorem dX6_init_20 : decode cX6_init 20 = .ok (.aload_n 0, 1) := by decide +kernel
theorem dX6_init_21 : decode cX6_init 21 = .ok (.sipush 464, 3) := by decide +kernel
theorem dX6_init_24 : decode cX6_init 24 = .ok (.newarray .int, 2) := by decide +kernel
theorem dX6_init_26 : decode cX6_init 26 = .ok (.putfield 16, 3) := by decide +kernel
theorem dX6_init_29 : decode cX6_init 29 = .ok (.aload_n 0, 1) := by decide +kernel
theorem dX6_init_30 : decode cX6_init 30 = .ok (.bipush 116, 2) := by decide +kernel
theorem dX6_init_32 : decode cX6_init 32 = .ok (.newarray .int, 2) := by decide +kernel
theorem dX6_init_34 : decode cX6_init 34 = .ok (.putfield 19, 3) := by decide +kernel
theorem dX6_init_37 : decode cX6_init 37 = .ok (.aload_n 0, 1) := by decide +kernel
theorem dX6_init_38 : decode cX6_init 38 = .ok (.bipush 80, 2) := by decide +kernel
theorem dX6_init_40 : decode cX6_init 40 = .ok (.newarray .int, 2) := by decide +kernel
theorem dX6_init_42 : decode cX6_init 42 = .ok (.putfield 22, 3) := by decide +kernel
theorem dX6_init_45 : decode cX6_init 45 = .ok (.aload_n 0, 1) := by decide +kernel
theorem dX6_init_46 : decode cX6_init 46 = .ok (.bipush 16, 2) := by decide +kernel
theorem dX6_init_48 : decode cX6_init 48 = .ok (.newarray .int, 2) := by decide +kernel
theorem dX6_init_50 : decode cX6_init 50 = .ok (.putfield 25, 3) := by decide +kernel
theorem dX6_init_53 : decode cX6_init 53 = .ok (.aload_n 0, 1) := by decide +kernel
theorem dX6_init_54 : decode cX6_init 54 = .ok (.bipush 16, 2) := by decide +kernel
theorem dX6_init_56 : decode cX6_init 56 = .ok (.newarray .int, 2) := by decide +kernel
theorem dX6_init_58 : decode cX6_init 58 = .ok (.putfield 28, 3) := by decide +kernel
theorem dX6_init_61 : decode cX6_init 61 = .ok (.aload_n 0, 1) := by decide +kernel
theorem dX6_init_62 : decode cX6_init 62 = .ok (.bipush 16, 2) := by decide +kernel
theorem dX6_init_64 : decode cX6_init 64 = .ok (.newarray .int, 2) := by decide +kernel
theorem dX6_init_66 : decode cX6_init 66 = .ok (.putfield 31, 3) := by decide +kernel
theorem dX6_init_69 : decode cX6_init 69 = .ok (.aload_n 0, 1) := by decide +kernel
theorem dX6_init_70 : decode cX6_init 70 = .ok (.bipush 16, 2) := by decide +kernel
theorem dX6_init_72 : decode cX6_init 72 = .ok (.newarray .int, 2) := by decide +kernel
theorem dX6_init_74 : decode cX6_init 74 = .ok (.putfield 34, 3) := by decide +kernel
theorem dX6_init_77 : decode cX6_init 77 = .ok (.aload_n 0, 1) := by decide +kernel
theorem dX6_init_78 : decode cX6_init 78 = .ok (.bipush 16, 2) := by decide +kernel
theorem dX6_init_80 : decode cX6_init 80 = .ok (.newarray .int, 2) := by decide +kernel
theorem dX6_init_82 : decode cX6_init 82 = .ok (.putfield 37, 3) := by decide +kernel
theorem dX6_init_85 : decode cX6_init 85 = .ok (.aload_n 0, 1) := by decide +kernel
theorem dX6_init_86 : decode cX6_init 86 = .ok (.bipush 6, 2) := by decide +kernel
theorem dX6_init_88 : decode cX6_init 88 = .ok (.newarray .int, 2) := by decide +kernel
theorem dX6_init_90 : decode cX6_init 90 = .ok (.putfield 40, 3) := by decide +kernel
theorem dX6_init_93 : decode cX6_init 93 = .ok (.return_, 1) := by decide +kernel
theorem dX6_in_0 : decode cX6_in 0 = .ok (.lload_n 0, 1) := by decide +kernel
theorem dX6_in_1 : decode cX6_in 1 = .ok (.iload_n 2, 1) := by decide +kernel
theorem dX6_in_2 : decode cX6_in 2 = .ok (.i2l, 1) := by decide +kernel
theorem dX6_in_3 : decode cX6_in 3 = .ok (.lcmp, 1) := by decide +kernel
theorem dX6_in_4 : decode cX6_in 4 = .ok (.ifCond .lt 14, 3) := by decide +kernel
theorem dX6_in_7 : decode cX6_in 7 = .ok (.lload_n 0, 1) := by decide +kernel
theorem dX6_in_8 : decode cX6_in 8 = .ok (.iload_n 3, 1) := by decide +kernel
theorem dX6_in_9 : decode cX6_in 9 = .ok (.i2l, 1) := by decide +kernel
theorem dX6_in_10 : decode cX6_in 10 = .ok (.lcmp, 1) := by decide +kernel
theorem dX6_in_11 : decode cX6_in 11 = .ok (.ifCond .gt 7, 3) := by decide +kernel
theorem dX6_in_14 : decode cX6_in 14 = .ok (.iconst 1, 1) := by decide +kernel
theorem dX6_in_15 : decode cX6_in 15 = .ok (.goto 4, 3) := by decide +kernel
theorem dX6_in_18 : decode cX6_in 18 = .ok (.iconst 0, 1) := by decide +kernel
theorem dX6_in_19 : decode cX6_in 19 = .ok (.ireturn, 1) := by decide +kernel
theorem dX6_has_0 : decode cX6_has 0 = .ok (.iload_n 0, 1) := by decide +kernel
theorem dX6_has_1 : decode cX6_has 1 = .ok (.iload_n 1, 1) := by decide +kernel
theorem dX6_has_2 : decode cX6_has 2 = .ok (.ishr, 1) := by decide +kernel
theorem dX6_has_3 : decode cX6_has 3 = .ok (.iconst 1, 1) := by decide +kernel
theorem dX6_has_4 : decode cX6_has 4 = .ok (.iand, 1) := by decide +kernel
theorem dX6_has_5 : decode cX6_has 5 = .ok (.iconst 1, 1) := by decide +kernel
theorem dX6_has_6 : decode cX6_has 6 = .ok (.if_icmp .ne 7, 3) := by decide +kernel
theorem dX6_has_9 : decode cX6_has 9 = .ok (.iconst 1, 1) := by decide +kernel
theorem dX6_has_10 : decode cX6_has 10 = .ok (.goto 4, 3) := by decide +kernel
theorem dX6_has_13 : decode cX6_has 13 = .ok (.iconst 0, 1) := by decide +kernel
theorem dX6_has_14 : decode cX6_has 14 = .ok (.ireturn, 1) := by decide +kernel
theorem dX6_ones_0 : decode cX6_ones 0 = .ok (.iconst 0, 1) := by decide +kernel
theorem dX6_ones_1 : decode cX6_ones 1 = .ok (.istore_n 1, 1) := by decide +kernel
theorem dX6_ones_2 : decode cX6_ones 2 = .ok (.iconst 0, 1) := by decide +kernel
theorem dX6_ones_3 : decode cX6_ones 3 = .ok (.istore_n 2, 1) := by decide +kernel
theorem dX6_ones_4 : decode cX6_ones 4 = .ok (.iload_n 2, 1) := by decide +kernel
theorem dX6_ones_5 : decode cX6_ones 5 = .ok (.bipush 16, 2) := by decide +kernel
theorem dX6_ones_7 : decode cX6_ones 7 = .ok (.if_icmp .ge 17, 3) := by decide +kernel
theorem dX6_ones_10 : decode cX6_ones 10 = .ok (.iload_n 1, 1) := by decide +kernel
theorem dX6_ones_11 : decode cX6_ones 11 = .ok (.iload_n 0, 1) := by decide +kernel
theorem dX6_ones_12 : decode cX6_ones 12 = .ok (.iload_n 2, 1) := by decide +kernel
theorem dX6_ones_13 : decode cX6_ones 13 = .ok (.ishr, 1) := by decide +kernel
theorem dX6_ones_14 : decode cX6_ones 14 = .ok (.iconst 1, 1) := by decide +kernel
theorem dX6_ones_15 : decode cX6_ones 15 = .ok (.iand, 1) := by decide +kernel
theorem dX6_ones_16 : decode cX6_ones 16 = .ok (.iadd, 1) := by decide +kernel
theorem dX6_ones_17 : decode cX6_ones 17 = .ok (.istore_n 1, 1) := by decide +kernel
theorem dX6_ones_18 : decode cX6_ones 18 = .ok (.iinc 2 1, 3) := by decide +kernel
theorem dX6_ones_21 : decode cX6_ones 21 = .ok (.goto (-17), 3) := by decide +kernel
theorem dX6_ones_24 : decode cX6_ones 24 = .ok (.iload_n 1, 1) := by decide +kernel
theorem dX6_ones_25 : decode cX6_ones 25 = .ok (.ireturn, 1) := by decide +kernel
theorem dX6_of_0 : decode cX6_of 0 = .ok (.aload_n 0, 1) := by decide +kernel
theorem dX6_of_1 : decode cX6_of 1 = .ok (.getfield 7, 3) := by decide +kernel
theorem dX6_of_4 : decode cX6_of 4 = .ok (.iconst 4, 1) := by decide +kernel
theorem dX6_of_5 : decode cX6_of 5 = .ok (.bipush 7, 2) := by decide +kernel
theorem dX6_of_7 : decode cX6_of 7 = .ok (.iload_n 1, 1) := by decide +kernel
theorem dX6_of_8 : decode cX6_of 8 = .ok (.imul, 1) := by decide +kernel
theorem dX6_of_9 : decode cX6_of 9 = .ok (.iadd, 1) := by decide +kernel
theorem dX6_of_10 : decode cX6_of 10 = .ok (.iload_n 2, 1) := by decide +kernel
theorem dX6_of_11 : decode cX6_of 11 = .ok (.iadd, 1) := by decide +kernel
theorem dX6_of_12 : decode cX6_of 12 = .ok (.iaload, 1) := by decide +kernel
theorem dX6_of_13 : decode cX6_of 13 = .ok (.ireturn, 1) := by decide +kernel
theorem dX6_put_0 : decode cX6_put 0 = .ok (.aload_n 0, 1) := by decide +kernel
theorem dX6_put_1 : decode cX6_put 1 = .ok (.getfield 7, 3) := by decide +kernel
theorem dX6_put_4 : decode cX6_put 4 = .ok (.iconst 4, 1) := by decide +kernel
theorem dX6_put_5 : decode cX6_put 5 = .ok (.bipush 7, 2) := by decide +kernel
theorem dX6_put_7 : decode cX6_put 7 = .ok (.iload_n 1, 1) := by decide +kernel
theorem dX6_put_8 : decode cX6_put 8 = .ok (.imul, 1) := by decide +kernel
theorem dX6_put_9 : decode cX6_put 9 = .ok (.iadd, 1) := by decide +kernel
theorem dX6_put_10 : decode cX6_put 10 = .ok (.iload_n 2, 1) := by decide +kernel
theorem dX6_put_11 : decode cX6_put 11 = .ok (.iadd, 1) := by decide +kernel
theorem dX6_put_12 : decode cX6_put 12 = .ok (.iload_n 3, 1) := by decide +kernel
theorem dX6_put_13 : decode cX6_put 13 = .ok (.iastore, 1) := by decide +kernel
theorem dX6_put_14 : decode cX6_put 14 = .ok (.return_, 1) := by decide +kernel
set_option maxRecDepth 20000 in
theorem ggX6_low_X6_of : GoodIn wsX6_low wsX6_of := goodIn_r _ [5, 6, 7, 8, 9, 10, 11, 12, 13, 14, 15, 16, 17, 18, 19, 20, 21, 22, 23] (by decide +kernel) (by decide +kernel)
set_option maxRecDepth 20000 in
theorem gX6_low_X6_of : GoodIn wsX6_low (wsV RX6 43 RX6 yX6_of wsX6_of) := goodIn_app (goodIn_of _ (by decide +kernel)) ggX6_low_X6_of
theorem dX6_low_0 : decode cX6_low 0 = .ok (.aload_n 0, 1) := by decide +kernel
theorem dX6_low_1 : decode cX6_low 1 = .ok (.iload_n 1, 1) := by decide +kernel
theorem dX6_low_2 : decode cX6_low 2 = .ok (.iconst 1, 1) := by decide +kernel
theorem dX6_low_3 : decode cX6_low 3 = .ok (.iload_n 2, 1) := by decide +kernel
theorem dX6_low_4 : decode cX6_low 4 = .ok (.iadd, 1) := by decide +kernel
theorem dX6_low_5 : decode cX6_low 5 = .ok (.invokevirtual 43, 3) := by decide +kernel
theorem dX6_low_8 : decode cX6_low 8 = .ok (.ireturn, 1) := by decide +kernel
set_option maxRecDepth 20000 in
theorem ggX6_size_X6_of : GoodIn wsX6_size wsX6_of := goodIn_r _ [5, 6, 7, 8, 9, 10, 11, 12, 13, 14, 15, 16, 17, 18, 19, 20, 21, 22, 23] (by decide +kernel) (by decide +kernel)
set_option maxRecDepth 20000 in
theorem gX6_size_X6_of : GoodIn wsX6_size (wsV RX6 43 RX6 yX6_of wsX6_of) := goodIn_app (goodIn_of _ (by decide +kernel)) ggX6_size_X6_of
theorem dX6_size_0 : decode cX6_size 0 = .ok (.aload_n 0, 1) := by decide +kernel
theorem dX6_size_1 : decode cX6_size 1 = .ok (.iload_n 1, 1) := by decide +kernel
theorem dX6_size_2 : decode cX6_size 2 = .ok (.iconst 4, 1) := by decide +kernel
theorem dX6_size_3 : decode cX6_size 3 = .ok (.iload_n 2, 1) := by decide +kernel
theorem dX6_size_4 : decode cX6_size 4 = .ok (.iadd, 1) := by decide +kernel
theorem dX6_size_5 : decode cX6_size 5 = .ok (.invokevirtual 43, 3) := by decide +kernel
theorem dX6_size_8 : decode cX6_size 8 = .ok (.ireturn, 1) := by decide +kernel
set_option maxRecDepth 20000 in
theorem ggX6_high_X6_low : GoodIn wsX6_high wsX6_low := goodIn_r _ [5, 6, 7, 8, 4, 9, 10, 15, 16, 17, 18, 19, 20, 21, 22, 23, 24, 25, 26, 27, 28, 29, 30, 31] (by decide +kernel) (by decide +kernel)
set_option maxRecDepth 20000 in
theorem gX6_high_X6_low : GoodIn wsX6_high (wsV RX6 47 RX6 yX6_low wsX6_low) := goodIn_app (goodIn_of _ (by decide +kernel)) ggX6_high_X6_low
set_option maxRecDepth 20000 in
theorem ggX6_high_X6_size : GoodIn wsX6_high wsX6_size := goodIn_r _ [14, 6, 7, 8, 4, 9, 10, 15, 16, 17, 18, 19, 20, 21, 22, 23, 24, 25, 26, 27, 28, 29, 30, 31] (by decide +kernel) (by decide +kernel)
set_option maxRecDepth 20000 in
theorem gX6_high_X6_size : GoodIn wsX6_high (wsV RX6 50 RX6 yX6_size wsX6_size) := goodIn_app (goodIn_of _ (by decide +kernel)) ggX6_high_X6_size
theorem dX6_high_0 : decode cX6_high 0 = .ok (.aload_n 0, 1) := by decide +kernel
theorem dX6_high_1 : decode cX6_high 1 = .ok (.iload_n 1, 1) := by decide +kernel
theorem dX6_high_2 : decode cX6_high 2 = .ok (.iload_n 2, 1) := by decide +kernel
theorem dX6_high_3 : decode cX6_high 3 = .ok (.invokevirtual 47, 3) := by decide +kernel
theorem dX6_high_6 : decode cX6_high 6 = .ok (.aload_n 0, 1) := by decide +kernel
theorem dX6_high_7 : decode cX6_high 7 = .ok (.iload_n 1, 1) := by decide +kernel
theorem dX6_high_8 : decode cX6_high 8 = .ok (.iload_n 2, 1) := by decide +kernel
theorem dX6_high_9 : decode cX6_high 9 = .ok (.invokevirtual 50, 3) := by decide +kernel
theorem dX6_high_12 : decode cX6_high 12 = .ok (.iadd, 1) := by decide +kernel
theorem dX6_high_13 : decode cX6_high 13 = .ok (.ireturn, 1) := by decide +kernel
set_option maxRecDepth 20000 in
theorem ggX6_volume_X6_size : GoodIn wsX6_volume wsX6_size := goodIn_r _ [5, 6, 7, 8, 4, 9, 10, 11, 12, 13, 14, 15, 16, 17, 18, 19, 20, 21, 22, 23, 24, 25, 26, 27] (by decide +kernel) (by decide +kernel)
set_option maxRecDepth 20000 in
theorem gX6_volume_X6_size : GoodIn wsX6_volume (wsV RX6 50 RX6 yX6_size wsX6_size) := goodIn_app (goodIn_of _ (by decide +kernel)) ggX6_volume_X6_size
theorem dX6_volume_0 : decode cX6_volume 0 = .ok (.aload_n 0, 1) := by decide +kernel
theorem dX6_volume_1 : decode cX6_volume 1 = .ok (.iload_n 1, 1) := by decide +kernel
theorem dX6_volume_2 : decode cX6_volume 2 = .ok (.iconst 0, 1) := by decide +kernel
theorem dX6_volume_3 : decode cX6_volume 3 = .ok (.invokevirtual 50, 3) := by decide +kernel
theorem dX6_volume_6 : decode cX6_volume 6 = .ok (.aload_n 0, 1) := by decide +kernel
theorem dX6_volume_7 : decode cX6_volume 7 = .ok (.iload_n 1, 1) := by decide +kernel
theorem dX6_volume_8 : decode cX6_volume 8 = .ok (.iconst 1, 1) := by decide +kernel
theorem dX6_volume_9 : decode cX6_volume 9 = .ok (.invokevirtual 50, 3) := by decide +kernel
theorem dX6_volume_12 : decode cX6_volume 12 = .ok (.imul, 1) := by decide +kernel
theorem dX6_volume_13 : decode cX6_volume 13 = .ok (.aload_n 0, 1) := by decide +kernel
theorem dX6_volume_14 : decode cX6_volume 14 = .ok (.iload_n 1, 1) := by decide +kernel
theorem dX6_volume_15 : decode cX6_volume 15 = .ok (.iconst 2, 1) := by decide +kernel
theorem dX6_volume_16 : decode cX6_volume 16 = .ok (.invokevirtual 50, 3) := by decide +kernel
theorem dX6_volume_19 : decode cX6_volume 19 = .ok (.imul, 1) := by decide +kernel
theorem dX6_volume_20 : decode cX6_volume 20 = .ok (.ireturn, 1) := by decide +kernel
set_option maxRecDepth 20000 in
theorem ggX6_rankOf_X6_of : GoodIn wsX6_rankOf wsX6_of := goodIn_r _ [6, 1, 7, 8, 9, 10, 11, 12, 13, 14, 15, 16, 17, 18, 19, 20, 21, 22, 23] (by decide +kernel) (by decide +kernel)
set_option maxRecDepth 20000 in
theorem gX6_rankOf_X6_of : GoodIn wsX6_rankOf (wsV RX6 43 RX6 yX6_of wsX6_of) := goodIn_app (goodIn_of _ (by decide +kernel)) ggX6_rankOf_X6_of
theorem dX6_rankOf_0 : decode cX6_rankOf 0 = .ok (.iconst (-1), 1) := by decide +kernel
theorem dX6_rankOf_1 : decode cX6_rankOf 1 = .ok (.istore_n 2, 1) := by decide +kernel
theorem dX6_rankOf_2 : decode cX6_rankOf 2 = .ok (.iconst 0, 1) := by decide +kernel
theorem dX6_rankOf_3 : decode cX6_rankOf 3 = .ok (.istore_n 3, 1) := by decide +kernel
theorem dX6_rankOf_4 : decode cX6_rankOf 4 = .ok (.iload_n 3, 1) := by decide +kernel
theorem dX6_rankOf_5 : decode cX6_rankOf 5 = .ok (.aload_n 0, 1) := by decide +kernel
theorem dX6_rankOf_6 : decode cX6_rankOf 6 = .ok (.getfield 7, 3) := by decide +kernel
theorem dX6_rankOf_9 : decode cX6_rankOf 9 = .ok (.iconst 0, 1) := by decide +kernel
theorem dX6_rankOf_10 : decode cX6_rankOf 10 = .ok (.iaload, 1) := by decide +kernel
theorem dX6_rankOf_11 : decode cX6_rankOf 11 = .ok (.if_icmp .ge 25, 3) := by decide +kernel
theorem dX6_rankOf_14 : decode cX6_rankOf 14 = .ok (.aload_n 0, 1) := by decide +kernel
theorem dX6_rankOf_15 : decode cX6_rankOf 15 = .ok (.iload_n 3, 1) := by decide +kernel
theorem dX6_rankOf_16 : decode cX6_rankOf 16 = .ok (.iconst 0, 1) := by decide +kernel
theorem dX6_rankOf_17 : decode cX6_rankOf 17 = .ok (.invokevirtual 43, 3) := by decide +kernel
theorem dX6_rankOf_20 : decode cX6_rankOf 20 = .ok (.iload_n 1, 1) := by decide +kernel
theorem dX6_rankOf_21 : decode cX6_rankOf 21 = .ok (.if_icmp .ne 7, 3) := by decide +kernel
theorem dX6_rankOf_24 : decode cX6_rankOf 24 = .ok (.iload_n 3, 1) := by decide +kernel
theorem dX6_rankOf_25 : decode cX6_rankOf 25 = .ok (.goto 4, 3) := by decide +kernel
theorem dX6_rankOf_28 : decode cX6_rankOf 28 = .ok (.iload_n 2, 1) := by decide +kernel
theorem dX6_rankOf_29 : decode cX6_rankOf 29 = .ok (.istore_n 2, 1) := by decide +kernel
theorem dX6_rankOf_30 : decode cX6_rankOf 30 = .ok (.iinc 3 1, 3) := by decide +kernel
theorem dX6_rankOf_33 : decode cX6_rankOf 33 = .ok (.goto (-29), 3) := by decide +kernel
theorem dX6_rankOf_36 : decode cX6_rankOf 36 = .ok (.iload_n 2, 1) := by decide +kernel
theorem dX6_rankOf_37 : decode cX6_rankOf 37 = .ok (.ireturn, 1) := by decide +kernel
set_option maxRecDepth 20000 in
theorem ggX6_isDirection_X6_in : GoodIn wsX6_isDirection wsX6_in := goodIn_r _ [4] (by decide +kernel) (by decide +kernel)
set_option maxRecDepth 20000 in
theorem gX6_isDirection_X6_in : GoodIn wsX6_isDirection (va_wsS RX6 53 yX6_in wsX6_in) := goodIn_app (goodIn_of _ (by decide +kernel)) ggX6_isDirection_X6_in
theorem dX6_isDirection_0 : decode cX6_isDirection 0 = .ok (.iload_n 0, 1) := by decide +kernel
theorem dX6_isDirection_1 : decode cX6_isDirection 1 = .ok (.i2l, 1) := by decide +kernel
theorem dX6_isDirection_2 : decode cX6_isDirection 2 = .ok (.iconst 0, 1) := by decide +kernel
theorem dX6_isDirection_3 : decode cX6_isDirection 3 = .ok (.iconst 2, 1) := by decide +kernel
theorem dX6_isDirection_4 : decode cX6_isDirection 4 = .ok (.invokestatic 53, 3) := by decide +kernel
theorem dX6_isDirection_7 : decode cX6_isDirection 7 = .ok (.ireturn, 1) := by decide +kernel
set_option maxRecDepth 20000 in
theorem ggX6_cross_X6_low : GoodIn wsX6_cross wsX6_low := goodIn_r _ [5, 6, 7, 8, 4, 9, 10, 19, 20, 21, 22, 23, 24, 25, 26, 27, 28, 29, 30, 31, 32, 33, 34, 35] (by decide +kernel) (by decide +kernel)
set_option maxRecDepth 20000 in
theorem gX6_cross_X6_low : GoodIn wsX6_cross (wsV RX6 47 RX6 yX6_low wsX6_low) := goodIn_app (goodIn_of _ (by decide +kernel)) ggX6_cross_X6_low
set_option maxRecDepth 20000 in
theorem ggX6_cross_X6_high : GoodIn wsX6_cross wsX6_high := goodIn_r _ [14, 1, 2, 3, 4, 5, 6, 7, 8, 9, 10, 15, 16, 17, 18, 19, 20, 21, 22, 23, 24, 25, 26, 27, 28, 29, 30, 31, 32, 33, 34, 35] (by decide +kernel) (by decide +kernel)
set_option maxRecDepth 20000 in
theorem gX6_cross_X6_high : GoodIn wsX6_cross (wsV RX6 57 RX6 yX6_high wsX6_high) := goodIn_app (goodIn_of _ (by decide +kernel)) ggX6_cross_X6_high
theorem dX6_cross_0 : decode cX6_cross 0 = .ok (.aload_n 0, 1) := by decide +kernel
theorem dX6_cross_1 : decode cX6_cross 1 = .ok (.iload_n 1, 1) := by decide +kernel
theorem dX6_cross_2 : decode cX6_cross 2 = .ok (.iload_n 3, 1) := by decide +kernel
theorem dX6_cross_3 : decode cX6_cross 3 = .ok (.invokevirtual 47, 3) := by decide +kernel
theorem dX6_cross_6 : decode cX6_cross 6 = .ok (.aload_n 0, 1) := by decide +kernel
theorem dX6_cross_7 : decode cX6_cross 7 = .ok (.iload_n 2, 1) := by decide +kernel
theorem dX6_cross_8 : decode cX6_cross 8 = .ok (.iload_n 3, 1) := by decide +kernel
theorem dX6_cross_9 : decode cX6_cross 9 = .ok (.invokevirtual 57, 3) := by decide +kernel
theorem dX6_cross_12 : decode cX6_cross 12 = .ok (.if_icmp .ge 22, 3) := by decide +kernel
theorem dX6_cross_15 : decode cX6_cross 15 = .ok (.aload_n 0, 1) := by decide +kernel
theorem dX6_cross_16 : decode cX6_cross 16 = .ok (.iload_n 2, 1) := by decide +kernel
theorem dX6_cross_17 : decode cX6_cross 17 = .ok (.iload_n 3, 1) := by decide +kernel
theorem dX6_cross_18 : decode cX6_cross 18 = .ok (.invokevirtual 47, 3) := by decide +kernel
theorem dX6_cross_21 : decode cX6_cross 21 = .ok (.aload_n 0, 1) := by decide +kernel
theorem dX6_cross_22 : decode cX6_cross 22 = .ok (.iload_n 1, 1) := by decide +kernel
theorem dX6_cross_23 : decode cX6_cross 23 = .ok (.iload_n 3, 1) := by decide +kernel
theorem dX6_cross_24 : decode cX6_cross 24 = .ok (.invokevirtual 57, 3) := by decide +kernel
theorem dX6_cross_27 : decode cX6_cross 27 = .ok (.if_icmp .ge 7, 3) := by decide +kernel
theorem dX6_cross_30 : decode cX6_cross 30 = .ok (.iconst 1, 1) := by decide +kernel
theorem dX6_cross_31 : decode cX6_cross 31 = .ok (.goto 4, 3) := by decide +kernel
theorem dX6_cross_34 : decode cX6_cross 34 = .ok (.iconst 0, 1) := by decide +kernel
theorem dX6_cross_35 : decode cX6_cross 35 = .ok (.ireturn, 1) := by decide +kernel
set_option maxRecDepth 20000 in
theorem ggX6_cutsAny_X6_cross : GoodIn wsX6_cutsAny wsX6_cross := goodIn_r _ [5, 6, 7, 8, 4, 9, 10, 11, 12, 13, 14, 15, 16, 17, 18, 19, 20, 21, 22, 23, 24, 25, 26, 27, 28, 29, 30, 31, 32, 33, 34, 35, 36, 37, 38, 39] (by decide +kernel) (by decide +kernel)
set_option maxRecDepth 20000 in
theorem gX6_cutsAny_X6_cross : GoodIn wsX6_cutsAny (wsV RX6 60 RX6 yX6_cross wsX6_cross) := goodIn_app (goodIn_of _ (by decide +kernel)) ggX6_cutsAny_X6_cross
theorem dX6_cutsAny_0 : decode cX6_cutsAny 0 = .ok (.iconst 0, 1) := by decide +kernel
theorem dX6_cutsAny_1 : decode cX6_cutsAny 1 = .ok (.istore_n 3, 1) := by decide +kernel
theorem dX6_cutsAny_2 : decode cX6_cutsAny 2 = .ok (.iconst 0, 1) := by decide +kernel
theorem dX6_cutsAny_3 : decode cX6_cutsAny 3 = .ok (.istore 4, 2) := by decide +kernel
theorem dX6_cutsAny_5 : decode cX6_cutsAny 5 = .ok (.iload 4, 2) := by decide +kernel
theorem dX6_cutsAny_7 : decode cX6_cutsAny 7 = .ok (.iload_n 2, 1) := by decide +kernel
theorem dX6_cutsAny_8 : decode cX6_cutsAny 8 = .ok (.if_icmp .ge 58, 3) := by decide +kernel
theorem dX6_cutsAny_11 : decode cX6_cutsAny 11 = .ok (.iload_n 3, 1) := by decide +kernel
theorem dX6_cutsAny_12 : decode cX6_cutsAny 12 = .ok (.ifCond .ne 42, 3) := by decide +kernel
theorem dX6_cutsAny_15 : decode cX6_cutsAny 15 = .ok (.iload 4, 2) := by decide +kernel
theorem dX6_cutsAny_17 : decode cX6_cutsAny 17 = .ok (.iload_n 1, 1) := by decide +kernel
theorem dX6_cutsAny_18 : decode cX6_cutsAny 18 = .ok (.if_icmp .eq 40, 3) := by decide +kernel
theorem dX6_cutsAny_21 : decode cX6_cutsAny 21 = .ok (.aload_n 0, 1) := by decide +kernel
theorem dX6_cutsAny_22 : decode cX6_cutsAny 22 = .ok (.iload_n 1, 1) := by decide +kernel
theorem dX6_cutsAny_23 : decode cX6_cutsAny 23 = .ok (.iload 4, 2) := by decide +kernel
theorem dX6_cutsAny_25 : decode cX6_cutsAny 25 = .ok (.iconst 0, 1) := by decide +kernel
theorem dX6_cutsAny_26 : decode cX6_cutsAny 26 = .ok (.invokevirtual 60, 3) := by decide +kernel
theorem dX6_cutsAny_29 : decode cX6_cutsAny 29 = .ok (.ifCond .eq 29, 3) := by decide +kernel
theorem dX6_cutsAny_32 : decode cX6_cutsAny 32 = .ok (.aload_n 0, 1) := by decide +kernel
theorem dX6_cutsAny_33 : decode cX6_cutsAny 33 = .ok (.iload_n 1, 1) := by decide +kernel
theorem dX6_cutsAny_34 : decode cX6_cutsAny 34 = .ok (.iload 4, 2) := by decide +kernel
theorem dX6_cutsAny_36 : decode cX6_cutsAny 36 = .ok (.iconst 1, 1) := by decide +kernel
theorem dX6_cutsAny_37 : decode cX6_cutsAny 37 = .ok (.invokevirtual 60, 3) := by decide +kernel
theorem dX6_cutsAny_40 : decode cX6_cutsAny 40 = .ok (.ifCond .eq 18, 3) := by decide +kernel
theorem dX6_cutsAny_43 : decode cX6_cutsAny 43 = .ok (.aload_n 0, 1) := by decide +kernel
theorem dX6_cutsAny_44 : decode cX6_cutsAny 44 = .ok (.iload_n 1, 1) := by decide +kernel
theorem dX6_cutsAny_45 : decode cX6_cutsAny 45 = .ok (.iload 4, 2) := by decide +kernel
theorem dX6_cutsAny_47 : decode cX6_cutsAny 47 = .ok (.iconst 2, 1) := by decide +kernel
theorem dX6_cutsAny_48 : decode cX6_cutsAny 48 = .ok (.invokevirtual 60, 3) := by decide +kernel
theorem dX6_cutsAny_51 : decode cX6_cutsAny 51 = .ok (.ifCond .eq 7, 3) := by decide +kernel
theorem dX6_cutsAny_54 : decode cX6_cutsAny 54 = .ok (.iconst 1, 1) := by decide +kernel
theorem dX6_cutsAny_55 : decode cX6_cutsAny 55 = .ok (.goto 4, 3) := by decide +kernel
theorem dX6_cutsAny_58 : decode cX6_cutsAny 58 = .ok (.iconst 0, 1) := by decide +kernel
theorem dX6_cutsAny_59 : decode cX6_cutsAny 59 = .ok (.istore_n 3, 1) := by decide +kernel
theorem dX6_cutsAny_60 : decode cX6_cutsAny 60 = .ok (.iinc 4 1, 3) := by decide +kernel
theorem dX6_cutsAny_63 : decode cX6_cutsAny 63 = .ok (.goto (-58), 3) := by decide +kernel
theorem dX6_cutsAny_66 : decode cX6_cutsAny 66 = .ok (.iload_n 3, 1) := by decide +kernel
theorem dX6_cutsAny_67 : decode cX6_cutsAny 67 = .ok (.ireturn, 1) := by decide +kernel
set_option maxRecDepth 20000 in
theorem ggX6_reachesBelow_X6_low : GoodIn wsX6_reachesBelow wsX6_low := goodIn_r _ [5, 6, 7, 8, 4, 9, 10, 19, 20, 21, 22, 23, 24, 25, 26, 27, 28, 29, 30, 31, 32, 33, 34, 35] (by decide +kernel) (by decide +kernel)
set_option maxRecDepth 20000 in
theorem gX6_reachesBelow_X6_low : GoodIn wsX6_reachesBelow (wsV RX6 47 RX6 yX6_low wsX6_low) := goodIn_app (goodIn_of _ (by decide +kernel)) ggX6_reachesBelow_X6_low
set_option maxRecDepth 20000 in
theorem ggX6_reachesBelow_X6_high : GoodIn wsX6_reachesBelow wsX6_high := goodIn_r _ [14, 1, 2, 3, 4, 5, 6, 7, 8, 9, 10, 15, 16, 17, 18, 19, 20, 21, 22, 23, 24, 25, 26, 27, 28, 29, 30, 31, 32, 33, 34, 35] (by decide +kernel) (by decide +kernel)
set_option maxRecDepth 20000 in
theorem gX6_reachesBelow_X6_high : GoodIn wsX6_reachesBelow (wsV RX6 57 RX6 yX6_high wsX6_high) := goodIn_app (goodIn_of _ (by decide +kernel)) ggX6_reachesBelow_X6_high
theorem dX6_reachesBelow_0 : decode cX6_reachesBelow 0 = .ok (.aload_n 0, 1) := by decide +kernel
theorem dX6_reachesBelow_1 : decode cX6_reachesBelow 1 = .ok (.iload_n 1, 1) := by decide +kernel
theorem dX6_reachesBelow_2 : decode cX6_reachesBelow 2 = .ok (.iload_n 3, 1) := by decide +kernel
theorem dX6_reachesBelow_3 : decode cX6_reachesBelow 3 = .ok (.invokevirtual 47, 3) := by decide +kernel
theorem dX6_reachesBelow_6 : decode cX6_reachesBelow 6 = .ok (.aload_n 0, 1) := by decide +kernel
theorem dX6_reachesBelow_7 : decode cX6_reachesBelow 7 = .ok (.iload_n 1, 1) := by decide +kernel
theorem dX6_reachesBelow_8 : decode cX6_reachesBelow 8 = .ok (.iload 4, 2) := by decide +kernel
theorem dX6_reachesBelow_10 : decode cX6_reachesBelow 10 = .ok (.invokevirtual 57, 3) := by decide +kernel
theorem dX6_reachesBelow_13 : decode cX6_reachesBelow 13 = .ok (.isub, 1) := by decide +kernel
theorem dX6_reachesBelow_14 : decode cX6_reachesBelow 14 = .ok (.aload_n 0, 1) := by decide +kernel
theorem dX6_reachesBelow_15 : decode cX6_reachesBelow 15 = .ok (.iload_n 2, 1) := by decide +kernel
theorem dX6_reachesBelow_16 : decode cX6_reachesBelow 16 = .ok (.iload_n 3, 1) := by decide +kernel
theorem dX6_reachesBelow_17 : decode cX6_reachesBelow 17 = .ok (.invokevirtual 57, 3) := by decide +kernel
theorem dX6_reachesBelow_20 : decode cX6_reachesBelow 20 = .ok (.aload_n 0, 1) := by decide +kernel
theorem dX6_reachesBelow_21 : decode cX6_reachesBelow 21 = .ok (.iload_n 2, 1) := by decide +kernel
theorem dX6_reachesBelow_22 : decode cX6_reachesBelow 22 = .ok (.iload 4, 2) := by decide +kernel
theorem dX6_reachesBelow_24 : decode cX6_reachesBelow 24 = .ok (.invokevirtual 47, 3) := by decide +kernel
theorem dX6_reachesBelow_27 : decode cX6_reachesBelow 27 = .ok (.isub, 1) := by decide +kernel
theorem dX6_reachesBelow_28 : decode cX6_reachesBelow 28 = .ok (.if_icmp .ge 7, 3) := by decide +kernel
theorem dX6_reachesBelow_31 : decode cX6_reachesBelow 31 = .ok (.iconst 1, 1) := by decide +kernel
theorem dX6_reachesBelow_32 : decode cX6_reachesBelow 32 = .ok (.goto 4, 3) := by decide +kernel
theorem dX6_reachesBelow_35 : decode cX6_reachesBelow 35 = .ok (.iconst 0, 1) := by decide +kernel
theorem dX6_reachesBelow_36 : decode cX6_reachesBelow 36 = .ok (.ireturn, 1) := by decide +kernel
set_option maxRecDepth 20000 in
theorem ggX6_overlap_X6_reachesBelow : GoodIn wsX6_overlap wsX6_reachesBelow := goodIn_r _ [5, 6, 7, 8, 4, 9, 10, 11, 12, 13, 14, 15, 16, 17, 18, 19, 20, 21, 22, 23, 24, 25, 26, 27, 28, 29, 30, 31, 32, 33, 34, 35, 36, 37, 38, 39] (by decide +kernel) (by decide +kernel)
set_option maxRecDepth 20000 in
theorem gX6_overlap_X6_reachesBelow : GoodIn wsX6_overlap (wsV RX6 64 RX6 yX6_reachesBelow wsX6_reachesBelow) := goodIn_app (goodIn_of _ (by decide +kernel)) ggX6_overlap_X6_reachesBelow
theorem dX6_overlap_0 : decode cX6_overlap 0 = .ok (.iconst 1, 1) := by decide +kernel
theorem dX6_overlap_1 : decode cX6_overlap 1 = .ok (.istore_n 3, 1) := by decide +kernel
theorem dX6_overlap_2 : decode cX6_overlap 2 = .ok (.iconst 0, 1) := by decide +kernel
theorem dX6_overlap_3 : decode cX6_overlap 3 = .ok (.istore 4, 2) := by decide +kernel
theorem dX6_overlap_5 : decode cX6_overlap 5 = .ok (.iload 4, 2) := by decide +kernel
theorem dX6_overlap_7 : decode cX6_overlap 7 = .ok (.iconst 2, 1) := by decide +kernel
theorem dX6_overlap_8 : decode cX6_overlap 8 = .ok (.if_icmp .ge 63, 3) := by decide +kernel
theorem dX6_overlap_11 : decode cX6_overlap 11 = .ok (.iload 4, 2) := by decide +kernel
theorem dX6_overlap_13 : decode cX6_overlap 13 = .ok (.iconst 1, 1) := by decide +kernel
theorem dX6_overlap_14 : decode cX6_overlap 14 = .ok (.iadd, 1) := by decide +kernel
theorem dX6_overlap_15 : decode cX6_overlap 15 = .ok (.istore 5, 2) := by decide +kernel
theorem dX6_overlap_17 : decode cX6_overlap 17 = .ok (.iload 5, 2) := by decide +kernel
theorem dX6_overlap_19 : decode cX6_overlap 19 = .ok (.iconst 3, 1) := by decide +kernel
theorem dX6_overlap_20 : decode cX6_overlap 20 = .ok (.if_icmp .ge 45, 3) := by decide +kernel
theorem dX6_overlap_23 : decode cX6_overlap 23 = .ok (.iload_n 3, 1) := by decide +kernel
theorem dX6_overlap_24 : decode cX6_overlap 24 = .ok (.ifCond .eq 33, 3) := by decide +kernel
theorem dX6_overlap_27 : decode cX6_overlap 27 = .ok (.aload_n 0, 1) := by decide +kernel
theorem dX6_overlap_28 : decode cX6_overlap 28 = .ok (.iload_n 1, 1) := by decide +kernel
theorem dX6_overlap_29 : decode cX6_overlap 29 = .ok (.iload_n 2, 1) := by decide +kernel
theorem dX6_overlap_30 : decode cX6_overlap 30 = .ok (.iload 4, 2) := by decide +kernel
theorem dX6_overlap_32 : decode cX6_overlap 32 = .ok (.iload 5, 2) := by decide +kernel
theorem dX6_overlap_34 : decode cX6_overlap 34 = .ok (.invokevirtual 64, 3) := by decide +kernel
theorem dX6_overlap_37 : decode cX6_overlap 37 = .ok (.ifCond .eq 20, 3) := by decide +kernel
theorem dX6_overlap_40 : decode cX6_overlap 40 = .ok (.aload_n 0, 1) := by decide +kernel
theorem dX6_overlap_41 : decode cX6_overlap 41 = .ok (.iload_n 2, 1) := by decide +kernel
theorem dX6_overlap_42 : decode cX6_overlap 42 = .ok (.iload_n 1, 1) := by decide +kernel
theorem dX6_overlap_43 : decode cX6_overlap 43 = .ok (.iload 4, 2) := by decide +kernel
theorem dX6_overlap_45 : decode cX6_overlap 45 = .ok (.iload 5, 2) := by decide +kernel
theorem dX6_overlap_47 : decode cX6_overlap 47 = .ok (.invokevirtual 64, 3) := by decide +kernel
theorem dX6_overlap_50 : decode cX6_overlap 50 = .ok (.ifCond .eq 7, 3) := by decide +kernel
theorem dX6_overlap_53 : decode cX6_overlap 53 = .ok (.iconst 1, 1) := by decide +kernel
theorem dX6_overlap_54 : decode cX6_overlap 54 = .ok (.goto 4, 3) := by decide +kernel
theorem dX6_overlap_57 : decode cX6_overlap 57 = .ok (.iconst 0, 1) := by decide +kernel
theorem dX6_overlap_58 : decode cX6_overlap 58 = .ok (.istore_n 3, 1) := by decide +kernel
theorem dX6_overlap_59 : decode cX6_overlap 59 = .ok (.iinc 5 1, 3) := by decide +kernel
theorem dX6_overlap_62 : decode cX6_overlap 62 = .ok (.goto (-45), 3) := by decide +kernel
theorem dX6_overlap_65 : decode cX6_overlap 65 = .ok (.iinc 4 1, 3) := by decide +kernel
theorem dX6_overlap_68 : decode cX6_overlap 68 = .ok (.goto (-63), 3) := by decide +kernel
theorem dX6_overlap_71 : decode cX6_overlap 71 = .ok (.iload_n 3, 1) := by decide +kernel
theorem dX6_overlap_72 : decode cX6_overlap 72 = .ok (.ireturn, 1) := by decide +kernel
set_option maxRecDepth 20000 in
theorem ggX6_hidesBy_X6_low : GoodIn wsX6_hidesBy wsX6_low := goodIn_r _ [5, 6, 7, 8, 4, 9, 10, 27, 28, 29, 30, 31, 32, 33, 34, 35, 36, 37, 38, 39, 40, 41, 42, 43] (by decide +kernel) (by decide +kernel)
set_option maxRecDepth 20000 in
theorem gX6_hidesBy_X6_low : GoodIn wsX6_hidesBy (wsV RX6 47 RX6 yX6_low wsX6_low) := goodIn_app (goodIn_of _ (by decide +kernel)) ggX6_hidesBy_X6_low
set_option maxRecDepth 20000 in
theorem ggX6_hidesBy_X6_high : GoodIn wsX6_hidesBy wsX6_high := goodIn_r _ [14, 1, 2, 3, 4, 5, 6, 7, 8, 9, 10, 15, 16, 17, 18, 27, 28, 29, 30, 31, 32, 33, 34, 35, 36, 37, 38, 39, 40, 41, 42, 43] (by decide +kernel) (by decide +kernel)
set_option maxRecDepth 20000 in
theorem gX6_hidesBy_X6_high : GoodIn wsX6_hidesBy (wsV RX6 57 RX6 yX6_high wsX6_high) := goodIn_app (goodIn_of _ (by decide +kernel)) ggX6_hidesBy_X6_high
set_option maxRecDepth 20000 in
theorem ggX6_hidesBy_X6_overlap : GoodIn wsX6_hidesBy wsX6_overlap := goodIn_r _ [22, 23, 24, 25, 4, 26, 1, 2, 3, 5, 6, 7, 8, 9, 10, 11, 12, 13, 14, 15, 16, 17, 18, 27, 28, 29, 30, 31, 32, 33, 34, 35, 36, 37, 38, 39, 40, 41, 42, 43] (by decide +kernel) (by decide +kernel)
set_option maxRecDepth 20000 in
theorem gX6_hidesBy_X6_overlap : GoodIn wsX6_hidesBy (wsV RX6 68 RX6 yX6_overlap wsX6_overlap) := goodIn_app (goodIn_of _ (by decide +kernel)) ggX6_hidesBy_X6_overlap
theorem dX6_hidesBy_0 : decode cX6_hidesBy 0 = .ok (.iconst 0, 1) := by decide +kernel
theorem dX6_hidesBy_1 : decode cX6_hidesBy 1 = .ok (.istore_n 3, 1) := by decide +kernel
theorem dX6_hidesBy_2 : decode cX6_hidesBy 2 = .ok (.iconst 2, 1) := by decide +kernel
theorem dX6_hidesBy_3 : decode cX6_hidesBy 3 = .ok (.istore 4, 2) := by decide +kernel
theorem dX6_hidesBy_5 : decode cX6_hidesBy 5 = .ok (.iload 4, 2) := by decide +kernel
theorem dX6_hidesBy_7 : decode cX6_hidesBy 7 = .ok (.ifCond .lt 35, 3) := by decide +kernel
theorem dX6_hidesBy_10 : decode cX6_hidesBy 10 = .ok (.aload_n 0, 1) := by decide +kernel
theorem dX6_hidesBy_11 : decode cX6_hidesBy 11 = .ok (.iload_n 1, 1) := by decide +kernel
theorem dX6_hidesBy_12 : decode cX6_hidesBy 12 = .ok (.iload 4, 2) := by decide +kernel
theorem dX6_hidesBy_14 : decode cX6_hidesBy 14 = .ok (.invokevirtual 47, 3) := by decide +kernel
theorem dX6_hidesBy_17 : decode cX6_hidesBy 17 = .ok (.aload_n 0, 1) := by decide +kernel
theorem dX6_hidesBy_18 : decode cX6_hidesBy 18 = .ok (.iload_n 2, 1) := by decide +kernel
theorem dX6_hidesBy_19 : decode cX6_hidesBy 19 = .ok (.iload 4, 2) := by decide +kernel
theorem dX6_hidesBy_21 : decode cX6_hidesBy 21 = .ok (.invokevirtual 57, 3) := by decide +kernel
theorem dX6_hidesBy_24 : decode cX6_hidesBy 24 = .ok (.if_icmp .lt 10, 3) := by decide +kernel
theorem dX6_hidesBy_27 : decode cX6_hidesBy 27 = .ok (.iload 4, 2) := by decide +kernel
theorem dX6_hidesBy_29 : decode cX6_hidesBy 29 = .ok (.iconst 1, 1) := by decide +kernel
theorem dX6_hidesBy_30 : decode cX6_hidesBy 30 = .ok (.iadd, 1) := by decide +kernel
theorem dX6_hidesBy_31 : decode cX6_hidesBy 31 = .ok (.goto 4, 3) := by decide +kernel
theorem dX6_hidesBy_34 : decode cX6_hidesBy 34 = .ok (.iload_n 3, 1) := by decide +kernel
theorem dX6_hidesBy_35 : decode cX6_hidesBy 35 = .ok (.istore_n 3, 1) := by decide +kernel
theorem dX6_hidesBy_36 : decode cX6_hidesBy 36 = .ok (.iinc 4 (-1), 3) := by decide +kernel
theorem dX6_hidesBy_39 : decode cX6_hidesBy 39 = .ok (.goto (-34), 3) := by decide +kernel
theorem dX6_hidesBy_42 : decode cX6_hidesBy 42 = .ok (.iload_n 1, 1) := by decide +kernel
theorem dX6_hidesBy_43 : decode cX6_hidesBy 43 = .ok (.iload_n 2, 1) := by decide +kernel
theorem dX6_hidesBy_44 : decode cX6_hidesBy 44 = .ok (.if_icmp .eq 16, 3) := by decide +kernel
theorem dX6_hidesBy_47 : decode cX6_hidesBy 47 = .ok (.aload_n 0, 1) := by decide +kernel
theorem dX6_hidesBy_48 : decode cX6_hidesBy 48 = .ok (.iload_n 1, 1) := by decide +kernel
theorem dX6_hidesBy_49 : decode cX6_hidesBy 49 = .ok (.iload_n 2, 1) := by decide +kernel
theorem dX6_hidesBy_50 : decode cX6_hidesBy 50 = .ok (.invokevirtual 68, 3) := by decide +kernel
theorem dX6_hidesBy_53 : decode cX6_hidesBy 53 = .ok (.ifCond .eq 7, 3) := by decide +kernel
theorem dX6_hidesBy_56 : decode cX6_hidesBy 56 = .ok (.iload_n 3, 1) := by decide +kernel
theorem dX6_hidesBy_57 : decode cX6_hidesBy 57 = .ok (.goto 4, 3) := by decide +kernel
theorem dX6_hidesBy_60 : decode cX6_hidesBy 60 = .ok (.iconst 0, 1) := by decide +kernel
theorem dX6_hidesBy_61 : decode cX6_hidesBy 61 = .ok (.ireturn, 1) := by decide +kernel
set_option maxRecDepth 20000 in
theorem ggX6_findHiding_X6_hidesBy : GoodIn wsX6_findHiding wsX6_hidesBy := goodIn_r _ [8, 9, 10, 11, 7, 12, 13, 14, 15, 16, 1, 17, 18, 19, 20, 21, 22, 23, 24, 25, 26, 27, 28, 29, 30, 31, 32, 36, 37, 38, 39, 40, 41, 42, 43, 44, 45, 46, 47, 48, 49, 50, 51, 52] (by decide +kernel) (by decide +kernel)
set_option maxRecDepth 20000 in
theorem gX6_findHiding_X6_hidesBy : GoodIn wsX6_findHiding (wsV RX6 72 RX6 yX6_hidesBy wsX6_hidesBy) := goodIn_app (goodIn_of _ (by decide +kernel)) ggX6_findHiding_X6_hidesBy
set_option maxRecDepth 20000 in
theorem ggX6_findHiding_X6_has : GoodIn wsX6_findHiding wsX6_has := goodIn_r _ [35] (by decide +kernel) (by decide +kernel)
set_option maxRecDepth 20000 in
theorem gX6_findHiding_X6_has : GoodIn wsX6_findHiding (va_wsS RX6 75 yX6_has wsX6_has) := goodIn_app (goodIn_of _ (by decide +kernel)) ggX6_findHiding_X6_has
theorem dX6_findHiding_0 : decode cX6_findHiding 0 = .ok (.iconst 0, 1) := by decide +kernel
theorem dX6_findHiding_1 : decode cX6_findHiding 1 = .ok (.istore_n 1, 1) := by decide +kernel
theorem dX6_findHiding_2 : decode cX6_findHiding 2 = .ok (.iload_n 1, 1) := by decide +kernel
theorem dX6_findHiding_3 : decode cX6_findHiding 3 = .ok (.aload_n 0, 1) := by decide +kernel
theorem dX6_findHiding_4 : decode cX6_findHiding 4 = .ok (.getfield 7, 3) := by decide +kernel
theorem dX6_findHiding_7 : decode cX6_findHiding 7 = .ok (.iconst 0, 1) := by decide +kernel
theorem dX6_findHiding_8 : decode cX6_findHiding 8 = .ok (.iaload, 1) := by decide +kernel
theorem dX6_findHiding_9 : decode cX6_findHiding 9 = .ok (.if_icmp .ge 71, 3) := by decide +kernel
theorem dX6_findHiding_12 : decode cX6_findHiding 12 = .ok (.aload_n 0, 1) := by decide +kernel
theorem dX6_findHiding_13 : decode cX6_findHiding 13 = .ok (.getfield 25, 3) := by decide +kernel
theorem dX6_findHiding_16 : decode cX6_findHiding 16 = .ok (.iload_n 1, 1) := by decide +kernel
theorem dX6_findHiding_17 : decode cX6_findHiding 17 = .ok (.iconst 0, 1) := by decide +kernel
theorem dX6_findHiding_18 : decode cX6_findHiding 18 = .ok (.iastore, 1) := by decide +kernel
theorem dX6_findHiding_19 : decode cX6_findHiding 19 = .ok (.iconst 0, 1) := by decide +kernel
theorem dX6_findHiding_20 : decode cX6_findHiding 20 = .ok (.istore_n 2, 1) := by decide +kernel
theorem dX6_findHiding_21 : decode cX6_findHiding 21 = .ok (.iload_n 2, 1) := by decide +kernel
theorem dX6_findHiding_22 : decode cX6_findHiding 22 = .ok (.aload_n 0, 1) := by decide +kernel
theorem dX6_findHiding_23 : decode cX6_findHiding 23 = .ok (.getfield 7, 3) := by decide +kernel
theorem dX6_findHiding_26 : decode cX6_findHiding 26 = .ok (.iconst 0, 1) := by decide +kernel
theorem dX6_findHiding_27 : decode cX6_findHiding 27 = .ok (.iaload, 1) := by decide +kernel
theorem dX6_findHiding_28 : decode cX6_findHiding 28 = .ok (.if_icmp .ge 34, 3) := by decide +kernel
theorem dX6_findHiding_31 : decode cX6_findHiding 31 = .ok (.aload_n 0, 1) := by decide +kernel
theorem dX6_findHiding_32 : decode cX6_findHiding 32 = .ok (.getfield 25, 3) := by decide +kernel
theorem dX6_findHiding_35 : decode cX6_findHiding 35 = .ok (.iload_n 1, 1) := by decide +kernel
theorem dX6_findHiding_36 : decode cX6_findHiding 36 = .ok (.dup2, 1) := by decide +kernel
theorem dX6_findHiding_37 : decode cX6_findHiding 37 = .ok (.iaload, 1) := by decide +kernel
theorem dX6_findHiding_38 : decode cX6_findHiding 38 = .ok (.aload_n 0, 1) := by decide +kernel
theorem dX6_findHiding_39 : decode cX6_findHiding 39 = .ok (.iload_n 1, 1) := by decide +kernel
theorem dX6_findHiding_40 : decode cX6_findHiding 40 = .ok (.iload_n 2, 1) := by decide +kernel
theorem dX6_findHiding_41 : decode cX6_findHiding 41 = .ok (.invokevirtual 72, 3) := by decide +kernel
theorem dX6_findHiding_44 : decode cX6_findHiding 44 = .ok (.ifCond .le 9, 3) := by decide +kernel
theorem dX6_findHiding_47 : decode cX6_findHiding 47 = .ok (.iconst 1, 1) := by decide +kernel
theorem dX6_findHiding_48 : decode cX6_findHiding 48 = .ok (.iload_n 2, 1) := by decide +kernel
theorem dX6_findHiding_49 : decode cX6_findHiding 49 = .ok (.ishl, 1) := by decide +kernel
theorem dX6_findHiding_50 : decode cX6_findHiding 50 = .ok (.goto 4, 3) := by decide +kernel
theorem dX6_findHiding_53 : decode cX6_findHiding 53 = .ok (.iconst 0, 1) := by decide +kernel
theorem dX6_findHiding_54 : decode cX6_findHiding 54 = .ok (.ior, 1) := by decide +kernel
theorem dX6_findHiding_55 : decode cX6_findHiding 55 = .ok (.iastore, 1) := by decide +kernel
theorem dX6_findHiding_56 : decode cX6_findHiding 56 = .ok (.iinc 2 1, 3) := by decide +kernel
theorem dX6_findHiding_59 : decode cX6_findHiding 59 = .ok (.goto (-38), 3) := by decide +kernel
theorem dX6_findHiding_62 : decode cX6_findHiding 62 = .ok (.aload_n 0, 1) := by decide +kernel
theorem dX6_findHiding_63 : decode cX6_findHiding 63 = .ok (.getfield 28, 3) := by decide +kernel
theorem dX6_findHiding_66 : decode cX6_findHiding 66 = .ok (.iload_n 1, 1) := by decide +kernel
theorem dX6_findHiding_67 : decode cX6_findHiding 67 = .ok (.aload_n 0, 1) := by decide +kernel
theorem dX6_findHiding_68 : decode cX6_findHiding 68 = .ok (.getfield 25, 3) := by decide +kernel
theorem dX6_findHiding_71 : decode cX6_findHiding 71 = .ok (.iload_n 1, 1) := by decide +kernel
theorem dX6_findHiding_72 : decode cX6_findHiding 72 = .ok (.iaload, 1) := by decide +kernel
theorem dX6_findHiding_73 : decode cX6_findHiding 73 = .ok (.iastore, 1) := by decide +kernel
theorem dX6_findHiding_74 : decode cX6_findHiding 74 = .ok (.iinc 1 1, 3) := by decide +kernel
theorem dX6_findHiding_77 : decode cX6_findHiding 77 = .ok (.goto (-75), 3) := by decide +kernel
theorem dX6_findHiding_80 : decode cX6_findHiding 80 = .ok (.iconst 0, 1) := by decide +kernel
theorem dX6_findHiding_81 : decode cX6_findHiding 81 = .ok (.istore_n 1, 1) := by decide +kernel
theorem dX6_findHiding_82 : decode cX6_findHiding 82 = .ok (.iload_n 1, 1) := by decide +kernel
theorem dX6_findHiding_83 : decode cX6_findHiding 83 = .ok (.aload_n 0, 1) := by decide +kernel
theorem dX6_findHiding_84 : decode cX6_findHiding 84 = .ok (.getfield 7, 3) := by decide +kernel
theorem dX6_findHiding_87 : decode cX6_findHiding 87 = .ok (.iconst 0, 1) := by decide +kernel
theorem dX6_findHiding_88 : decode cX6_findHiding 88 = .ok (.iaload, 1) := by decide +kernel
theorem dX6_findHiding_89 : decode cX6_findHiding 89 = .ok (.if_icmp .ge 59, 3) := by decide +kernel
theorem dX6_findHiding_92 : decode cX6_findHiding 92 = .ok (.iconst 0, 1) := by decide +kernel
theorem dX6_findHiding_93 : decode cX6_findHiding 93 = .ok (.istore_n 2, 1) := by decide +kernel
theorem dX6_findHiding_94 : decode cX6_findHiding 94 = .ok (.iload_n 2, 1) := by decide +kernel
theorem dX6_findHiding_95 : decode cX6_findHiding 95 = .ok (.aload_n 0, 1) := by decide +kernel
theorem dX6_findHiding_96 : decode cX6_findHiding 96 = .ok (.getfield 7, 3) := by decide +kernel
theorem dX6_findHiding_99 : decode cX6_findHiding 99 = .ok (.iconst 0, 1) := by decide +kernel
theorem dX6_findHiding_100 : decode cX6_findHiding 100 = .ok (.iaload, 1) := by decide +kernel
theorem dX6_findHiding_101 : decode cX6_findHiding 101 = .ok (.if_icmp .ge 41, 3) := by decide +kernel
theorem dX6_findHiding_104 : decode cX6_findHiding 104 = .ok (.aload_n 0, 1) := by decide +kernel
theorem dX6_findHiding_105 : decode cX6_findHiding 105 = .ok (.getfield 28, 3) := by decide +kernel
theorem dX6_findHiding_108 : decode cX6_findHiding 108 = .ok (.iload_n 2, 1) := by decide +kernel
theorem dX6_findHiding_109 : decode cX6_findHiding 109 = .ok (.dup2, 1) := by decide +kernel
theorem dX6_findHiding_110 : decode cX6_findHiding 110 = .ok (.iaload, 1) := by decide +kernel
theorem dX6_findHiding_111 : decode cX6_findHiding 111 = .ok (.aload_n 0, 1) := by decide +kernel
theorem dX6_findHiding_112 : decode cX6_findHiding 112 = .ok (.getfield 28, 3) := by decide +kernel
theorem dX6_findHiding_115 : decode cX6_findHiding 115 = .ok (.iload_n 2, 1) := by decide +kernel
theorem dX6_findHiding_116 : decode cX6_findHiding 116 = .ok (.iaload, 1) := by decide +kernel
theorem dX6_findHiding_117 : decode cX6_findHiding 117 = .ok (.iload_n 1, 1) := by decide +kernel
theorem dX6_findHiding_118 : decode cX6_findHiding 118 = .ok (.invokestatic 75, 3) := by decide +kernel
theorem dX6_findHiding_121 : decode cX6_findHiding 121 = .ok (.ifCond .eq 12, 3) := by decide +kernel
theorem dX6_findHiding_124 : decode cX6_findHiding 124 = .ok (.aload_n 0, 1) := by decide +kernel
theorem dX6_findHiding_125 : decode cX6_findHiding 125 = .ok (.getfield 28, 3) := by decide +kernel
theorem dX6_findHiding_128 : decode cX6_findHiding 128 = .ok (.iload_n 1, 1) := by decide +kernel
theorem dX6_findHiding_129 : decode cX6_findHiding 129 = .ok (.iaload, 1) := by decide +kernel
theorem dX6_findHiding_130 : decode cX6_findHiding 130 = .ok (.goto 4, 3) := by decide +kernel
theorem dX6_findHiding_133 : decode cX6_findHiding 133 = .ok (.iconst 0, 1) := by decide +kernel
theorem dX6_findHiding_134 : decode cX6_findHiding 134 = .ok (.ior, 1) := by decide +kernel
theorem dX6_findHiding_135 : decode cX6_findHiding 135 = .ok (.iastore, 1) := by decide +kernel
theorem dX6_findHiding_136 : decode cX6_findHiding 136 = .ok (.iinc 2 1, 3) := by decide +kernel
theorem dX6_findHiding_139 : decode cX6_findHiding 139 = .ok (.goto (-45), 3) := by decide +kernel
theorem dX6_findHiding_142 : decode cX6_findHiding 142 = .ok (.iinc 1 1, 3) := by decide +kernel
theorem dX6_findHiding_145 : decode cX6_findHiding 145 = .ok (.goto (-63), 3) := by decide +kernel
theorem dX6_findHiding_148 : decode cX6_findHiding 148 = .ok (.return_, 1) := by decide +kernel
set_option maxRecDepth 20000 in
theorem ggX6_isInRing_X6_has : GoodIn wsX6_isInRing wsX6_has := goodIn_r _ [5] (by decide +kernel) (by decide +kernel)
set_option maxRecDepth 20000 in
theorem gX6_isInRing_X6_has : GoodIn wsX6_isInRing (va_wsS RX6 75 yX6_has wsX6_has) := goodIn_app (goodIn_of _ (by decide +kernel)) ggX6_isInRing_X6_has
theorem dX6_isInRing_0 : decode cX6_isInRing 0 = .ok (.aload_n 0, 1) := by decide +kernel
theorem dX6_isInRing_1 : decode cX6_isInRing 1 = .ok (.getfield 28, 3) := by decide +kernel
theorem dX6_isInRing_4 : decode cX6_isInRing 4 = .ok (.iload_n 1, 1) := by decide +kernel
theorem dX6_isInRing_5 : decode cX6_isInRing 5 = .ok (.iaload, 1) := by decide +kernel
theorem dX6_isInRing_6 : decode cX6_isInRing 6 = .ok (.iload_n 1, 1) := by decide +kernel
theorem dX6_isInRing_7 : decode cX6_isInRing 7 = .ok (.invokestatic 75, 3) := by decide +kernel
theorem dX6_isInRing_10 : decode cX6_isInRing 10 = .ok (.ireturn, 1) := by decide +kernel
set_option maxRecDepth 20000 in
theorem ggX6_ringBoxes_X6_isInRing : GoodIn wsX6_ringBoxes wsX6_isInRing := goodIn_r _ [6, 7, 8, 9, 5, 10, 11, 12, 13, 14, 15, 16, 17, 18, 19, 20, 21, 22, 23, 24, 25, 26, 27] (by decide +kernel) (by decide +kernel)
set_option maxRecDepth 20000 in
theorem gX6_ringBoxes_X6_isInRing : GoodIn wsX6_ringBoxes (wsV RX6 78 RX6 yX6_isInRing wsX6_isInRing) := goodIn_app (goodIn_of _ (by decide +kernel)) ggX6_ringBoxes_X6_isInRing
theorem dX6_ringBoxes_0 : decode cX6_ringBoxes 0 = .ok (.iconst 0, 1) := by decide +kernel
theorem dX6_ringBoxes_1 : decode cX6_ringBoxes 1 = .ok (.istore_n 1, 1) := by decide +kernel
theorem dX6_ringBoxes_2 : decode cX6_ringBoxes 2 = .ok (.iconst 0, 1) := by decide +kernel
theorem dX6_ringBoxes_3 : decode cX6_ringBoxes 3 = .ok (.istore_n 2, 1) := by decide +kernel
theorem dX6_ringBoxes_4 : decode cX6_ringBoxes 4 = .ok (.iload_n 2, 1) := by decide +kernel
theorem dX6_ringBoxes_5 : decode cX6_ringBoxes 5 = .ok (.aload_n 0, 1) := by decide +kernel
theorem dX6_ringBoxes_6 : decode cX6_ringBoxes 6 = .ok (.getfield 7, 3) := by decide +kernel
theorem dX6_ringBoxes_9 : decode cX6_ringBoxes 9 = .ok (.iconst 0, 1) := by decide +kernel
theorem dX6_ringBoxes_10 : decode cX6_ringBoxes 10 = .ok (.iaload, 1) := by decide +kernel
theorem dX6_ringBoxes_11 : decode cX6_ringBoxes 11 = .ok (.if_icmp .ge 27, 3) := by decide +kernel
theorem dX6_ringBoxes_14 : decode cX6_ringBoxes 14 = .ok (.iload_n 1, 1) := by decide +kernel
theorem dX6_ringBoxes_15 : decode cX6_ringBoxes 15 = .ok (.aload_n 0, 1) := by decide +kernel
theorem dX6_ringBoxes_16 : decode cX6_ringBoxes 16 = .ok (.iload_n 2, 1) := by decide +kernel
theorem dX6_ringBoxes_17 : decode cX6_ringBoxes 17 = .ok (.invokevirtual 78, 3) := by decide +kernel
theorem dX6_ringBoxes_20 : decode cX6_ringBoxes 20 = .ok (.ifCond .eq 9, 3) := by decide +kernel
theorem dX6_ringBoxes_23 : decode cX6_ringBoxes 23 = .ok (.iconst 1, 1) := by decide +kernel
theorem dX6_ringBoxes_24 : decode cX6_ringBoxes 24 = .ok (.iload_n 2, 1) := by decide +kernel
theorem dX6_ringBoxes_25 : decode cX6_ringBoxes 25 = .ok (.ishl, 1) := by decide +kernel
theorem dX6_ringBoxes_26 : decode cX6_ringBoxes 26 = .ok (.goto 4, 3) := by decide +kernel
theorem dX6_ringBoxes_29 : decode cX6_ringBoxes 29 = .ok (.iconst 0, 1) := by decide +kernel
theorem dX6_ringBoxes_30 : decode cX6_ringBoxes 30 = .ok (.ior, 1) := by decide +kernel
theorem dX6_ringBoxes_31 : decode cX6_ringBoxes 31 = .ok (.istore_n 1, 1) := by decide +kernel
theorem dX6_ringBoxes_32 : decode cX6_ringBoxes 32 = .ok (.iinc 2 1, 3) := by decide +kernel
theorem dX6_ringBoxes_35 : decode cX6_ringBoxes 35 = .ok (.goto (-31), 3) := by decide +kernel
theorem dX6_ringBoxes_38 : decode cX6_ringBoxes 38 = .ok (.iload_n 1, 1) := by decide +kernel
theorem dX6_ringBoxes_39 : decode cX6_ringBoxes 39 = .ok (.ireturn, 1) := by decide +kernel
set_option maxRecDepth 20000 in
theorem ggX6_hiddenByAny_X6_has : GoodIn wsX6_hiddenByAny wsX6_has := goodIn_r _ [6] (by decide +kernel) (by decide +kernel)
set_option maxRecDepth 20000 in
theorem gX6_hiddenByAny_X6_has : GoodIn wsX6_hiddenByAny (va_wsS RX6 75 yX6_has wsX6_has) := goodIn_app (goodIn_of _ (by decide +kernel)) ggX6_hiddenByAny_X6_has
theorem dX6_hiddenByAny_0 : decode cX6_hiddenByAny 0 = .ok (.iconst 0, 1) := by decide +kernel
theorem dX6_hiddenByAny_1 : decode cX6_hiddenByAny 1 = .ok (.istore_n 2, 1) := by decide +kernel
theorem dX6_hiddenByAny_2 : decode cX6_hiddenByAny 2 = .ok (.iconst 0, 1) := by decide +kernel
theorem dX6_hiddenByAny_3 : decode cX6_hiddenByAny 3 = .ok (.istore_n 3, 1) := by decide +kernel
theorem dX6_hiddenByAny_4 : decode cX6_hiddenByAny 4 = .ok (.iload_n 3, 1) := by decide +kernel
theorem dX6_hiddenByAny_5 : decode cX6_hiddenByAny 5 = .ok (.aload_n 0, 1) := by decide +kernel
theorem dX6_hiddenByAny_6 : decode cX6_hiddenByAny 6 = .ok (.getfield 7, 3) := by decide +kernel
theorem dX6_hiddenByAny_9 : decode cX6_hiddenByAny 9 = .ok (.iconst 0, 1) := by decide +kernel
theorem dX6_hiddenByAny_10 : decode cX6_hiddenByAny 10 = .ok (.iaload, 1) := by decide +kernel
theorem dX6_hiddenByAny_11 : decode cX6_hiddenByAny 11 = .ok (.if_icmp .ge 30, 3) := by decide +kernel
theorem dX6_hiddenByAny_14 : decode cX6_hiddenByAny 14 = .ok (.iload_n 2, 1) := by decide +kernel
theorem dX6_hiddenByAny_15 : decode cX6_hiddenByAny 15 = .ok (.iload_n 1, 1) := by decide +kernel
theorem dX6_hiddenByAny_16 : decode cX6_hiddenByAny 16 = .ok (.iload_n 3, 1) := by decide +kernel
theorem dX6_hiddenByAny_17 : decode cX6_hiddenByAny 17 = .ok (.invokestatic 75, 3) := by decide +kernel
theorem dX6_hiddenByAny_20 : decode cX6_hiddenByAny 20 = .ok (.ifCond .eq 12, 3) := by decide +kernel
theorem dX6_hiddenByAny_23 : decode cX6_hiddenByAny 23 = .ok (.aload_n 0, 1) := by decide +kernel
theorem dX6_hiddenByAny_24 : decode cX6_hiddenByAny 24 = .ok (.getfield 25, 3) := by decide +kernel
theorem dX6_hiddenByAny_27 : decode cX6_hiddenByAny 27 = .ok (.iload_n 3, 1) := by decide +kernel
theorem dX6_hiddenByAny_28 : decode cX6_hiddenByAny 28 = .ok (.iaload, 1) := by decide +kernel
theorem dX6_hiddenByAny_29 : decode cX6_hiddenByAny 29 = .ok (.goto 4, 3) := by decide +kernel
theorem dX6_hiddenByAny_32 : decode cX6_hiddenByAny 32 = .ok (.iconst 0, 1) := by decide +kernel
theorem dX6_hiddenByAny_33 : decode cX6_hiddenByAny 33 = .ok (.ior, 1) := by decide +kernel
theorem dX6_hiddenByAny_34 : decode cX6_hiddenByAny 34 = .ok (.istore_n 2, 1) := by decide +kernel
theorem dX6_hiddenByAny_35 : decode cX6_hiddenByAny 35 = .ok (.iinc 3 1, 3) := by decide +kernel
theorem dX6_hiddenByAny_38 : decode cX6_hiddenByAny 38 = .ok (.goto (-34), 3) := by decide +kernel
theorem dX6_hiddenByAny_41 : decode cX6_hiddenByAny 41 = .ok (.iload_n 2, 1) := by decide +kernel
theorem dX6_hiddenByAny_42 : decode cX6_hiddenByAny 42 = .ok (.ireturn, 1) := by decide +kernel
set_option maxRecDepth 20000 in
theorem ggX6_shortestRing_X6_has : GoodIn wsX6_shortestRing wsX6_has := goodIn_r _ [5] (by decide +kernel) (by decide +kernel)
set_option maxRecDepth 20000 in
theorem gX6_shortestRing_X6_has : GoodIn wsX6_shortestRing (va_wsS RX6 75 yX6_has wsX6_has) := goodIn_app (goodIn_of _ (by decide +kernel)) ggX6_shortestRing_X6_has
set_option maxRecDepth 20000 in
theorem ggX6_shortestRing_X6_hiddenByAny : GoodIn wsX6_shortestRing wsX6_hiddenByAny := goodIn_r _ [9, 10, 1, 2, 3, 4, 5, 11, 12, 13, 14, 15, 16, 17, 18, 19, 20, 21, 22, 23, 24, 25, 26, 27] (by decide +kernel) (by decide +kernel)
set_option maxRecDepth 20000 in
theorem gX6_shortestRing_X6_hiddenByAny : GoodIn wsX6_shortestRing (wsV RX6 82 RX6 yX6_hiddenByAny wsX6_hiddenByAny) := goodIn_app (goodIn_of _ (by decide +kernel)) ggX6_shortestRing_X6_hiddenByAny
theorem dX6_shortestRing_0 : decode cX6_shortestRing 0 = .ok (.aload_n 0, 1) := by decide +kernel
theorem dX6_shortestRing_1 : decode cX6_shortestRing 1 = .ok (.getfield 25, 3) := by decide +kernel
theorem dX6_shortestRing_4 : decode cX6_shortestRing 4 = .ok (.iload_n 1, 1) := by decide +kernel
theorem dX6_shortestRing_5 : decode cX6_shortestRing 5 = .ok (.iaload, 1) := by decide +kernel
theorem dX6_shortestRing_6 : decode cX6_shortestRing 6 = .ok (.istore_n 2, 1) := by decide +kernel
theorem dX6_shortestRing_7 : decode cX6_shortestRing 7 = .ok (.iconst 1, 1) := by decide +kernel
theorem dX6_shortestRing_8 : decode cX6_shortestRing 8 = .ok (.istore_n 3, 1) := by decide +kernel
theorem dX6_shortestRing_9 : decode cX6_shortestRing 9 = .ok (.iload_n 2, 1) := by decide +kernel
theorem dX6_shortestRing_10 : decode cX6_shortestRing 10 = .ok (.iload_n 1, 1) := by decide +kernel
theorem dX6_shortestRing_11 : decode cX6_shortestRing 11 = .ok (.invokestatic 75, 3) := by decide +kernel
theorem dX6_shortestRing_14 : decode cX6_shortestRing 14 = .ok (.ifCond .ne 15, 3) := by decide +kernel
theorem dX6_shortestRing_17 : decode cX6_shortestRing 17 = .ok (.aload_n 0, 1) := by decide +kernel
theorem dX6_shortestRing_18 : decode cX6_shortestRing 18 = .ok (.iload_n 2, 1) := by decide +kernel
theorem dX6_shortestRing_19 : decode cX6_shortestRing 19 = .ok (.invokevirtual 82, 3) := by decide +kernel
theorem dX6_shortestRing_22 : decode cX6_shortestRing 22 = .ok (.istore_n 2, 1) := by decide +kernel
theorem dX6_shortestRing_23 : decode cX6_shortestRing 23 = .ok (.iinc 3 1, 3) := by decide +kernel
theorem dX6_shortestRing_26 : decode cX6_shortestRing 26 = .ok (.goto (-17), 3) := by decide +kernel
theorem dX6_shortestRing_29 : decode cX6_shortestRing 29 = .ok (.iload_n 3, 1) := by decide +kernel
theorem dX6_shortestRing_30 : decode cX6_shortestRing 30 = .ok (.ireturn, 1) := by decide +kernel
set_option maxRecDepth 20000 in
theorem ggX6_shortestOfAll_X6_isInRing : GoodIn wsX6_shortestOfAll wsX6_isInRing := goodIn_r _ [6, 7, 8, 9, 5, 10, 20, 21, 22, 23, 24, 25, 26, 27, 28, 29, 30, 31, 32, 33, 34, 35, 36] (by decide +kernel) (by decide +kernel)
set_option maxRecDepth 20000 in
theorem gX6_shortestOfAll_X6_isInRing : GoodIn wsX6_shortestOfAll (wsV RX6 78 RX6 yX6_isInRing wsX6_isInRing) := goodIn_app (goodIn_of _ (by decide +kernel)) ggX6_shortestOfAll_X6_isInRing
set_option maxRecDepth 20000 in
theorem ggX6_shortestOfAll_X6_shortestRing : GoodIn wsX6_shortestOfAll wsX6_shortestRing := goodIn_r _ [14, 15, 8, 9, 5, 10, 16, 17, 18, 19, 1, 20, 21, 22, 23, 24, 25, 26, 27, 28, 29, 30, 31, 32, 33, 34, 35, 36] (by decide +kernel) (by decide +kernel)
set_option maxRecDepth 20000 in
theorem gX6_shortestOfAll_X6_shortestRing : GoodIn wsX6_shortestOfAll (wsV RX6 86 RX6 yX6_shortestRing wsX6_shortestRing) := goodIn_app (goodIn_of _ (by decide +kernel)) ggX6_shortestOfAll_X6_shortestRing
theorem dX6_shortestOfAll_0 : decode cX6_shortestOfAll 0 = .ok (.bipush (-5), 2) := by decide +kernel
theorem dX6_shortestOfAll_2 : decode cX6_shortestOfAll 2 = .ok (.istore_n 1, 1) := by decide +kernel
theorem dX6_shortestOfAll_3 : decode cX6_shortestOfAll 3 = .ok (.iconst 0, 1) := by decide +kernel
theorem dX6_shortestOfAll_4 : decode cX6_shortestOfAll 4 = .ok (.istore_n 2, 1) := by decide +kernel
theorem dX6_shortestOfAll_5 : decode cX6_shortestOfAll 5 = .ok (.iload_n 2, 1) := by decide +kernel
theorem dX6_shortestOfAll_6 : decode cX6_shortestOfAll 6 = .ok (.aload_n 0, 1) := by decide +kernel
theorem dX6_shortestOfAll_7 : decode cX6_shortestOfAll 7 = .ok (.getfield 7, 3) := by decide +kernel
theorem dX6_shortestOfAll_10 : decode cX6_shortestOfAll 10 = .ok (.iconst 0, 1) := by decide +kernel
theorem dX6_shortestOfAll_11 : decode cX6_shortestOfAll 11 = .ok (.iaload, 1) := by decide +kernel
theorem dX6_shortestOfAll_12 : decode cX6_shortestOfAll 12 = .ok (.if_icmp .ge 38, 3) := by decide +kernel
theorem dX6_shortestOfAll_15 : decode cX6_shortestOfAll 15 = .ok (.aload_n 0, 1) := by decide +kernel
theorem dX6_shortestOfAll_16 : decode cX6_shortestOfAll 16 = .ok (.iload_n 2, 1) := by decide +kernel
theorem dX6_shortestOfAll_17 : decode cX6_shortestOfAll 17 = .ok (.invokevirtual 78, 3) := by decide +kernel
theorem dX6_shortestOfAll_20 : decode cX6_shortestOfAll 20 = .ok (.ifCond .eq 24, 3) := by decide +kernel
theorem dX6_shortestOfAll_23 : decode cX6_shortestOfAll 23 = .ok (.aload_n 0, 1) := by decide +kernel
theorem dX6_shortestOfAll_24 : decode cX6_shortestOfAll 24 = .ok (.iload_n 2, 1) := by decide +kernel
theorem dX6_shortestOfAll_25 : decode cX6_shortestOfAll 25 = .ok (.invokevirtual 86, 3) := by decide +kernel
theorem dX6_shortestOfAll_28 : decode cX6_shortestOfAll 28 = .ok (.istore_n 3, 1) := by decide +kernel
theorem dX6_shortestOfAll_29 : decode cX6_shortestOfAll 29 = .ok (.iload_n 1, 1) := by decide +kernel
theorem dX6_shortestOfAll_30 : decode cX6_shortestOfAll 30 = .ok (.ifCond .lt 8, 3) := by decide +kernel
theorem dX6_shortestOfAll_33 : decode cX6_shortestOfAll 33 = .ok (.iload_n 3, 1) := by decide +kernel
theorem dX6_shortestOfAll_34 : decode cX6_shortestOfAll 34 = .ok (.iload_n 1, 1) := by decide +kernel
theorem dX6_shortestOfAll_35 : decode cX6_shortestOfAll 35 = .ok (.if_icmp .ge 7, 3) := by decide +kernel
theorem dX6_shortestOfAll_38 : decode cX6_shortestOfAll 38 = .ok (.iload_n 3, 1) := by decide +kernel
theorem dX6_shortestOfAll_39 : decode cX6_shortestOfAll 39 = .ok (.goto 4, 3) := by decide +kernel
theorem dX6_shortestOfAll_42 : decode cX6_shortestOfAll 42 = .ok (.iload_n 1, 1) := by decide +kernel
theorem dX6_shortestOfAll_43 : decode cX6_shortestOfAll 43 = .ok (.istore_n 1, 1) := by decide +kernel
theorem dX6_shortestOfAll_44 : decode cX6_shortestOfAll 44 = .ok (.iinc 2 1, 3) := by decide +kernel
theorem dX6_shortestOfAll_47 : decode cX6_shortestOfAll 47 = .ok (.goto (-42), 3) := by decide +kernel
theorem dX6_shortestOfAll_50 : decode cX6_shortestOfAll 50 = .ok (.iload_n 1, 1) := by decide +kernel
theorem dX6_shortestOfAll_51 : decode cX6_shortestOfAll 51 = .ok (.ireturn, 1) := by decide +kernel
set_option maxRecDepth 20000 in
theorem ggX6_findLayers_X6_ringBoxes : GoodIn wsX6_findLayers wsX6_ringBoxes := goodIn_r _ [9, 1, 10, 11, 12, 8, 13, 3, 14, 15, 16, 17, 18, 19, 20, 21, 22, 23, 24, 25, 26, 27, 28, 29, 30, 31, 32, 33] (by decide +kernel) (by decide +kernel)
set_option maxRecDepth 20000 in
theorem gX6_findLayers_X6_ringBoxes : GoodIn wsX6_findLayers (wsV RX6 89 RX6 yX6_ringBoxes wsX6_ringBoxes) := goodIn_app (goodIn_of _ (by decide +kernel)) ggX6_findLayers_X6_ringBoxes
set_option maxRecDepth 20000 in
theorem ggX6_findLayers_X6_has : GoodIn wsX6_findLayers wsX6_has := goodIn_r _ [16] (by decide +kernel) (by decide +kernel)
set_option maxRecDepth 20000 in
theorem gX6_findLayers_X6_has : GoodIn wsX6_findLayers (va_wsS RX6 75 yX6_has wsX6_has) := goodIn_app (goodIn_of _ (by decide +kernel)) ggX6_findLayers_X6_has
theorem dX6_findLayers_0 : decode cX6_findLayers 0 = .ok (.aload_n 0, 1) := by decide +kernel
theorem dX6_findLayers_1 : decode cX6_findLayers 1 = .ok (.invokevirtual 89, 3) := by decide +kernel
theorem dX6_findLayers_4 : decode cX6_findLayers 4 = .ok (.istore_n 1, 1) := by decide +kernel
theorem dX6_findLayers_5 : decode cX6_findLayers 5 = .ok (.iconst 0, 1) := by decide +kernel
theorem dX6_findLayers_6 : decode cX6_findLayers 6 = .ok (.istore_n 2, 1) := by decide +kernel
theorem dX6_findLayers_7 : decode cX6_findLayers 7 = .ok (.iload_n 2, 1) := by decide +kernel
theorem dX6_findLayers_8 : decode cX6_findLayers 8 = .ok (.aload_n 0, 1) := by decide +kernel
theorem dX6_findLayers_9 : decode cX6_findLayers 9 = .ok (.getfield 7, 3) := by decide +kernel
theorem dX6_findLayers_12 : decode cX6_findLayers 12 = .ok (.iconst 0, 1) := by decide +kernel
theorem dX6_findLayers_13 : decode cX6_findLayers 13 = .ok (.iaload, 1) := by decide +kernel
theorem dX6_findLayers_14 : decode cX6_findLayers 14 = .ok (.if_icmp .ge 40, 3) := by decide +kernel
theorem dX6_findLayers_17 : decode cX6_findLayers 17 = .ok (.aload_n 0, 1) := by decide +kernel
theorem dX6_findLayers_18 : decode cX6_findLayers 18 = .ok (.getfield 31, 3) := by decide +kernel
theorem dX6_findLayers_21 : decode cX6_findLayers 21 = .ok (.iload_n 2, 1) := by decide +kernel
theorem dX6_findLayers_22 : decode cX6_findLayers 22 = .ok (.iload_n 1, 1) := by decide +kernel
theorem dX6_findLayers_23 : decode cX6_findLayers 23 = .ok (.iload_n 2, 1) := by decide +kernel
theorem dX6_findLayers_24 : decode cX6_findLayers 24 = .ok (.invokestatic 75, 3) := by decide +kernel
theorem dX6_findLayers_27 : decode cX6_findLayers 27 = .ok (.ifCond .ne 14, 3) := by decide +kernel
theorem dX6_findLayers_30 : decode cX6_findLayers 30 = .ok (.aload_n 0, 1) := by decide +kernel
theorem dX6_findLayers_31 : decode cX6_findLayers 31 = .ok (.getfield 28, 3) := by decide +kernel
theorem dX6_findLayers_34 : decode cX6_findLayers 34 = .ok (.iload_n 2, 1) := by decide +kernel
theorem dX6_findLayers_35 : decode cX6_findLayers 35 = .ok (.iaload, 1) := by decide +kernel
theorem dX6_findLayers_36 : decode cX6_findLayers 36 = .ok (.iload_n 1, 1) := by decide +kernel
theorem dX6_findLayers_37 : decode cX6_findLayers 37 = .ok (.iand, 1) := by decide +kernel
theorem dX6_findLayers_38 : decode cX6_findLayers 38 = .ok (.ifCond .eq 8, 3) := by decide +kernel
theorem dX6_findLayers_41 : decode cX6_findLayers 41 = .ok (.bipush (-5), 2) := by decide +kernel
theorem dX6_findLayers_43 : decode cX6_findLayers 43 = .ok (.goto 4, 3) := by decide +kernel
theorem dX6_findLayers_46 : decode cX6_findLayers 46 = .ok (.iconst 0, 1) := by decide +kernel
theorem dX6_findLayers_47 : decode cX6_findLayers 47 = .ok (.iastore, 1) := by decide +kernel
theorem dX6_findLayers_48 : decode cX6_findLayers 48 = .ok (.iinc 2 1, 3) := by decide +kernel
theorem dX6_findLayers_51 : decode cX6_findLayers 51 = .ok (.goto (-44), 3) := by decide +kernel
theorem dX6_findLayers_54 : decode cX6_findLayers 54 = .ok (.iconst 0, 1) := by decide +kernel
theorem dX6_findLayers_55 : decode cX6_findLayers 55 = .ok (.istore_n 2, 1) := by decide +kernel
theorem dX6_findLayers_56 : decode cX6_findLayers 56 = .ok (.iload_n 2, 1) := by decide +kernel
theorem dX6_findLayers_57 : decode cX6_findLayers 57 = .ok (.aload_n 0, 1) := by decide +kernel
theorem dX6_findLayers_58 : decode cX6_findLayers 58 = .ok (.getfield 7, 3) := by decide +kernel
theorem dX6_findLayers_61 : decode cX6_findLayers 61 = .ok (.iconst 0, 1) := by decide +kernel
theorem dX6_findLayers_62 : decode cX6_findLayers 62 = .ok (.iaload, 1) := by decide +kernel
theorem dX6_findLayers_63 : decode cX6_findLayers 63 = .ok (.if_icmp .ge 110, 3) := by decide +kernel
theorem dX6_findLayers_66 : decode cX6_findLayers 66 = .ok (.iconst 0, 1) := by decide +kernel
theorem dX6_findLayers_67 : decode cX6_findLayers 67 = .ok (.istore_n 3, 1) := by decide +kernel
theorem dX6_findLayers_68 : decode cX6_findLayers 68 = .ok (.iload_n 3, 1) := by decide +kernel
theorem dX6_findLayers_69 : decode cX6_findLayers 69 = .ok (.aload_n 0, 1) := by decide +kernel
theorem dX6_findLayers_70 : decode cX6_findLayers 70 = .ok (.getfield 7, 3) := by decide +kernel
theorem dX6_findLayers_73 : decode cX6_findLayers 73 = .ok (.iconst 0, 1) := by decide +kernel
theorem dX6_findLayers_74 : decode cX6_findLayers 74 = .ok (.iaload, 1) := by decide +kernel
theorem dX6_findLayers_75 : decode cX6_findLayers 75 = .ok (.if_icmp .ge 92, 3) := by decide +kernel
theorem dX6_findLayers_78 : decode cX6_findLayers 78 = .ok (.iconst 0, 1) := by decide +kernel
theorem dX6_findLayers_79 : decode cX6_findLayers 79 = .ok (.istore 4, 2) := by decide +kernel
theorem dX6_findLayers_81 : decode cX6_findLayers 81 = .ok (.iload 4, 2) := by decide +kernel
theorem dX6_findLayers_83 : decode cX6_findLayers 83 = .ok (.aload_n 0, 1) := by decide +kernel
theorem dX6_findLayers_84 : decode cX6_findLayers 84 = .ok (.getfield 7, 3) := by decide +kernel
theorem dX6_findLayers_87 : decode cX6_findLayers 87 = .ok (.iconst 0, 1) := by decide +kernel
theorem dX6_findLayers_88 : decode cX6_findLayers 88 = .ok (.iaload, 1) := by decide +kernel
theorem dX6_findLayers_89 : decode cX6_findLayers 89 = .ok (.if_icmp .ge 72, 3) := by decide +kernel
theorem dX6_findLayers_92 : decode cX6_findLayers 92 = .ok (.aload_n 0, 1) := by decide +kernel
theorem dX6_findLayers_93 : decode cX6_findLayers 93 = .ok (.getfield 31, 3) := by decide +kernel
theorem dX6_findLayers_96 : decode cX6_findLayers 96 = .ok (.iload_n 3, 1) := by decide +kernel
theorem dX6_findLayers_97 : decode cX6_findLayers 97 = .ok (.aload_n 0, 1) := by decide +kernel
theorem dX6_findLayers_98 : decode cX6_findLayers 98 = .ok (.getfield 31, 3) := by decide +kernel
theorem dX6_findLayers_101 : decode cX6_findLayers 101 = .ok (.iload_n 3, 1) := by decide +kernel
theorem dX6_findLayers_102 : decode cX6_findLayers 102 = .ok (.iaload, 1) := by decide +kernel
theorem dX6_findLayers_103 : decode cX6_findLayers 103 = .ok (.ifCond .lt 45, 3) := by decide +kernel
theorem dX6_findLayers_106 : decode cX6_findLayers 106 = .ok (.aload_n 0, 1) := by decide +kernel
theorem dX6_findLayers_107 : decode cX6_findLayers 107 = .ok (.getfield 25, 3) := by decide +kernel
theorem dX6_findLayers_110 : decode cX6_findLayers 110 = .ok (.iload_n 3, 1) := by decide +kernel
theorem dX6_findLayers_111 : decode cX6_findLayers 111 = .ok (.iaload, 1) := by decide +kernel
theorem dX6_findLayers_112 : decode cX6_findLayers 112 = .ok (.iload 4, 2) := by decide +kernel
theorem dX6_findLayers_114 : decode cX6_findLayers 114 = .ok (.invokestatic 75, 3) := by decide +kernel
theorem dX6_findLayers_117 : decode cX6_findLayers 117 = .ok (.ifCond .eq 31, 3) := by decide +kernel
theorem dX6_findLayers_120 : decode cX6_findLayers 120 = .ok (.aload_n 0, 1) := by decide +kernel
theorem dX6_findLayers_121 : decode cX6_findLayers 121 = .ok (.getfield 31, 3) := by decide +kernel
theorem dX6_findLayers_124 : decode cX6_findLayers 124 = .ok (.iload 4, 2) := by decide +kernel
theorem dX6_findLayers_126 : decode cX6_findLayers 126 = .ok (.iaload, 1) := by decide +kernel
theorem dX6_findLayers_127 : decode cX6_findLayers 127 = .ok (.aload_n 0, 1) := by decide +kernel
theorem dX6_findLayers_128 : decode cX6_findLayers 128 = .ok (.getfield 31, 3) := by decide +kernel
theorem dX6_findLayers_131 : decode cX6_findLayers 131 = .ok (.iload_n 3, 1) := by decide +kernel
theorem dX6_findLayers_132 : decode cX6_findLayers 132 = .ok (.iaload, 1) := by decide +kernel
theorem dX6_findLayers_133 : decode cX6_findLayers 133 = .ok (.if_icmp .lt 15, 3) := by decide +kernel
theorem dX6_findLayers_136 : decode cX6_findLayers 136 = .ok (.aload_n 0, 1) := by decide +kernel
theorem dX6_findLayers_137 : decode cX6_findLayers 137 = .ok (.getfield 31, 3) := by decide +kernel
theorem dX6_findLayers_140 : decode cX6_findLayers 140 = .ok (.iload 4, 2) := by decide +kernel
theorem dX6_findLayers_142 : decode cX6_findLayers 142 = .ok (.iaload, 1) := by decide +kernel
theorem dX6_findLayers_143 : decode cX6_findLayers 143 = .ok (.iconst 1, 1) := by decide +kernel
theorem dX6_findLayers_144 : decode cX6_findLayers 144 = .ok (.iadd, 1) := by decide +kernel
theorem dX6_findLayers_145 : decode cX6_findLayers 145 = .ok (.goto 9, 3) := by decide +kernel
theorem dX6_findLayers_148 : decode cX6_findLayers 148 = .ok (.aload_n 0, 1) := by decide +kernel
theorem dX6_findLayers_149 : decode cX6_findLayers 149 = .ok (.getfield 31, 3) := by decide +kernel
theorem dX6_findLayers_152 : decode cX6_findLayers 152 = .ok (.iload_n 3, 1) := by decide +kernel
theorem dX6_findLayers_153 : decode cX6_findLayers 153 = .ok (.iaload, 1) := by decide +kernel
theorem dX6_findLayers_154 : decode cX6_findLayers 154 = .ok (.iastore, 1) := by decide +kernel
theorem dX6_findLayers_155 : decode cX6_findLayers 155 = .ok (.iinc 4 1, 3) := by decide +kernel
theorem dX6_findLayers_158 : decode cX6_findLayers 158 = .ok (.goto (-77), 3) := by decide +kernel
theorem dX6_findLayers_161 : decode cX6_findLayers 161 = .ok (.iinc 3 1, 3) := by decide +kernel
theorem dX6_findLayers_164 : decode cX6_findLayers 164 = .ok (.goto (-96), 3) := by decide +kernel
theorem dX6_findLayers_167 : decode cX6_findLayers 167 = .ok (.iinc 2 1, 3) := by decide +kernel
theorem dX6_findLayers_170 : decode cX6_findLayers 170 = .ok (.goto (-114), 3) := by decide +kernel
theorem dX6_findLayers_173 : decode cX6_findLayers 173 = .ok (.return_, 1) := by decide +kernel
set_option maxRecDepth 20000 in
theorem ggX6_weight_X6_low : GoodIn wsX6_weight wsX6_low := goodIn_r _ [6, 7, 8, 9, 5, 10, 1, 19, 20, 21, 22, 23, 24, 25, 26, 27, 28, 29, 30, 31, 32, 33, 34, 35] (by decide +kernel) (by decide +kernel)
set_option maxRecDepth 20000 in
theorem gX6_weight_X6_low : GoodIn wsX6_weight (wsV RX6 47 RX6 yX6_low wsX6_low) := goodIn_app (goodIn_of _ (by decide +kernel)) ggX6_weight_X6_low
set_option maxRecDepth 20000 in
theorem ggX6_weight_X6_volume : GoodIn wsX6_weight wsX6_volume := goodIn_r _ [14, 15, 16, 17, 5, 18, 7, 8, 9, 10, 1, 19, 20, 21, 22, 23, 24, 25, 26, 27, 28, 29, 30, 31, 32, 33, 34, 35] (by decide +kernel) (by decide +kernel)
set_option maxRecDepth 20000 in
theorem gX6_weight_X6_volume : GoodIn wsX6_weight (wsV RX6 93 RX6 yX6_volume wsX6_volume) := goodIn_app (goodIn_of _ (by decide +kernel)) ggX6_weight_X6_volume
theorem dX6_weight_0 : decode cX6_weight 0 = .ok (.aload_n 0, 1) := by decide +kernel
theorem dX6_weight_1 : decode cX6_weight 1 = .ok (.getfield 7, 3) := by decide +kernel
theorem dX6_weight_4 : decode cX6_weight 4 = .ok (.iconst 3, 1) := by decide +kernel
theorem dX6_weight_5 : decode cX6_weight 5 = .ok (.iaload, 1) := by decide +kernel
theorem dX6_weight_6 : decode cX6_weight 6 = .ok (.ifCond .ne 7, 3) := by decide +kernel
theorem dX6_weight_9 : decode cX6_weight 9 = .ok (.iconst 0, 1) := by decide +kernel
theorem dX6_weight_10 : decode cX6_weight 10 = .ok (.goto 41, 3) := by decide +kernel
theorem dX6_weight_13 : decode cX6_weight 13 = .ok (.aload_n 0, 1) := by decide +kernel
theorem dX6_weight_14 : decode cX6_weight 14 = .ok (.getfield 7, 3) := by decide +kernel
theorem dX6_weight_17 : decode cX6_weight 17 = .ok (.iconst 3, 1) := by decide +kernel
theorem dX6_weight_18 : decode cX6_weight 18 = .ok (.iaload, 1) := by decide +kernel
theorem dX6_weight_19 : decode cX6_weight 19 = .ok (.iconst 1, 1) := by decide +kernel
theorem dX6_weight_20 : decode cX6_weight 20 = .ok (.if_icmp .ne 26, 3) := by decide +kernel
theorem dX6_weight_23 : decode cX6_weight 23 = .ok (.aload_n 0, 1) := by decide +kernel
theorem dX6_weight_24 : decode cX6_weight 24 = .ok (.iload_n 1, 1) := by decide +kernel
theorem dX6_weight_25 : decode cX6_weight 25 = .ok (.iconst 0, 1) := by decide +kernel
theorem dX6_weight_26 : decode cX6_weight 26 = .ok (.invokevirtual 47, 3) := by decide +kernel
theorem dX6_weight_29 : decode cX6_weight 29 = .ok (.aload_n 0, 1) := by decide +kernel
theorem dX6_weight_30 : decode cX6_weight 30 = .ok (.iload_n 1, 1) := by decide +kernel
theorem dX6_weight_31 : decode cX6_weight 31 = .ok (.iconst 1, 1) := by decide +kernel
theorem dX6_weight_32 : decode cX6_weight 32 = .ok (.invokevirtual 47, 3) := by decide +kernel
theorem dX6_weight_35 : decode cX6_weight 35 = .ok (.iadd, 1) := by decide +kernel
theorem dX6_weight_36 : decode cX6_weight 36 = .ok (.aload_n 0, 1) := by decide +kernel
theorem dX6_weight_37 : decode cX6_weight 37 = .ok (.iload_n 1, 1) := by decide +kernel
theorem dX6_weight_38 : decode cX6_weight 38 = .ok (.iconst 2, 1) := by decide +kernel
theorem dX6_weight_39 : decode cX6_weight 39 = .ok (.invokevirtual 47, 3) := by decide +kernel
theorem dX6_weight_42 : decode cX6_weight 42 = .ok (.iadd, 1) := by decide +kernel
theorem dX6_weight_43 : decode cX6_weight 43 = .ok (.goto 8, 3) := by decide +kernel
theorem dX6_weight_46 : decode cX6_weight 46 = .ok (.aload_n 0, 1) := by decide +kernel
theorem dX6_weight_47 : decode cX6_weight 47 = .ok (.iload_n 1, 1) := by decide +kernel
theorem dX6_weight_48 : decode cX6_weight 48 = .ok (.invokevirtual 93, 3) := by decide +kernel
theorem dX6_weight_51 : decode cX6_weight 51 = .ok (.ireturn, 1) := by decide +kernel
set_option maxRecDepth 20000 in
theorem ggX6_drawAll_X6_has : GoodIn wsX6_drawAll wsX6_has := goodIn_r _ [8] (by decide +kernel) (by decide +kernel)
set_option maxRecDepth 20000 in
theorem gX6_drawAll_X6_has : GoodIn wsX6_drawAll (va_wsS RX6 75 yX6_has wsX6_has) := goodIn_app (goodIn_of _ (by decide +kernel)) ggX6_drawAll_X6_has
set_option maxRecDepth 20000 in
theorem ggX6_drawAll_X6_weight : GoodIn wsX6_drawAll wsX6_weight := goodIn_r _ [12, 1, 13, 14, 15, 7, 16, 17, 18, 19, 20, 21, 22, 23, 24, 25, 26, 27, 28, 29, 30, 31, 32, 33, 34, 35, 36, 37, 38, 39, 40, 41, 42, 43, 44, 45] (by decide +kernel) (by decide +kernel)
set_option maxRecDepth 20000 in
theorem gX6_drawAll_X6_weight : GoodIn wsX6_drawAll (wsV RX6 100 RX6 yX6_weight wsX6_weight) := goodIn_app (goodIn_of _ (by decide +kernel)) ggX6_drawAll_X6_weight
theorem dX6_drawAll_0 : decode cX6_drawAll 0 = .ok (.iconst 1, 1) := by decide +kernel
theorem dX6_drawAll_1 : decode cX6_drawAll 1 = .ok (.aload_n 0, 1) := by decide +kernel
theorem dX6_drawAll_2 : decode cX6_drawAll 2 = .ok (.getfield 7, 3) := by decide +kernel
theorem dX6_drawAll_5 : decode cX6_drawAll 5 = .ok (.iconst 0, 1) := by decide +kernel
theorem dX6_drawAll_6 : decode cX6_drawAll 6 = .ok (.iaload, 1) := by decide +kernel
theorem dX6_drawAll_7 : decode cX6_drawAll 7 = .ok (.ishl, 1) := by decide +kernel
theorem dX6_drawAll_8 : decode cX6_drawAll 8 = .ok (.iconst 1, 1) := by decide +kernel
theorem dX6_drawAll_9 : decode cX6_drawAll 9 = .ok (.isub, 1) := by decide +kernel
theorem dX6_drawAll_10 : decode cX6_drawAll 10 = .ok (.iload_n 1, 1) := by decide +kernel
theorem dX6_drawAll_11 : decode cX6_drawAll 11 = .ok (.iconst (-1), 1) := by decide +kernel
theorem dX6_drawAll_12 : decode cX6_drawAll 12 = .ok (.ixor, 1) := by decide +kernel
theorem dX6_drawAll_13 : decode cX6_drawAll 13 = .ok (.iand, 1) := by decide +kernel
theorem dX6_drawAll_14 : decode cX6_drawAll 14 = .ok (.istore_n 2, 1) := by decide +kernel
theorem dX6_drawAll_15 : decode cX6_drawAll 15 = .ok (.aload_n 0, 1) := by decide +kernel
theorem dX6_drawAll_16 : decode cX6_drawAll 16 = .ok (.iconst 0, 1) := by decide +kernel
theorem dX6_drawAll_17 : decode cX6_drawAll 17 = .ok (.putfield 96, 3) := by decide +kernel
theorem dX6_drawAll_20 : decode cX6_drawAll 20 = .ok (.iconst 0, 1) := by decide +kernel
theorem dX6_drawAll_21 : decode cX6_drawAll 21 = .ok (.istore_n 3, 1) := by decide +kernel
theorem dX6_drawAll_22 : decode cX6_drawAll 22 = .ok (.iload_n 3, 1) := by decide +kernel
theorem dX6_drawAll_23 : decode cX6_drawAll 23 = .ok (.ifCond .lt 118, 3) := by decide +kernel
theorem dX6_drawAll_26 : decode cX6_drawAll 26 = .ok (.iconst (-1), 1) := by decide +kernel
theorem dX6_drawAll_27 : decode cX6_drawAll 27 = .ok (.istore_n 3, 1) := by decide +kernel
theorem dX6_drawAll_28 : decode cX6_drawAll 28 = .ok (.iconst 0, 1) := by decide +kernel
theorem dX6_drawAll_29 : decode cX6_drawAll 29 = .ok (.istore 4, 2) := by decide +kernel
theorem dX6_drawAll_31 : decode cX6_drawAll 31 = .ok (.iload 4, 2) := by decide +kernel
theorem dX6_drawAll_33 : decode cX6_drawAll 33 = .ok (.aload_n 0, 1) := by decide +kernel
theorem dX6_drawAll_34 : decode cX6_drawAll 34 = .ok (.getfield 7, 3) := by decide +kernel
theorem dX6_drawAll_37 : decode cX6_drawAll 37 = .ok (.iconst 0, 1) := by decide +kernel
theorem dX6_drawAll_38 : decode cX6_drawAll 38 = .ok (.iaload, 1) := by decide +kernel
theorem dX6_drawAll_39 : decode cX6_drawAll 39 = .ok (.if_icmp .ge 67, 3) := by decide +kernel
theorem dX6_drawAll_42 : decode cX6_drawAll 42 = .ok (.iload_n 2, 1) := by decide +kernel
theorem dX6_drawAll_43 : decode cX6_drawAll 43 = .ok (.iload 4, 2) := by decide +kernel
theorem dX6_drawAll_45 : decode cX6_drawAll 45 = .ok (.invokestatic 75, 3) := by decide +kernel
theorem dX6_drawAll_48 : decode cX6_drawAll 48 = .ok (.ifCond .eq 19, 3) := by decide +kernel
theorem dX6_drawAll_51 : decode cX6_drawAll 51 = .ok (.aload_n 0, 1) := by decide +kernel
theorem dX6_drawAll_52 : decode cX6_drawAll 52 = .ok (.getfield 25, 3) := by decide +kernel
theorem dX6_drawAll_55 : decode cX6_drawAll 55 = .ok (.iload 4, 2) := by decide +kernel
theorem dX6_drawAll_57 : decode cX6_drawAll 57 = .ok (.iaload, 1) := by decide +kernel
theorem dX6_drawAll_58 : decode cX6_drawAll 58 = .ok (.iload_n 2, 1) := by decide +kernel
theorem dX6_drawAll_59 : decode cX6_drawAll 59 = .ok (.iand, 1) := by decide +kernel
theorem dX6_drawAll_60 : decode cX6_drawAll 60 = .ok (.ifCond .ne 7, 3) := by decide +kernel
theorem dX6_drawAll_63 : decode cX6_drawAll 63 = .ok (.iconst 1, 1) := by decide +kernel
theorem dX6_drawAll_64 : decode cX6_drawAll 64 = .ok (.goto 4, 3) := by decide +kernel
theorem dX6_drawAll_67 : decode cX6_drawAll 67 = .ok (.iconst 0, 1) := by decide +kernel
theorem dX6_drawAll_68 : decode cX6_drawAll 68 = .ok (.istore 5, 2) := by decide +kernel
theorem dX6_drawAll_70 : decode cX6_drawAll 70 = .ok (.iload 5, 2) := by decide +kernel
theorem dX6_drawAll_72 : decode cX6_drawAll 72 = .ok (.ifCond .eq 26, 3) := by decide +kernel
theorem dX6_drawAll_75 : decode cX6_drawAll 75 = .ok (.iload_n 3, 1) := by decide +kernel
theorem dX6_drawAll_76 : decode cX6_drawAll 76 = .ok (.ifCond .lt 17, 3) := by decide +kernel
theorem dX6_drawAll_79 : decode cX6_drawAll 79 = .ok (.aload_n 0, 1) := by decide +kernel
theorem dX6_drawAll_80 : decode cX6_drawAll 80 = .ok (.iload 4, 2) := by decide +kernel
theorem dX6_drawAll_82 : decode cX6_drawAll 82 = .ok (.invokevirtual 100, 3) := by decide +kernel
theorem dX6_drawAll_85 : decode cX6_drawAll 85 = .ok (.aload_n 0, 1) := by decide +kernel
theorem dX6_drawAll_86 : decode cX6_drawAll 86 = .ok (.iload_n 3, 1) := by decide +kernel
theorem dX6_drawAll_87 : decode cX6_drawAll 87 = .ok (.invokevirtual 100, 3) := by decide +kernel
theorem dX6_drawAll_90 : decode cX6_drawAll 90 = .ok (.if_icmp .ge 8, 3) := by decide +kernel
theorem dX6_drawAll_93 : decode cX6_drawAll 93 = .ok (.iload 4, 2) := by decide +kernel
theorem dX6_drawAll_95 : decode cX6_drawAll 95 = .ok (.goto 4, 3) := by decide +kernel
theorem dX6_drawAll_98 : decode cX6_drawAll 98 = .ok (.iload_n 3, 1) := by decide +kernel
theorem dX6_drawAll_99 : decode cX6_drawAll 99 = .ok (.istore_n 3, 1) := by decide +kernel
theorem dX6_drawAll_100 : decode cX6_drawAll 100 = .ok (.iinc 4 1, 3) := by decide +kernel
theorem dX6_drawAll_103 : decode cX6_drawAll 103 = .ok (.goto (-72), 3) := by decide +kernel
theorem dX6_drawAll_106 : decode cX6_drawAll 106 = .ok (.iload_n 3, 1) := by decide +kernel
theorem dX6_drawAll_107 : decode cX6_drawAll 107 = .ok (.ifCond .lt (-85), 3) := by decide +kernel
theorem dX6_drawAll_110 : decode cX6_drawAll 110 = .ok (.aload_n 0, 1) := by decide +kernel
theorem dX6_drawAll_111 : decode cX6_drawAll 111 = .ok (.getfield 34, 3) := by decide +kernel
theorem dX6_drawAll_114 : decode cX6_drawAll 114 = .ok (.aload_n 0, 1) := by decide +kernel
theorem dX6_drawAll_115 : decode cX6_drawAll 115 = .ok (.getfield 96, 3) := by decide +kernel
theorem dX6_drawAll_118 : decode cX6_drawAll 118 = .ok (.iload_n 3, 1) := by decide +kernel
theorem dX6_drawAll_119 : decode cX6_drawAll 119 = .ok (.iastore, 1) := by decide +kernel
theorem dX6_drawAll_120 : decode cX6_drawAll 120 = .ok (.aload_n 0, 1) := by decide +kernel
theorem dX6_drawAll_121 : decode cX6_drawAll 121 = .ok (.dup, 1) := by decide +kernel
theorem dX6_drawAll_122 : decode cX6_drawAll 122 = .ok (.getfield 96, 3) := by decide +kernel
theorem dX6_drawAll_125 : decode cX6_drawAll 125 = .ok (.iconst 1, 1) := by decide +kernel
theorem dX6_drawAll_126 : decode cX6_drawAll 126 = .ok (.iadd, 1) := by decide +kernel
theorem dX6_drawAll_127 : decode cX6_drawAll 127 = .ok (.putfield 96, 3) := by decide +kernel
theorem dX6_drawAll_130 : decode cX6_drawAll 130 = .ok (.iload_n 2, 1) := by decide +kernel
theorem dX6_drawAll_131 : decode cX6_drawAll 131 = .ok (.iconst 1, 1) := by decide +kernel
theorem dX6_drawAll_132 : decode cX6_drawAll 132 = .ok (.iload_n 3, 1) := by decide +kernel
theorem dX6_drawAll_133 : decode cX6_drawAll 133 = .ok (.ishl, 1) := by decide +kernel
theorem dX6_drawAll_134 : decode cX6_drawAll 134 = .ok (.iconst (-1), 1) := by decide +kernel
theorem dX6_drawAll_135 : decode cX6_drawAll 135 = .ok (.ixor, 1) := by decide +kernel
theorem dX6_drawAll_136 : decode cX6_drawAll 136 = .ok (.iand, 1) := by decide +kernel
theorem dX6_drawAll_137 : decode cX6_drawAll 137 = .ok (.istore_n 2, 1) := by decide +kernel
theorem dX6_drawAll_138 : decode cX6_drawAll 138 = .ok (.goto (-116), 3) := by decide +kernel
theorem dX6_drawAll_141 : decode cX6_drawAll 141 = .ok (.return_, 1) := by decide +kernel
theorem dX6_drawnSet_0 : decode cX6_drawnSet 0 = .ok (.iconst 0, 1) := by decide +kernel
theorem dX6_drawnSet_1 : decode cX6_drawnSet 1 = .ok (.istore_n 1, 1) := by decide +kernel
theorem dX6_drawnSet_2 : decode cX6_drawnSet 2 = .ok (.iconst 0, 1) := by decide +kernel
theorem dX6_drawnSet_3 : decode cX6_drawnSet 3 = .ok (.istore_n 2, 1) := by decide +kernel
theorem dX6_drawnSet_4 : decode cX6_drawnSet 4 = .ok (.iload_n 2, 1) := by decide +kernel
theorem dX6_drawnSet_5 : decode cX6_drawnSet 5 = .ok (.aload_n 0, 1) := by decide +kernel
theorem dX6_drawnSet_6 : decode cX6_drawnSet 6 = .ok (.getfield 96, 3) := by decide +kernel
theorem dX6_drawnSet_9 : decode cX6_drawnSet 9 = .ok (.if_icmp .ge 20, 3) := by decide +kernel
theorem dX6_drawnSet_12 : decode cX6_drawnSet 12 = .ok (.iload_n 1, 1) := by decide +kernel
theorem dX6_drawnSet_13 : decode cX6_drawnSet 13 = .ok (.iconst 1, 1) := by decide +kernel
theorem dX6_drawnSet_14 : decode cX6_drawnSet 14 = .ok (.aload_n 0, 1) := by decide +kernel
theorem dX6_drawnSet_15 : decode cX6_drawnSet 15 = .ok (.getfield 34, 3) := by decide +kernel
theorem dX6_drawnSet_18 : decode cX6_drawnSet 18 = .ok (.iload_n 2, 1) := by decide +kernel
theorem dX6_drawnSet_19 : decode cX6_drawnSet 19 = .ok (.iaload, 1) := by decide +kernel
theorem dX6_drawnSet_20 : decode cX6_drawnSet 20 = .ok (.ishl, 1) := by decide +kernel
theorem dX6_drawnSet_21 : decode cX6_drawnSet 21 = .ok (.ior, 1) := by decide +kernel
theorem dX6_drawnSet_22 : decode cX6_drawnSet 22 = .ok (.istore_n 1, 1) := by decide +kernel
theorem dX6_drawnSet_23 : decode cX6_drawnSet 23 = .ok (.iinc 2 1, 3) := by decide +kernel
theorem dX6_drawnSet_26 : decode cX6_drawnSet 26 = .ok (.goto (-22), 3) := by decide +kernel
theorem dX6_drawnSet_29 : decode cX6_drawnSet 29 = .ok (.iload_n 1, 1) := by decide +kernel
theorem dX6_drawnSet_30 : decode cX6_drawnSet 30 = .ok (.ireturn, 1) := by decide +kernel
theorem dX6_push_0 : decode cX6_push 0 = .ok (.aload_n 0, 1) := by decide +kernel
theorem dX6_push_1 : decode cX6_push 1 = .ok (.getfield 103, 3) := by decide +kernel
theorem dX6_push_4 : decode cX6_push 4 = .ok (.iconst 4, 1) := by decide +kernel
theorem dX6_push_5 : decode cX6_push 5 = .ok (.if_icmp .ne 43, 3) := by decide +kernel
theorem dX6_push_8 : decode cX6_push 8 = .ok (.iconst 0, 1) := by decide +kernel
theorem dX6_push_9 : decode cX6_push 9 = .ok (.istore_n 2, 1) := by decide +kernel
theorem dX6_push_10 : decode cX6_push 10 = .ok (.iload_n 2, 1) := by decide +kernel
theorem dX6_push_11 : decode cX6_push 11 = .ok (.sipush 348, 3) := by decide +kernel
theorem dX6_push_14 : decode cX6_push 14 = .ok (.if_icmp .ge 24, 3) := by decide +kernel
theorem dX6_push_17 : decode cX6_push 17 = .ok (.aload_n 0, 1) := by decide +kernel
theorem dX6_push_18 : decode cX6_push 18 = .ok (.getfield 16, 3) := by decide +kernel
theorem dX6_push_21 : decode cX6_push 21 = .ok (.iload_n 2, 1) := by decide +kernel
theorem dX6_push_22 : decode cX6_push 22 = .ok (.aload_n 0, 1) := by decide +kernel
theorem dX6_push_23 : decode cX6_push 23 = .ok (.getfield 16, 3) := by decide +kernel
theorem dX6_push_26 : decode cX6_push 26 = .ok (.bipush 116, 2) := by decide +kernel
theorem dX6_push_28 : decode cX6_push 28 = .ok (.iload_n 2, 1) := by decide +kernel
theorem dX6_push_29 : decode cX6_push 29 = .ok (.iadd, 1) := by decide +kernel
theorem dX6_push_30 : decode cX6_push 30 = .ok (.iaload, 1) := by decide +kernel
theorem dX6_push_31 : decode cX6_push 31 = .ok (.iastore, 1) := by decide +kernel
theorem dX6_push_32 : decode cX6_push 32 = .ok (.iinc 2 1, 3) := by decide +kernel
theorem dX6_push_35 : decode cX6_push 35 = .ok (.goto (-25), 3) := by decide +kernel
theorem dX6_push_38 : decode cX6_push 38 = .ok (.aload_n 0, 1) := by decide +kernel
theorem dX6_push_39 : decode cX6_push 39 = .ok (.dup, 1) := by decide +kernel
theorem dX6_push_40 : decode cX6_push 40 = .ok (.getfield 103, 3) := by decide +kernel
theorem dX6_push_43 : decode cX6_push 43 = .ok (.iconst 1, 1) := by decide +kernel
theorem dX6_push_44 : decode cX6_push 44 = .ok (.isub, 1) := by decide +kernel
theorem dX6_push_45 : decode cX6_push 45 = .ok (.putfield 103, 3) := by decide +kernel
theorem dX6_push_48 : decode cX6_push 48 = .ok (.iconst 0, 1) := by decide +kernel
theorem dX6_push_49 : decode cX6_push 49 = .ok (.istore_n 2, 1) := by decide +kernel
theorem dX6_push_50 : decode cX6_push 50 = .ok (.iload_n 2, 1) := by decide +kernel
theorem dX6_push_51 : decode cX6_push 51 = .ok (.bipush 116, 2) := by decide +kernel
theorem dX6_push_53 : decode cX6_push 53 = .ok (.if_icmp .ge 26, 3) := by decide +kernel
theorem dX6_push_56 : decode cX6_push 56 = .ok (.aload_n 0, 1) := by decide +kernel
theorem dX6_push_57 : decode cX6_push 57 = .ok (.getfield 16, 3) := by decide +kernel
theorem dX6_push_60 : decode cX6_push 60 = .ok (.bipush 116, 2) := by decide +kernel
theorem dX6_push_62 : decode cX6_push 62 = .ok (.aload_n 0, 1) := by decide +kernel
theorem dX6_push_63 : decode cX6_push 63 = .ok (.getfield 103, 3) := by decide +kernel
theorem dX6_push_66 : decode cX6_push 66 = .ok (.imul, 1) := by decide +kernel
theorem dX6_push_67 : decode cX6_push 67 = .ok (.iload_n 2, 1) := by decide +kernel
theorem dX6_push_68 : decode cX6_push 68 = .ok (.iadd, 1) := by decide +kernel
theorem dX6_push_69 : decode cX6_push 69 = .ok (.aload_n 1, 1) := by decide +kernel
theorem dX6_push_70 : decode cX6_push 70 = .ok (.iload_n 2, 1) := by decide +kernel
theorem dX6_push_71 : decode cX6_push 71 = .ok (.iaload, 1) := by decide +kernel
theorem dX6_push_72 : decode cX6_push 72 = .ok (.iastore, 1) := by decide +kernel
theorem dX6_push_73 : decode cX6_push 73 = .ok (.iinc 2 1, 3) := by decide +kernel
theorem dX6_push_76 : decode cX6_push 76 = .ok (.goto (-26), 3) := by decide +kernel
theorem dX6_push_79 : decode cX6_push 79 = .ok (.aload_n 0, 1) := by decide +kernel
theorem dX6_push_80 : decode cX6_push 80 = .ok (.dup, 1) := by decide +kernel
theorem dX6_push_81 : decode cX6_push 81 = .ok (.getfield 103, 3) := by decide +kernel
theorem dX6_push_84 : decode cX6_push 84 = .ok (.iconst 1, 1) := by decide +kernel
theorem dX6_push_85 : decode cX6_push 85 = .ok (.iadd, 1) := by decide +kernel
theorem dX6_push_86 : decode cX6_push 86 = .ok (.putfield 103, 3) := by decide +kernel
theorem dX6_push_89 : decode cX6_push 89 = .ok (.return_, 1) := by decide +kernel
theorem dX6_putAside_0 : decode cX6_putAside 0 = .ok (.iconst 0, 1) := by decide +kernel
theorem dX6_putAside_1 : decode cX6_putAside 1 = .ok (.istore_n 1, 1) := by decide +kernel
theorem dX6_putAside_2 : decode cX6_putAside 2 = .ok (.iload_n 1, 1) := by decide +kernel
theorem dX6_putAside_3 : decode cX6_putAside 3 = .ok (.bipush 116, 2) := by decide +kernel
theorem dX6_putAside_5 : decode cX6_putAside 5 = .ok (.if_icmp .ge 21, 3) := by decide +kernel
theorem dX6_putAside_8 : decode cX6_putAside 8 = .ok (.aload_n 0, 1) := by decide +kernel
theorem dX6_putAside_9 : decode cX6_putAside 9 = .ok (.getfield 13, 3) := by decide +kernel
theorem dX6_putAside_12 : decode cX6_putAside 12 = .ok (.iload_n 1, 1) := by decide +kernel
theorem dX6_putAside_13 : decode cX6_putAside 13 = .ok (.aload_n 0, 1) := by decide +kernel
theorem dX6_putAside_14 : decode cX6_putAside 14 = .ok (.getfield 7, 3) := by decide +kernel
theorem dX6_putAside_17 : decode cX6_putAside 17 = .ok (.iload_n 1, 1) := by decide +kernel
theorem dX6_putAside_18 : decode cX6_putAside 18 = .ok (.iaload, 1) := by decide +kernel
theorem dX6_putAside_19 : decode cX6_putAside 19 = .ok (.iastore, 1) := by decide +kernel
theorem dX6_putAside_20 : decode cX6_putAside 20 = .ok (.iinc 1 1, 3) := by decide +kernel
theorem dX6_putAside_23 : decode cX6_putAside 23 = .ok (.goto (-21), 3) := by decide +kernel
theorem dX6_putAside_26 : decode cX6_putAside 26 = .ok (.return_, 1) := by decide +kernel
theorem dX6_putBack_0 : decode cX6_putBack 0 = .ok (.iconst 0, 1) := by decide +kernel
theorem dX6_putBack_1 : decode cX6_putBack 1 = .ok (.istore_n 1, 1) := by decide +kernel
theorem dX6_putBack_2 : decode cX6_putBack 2 = .ok (.iload_n 1, 1) := by decide +kernel
theorem dX6_putBack_3 : decode cX6_putBack 3 = .ok (.bipush 116, 2) := by decide +kernel
theorem dX6_putBack_5 : decode cX6_putBack 5 = .ok (.if_icmp .ge 21, 3) := by decide +kernel
theorem dX6_putBack_8 : decode cX6_putBack 8 = .ok (.aload_n 0, 1) := by decide +kernel
theorem dX6_putBack_9 : decode cX6_putBack 9 = .ok (.getfield 7, 3) := by decide +kernel
theorem dX6_putBack_12 : decode cX6_putBack 12 = .ok (.iload_n 1, 1) := by decide +kernel
theorem dX6_putBack_13 : decode cX6_putBack 13 = .ok (.aload_n 0, 1) := by decide +kernel
theorem dX6_putBack_14 : decode cX6_putBack 14 = .ok (.getfield 13, 3) := by decide +kernel
theorem dX6_putBack_17 : decode cX6_putBack 17 = .ok (.iload_n 1, 1) := by decide +kernel
theorem dX6_putBack_18 : decode cX6_putBack 18 = .ok (.iaload, 1) := by decide +kernel
theorem dX6_putBack_19 : decode cX6_putBack 19 = .ok (.iastore, 1) := by decide +kernel
theorem dX6_putBack_20 : decode cX6_putBack 20 = .ok (.iinc 1 1, 3) := by decide +kernel
theorem dX6_putBack_23 : decode cX6_putBack 23 = .ok (.goto (-21), 3) := by decide +kernel
theorem dX6_putBack_26 : decode cX6_putBack 26 = .ok (.return_, 1) := by decide +kernel
theorem dX6_undo_0 : decode cX6_undo 0 = .ok (.aload_n 0, 1) := by decide +kernel
theorem dX6_undo_1 : decode cX6_undo 1 = .ok (.getfield 103, 3) := by decide +kernel
theorem dX6_undo_4 : decode cX6_undo 4 = .ok (.ifCond .ne 6, 3) := by decide +kernel
theorem dX6_undo_7 : decode cX6_undo 7 = .ok (.bipush (-5), 2) := by decide +kernel
theorem dX6_undo_9 : decode cX6_undo 9 = .ok (.ireturn, 1) := by decide +kernel
theorem dX6_undo_10 : decode cX6_undo 10 = .ok (.aload_n 0, 1) := by decide +kernel
theorem dX6_undo_11 : decode cX6_undo 11 = .ok (.dup, 1) := by decide +kernel
theorem dX6_undo_12 : decode cX6_undo 12 = .ok (.getfield 103, 3) := by decide +kernel
theorem dX6_undo_15 : decode cX6_undo 15 = .ok (.iconst 1, 1) := by decide +kernel
theorem dX6_undo_16 : decode cX6_undo 16 = .ok (.isub, 1) := by decide +kernel
theorem dX6_undo_17 : decode cX6_undo 17 = .ok (.putfield 103, 3) := by decide +kernel
theorem dX6_undo_20 : decode cX6_undo 20 = .ok (.iconst 0, 1) := by decide +kernel
theorem dX6_undo_21 : decode cX6_undo 21 = .ok (.istore_n 1, 1) := by decide +kernel
theorem dX6_undo_22 : decode cX6_undo 22 = .ok (.iload_n 1, 1) := by decide +kernel
theorem dX6_undo_23 : decode cX6_undo 23 = .ok (.bipush 116, 2) := by decide +kernel
theorem dX6_undo_25 : decode cX6_undo 25 = .ok (.if_icmp .ge 29, 3) := by decide +kernel
theorem dX6_undo_28 : decode cX6_undo 28 = .ok (.aload_n 0, 1) := by decide +kernel
theorem dX6_undo_29 : decode cX6_undo 29 = .ok (.getfield 7, 3) := by decide +kernel
theorem dX6_undo_32 : decode cX6_undo 32 = .ok (.iload_n 1, 1) := by decide +kernel
theorem dX6_undo_33 : decode cX6_undo 33 = .ok (.aload_n 0, 1) := by decide +kernel
theorem dX6_undo_34 : decode cX6_undo 34 = .ok (.getfield 16, 3) := by decide +kernel
theorem dX6_undo_37 : decode cX6_undo 37 = .ok (.bipush 116, 2) := by decide +kernel
theorem dX6_undo_39 : decode cX6_undo 39 = .ok (.aload_n 0, 1) := by decide +kernel
theorem dX6_undo_40 : decode cX6_undo 40 = .ok (.getfield 103, 3) := by decide +kernel
theorem dX6_undo_43 : decode cX6_undo 43 = .ok (.imul, 1) := by decide +kernel
theorem dX6_undo_44 : decode cX6_undo 44 = .ok (.iload_n 1, 1) := by decide +kernel
theorem dX6_undo_45 : decode cX6_undo 45 = .ok (.iadd, 1) := by decide +kernel
theorem dX6_undo_46 : decode cX6_undo 46 = .ok (.iaload, 1) := by decide +kernel
theorem dX6_undo_47 : decode cX6_undo 47 = .ok (.iastore, 1) := by decide +kernel
theorem dX6_undo_48 : decode cX6_undo 48 = .ok (.iinc 1 1, 3) := by decide +kernel
theorem dX6_undo_51 : decode cX6_undo 51 = .ok (.goto (-29), 3) := by decide +kernel
theorem dX6_undo_54 : decode cX6_undo 54 = .ok (.aload_n 0, 1) := by decide +kernel
theorem dX6_undo_55 : decode cX6_undo 55 = .ok (.getfield 103, 3) := by decide +kernel
theorem dX6_undo_58 : decode cX6_undo 58 = .ok (.ireturn, 1) := by decide +kernel
theorem dX6_keep_0 : decode cX6_keep 0 = .ok (.iconst 0, 1) := by decide +kernel
theorem dX6_keep_1 : decode cX6_keep 1 = .ok (.istore_n 1, 1) := by decide +kernel
theorem dX6_keep_2 : decode cX6_keep 2 = .ok (.iload_n 1, 1) := by decide +kernel
theorem dX6_keep_3 : decode cX6_keep 3 = .ok (.bipush 116, 2) := by decide +kernel
theorem dX6_keep_5 : decode cX6_keep 5 = .ok (.if_icmp .ge 21, 3) := by decide +kernel
theorem dX6_keep_8 : decode cX6_keep 8 = .ok (.aload_n 0, 1) := by decide +kernel
theorem dX6_keep_9 : decode cX6_keep 9 = .ok (.getfield 19, 3) := by decide +kernel
theorem dX6_keep_12 : decode cX6_keep 12 = .ok (.iload_n 1, 1) := by decide +kernel
theorem dX6_keep_13 : decode cX6_keep 13 = .ok (.aload_n 0, 1) := by decide +kernel
theorem dX6_keep_14 : decode cX6_keep 14 = .ok (.getfield 7, 3) := by decide +kernel
theorem dX6_keep_17 : decode cX6_keep 17 = .ok (.iload_n 1, 1) := by decide +kernel
theorem dX6_keep_18 : decode cX6_keep 18 = .ok (.iaload, 1) := by decide +kernel
theorem dX6_keep_19 : decode cX6_keep 19 = .ok (.iastore, 1) := by decide +kernel
theorem dX6_keep_20 : decode cX6_keep 20 = .ok (.iinc 1 1, 3) := by decide +kernel
theorem dX6_keep_23 : decode cX6_keep 23 = .ok (.goto (-21), 3) := by decide +kernel
theorem dX6_keep_26 : decode cX6_keep 26 = .ok (.aload_n 0, 1) := by decide +kernel
theorem dX6_keep_27 : decode cX6_keep 27 = .ok (.iconst 1, 1) := by decide +kernel
theorem dX6_keep_28 : decode cX6_keep 28 = .ok (.putfield 106, 3) := by decide +kernel
theorem dX6_keep_31 : decode cX6_keep 31 = .ok (.aload_n 0, 1) := by decide +kernel
theorem dX6_keep_32 : decode cX6_keep 32 = .ok (.getfield 7, 3) := by decide +kernel
theorem dX6_keep_35 : decode cX6_keep 35 = .ok (.iconst 0, 1) := by decide +kernel
theorem dX6_keep_36 : decode cX6_keep 36 = .ok (.iaload, 1) := by decide +kernel
theorem dX6_keep_37 : decode cX6_keep 37 = .ok (.ireturn, 1) := by decide +kernel
set_option maxRecDepth 20000 in
theorem ggX6_restore_X6_push : GoodIn wsX6_restore wsX6_push := goodIn_r _ [8, 9, 10, 11, 12, 13, 14, 15, 16, 17, 18, 19, 20, 21, 22, 23, 24, 25, 26, 27] (by decide +kernel) (by decide +kernel)
set_option maxRecDepth 20000 in
theorem gX6_restore_X6_push : GoodIn wsX6_restore (wsV RX6 110 RX6 yX6_push wsX6_push) := goodIn_app (goodIn_of _ (by decide +kernel)) ggX6_restore_X6_push
theorem dX6_restore_0 : decode cX6_restore 0 = .ok (.aload_n 0, 1) := by decide +kernel
theorem dX6_restore_1 : decode cX6_restore 1 = .ok (.getfield 106, 3) := by decide +kernel
theorem dX6_restore_4 : decode cX6_restore 4 = .ok (.ifCond .ne 6, 3) := by decide +kernel
theorem dX6_restore_7 : decode cX6_restore 7 = .ok (.bipush (-5), 2) := by decide +kernel
theorem dX6_restore_9 : decode cX6_restore 9 = .ok (.ireturn, 1) := by decide +kernel
theorem dX6_restore_10 : decode cX6_restore 10 = .ok (.aload_n 0, 1) := by decide +kernel
theorem dX6_restore_11 : decode cX6_restore 11 = .ok (.aload_n 0, 1) := by decide +kernel
theorem dX6_restore_12 : decode cX6_restore 12 = .ok (.getfield 7, 3) := by decide +kernel
theorem dX6_restore_15 : decode cX6_restore 15 = .ok (.invokevirtual 110, 3) := by decide +kernel
theorem dX6_restore_18 : decode cX6_restore 18 = .ok (.iconst 0, 1) := by decide +kernel
theorem dX6_restore_19 : decode cX6_restore 19 = .ok (.istore_n 1, 1) := by decide +kernel
theorem dX6_restore_20 : decode cX6_restore 20 = .ok (.iload_n 1, 1) := by decide +kernel
theorem dX6_restore_21 : decode cX6_restore 21 = .ok (.bipush 116, 2) := by decide +kernel
theorem dX6_restore_23 : decode cX6_restore 23 = .ok (.if_icmp .ge 21, 3) := by decide +kernel
theorem dX6_restore_26 : decode cX6_restore 26 = .ok (.aload_n 0, 1) := by decide +kernel
theorem dX6_restore_27 : decode cX6_restore 27 = .ok (.getfield 7, 3) := by decide +kernel
theorem dX6_restore_30 : decode cX6_restore 30 = .ok (.iload_n 1, 1) := by decide +kernel
theorem dX6_restore_31 : decode cX6_restore 31 = .ok (.aload_n 0, 1) := by decide +kernel
theorem dX6_restore_32 : decode cX6_restore 32 = .ok (.getfield 19, 3) := by decide +kernel
theorem dX6_restore_35 : decode cX6_restore 35 = .ok (.iload_n 1, 1) := by decide +kernel
theorem dX6_restore_36 : decode cX6_restore 36 = .ok (.iaload, 1) := by decide +kernel
theorem dX6_restore_37 : decode cX6_restore 37 = .ok (.iastore, 1) := by decide +kernel
theorem dX6_restore_38 : decode cX6_restore 38 = .ok (.iinc 1 1, 3) := by decide +kernel
theorem dX6_restore_41 : decode cX6_restore 41 = .ok (.goto (-21), 3) := by decide +kernel
theorem dX6_restore_44 : decode cX6_restore 44 = .ok (.aload_n 0, 1) := by decide +kernel
theorem dX6_restore_45 : decode cX6_restore 45 = .ok (.getfield 7, 3) := by decide +kernel
theorem dX6_restore_48 : decode cX6_restore 48 = .ok (.iconst 0, 1) := by decide +kernel
theorem dX6_restore_49 : decode cX6_restore 49 = .ok (.iaload, 1) := by decide +kernel
theorem dX6_restore_50 : decode cX6_restore 50 = .ok (.ireturn, 1) := by decide +kernel
set_option maxRecDepth 20000 in
theorem ggX6_tryBox_X6_in : GoodIn wsX6_tryBox wsX6_in := goodIn_r _ [5] (by decide +kernel) (by decide +kernel)
set_option maxRecDepth 20000 in
theorem gX6_tryBox_X6_in : GoodIn wsX6_tryBox (va_wsS RX6 53 yX6_in wsX6_in) := goodIn_app (goodIn_of _ (by decide +kernel)) ggX6_tryBox_X6_in
set_option maxRecDepth 20000 in
theorem ggX6_tryBox_X6_high : GoodIn wsX6_tryBox wsX6_high := goodIn_r _ [9, 10, 11, 12, 4, 13, 14, 15, 16, 17, 1, 18, 19, 20, 21, 22, 23, 24, 25, 26, 27, 28, 29, 30, 31, 32, 33, 34, 35, 36, 37, 38] (by decide +kernel) (by decide +kernel)
set_option maxRecDepth 20000 in
theorem gX6_tryBox_X6_high : GoodIn wsX6_tryBox (wsV RX6 57 RX6 yX6_high wsX6_high) := goodIn_app (goodIn_of _ (by decide +kernel)) ggX6_tryBox_X6_high
set_option maxRecDepth 20000 in
theorem ggX6_tryBox_X6_low : GoodIn wsX6_tryBox wsX6_low := goodIn_r _ [13, 14, 15, 16, 4, 17, 1, 22, 23, 24, 25, 26, 27, 28, 29, 30, 31, 32, 33, 34, 35, 36, 37, 38] (by decide +kernel) (by decide +kernel)
set_option maxRecDepth 20000 in
theorem gX6_tryBox_X6_low : GoodIn wsX6_tryBox (wsV RX6 47 RX6 yX6_low wsX6_low) := goodIn_app (goodIn_of _ (by decide +kernel)) ggX6_tryBox_X6_low
theorem dX6_tryBox_0 : decode cX6_tryBox 0 = .ok (.iload_n 1, 1) := by decide +kernel
theorem dX6_tryBox_1 : decode cX6_tryBox 1 = .ok (.i2l, 1) := by decide +kernel
theorem dX6_tryBox_2 : decode cX6_tryBox 2 = .ok (.iconst 0, 1) := by decide +kernel
theorem dX6_tryBox_3 : decode cX6_tryBox 3 = .ok (.bipush 31, 2) := by decide +kernel
theorem dX6_tryBox_5 : decode cX6_tryBox 5 = .ok (.invokestatic 53, 3) := by decide +kernel
theorem dX6_tryBox_8 : decode cX6_tryBox 8 = .ok (.ifCond .eq 29, 3) := by decide +kernel
theorem dX6_tryBox_11 : decode cX6_tryBox 11 = .ok (.iload_n 2, 1) := by decide +kernel
theorem dX6_tryBox_12 : decode cX6_tryBox 12 = .ok (.i2l, 1) := by decide +kernel
theorem dX6_tryBox_13 : decode cX6_tryBox 13 = .ok (.iconst 0, 1) := by decide +kernel
theorem dX6_tryBox_14 : decode cX6_tryBox 14 = .ok (.bipush 31, 2) := by decide +kernel
theorem dX6_tryBox_16 : decode cX6_tryBox 16 = .ok (.invokestatic 53, 3) := by decide +kernel
theorem dX6_tryBox_19 : decode cX6_tryBox 19 = .ok (.ifCond .eq 18, 3) := by decide +kernel
theorem dX6_tryBox_22 : decode cX6_tryBox 22 = .ok (.iload_n 3, 1) := by decide +kernel
theorem dX6_tryBox_23 : decode cX6_tryBox 23 = .ok (.i2l, 1) := by decide +kernel
theorem dX6_tryBox_24 : decode cX6_tryBox 24 = .ok (.iconst 0, 1) := by decide +kernel
theorem dX6_tryBox_25 : decode cX6_tryBox 25 = .ok (.bipush 31, 2) := by decide +kernel
theorem dX6_tryBox_27 : decode cX6_tryBox 27 = .ok (.invokestatic 53, 3) := by decide +kernel
theorem dX6_tryBox_30 : decode cX6_tryBox 30 = .ok (.ifCond .eq 7, 3) := by decide +kernel
theorem dX6_tryBox_33 : decode cX6_tryBox 33 = .ok (.iconst 1, 1) := by decide +kernel
theorem dX6_tryBox_34 : decode cX6_tryBox 34 = .ok (.goto 4, 3) := by decide +kernel
theorem dX6_tryBox_37 : decode cX6_tryBox 37 = .ok (.iconst 0, 1) := by decide +kernel
theorem dX6_tryBox_38 : decode cX6_tryBox 38 = .ok (.istore 7, 2) := by decide +kernel
theorem dX6_tryBox_40 : decode cX6_tryBox 40 = .ok (.iload 4, 2) := by decide +kernel
theorem dX6_tryBox_42 : decode cX6_tryBox 42 = .ok (.i2l, 1) := by decide +kernel
theorem dX6_tryBox_43 : decode cX6_tryBox 43 = .ok (.iconst 1, 1) := by decide +kernel
theorem dX6_tryBox_44 : decode cX6_tryBox 44 = .ok (.bipush 12, 2) := by decide +kernel
theorem dX6_tryBox_46 : decode cX6_tryBox 46 = .ok (.invokestatic 53, 3) := by decide +kernel
theorem dX6_tryBox_49 : decode cX6_tryBox 49 = .ok (.ifCond .eq 31, 3) := by decide +kernel
theorem dX6_tryBox_52 : decode cX6_tryBox 52 = .ok (.iload 5, 2) := by decide +kernel
theorem dX6_tryBox_54 : decode cX6_tryBox 54 = .ok (.i2l, 1) := by decide +kernel
theorem dX6_tryBox_55 : decode cX6_tryBox 55 = .ok (.iconst 1, 1) := by decide +kernel
theorem dX6_tryBox_56 : decode cX6_tryBox 56 = .ok (.bipush 12, 2) := by decide +kernel
theorem dX6_tryBox_58 : decode cX6_tryBox 58 = .ok (.invokestatic 53, 3) := by decide +kernel
theorem dX6_tryBox_61 : decode cX6_tryBox 61 = .ok (.ifCond .eq 19, 3) := by decide +kernel
theorem dX6_tryBox_64 : decode cX6_tryBox 64 = .ok (.iload 6, 2) := by decide +kernel
theorem dX6_tryBox_66 : decode cX6_tryBox 66 = .ok (.i2l, 1) := by decide +kernel
theorem dX6_tryBox_67 : decode cX6_tryBox 67 = .ok (.iconst 1, 1) := by decide +kernel
theorem dX6_tryBox_68 : decode cX6_tryBox 68 = .ok (.bipush 12, 2) := by decide +kernel
theorem dX6_tryBox_70 : decode cX6_tryBox 70 = .ok (.invokestatic 53, 3) := by decide +kernel
theorem dX6_tryBox_73 : decode cX6_tryBox 73 = .ok (.ifCond .eq 7, 3) := by decide +kernel
theorem dX6_tryBox_76 : decode cX6_tryBox 76 = .ok (.iconst 1, 1) := by decide +kernel
theorem dX6_tryBox_77 : decode cX6_tryBox 77 = .ok (.goto 4, 3) := by decide +kernel
theorem dX6_tryBox_80 : decode cX6_tryBox 80 = .ok (.iconst 0, 1) := by decide +kernel
theorem dX6_tryBox_81 : decode cX6_tryBox 81 = .ok (.istore 8, 2) := by decide +kernel
theorem dX6_tryBox_83 : decode cX6_tryBox 83 = .ok (.iload 7, 2) := by decide +kernel
theorem dX6_tryBox_85 : decode cX6_tryBox 85 = .ok (.ifCond .eq 35, 3) := by decide +kernel
theorem dX6_tryBox_88 : decode cX6_tryBox 88 = .ok (.iload 8, 2) := by decide +kernel
theorem dX6_tryBox_90 : decode cX6_tryBox 90 = .ok (.ifCond .eq 30, 3) := by decide +kernel
theorem dX6_tryBox_93 : decode cX6_tryBox 93 = .ok (.iload_n 1, 1) := by decide +kernel
theorem dX6_tryBox_94 : decode cX6_tryBox 94 = .ok (.iload 4, 2) := by decide +kernel
theorem dX6_tryBox_96 : decode cX6_tryBox 96 = .ok (.iadd, 1) := by decide +kernel
theorem dX6_tryBox_97 : decode cX6_tryBox 97 = .ok (.bipush 32, 2) := by decide +kernel
theorem dX6_tryBox_99 : decode cX6_tryBox 99 = .ok (.if_icmp .gt 21, 3) := by decide +kernel
theorem dX6_tryBox_102 : decode cX6_tryBox 102 = .ok (.iload_n 2, 1) := by decide +kernel
theorem dX6_tryBox_103 : decode cX6_tryBox 103 = .ok (.iload 5, 2) := by decide +kernel
theorem dX6_tryBox_105 : decode cX6_tryBox 105 = .ok (.iadd, 1) := by decide +kernel
theorem dX6_tryBox_106 : decode cX6_tryBox 106 = .ok (.bipush 32, 2) := by decide +kernel
theorem dX6_tryBox_108 : decode cX6_tryBox 108 = .ok (.if_icmp .gt 12, 3) := by decide +kernel
theorem dX6_tryBox_111 : decode cX6_tryBox 111 = .ok (.iload_n 3, 1) := by decide +kernel
theorem dX6_tryBox_112 : decode cX6_tryBox 112 = .ok (.iload 6, 2) := by decide +kernel
theorem dX6_tryBox_114 : decode cX6_tryBox 114 = .ok (.iadd, 1) := by decide +kernel
theorem dX6_tryBox_115 : decode cX6_tryBox 115 = .ok (.bipush 32, 2) := by decide +kernel
theorem dX6_tryBox_117 : decode cX6_tryBox 117 = .ok (.if_icmp .le 6, 3) := by decide +kernel
theorem dX6_tryBox_120 : decode cX6_tryBox 120 = .ok (.bipush (-2), 2) := by decide +kernel
theorem dX6_tryBox_122 : decode cX6_tryBox 122 = .ok (.ireturn, 1) := by decide +kernel
theorem dX6_tryBox_123 : decode cX6_tryBox 123 = .ok (.iconst 0, 1) := by decide +kernel
theorem dX6_tryBox_124 : decode cX6_tryBox 124 = .ok (.istore 9, 2) := by decide +kernel
theorem dX6_tryBox_126 : decode cX6_tryBox 126 = .ok (.iconst 0, 1) := by decide +kernel
theorem dX6_tryBox_127 : decode cX6_tryBox 127 = .ok (.istore 10, 2) := by decide +kernel
theorem dX6_tryBox_129 : decode cX6_tryBox 129 = .ok (.iload 10, 2) := by decide +kernel
theorem dX6_tryBox_131 : decode cX6_tryBox 131 = .ok (.aload_n 0, 1) := by decide +kernel
theorem dX6_tryBox_132 : decode cX6_tryBox 132 = .ok (.getfield 7, 3) := by decide +kernel
theorem dX6_tryBox_135 : decode cX6_tryBox 135 = .ok (.iconst 0, 1) := by decide +kernel
theorem dX6_tryBox_136 : decode cX6_tryBox 136 = .ok (.iaload, 1) := by decide +kernel
theorem dX6_tryBox_137 : decode cX6_tryBox 137 = .ok (.if_icmp .ge 96, 3) := by decide +kernel
theorem dX6_tryBox_140 : decode cX6_tryBox 140 = .ok (.iload 9, 2) := by decide +kernel
theorem dX6_tryBox_142 : decode cX6_tryBox 142 = .ok (.ifCond .ne 78, 3) := by decide +kernel
theorem dX6_tryBox_145 : decode cX6_tryBox 145 = .ok (.iload_n 1, 1) := by decide +kernel
theorem dX6_tryBox_146 : decode cX6_tryBox 146 = .ok (.aload_n 0, 1) := by decide +kernel
theorem dX6_tryBox_147 : decode cX6_tryBox 147 = .ok (.iload 10, 2) := by decide +kernel
theorem dX6_tryBox_149 : decode cX6_tryBox 149 = .ok (.iconst 0, 1) := by decide +kernel
theorem dX6_tryBox_150 : decode cX6_tryBox 150 = .ok (.invokevirtual 57, 3) := by decide +kernel
theorem dX6_tryBox_153 : decode cX6_tryBox 153 = .ok (.if_icmp .ge 71, 3) := by decide +kernel
theorem dX6_tryBox_156 : decode cX6_tryBox 156 = .ok (.aload_n 0, 1) := by decide +kernel
theorem dX6_tryBox_157 : decode cX6_tryBox 157 = .ok (.iload 10, 2) := by decide +kernel
theorem dX6_tryBox_159 : decode cX6_tryBox 159 = .ok (.iconst 0, 1) := by decide +kernel
theorem dX6_tryBox_160 : decode cX6_tryBox 160 = .ok (.invokevirtual 47, 3) := by decide +kernel
theorem dX6_tryBox_163 : decode cX6_tryBox 163 = .ok (.iload_n 1, 1) := by decide +kernel
theorem dX6_tryBox_164 : decode cX6_tryBox 164 = .ok (.iload 4, 2) := by decide +kernel
theorem dX6_tryBox_166 : decode cX6_tryBox 166 = .ok (.iadd, 1) := by decide +kernel
theorem dX6_tryBox_167 : decode cX6_tryBox 167 = .ok (.if_icmp .ge 57, 3) := by decide +kernel
theorem dX6_tryBox_170 : decode cX6_tryBox 170 = .ok (.iload_n 2, 1) := by decide +kernel
theorem dX6_tryBox_171 : decode cX6_tryBox 171 = .ok (.aload_n 0, 1) := by decide +kernel
theorem dX6_tryBox_172 : decode cX6_tryBox 172 = .ok (.iload 10, 2) := by decide +kernel
theorem dX6_tryBox_174 : decode cX6_tryBox 174 = .ok (.iconst 1, 1) := by decide +kernel
theorem dX6_tryBox_175 : decode cX6_tryBox 175 = .ok (.invokevirtual 57, 3) := by decide +kernel
theorem dX6_tryBox_178 : decode cX6_tryBox 178 = .ok (.if_icmp .ge 46, 3) := by decide +kernel
theorem dX6_tryBox_181 : decode cX6_tryBox 181 = .ok (.aload_n 0, 1) := by decide +kernel
theorem dX6_tryBox_182 : decode cX6_tryBox 182 = .ok (.iload 10, 2) := by decide +kernel
theorem dX6_tryBox_184 : decode cX6_tryBox 184 = .ok (.iconst 1, 1) := by decide +kernel
theorem dX6_tryBox_185 : decode cX6_tryBox 185 = .ok (.invokevirtual 47, 3) := by decide +kernel
theorem dX6_tryBox_188 : decode cX6_tryBox 188 = .ok (.iload_n 2, 1) := by decide +kernel
theorem dX6_tryBox_189 : decode cX6_tryBox 189 = .ok (.iload 5, 2) := by decide +kernel
theorem dX6_tryBox_191 : decode cX6_tryBox 191 = .ok (.iadd, 1) := by decide +kernel
theorem dX6_tryBox_192 : decode cX6_tryBox 192 = .ok (.if_icmp .ge 32, 3) := by decide +kernel
theorem dX6_tryBox_195 : decode cX6_tryBox 195 = .ok (.iload_n 3, 1) := by decide +kernel
theorem dX6_tryBox_196 : decode cX6_tryBox 196 = .ok (.aload_n 0, 1) := by decide +kernel
theorem dX6_tryBox_197 : decode cX6_tryBox 197 = .ok (.iload 10, 2) := by decide +kernel
theorem dX6_tryBox_199 : decode cX6_tryBox 199 = .ok (.iconst 2, 1) := by decide +kernel
theorem dX6_tryBox_200 : decode cX6_tryBox 200 = .ok (.invokevirtual 57, 3) := by decide +kernel
theorem dX6_tryBox_203 : decode cX6_tryBox 203 = .ok (.if_icmp .ge 21, 3) := by decide +kernel
theorem dX6_tryBox_206 : decode cX6_tryBox 206 = .ok (.aload_n 0, 1) := by decide +kernel
theorem dX6_tryBox_207 : decode cX6_tryBox 207 = .ok (.iload 10, 2) := by decide +kernel
theorem dX6_tryBox_209 : decode cX6_tryBox 209 = .ok (.iconst 2, 1) := by decide +kernel
theorem dX6_tryBox_210 : decode cX6_tryBox 210 = .ok (.invokevirtual 47, 3) := by decide +kernel
theorem dX6_tryBox_213 : decode cX6_tryBox 213 = .ok (.iload_n 3, 1) := by decide +kernel
theorem dX6_tryBox_214 : decode cX6_tryBox 214 = .ok (.iload 6, 2) := by decide +kernel
theorem dX6_tryBox_216 : decode cX6_tryBox 216 = .ok (.iadd, 1) := by decide +kernel
theorem dX6_tryBox_217 : decode cX6_tryBox 217 = .ok (.if_icmp .ge 7, 3) := by decide +kernel
theorem dX6_tryBox_220 : decode cX6_tryBox 220 = .ok (.iconst 1, 1) := by decide +kernel
theorem dX6_tryBox_221 : decode cX6_tryBox 221 = .ok (.goto 4, 3) := by decide +kernel
theorem dX6_tryBox_224 : decode cX6_tryBox 224 = .ok (.iconst 0, 1) := by decide +kernel
theorem dX6_tryBox_225 : decode cX6_tryBox 225 = .ok (.istore 9, 2) := by decide +kernel
theorem dX6_tryBox_227 : decode cX6_tryBox 227 = .ok (.iinc 10 1, 3) := by decide +kernel
theorem dX6_tryBox_230 : decode cX6_tryBox 230 = .ok (.goto (-101), 3) := by decide +kernel
theorem dX6_tryBox_233 : decode cX6_tryBox 233 = .ok (.iload 9, 2) := by decide +kernel
theorem dX6_tryBox_235 : decode cX6_tryBox 235 = .ok (.ifCond .eq 8, 3) := by decide +kernel
theorem dX6_tryBox_238 : decode cX6_tryBox 238 = .ok (.bipush (-4), 2) := by decide +kernel
theorem dX6_tryBox_240 : decode cX6_tryBox 240 = .ok (.goto 20, 3) := by decide +kernel
theorem dX6_tryBox_243 : decode cX6_tryBox 243 = .ok (.aload_n 0, 1) := by decide +kernel
theorem dX6_tryBox_244 : decode cX6_tryBox 244 = .ok (.getfield 7, 3) := by decide +kernel
theorem dX6_tryBox_247 : decode cX6_tryBox 247 = .ok (.iconst 0, 1) := by decide +kernel
theorem dX6_tryBox_248 : decode cX6_tryBox 248 = .ok (.iaload, 1) := by decide +kernel
theorem dX6_tryBox_249 : decode cX6_tryBox 249 = .ok (.bipush 16, 2) := by decide +kernel
theorem dX6_tryBox_251 : decode cX6_tryBox 251 = .ok (.if_icmp .ne 8, 3) := by decide +kernel
theorem dX6_tryBox_254 : decode cX6_tryBox 254 = .ok (.bipush (-3), 2) := by decide +kernel
theorem dX6_tryBox_256 : decode cX6_tryBox 256 = .ok (.goto 4, 3) := by decide +kernel
theorem dX6_tryBox_259 : decode cX6_tryBox 259 = .ok (.iconst 0, 1) := by decide +kernel
theorem dX6_tryBox_260 : decode cX6_tryBox 260 = .ok (.ireturn, 1) := by decide +kernel
set_option maxRecDepth 20000 in
theorem ggX6_putBox_X6_put : GoodIn wsX6_putBox wsX6_put := goodIn_r _ [6, 1, 7, 8, 9, 10, 11, 12, 13, 14, 15, 16, 17, 18, 19, 20, 21, 22, 23] (by decide +kernel) (by decide +kernel)
set_option maxRecDepth 20000 in
theorem gX6_putBox_X6_put : GoodIn wsX6_putBox (wsV RX6 114 RX6 yX6_put wsX6_put) := goodIn_app (goodIn_of _ (by decide +kernel)) ggX6_putBox_X6_put
theorem dX6_putBox_0 : decode cX6_putBox 0 = .ok (.aload_n 0, 1) := by decide +kernel
theorem dX6_putBox_1 : decode cX6_putBox 1 = .ok (.getfield 7, 3) := by decide +kernel
theorem dX6_putBox_4 : decode cX6_putBox 4 = .ok (.iconst 0, 1) := by decide +kernel
theorem dX6_putBox_5 : decode cX6_putBox 5 = .ok (.iaload, 1) := by decide +kernel
theorem dX6_putBox_6 : decode cX6_putBox 6 = .ok (.istore 7, 2) := by decide +kernel
theorem dX6_putBox_8 : decode cX6_putBox 8 = .ok (.aload_n 0, 1) := by decide +kernel
theorem dX6_putBox_9 : decode cX6_putBox 9 = .ok (.iload 7, 2) := by decide +kernel
theorem dX6_putBox_11 : decode cX6_putBox 11 = .ok (.iconst 0, 1) := by decide +kernel
theorem dX6_putBox_12 : decode cX6_putBox 12 = .ok (.aload_n 0, 1) := by decide +kernel
theorem dX6_putBox_13 : decode cX6_putBox 13 = .ok (.getfield 7, 3) := by decide +kernel
theorem dX6_putBox_16 : decode cX6_putBox 16 = .ok (.iconst 1, 1) := by decide +kernel
theorem dX6_putBox_17 : decode cX6_putBox 17 = .ok (.iaload, 1) := by decide +kernel
theorem dX6_putBox_18 : decode cX6_putBox 18 = .ok (.invokevirtual 114, 3) := by decide +kernel
theorem dX6_putBox_21 : decode cX6_putBox 21 = .ok (.aload_n 0, 1) := by decide +kernel
theorem dX6_putBox_22 : decode cX6_putBox 22 = .ok (.iload 7, 2) := by decide +kernel
theorem dX6_putBox_24 : decode cX6_putBox 24 = .ok (.iconst 1, 1) := by decide +kernel
theorem dX6_putBox_25 : decode cX6_putBox 25 = .ok (.iload_n 1, 1) := by decide +kernel
theorem dX6_putBox_26 : decode cX6_putBox 26 = .ok (.invokevirtual 114, 3) := by decide +kernel
theorem dX6_putBox_29 : decode cX6_putBox 29 = .ok (.aload_n 0, 1) := by decide +kernel
theorem dX6_putBox_30 : decode cX6_putBox 30 = .ok (.iload 7, 2) := by decide +kernel
theorem dX6_putBox_32 : decode cX6_putBox 32 = .ok (.iconst 2, 1) := by decide +kernel
theorem dX6_putBox_33 : decode cX6_putBox 33 = .ok (.iload_n 2, 1) := by decide +kernel
theorem dX6_putBox_34 : decode cX6_putBox 34 = .ok (.invokevirtual 114, 3) := by decide +kernel
theorem dX6_putBox_37 : decode cX6_putBox 37 = .ok (.aload_n 0, 1) := by decide +kernel
theorem dX6_putBox_38 : decode cX6_putBox 38 = .ok (.iload 7, 2) := by decide +kernel
theorem dX6_putBox_40 : decode cX6_putBox 40 = .ok (.iconst 3, 1) := by decide +kernel
theorem dX6_putBox_41 : decode cX6_putBox 41 = .ok (.iload_n 3, 1) := by decide +kernel
theorem dX6_putBox_42 : decode cX6_putBox 42 = .ok (.invokevirtual 114, 3) := by decide +kernel
theorem dX6_putBox_45 : decode cX6_putBox 45 = .ok (.aload_n 0, 1) := by decide +kernel
theorem dX6_putBox_46 : decode cX6_putBox 46 = .ok (.iload 7, 2) := by decide +kernel
theorem dX6_putBox_48 : decode cX6_putBox 48 = .ok (.iconst 4, 1) := by decide +kernel
theorem dX6_putBox_49 : decode cX6_putBox 49 = .ok (.iload 4, 2) := by decide +kernel
theorem dX6_putBox_51 : decode cX6_putBox 51 = .ok (.invokevirtual 114, 3) := by decide +kernel
theorem dX6_putBox_54 : decode cX6_putBox 54 = .ok (.aload_n 0, 1) := by decide +kernel
theorem dX6_putBox_55 : decode cX6_putBox 55 = .ok (.iload 7, 2) := by decide +kernel
theorem dX6_putBox_57 : decode cX6_putBox 57 = .ok (.iconst 5, 1) := by decide +kernel
theorem dX6_putBox_58 : decode cX6_putBox 58 = .ok (.iload 5, 2) := by decide +kernel
theorem dX6_putBox_60 : decode cX6_putBox 60 = .ok (.invokevirtual 114, 3) := by decide +kernel
theorem dX6_putBox_63 : decode cX6_putBox 63 = .ok (.aload_n 0, 1) := by decide +kernel
theorem dX6_putBox_64 : decode cX6_putBox 64 = .ok (.iload 7, 2) := by decide +kernel
theorem dX6_putBox_66 : decode cX6_putBox 66 = .ok (.bipush 6, 2) := by decide +kernel
theorem dX6_putBox_68 : decode cX6_putBox 68 = .ok (.iload 6, 2) := by decide +kernel
theorem dX6_putBox_70 : decode cX6_putBox 70 = .ok (.invokevirtual 114, 3) := by decide +kernel
theorem dX6_putBox_73 : decode cX6_putBox 73 = .ok (.aload_n 0, 1) := by decide +kernel
theorem dX6_putBox_74 : decode cX6_putBox 74 = .ok (.getfield 7, 3) := by decide +kernel
theorem dX6_putBox_77 : decode cX6_putBox 77 = .ok (.iconst 0, 1) := by decide +kernel
theorem dX6_putBox_78 : decode cX6_putBox 78 = .ok (.dup2, 1) := by decide +kernel
theorem dX6_putBox_79 : decode cX6_putBox 79 = .ok (.iaload, 1) := by decide +kernel
theorem dX6_putBox_80 : decode cX6_putBox 80 = .ok (.iconst 1, 1) := by decide +kernel
theorem dX6_putBox_81 : decode cX6_putBox 81 = .ok (.iadd, 1) := by decide +kernel
theorem dX6_putBox_82 : decode cX6_putBox 82 = .ok (.iastore, 1) := by decide +kernel
theorem dX6_putBox_83 : decode cX6_putBox 83 = .ok (.aload_n 0, 1) := by decide +kernel
theorem dX6_putBox_84 : decode cX6_putBox 84 = .ok (.getfield 7, 3) := by decide +kernel
theorem dX6_putBox_87 : decode cX6_putBox 87 = .ok (.iconst 1, 1) := by decide +kernel
theorem dX6_putBox_88 : decode cX6_putBox 88 = .ok (.dup2, 1) := by decide +kernel
theorem dX6_putBox_89 : decode cX6_putBox 89 = .ok (.iaload, 1) := by decide +kernel
theorem dX6_putBox_90 : decode cX6_putBox 90 = .ok (.iconst 1, 1) := by decide +kernel
theorem dX6_putBox_91 : decode cX6_putBox 91 = .ok (.iadd, 1) := by decide +kernel
theorem dX6_putBox_92 : decode cX6_putBox 92 = .ok (.iastore, 1) := by decide +kernel
theorem dX6_putBox_93 : decode cX6_putBox 93 = .ok (.aload_n 0, 1) := by decide +kernel
theorem dX6_putBox_94 : decode cX6_putBox 94 = .ok (.getfield 7, 3) := by decide +kernel
theorem dX6_putBox_97 : decode cX6_putBox 97 = .ok (.iconst 1, 1) := by decide +kernel
theorem dX6_putBox_98 : decode cX6_putBox 98 = .ok (.iaload, 1) := by decide +kernel
theorem dX6_putBox_99 : decode cX6_putBox 99 = .ok (.iconst 1, 1) := by decide +kernel
theorem dX6_putBox_100 : decode cX6_putBox 100 = .ok (.isub, 1) := by decide +kernel
theorem dX6_putBox_101 : decode cX6_putBox 101 = .ok (.ireturn, 1) := by decide +kernel
set_option maxRecDepth 20000 in
theorem ggX6_add_X6_tryBox : GoodIn wsX6_add wsX6_tryBox := goodIn_r _ [6, 1, 7, 8, 5, 9, 10, 11, 12, 13, 14, 15, 16, 17, 18, 19, 20, 21, 22, 23, 24, 25, 40, 41, 42, 43, 44, 45, 46, 47, 48, 49, 50, 51, 52, 53, 54, 55, 56] (by decide +kernel) (by decide +kernel)
set_option maxRecDepth 20000 in
theorem gX6_add_X6_tryBox : GoodIn wsX6_add (wsV RX6 118 RX6 yX6_tryBox wsX6_tryBox) := goodIn_app (goodIn_of _ (by decide +kernel)) ggX6_add_X6_tryBox
set_option maxRecDepth 20000 in
theorem ggX6_add_X6_push : GoodIn wsX6_add wsX6_push := goodIn_r _ [29, 30, 31, 40, 41, 42, 43, 44, 45, 46, 47, 48, 49, 50, 51, 52, 53, 54, 55, 56] (by decide +kernel) (by decide +kernel)
set_option maxRecDepth 20000 in
theorem gX6_add_X6_push : GoodIn wsX6_add (wsV RX6 110 RX6 yX6_push wsX6_push) := goodIn_app (goodIn_of _ (by decide +kernel)) ggX6_add_X6_push
set_option maxRecDepth 20000 in
theorem ggX6_add_X6_putBox : GoodIn wsX6_add wsX6_putBox := goodIn_r _ [35, 1, 36, 37, 38, 5, 39, 40, 41, 42, 43, 44, 45, 46, 47, 48, 49, 50, 51, 52, 53, 54, 55, 56] (by decide +kernel) (by decide +kernel)
set_option maxRecDepth 20000 in
theorem gX6_add_X6_putBox : GoodIn wsX6_add (wsV RX6 122 RX6 yX6_putBox wsX6_putBox) := goodIn_app (goodIn_of _ (by decide +kernel)) ggX6_add_X6_putBox
theorem dX6_add_0 : decode cX6_add 0 = .ok (.aload_n 0, 1) := by decide +kernel
theorem dX6_add_1 : decode cX6_add 1 = .ok (.iload_n 1, 1) := by decide +kernel
theorem dX6_add_2 : decode cX6_add 2 = .ok (.iload_n 2, 1) := by decide +kernel
theorem dX6_add_3 : decode cX6_add 3 = .ok (.iload_n 3, 1) := by decide +kernel
theorem dX6_add_4 : decode cX6_add 4 = .ok (.iload 4, 2) := by decide +kernel
theorem dX6_add_6 : decode cX6_add 6 = .ok (.iload 5, 2) := by decide +kernel
theorem dX6_add_8 : decode cX6_add 8 = .ok (.iload 6, 2) := by decide +kernel
theorem dX6_add_10 : decode cX6_add 10 = .ok (.invokevirtual 118, 3) := by decide +kernel
theorem dX6_add_13 : decode cX6_add 13 = .ok (.istore 7, 2) := by decide +kernel
theorem dX6_add_15 : decode cX6_add 15 = .ok (.iload 7, 2) := by decide +kernel
theorem dX6_add_17 : decode cX6_add 17 = .ok (.ifCond .ge 6, 3) := by decide +kernel
theorem dX6_add_20 : decode cX6_add 20 = .ok (.iload 7, 2) := by decide +kernel
theorem dX6_add_22 : decode cX6_add 22 = .ok (.ireturn, 1) := by decide +kernel
theorem dX6_add_23 : decode cX6_add 23 = .ok (.aload_n 0, 1) := by decide +kernel
theorem dX6_add_24 : decode cX6_add 24 = .ok (.aload_n 0, 1) := by decide +kernel
theorem dX6_add_25 : decode cX6_add 25 = .ok (.getfield 7, 3) := by decide +kernel
theorem dX6_add_28 : decode cX6_add 28 = .ok (.invokevirtual 110, 3) := by decide +kernel
theorem dX6_add_31 : decode cX6_add 31 = .ok (.aload_n 0, 1) := by decide +kernel
theorem dX6_add_32 : decode cX6_add 32 = .ok (.iload_n 1, 1) := by decide +kernel
theorem dX6_add_33 : decode cX6_add 33 = .ok (.iload_n 2, 1) := by decide +kernel
theorem dX6_add_34 : decode cX6_add 34 = .ok (.iload_n 3, 1) := by decide +kernel
theorem dX6_add_35 : decode cX6_add 35 = .ok (.iload 4, 2) := by decide +kernel
theorem dX6_add_37 : decode cX6_add 37 = .ok (.iload 5, 2) := by decide +kernel
theorem dX6_add_39 : decode cX6_add 39 = .ok (.iload 6, 2) := by decide +kernel
theorem dX6_add_41 : decode cX6_add 41 = .ok (.invokevirtual 122, 3) := by decide +kernel
theorem dX6_add_44 : decode cX6_add 44 = .ok (.ireturn, 1) := by decide +kernel
set_option maxRecDepth 20000 in
theorem ggX6_remove_X6_rankOf : GoodIn wsX6_remove wsX6_rankOf := goodIn_r _ [6, 1, 7, 8, 9, 5, 10, 25, 26, 27, 28, 29, 30, 31, 32, 33, 34, 35, 36, 37, 38, 39, 40, 41] (by decide +kernel) (by decide +kernel)
set_option maxRecDepth 20000 in
theorem gX6_remove_X6_rankOf : GoodIn wsX6_remove (wsV RX6 125 RX6 yX6_rankOf wsX6_rankOf) := goodIn_app (goodIn_of _ (by decide +kernel)) ggX6_remove_X6_rankOf
set_option maxRecDepth 20000 in
theorem ggX6_remove_X6_push : GoodIn wsX6_remove wsX6_push := goodIn_r _ [14, 15, 16, 25, 26, 27, 28, 29, 30, 31, 32, 33, 34, 35, 36, 37, 38, 39, 40, 41] (by decide +kernel) (by decide +kernel)
set_option maxRecDepth 20000 in
theorem gX6_remove_X6_push : GoodIn wsX6_remove (wsV RX6 110 RX6 yX6_push wsX6_push) := goodIn_app (goodIn_of _ (by decide +kernel)) ggX6_remove_X6_push
set_option maxRecDepth 20000 in
theorem ggX6_remove_X6_volume : GoodIn wsX6_remove wsX6_volume := goodIn_r _ [20, 21, 22, 23, 5, 24, 7, 8, 9, 10, 1, 25, 26, 27, 28, 29, 30, 31, 32, 33, 34, 35, 36, 37, 38, 39, 40, 41] (by decide +kernel) (by decide +kernel)
set_option maxRecDepth 20000 in
theorem gX6_remove_X6_volume : GoodIn wsX6_remove (wsV RX6 93 RX6 yX6_volume wsX6_volume) := goodIn_app (goodIn_of _ (by decide +kernel)) ggX6_remove_X6_volume
theorem dX6_remove_0 : decode cX6_remove 0 = .ok (.aload_n 0, 1) := by decide +kernel
theorem dX6_remove_1 : decode cX6_remove 1 = .ok (.iload_n 1, 1) := by decide +kernel
theorem dX6_remove_2 : decode cX6_remove 2 = .ok (.invokevirtual 125, 3) := by decide +kernel
theorem dX6_remove_5 : decode cX6_remove 5 = .ok (.istore_n 2, 1) := by decide +kernel
theorem dX6_remove_6 : decode cX6_remove 6 = .ok (.iload_n 2, 1) := by decide +kernel
theorem dX6_remove_7 : decode cX6_remove 7 = .ok (.ifCond .ge 5, 3) := by decide +kernel
theorem dX6_remove_10 : decode cX6_remove 10 = .ok (.iconst (-1), 1) := by decide +kernel
theorem dX6_remove_11 : decode cX6_remove 11 = .ok (.ireturn, 1) := by decide +kernel
theorem dX6_remove_12 : decode cX6_remove 12 = .ok (.aload_n 0, 1) := by decide +kernel
theorem dX6_remove_13 : decode cX6_remove 13 = .ok (.aload_n 0, 1) := by decide +kernel
theorem dX6_remove_14 : decode cX6_remove 14 = .ok (.getfield 7, 3) := by decide +kernel
theorem dX6_remove_17 : decode cX6_remove 17 = .ok (.invokevirtual 110, 3) := by decide +kernel
theorem dX6_remove_20 : decode cX6_remove 20 = .ok (.aload_n 0, 1) := by decide +kernel
theorem dX6_remove_21 : decode cX6_remove 21 = .ok (.iload_n 2, 1) := by decide +kernel
theorem dX6_remove_22 : decode cX6_remove 22 = .ok (.invokevirtual 93, 3) := by decide +kernel
theorem dX6_remove_25 : decode cX6_remove 25 = .ok (.istore_n 3, 1) := by decide +kernel
theorem dX6_remove_26 : decode cX6_remove 26 = .ok (.aload_n 0, 1) := by decide +kernel
theorem dX6_remove_27 : decode cX6_remove 27 = .ok (.getfield 7, 3) := by decide +kernel
theorem dX6_remove_30 : decode cX6_remove 30 = .ok (.iconst 0, 1) := by decide +kernel
theorem dX6_remove_31 : decode cX6_remove 31 = .ok (.dup2, 1) := by decide +kernel
theorem dX6_remove_32 : decode cX6_remove 32 = .ok (.iaload, 1) := by decide +kernel
theorem dX6_remove_33 : decode cX6_remove 33 = .ok (.iconst 1, 1) := by decide +kernel
theorem dX6_remove_34 : decode cX6_remove 34 = .ok (.isub, 1) := by decide +kernel
theorem dX6_remove_35 : decode cX6_remove 35 = .ok (.iastore, 1) := by decide +kernel
theorem dX6_remove_36 : decode cX6_remove 36 = .ok (.iconst 4, 1) := by decide +kernel
theorem dX6_remove_37 : decode cX6_remove 37 = .ok (.bipush 7, 2) := by decide +kernel
theorem dX6_remove_39 : decode cX6_remove 39 = .ok (.iload_n 2, 1) := by decide +kernel
theorem dX6_remove_40 : decode cX6_remove 40 = .ok (.imul, 1) := by decide +kernel
theorem dX6_remove_41 : decode cX6_remove 41 = .ok (.iadd, 1) := by decide +kernel
theorem dX6_remove_42 : decode cX6_remove 42 = .ok (.istore 4, 2) := by decide +kernel
theorem dX6_remove_44 : decode cX6_remove 44 = .ok (.iload 4, 2) := by decide +kernel
theorem dX6_remove_46 : decode cX6_remove 46 = .ok (.iconst 4, 1) := by decide +kernel
theorem dX6_remove_47 : decode cX6_remove 47 = .ok (.bipush 7, 2) := by decide +kernel
theorem dX6_remove_49 : decode cX6_remove 49 = .ok (.aload_n 0, 1) := by decide +kernel
theorem dX6_remove_50 : decode cX6_remove 50 = .ok (.getfield 7, 3) := by decide +kernel
theorem dX6_remove_53 : decode cX6_remove 53 = .ok (.iconst 0, 1) := by decide +kernel
theorem dX6_remove_54 : decode cX6_remove 54 = .ok (.iaload, 1) := by decide +kernel
theorem dX6_remove_55 : decode cX6_remove 55 = .ok (.imul, 1) := by decide +kernel
theorem dX6_remove_56 : decode cX6_remove 56 = .ok (.iadd, 1) := by decide +kernel
theorem dX6_remove_57 : decode cX6_remove 57 = .ok (.if_icmp .ge 26, 3) := by decide +kernel
theorem dX6_remove_60 : decode cX6_remove 60 = .ok (.aload_n 0, 1) := by decide +kernel
theorem dX6_remove_61 : decode cX6_remove 61 = .ok (.getfield 7, 3) := by decide +kernel
theorem dX6_remove_64 : decode cX6_remove 64 = .ok (.iload 4, 2) := by decide +kernel
theorem dX6_remove_66 : decode cX6_remove 66 = .ok (.aload_n 0, 1) := by decide +kernel
theorem dX6_remove_67 : decode cX6_remove 67 = .ok (.getfield 7, 3) := by decide +kernel
theorem dX6_remove_70 : decode cX6_remove 70 = .ok (.iload 4, 2) := by decide +kernel
theorem dX6_remove_72 : decode cX6_remove 72 = .ok (.bipush 7, 2) := by decide +kernel
theorem dX6_remove_74 : decode cX6_remove 74 = .ok (.iadd, 1) := by decide +kernel
theorem dX6_remove_75 : decode cX6_remove 75 = .ok (.iaload, 1) := by decide +kernel
theorem dX6_remove_76 : decode cX6_remove 76 = .ok (.iastore, 1) := by decide +kernel
theorem dX6_remove_77 : decode cX6_remove 77 = .ok (.iinc 4 1, 3) := by decide +kernel
theorem dX6_remove_80 : decode cX6_remove 80 = .ok (.goto (-36), 3) := by decide +kernel
theorem dX6_remove_83 : decode cX6_remove 83 = .ok (.iload_n 3, 1) := by decide +kernel
theorem dX6_remove_84 : decode cX6_remove 84 = .ok (.ireturn, 1) := by decide +kernel
set_option maxRecDepth 20000 in
theorem ggX6_move_X6_rankOf : GoodIn wsX6_move wsX6_rankOf := goodIn_r _ [6, 1, 7, 8, 9, 5, 10, 47, 48, 49, 50, 51, 52, 53, 54, 55, 56, 57, 58, 59, 60, 61, 62, 63] (by decide +kernel) (by decide +kernel)
set_option maxRecDepth 20000 in
theorem gX6_move_X6_rankOf : GoodIn wsX6_move (wsV RX6 125 RX6 yX6_rankOf wsX6_rankOf) := goodIn_app (goodIn_of _ (by decide +kernel)) ggX6_move_X6_rankOf
set_option maxRecDepth 20000 in
theorem ggX6_move_X6_isDirection : GoodIn wsX6_move wsX6_isDirection := goodIn_r _ [13, 14, 15, 5, 16] (by decide +kernel) (by decide +kernel)
set_option maxRecDepth 20000 in
theorem gX6_move_X6_isDirection : GoodIn wsX6_move (va_wsS RX6 128 yX6_isDirection wsX6_isDirection) := goodIn_app (goodIn_of _ (by decide +kernel)) ggX6_move_X6_isDirection
set_option maxRecDepth 20000 in
theorem ggX6_move_X6_low : GoodIn wsX6_move wsX6_low := goodIn_r _ [20, 7, 8, 9, 5, 10, 1, 47, 48, 49, 50, 51, 52, 53, 54, 55, 56, 57, 58, 59, 60, 61, 62, 63] (by decide +kernel) (by decide +kernel)
set_option maxRecDepth 20000 in
theorem gX6_move_X6_low : GoodIn wsX6_move (wsV RX6 47 RX6 yX6_low wsX6_low) := goodIn_app (goodIn_of _ (by decide +kernel)) ggX6_move_X6_low
set_option maxRecDepth 20000 in
theorem ggX6_move_X6_size : GoodIn wsX6_move wsX6_size := goodIn_r _ [24, 7, 8, 9, 5, 10, 1, 47, 48, 49, 50, 51, 52, 53, 54, 55, 56, 57, 58, 59, 60, 61, 62, 63] (by decide +kernel) (by decide +kernel)
set_option maxRecDepth 20000 in
theorem gX6_move_X6_size : GoodIn wsX6_move (wsV RX6 50 RX6 yX6_size wsX6_size) := goodIn_app (goodIn_of _ (by decide +kernel)) ggX6_move_X6_size
set_option maxRecDepth 20000 in
theorem ggX6_move_X6_in : GoodIn wsX6_move wsX6_in := goodIn_r _ [16] (by decide +kernel) (by decide +kernel)
set_option maxRecDepth 20000 in
theorem gX6_move_X6_in : GoodIn wsX6_move (va_wsS RX6 53 yX6_in wsX6_in) := goodIn_app (goodIn_of _ (by decide +kernel)) ggX6_move_X6_in
set_option maxRecDepth 20000 in
theorem ggX6_move_X6_put : GoodIn wsX6_move wsX6_put := goodIn_r _ [28, 1, 47, 48, 49, 50, 51, 52, 53, 54, 55, 56, 57, 58, 59, 60, 61, 62, 63] (by decide +kernel) (by decide +kernel)
set_option maxRecDepth 20000 in
theorem gX6_move_X6_put : GoodIn wsX6_move (wsV RX6 114 RX6 yX6_put wsX6_put) := goodIn_app (goodIn_of _ (by decide +kernel)) ggX6_move_X6_put
set_option maxRecDepth 20000 in
theorem ggX6_move_X6_cutsAny : GoodIn wsX6_move wsX6_cutsAny := goodIn_r _ [32, 33, 34, 35, 5, 36, 17, 18, 19, 20, 7, 8, 9, 10, 1, 37, 38, 39, 40, 21, 22, 23, 24, 47, 48, 49, 50, 51, 52, 53, 54, 55, 56, 57, 58, 59, 60, 61, 62, 63] (by decide +kernel) (by decide +kernel)
set_option maxRecDepth 20000 in
theorem gX6_move_X6_cutsAny : GoodIn wsX6_move (wsV RX6 131 RX6 yX6_cutsAny wsX6_cutsAny) := goodIn_app (goodIn_of _ (by decide +kernel)) ggX6_move_X6_cutsAny
set_option maxRecDepth 20000 in
theorem ggX6_move_X6_push : GoodIn wsX6_move wsX6_push := goodIn_r _ [44, 45, 46, 47, 48, 49, 50, 51, 52, 53, 54, 55, 56, 57, 58, 59, 60, 61, 62, 63] (by decide +kernel) (by decide +kernel)
set_option maxRecDepth 20000 in
theorem gX6_move_X6_push : GoodIn wsX6_move (wsV RX6 110 RX6 yX6_push wsX6_push) := goodIn_app (goodIn_of _ (by decide +kernel)) ggX6_move_X6_push
theorem dX6_move_0 : decode cX6_move 0 = .ok (.aload_n 0, 1) := by decide +kernel
theorem dX6_move_1 : decode cX6_move 1 = .ok (.iload_n 1, 1) := by decide +kernel
theorem dX6_move_2 : decode cX6_move 2 = .ok (.invokevirtual 125, 3) := by decide +kernel
theorem dX6_move_5 : decode cX6_move 5 = .ok (.istore 4, 2) := by decide +kernel
theorem dX6_move_7 : decode cX6_move 7 = .ok (.iload 4, 2) := by decide +kernel
theorem dX6_move_9 : decode cX6_move 9 = .ok (.ifCond .lt 10, 3) := by decide +kernel
theorem dX6_move_12 : decode cX6_move 12 = .ok (.iload_n 2, 1) := by decide +kernel
theorem dX6_move_13 : decode cX6_move 13 = .ok (.invokestatic 128, 3) := by decide +kernel
theorem dX6_move_16 : decode cX6_move 16 = .ok (.ifCond .ne 5, 3) := by decide +kernel
theorem dX6_move_19 : decode cX6_move 19 = .ok (.iconst (-1), 1) := by decide +kernel
theorem dX6_move_20 : decode cX6_move 20 = .ok (.ireturn, 1) := by decide +kernel
theorem dX6_move_21 : decode cX6_move 21 = .ok (.aload_n 0, 1) := by decide +kernel
theorem dX6_move_22 : decode cX6_move 22 = .ok (.iload 4, 2) := by decide +kernel
theorem dX6_move_24 : decode cX6_move 24 = .ok (.iload_n 2, 1) := by decide +kernel
theorem dX6_move_25 : decode cX6_move 25 = .ok (.invokevirtual 47, 3) := by decide +kernel
theorem dX6_move_28 : decode cX6_move 28 = .ok (.i2l, 1) := by decide +kernel
theorem dX6_move_29 : decode cX6_move 29 = .ok (.iload_n 3, 1) := by decide +kernel
theorem dX6_move_30 : decode cX6_move 30 = .ok (.i2l, 1) := by decide +kernel
theorem dX6_move_31 : decode cX6_move 31 = .ok (.ladd, 1) := by decide +kernel
theorem dX6_move_32 : decode cX6_move 32 = .ok (.lstore 5, 2) := by decide +kernel
theorem dX6_move_34 : decode cX6_move 34 = .ok (.lload 5, 2) := by decide +kernel
theorem dX6_move_36 : decode cX6_move 36 = .ok (.iconst 0, 1) := by decide +kernel
theorem dX6_move_37 : decode cX6_move 37 = .ok (.bipush 32, 2) := by decide +kernel
theorem dX6_move_39 : decode cX6_move 39 = .ok (.aload_n 0, 1) := by decide +kernel
theorem dX6_move_40 : decode cX6_move 40 = .ok (.iload 4, 2) := by decide +kernel
theorem dX6_move_42 : decode cX6_move 42 = .ok (.iload_n 2, 1) := by decide +kernel
theorem dX6_move_43 : decode cX6_move 43 = .ok (.invokevirtual 50, 3) := by decide +kernel
theorem dX6_move_46 : decode cX6_move 46 = .ok (.isub, 1) := by decide +kernel
theorem dX6_move_47 : decode cX6_move 47 = .ok (.invokestatic 53, 3) := by decide +kernel
theorem dX6_move_50 : decode cX6_move 50 = .ok (.ifCond .ne 6, 3) := by decide +kernel
theorem dX6_move_53 : decode cX6_move 53 = .ok (.bipush (-2), 2) := by decide +kernel
theorem dX6_move_55 : decode cX6_move 55 = .ok (.ireturn, 1) := by decide +kernel
theorem dX6_move_56 : decode cX6_move 56 = .ok (.iload_n 3, 1) := by decide +kernel
theorem dX6_move_57 : decode cX6_move 57 = .ok (.ifCond .ne 6, 3) := by decide +kernel
theorem dX6_move_60 : decode cX6_move 60 = .ok (.bipush (-5), 2) := by decide +kernel
theorem dX6_move_62 : decode cX6_move 62 = .ok (.ireturn, 1) := by decide +kernel
theorem dX6_move_63 : decode cX6_move 63 = .ok (.aload_n 0, 1) := by decide +kernel
theorem dX6_move_64 : decode cX6_move 64 = .ok (.iload 4, 2) := by decide +kernel
end
section
theorem dX6_move_66 : decode cX6_move 66 = .ok (.iload_n 2, 1) := by decide +kernel
theorem dX6_move_67 : decode cX6_move 67 = .ok (.invokevirtual 47, 3) := by decide +kernel
theorem dX6_move_70 : decode cX6_move 70 = .ok (.istore 7, 2) := by decide +kernel
theorem dX6_move_72 : decode cX6_move 72 = .ok (.aload_n 0, 1) := by decide +kernel
theorem dX6_move_73 : decode cX6_move 73 = .ok (.iload 4, 2) := by decide +kernel
theorem dX6_move_75 : decode cX6_move 75 = .ok (.iconst 1, 1) := by decide +kernel
theorem dX6_move_76 : decode cX6_move 76 = .ok (.iload_n 2, 1) := by decide +kernel
theorem dX6_move_77 : decode cX6_move 77 = .ok (.iadd, 1) := by decide +kernel
theorem dX6_move_78 : decode cX6_move 78 = .ok (.lload 5, 2) := by decide +kernel
theorem dX6_move_80 : decode cX6_move 80 = .ok (.l2i, 1) := by decide +kernel
theorem dX6_move_81 : decode cX6_move 81 = .ok (.invokevirtual 114, 3) := by decide +kernel
theorem dX6_move_84 : decode cX6_move 84 = .ok (.aload_n 0, 1) := by decide +kernel
theorem dX6_move_85 : decode cX6_move 85 = .ok (.iload 4, 2) := by decide +kernel
theorem dX6_move_87 : decode cX6_move 87 = .ok (.aload_n 0, 1) := by decide +kernel
theorem dX6_move_88 : decode cX6_move 88 = .ok (.getfield 7, 3) := by decide +kernel
theorem dX6_move_91 : decode cX6_move 91 = .ok (.iconst 0, 1) := by decide +kernel
theorem dX6_move_92 : decode cX6_move 92 = .ok (.iaload, 1) := by decide +kernel
theorem dX6_move_93 : decode cX6_move 93 = .ok (.invokevirtual 131, 3) := by decide +kernel
theorem dX6_move_96 : decode cX6_move 96 = .ok (.istore 8, 2) := by decide +kernel
theorem dX6_move_98 : decode cX6_move 98 = .ok (.aload_n 0, 1) := by decide +kernel
theorem dX6_move_99 : decode cX6_move 99 = .ok (.iload 4, 2) := by decide +kernel
theorem dX6_move_101 : decode cX6_move 101 = .ok (.iconst 1, 1) := by decide +kernel
theorem dX6_move_102 : decode cX6_move 102 = .ok (.iload_n 2, 1) := by decide +kernel
theorem dX6_move_103 : decode cX6_move 103 = .ok (.iadd, 1) := by decide +kernel
theorem dX6_move_104 : decode cX6_move 104 = .ok (.iload 7, 2) := by decide +kernel
theorem dX6_move_106 : decode cX6_move 106 = .ok (.invokevirtual 114, 3) := by decide +kernel
theorem dX6_move_109 : decode cX6_move 109 = .ok (.iload 8, 2) := by decide +kernel
theorem dX6_move_111 : decode cX6_move 111 = .ok (.ifCond .eq 6, 3) := by decide +kernel
theorem dX6_move_114 : decode cX6_move 114 = .ok (.bipush (-4), 2) := by decide +kernel
theorem dX6_move_116 : decode cX6_move 116 = .ok (.ireturn, 1) := by decide +kernel
theorem dX6_move_117 : decode cX6_move 117 = .ok (.aload_n 0, 1) := by decide +kernel
theorem dX6_move_118 : decode cX6_move 118 = .ok (.aload_n 0, 1) := by decide +kernel
theorem dX6_move_119 : decode cX6_move 119 = .ok (.getfield 7, 3) := by decide +kernel
theorem dX6_move_122 : decode cX6_move 122 = .ok (.invokevirtual 110, 3) := by decide +kernel
theorem dX6_move_125 : decode cX6_move 125 = .ok (.aload_n 0, 1) := by decide +kernel
theorem dX6_move_126 : decode cX6_move 126 = .ok (.iload 4, 2) := by decide +kernel
theorem dX6_move_128 : decode cX6_move 128 = .ok (.iconst 1, 1) := by decide +kernel
theorem dX6_move_129 : decode cX6_move 129 = .ok (.iload_n 2, 1) := by decide +kernel
theorem dX6_move_130 : decode cX6_move 130 = .ok (.iadd, 1) := by decide +kernel
theorem dX6_move_131 : decode cX6_move 131 = .ok (.lload 5, 2) := by decide +kernel
theorem dX6_move_133 : decode cX6_move 133 = .ok (.l2i, 1) := by decide +kernel
theorem dX6_move_134 : decode cX6_move 134 = .ok (.invokevirtual 114, 3) := by decide +kernel
theorem dX6_move_137 : decode cX6_move 137 = .ok (.lload 5, 2) := by decide +kernel
theorem dX6_move_139 : decode cX6_move 139 = .ok (.l2i, 1) := by decide +kernel
theorem dX6_move_140 : decode cX6_move 140 = .ok (.ireturn, 1) := by decide +kernel
set_option maxRecDepth 20000 in
theorem ggX6_isBelow_X6_cross : GoodIn wsX6_isBelow wsX6_cross := goodIn_r _ [5, 6, 7, 8, 4, 9, 10, 11, 12, 13, 14, 15, 16, 17, 18, 19, 20, 21, 22, 23, 24, 25, 26, 27, 28, 29, 30, 31, 32, 33, 34, 35, 36, 37, 38, 39] (by decide +kernel) (by decide +kernel)
set_option maxRecDepth 20000 in
theorem gX6_isBelow_X6_cross : GoodIn wsX6_isBelow (wsV RX6 60 RX6 yX6_cross wsX6_cross) := goodIn_app (goodIn_of _ (by decide +kernel)) ggX6_isBelow_X6_cross
set_option maxRecDepth 20000 in
theorem ggX6_isBelow_X6_high : GoodIn wsX6_isBelow wsX6_high := goodIn_r _ [18, 6, 7, 8, 4, 9, 10, 11, 12, 13, 14, 19, 20, 21, 22, 23, 24, 25, 26, 27, 28, 29, 30, 31, 32, 33, 34, 35, 36, 37, 38, 39] (by decide +kernel) (by decide +kernel)
set_option maxRecDepth 20000 in
theorem gX6_isBelow_X6_high : GoodIn wsX6_isBelow (wsV RX6 57 RX6 yX6_high wsX6_high) := goodIn_app (goodIn_of _ (by decide +kernel)) ggX6_isBelow_X6_high
set_option maxRecDepth 20000 in
theorem ggX6_isBelow_X6_low : GoodIn wsX6_isBelow wsX6_low := goodIn_r _ [9, 10, 11, 12, 4, 13, 14, 23, 24, 25, 26, 27, 28, 29, 30, 31, 32, 33, 34, 35, 36, 37, 38, 39] (by decide +kernel) (by decide +kernel)
set_option maxRecDepth 20000 in
theorem gX6_isBelow_X6_low : GoodIn wsX6_isBelow (wsV RX6 47 RX6 yX6_low wsX6_low) := goodIn_app (goodIn_of _ (by decide +kernel)) ggX6_isBelow_X6_low
theorem dX6_isBelow_0 : decode cX6_isBelow 0 = .ok (.iload_n 1, 1) := by decide +kernel
theorem dX6_isBelow_1 : decode cX6_isBelow 1 = .ok (.iload_n 2, 1) := by decide +kernel
theorem dX6_isBelow_2 : decode cX6_isBelow 2 = .ok (.if_icmp .eq 42, 3) := by decide +kernel
theorem dX6_isBelow_5 : decode cX6_isBelow 5 = .ok (.aload_n 0, 1) := by decide +kernel
theorem dX6_isBelow_6 : decode cX6_isBelow 6 = .ok (.iload_n 1, 1) := by decide +kernel
theorem dX6_isBelow_7 : decode cX6_isBelow 7 = .ok (.iload_n 2, 1) := by decide +kernel
theorem dX6_isBelow_8 : decode cX6_isBelow 8 = .ok (.iconst 0, 1) := by decide +kernel
theorem dX6_isBelow_9 : decode cX6_isBelow 9 = .ok (.invokevirtual 60, 3) := by decide +kernel
theorem dX6_isBelow_12 : decode cX6_isBelow 12 = .ok (.ifCond .eq 32, 3) := by decide +kernel
theorem dX6_isBelow_15 : decode cX6_isBelow 15 = .ok (.aload_n 0, 1) := by decide +kernel
theorem dX6_isBelow_16 : decode cX6_isBelow 16 = .ok (.iload_n 1, 1) := by decide +kernel
theorem dX6_isBelow_17 : decode cX6_isBelow 17 = .ok (.iload_n 2, 1) := by decide +kernel
theorem dX6_isBelow_18 : decode cX6_isBelow 18 = .ok (.iconst 1, 1) := by decide +kernel
theorem dX6_isBelow_19 : decode cX6_isBelow 19 = .ok (.invokevirtual 60, 3) := by decide +kernel
theorem dX6_isBelow_22 : decode cX6_isBelow 22 = .ok (.ifCond .eq 22, 3) := by decide +kernel
theorem dX6_isBelow_25 : decode cX6_isBelow 25 = .ok (.aload_n 0, 1) := by decide +kernel
theorem dX6_isBelow_26 : decode cX6_isBelow 26 = .ok (.iload_n 1, 1) := by decide +kernel
theorem dX6_isBelow_27 : decode cX6_isBelow 27 = .ok (.iconst 2, 1) := by decide +kernel
theorem dX6_isBelow_28 : decode cX6_isBelow 28 = .ok (.invokevirtual 57, 3) := by decide +kernel
theorem dX6_isBelow_31 : decode cX6_isBelow 31 = .ok (.aload_n 0, 1) := by decide +kernel
theorem dX6_isBelow_32 : decode cX6_isBelow 32 = .ok (.iload_n 2, 1) := by decide +kernel
theorem dX6_isBelow_33 : decode cX6_isBelow 33 = .ok (.iconst 2, 1) := by decide +kernel
theorem dX6_isBelow_34 : decode cX6_isBelow 34 = .ok (.invokevirtual 47, 3) := by decide +kernel
theorem dX6_isBelow_37 : decode cX6_isBelow 37 = .ok (.if_icmp .gt 7, 3) := by decide +kernel
theorem dX6_isBelow_40 : decode cX6_isBelow 40 = .ok (.iconst 1, 1) := by decide +kernel
theorem dX6_isBelow_41 : decode cX6_isBelow 41 = .ok (.goto 4, 3) := by decide +kernel
theorem dX6_isBelow_44 : decode cX6_isBelow 44 = .ok (.iconst 0, 1) := by decide +kernel
theorem dX6_isBelow_45 : decode cX6_isBelow 45 = .ok (.ireturn, 1) := by decide +kernel
set_option maxRecDepth 20000 in
theorem ggX6_fall_X6_rankOf : GoodIn wsX6_fall wsX6_rankOf := goodIn_r _ [6, 1, 7, 8, 9, 5, 10, 41, 42, 43, 44, 45, 46, 47, 48, 49, 50, 51, 52, 53, 54, 55, 56, 57] (by decide +kernel) (by decide +kernel)
set_option maxRecDepth 20000 in
theorem gX6_fall_X6_rankOf : GoodIn wsX6_fall (wsV RX6 125 RX6 yX6_rankOf wsX6_rankOf) := goodIn_app (goodIn_of _ (by decide +kernel)) ggX6_fall_X6_rankOf
set_option maxRecDepth 20000 in
theorem ggX6_fall_X6_isBelow : GoodIn wsX6_fall wsX6_isBelow := goodIn_r _ [14, 15, 16, 17, 5, 18, 19, 20, 21, 22, 7, 8, 9, 10, 1, 23, 24, 25, 26, 27, 28, 29, 30, 41, 42, 43, 44, 45, 46, 47, 48, 49, 50, 51, 52, 53, 54, 55, 56, 57] (by decide +kernel) (by decide +kernel)
set_option maxRecDepth 20000 in
theorem gX6_fall_X6_isBelow : GoodIn wsX6_fall (wsV RX6 134 RX6 yX6_isBelow wsX6_isBelow) := goodIn_app (goodIn_of _ (by decide +kernel)) ggX6_fall_X6_isBelow
set_option maxRecDepth 20000 in
theorem ggX6_fall_X6_high : GoodIn wsX6_fall wsX6_high := goodIn_r _ [26, 19, 20, 21, 5, 22, 7, 8, 9, 10, 1, 27, 28, 29, 30, 41, 42, 43, 44, 45, 46, 47, 48, 49, 50, 51, 52, 53, 54, 55, 56, 57] (by decide +kernel) (by decide +kernel)
set_option maxRecDepth 20000 in
theorem gX6_fall_X6_high : GoodIn wsX6_fall (wsV RX6 57 RX6 yX6_high wsX6_high) := goodIn_app (goodIn_of _ (by decide +kernel)) ggX6_fall_X6_high
set_option maxRecDepth 20000 in
theorem ggX6_fall_X6_low : GoodIn wsX6_fall wsX6_low := goodIn_r _ [22, 7, 8, 9, 5, 10, 1, 41, 42, 43, 44, 45, 46, 47, 48, 49, 50, 51, 52, 53, 54, 55, 56, 57] (by decide +kernel) (by decide +kernel)
set_option maxRecDepth 20000 in
theorem gX6_fall_X6_low : GoodIn wsX6_fall (wsV RX6 47 RX6 yX6_low wsX6_low) := goodIn_app (goodIn_of _ (by decide +kernel)) ggX6_fall_X6_low
set_option maxRecDepth 20000 in
theorem ggX6_fall_X6_push : GoodIn wsX6_fall wsX6_push := goodIn_r _ [34, 35, 36, 41, 42, 43, 44, 45, 46, 47, 48, 49, 50, 51, 52, 53, 54, 55, 56, 57] (by decide +kernel) (by decide +kernel)
set_option maxRecDepth 20000 in
theorem gX6_fall_X6_push : GoodIn wsX6_fall (wsV RX6 110 RX6 yX6_push wsX6_push) := goodIn_app (goodIn_of _ (by decide +kernel)) ggX6_fall_X6_push
set_option maxRecDepth 20000 in
theorem ggX6_fall_X6_put : GoodIn wsX6_fall wsX6_put := goodIn_r _ [40, 1, 41, 42, 43, 44, 45, 46, 47, 48, 49, 50, 51, 52, 53, 54, 55, 56, 57] (by decide +kernel) (by decide +kernel)
set_option maxRecDepth 20000 in
theorem gX6_fall_X6_put : GoodIn wsX6_fall (wsV RX6 114 RX6 yX6_put wsX6_put) := goodIn_app (goodIn_of _ (by decide +kernel)) ggX6_fall_X6_put
theorem dX6_fall_0 : decode cX6_fall 0 = .ok (.aload_n 0, 1) := by decide +kernel
theorem dX6_fall_1 : decode cX6_fall 1 = .ok (.iload_n 1, 1) := by decide +kernel
theorem dX6_fall_2 : decode cX6_fall 2 = .ok (.invokevirtual 125, 3) := by decide +kernel
theorem dX6_fall_5 : decode cX6_fall 5 = .ok (.istore_n 2, 1) := by decide +kernel
theorem dX6_fall_6 : decode cX6_fall 6 = .ok (.iload_n 2, 1) := by decide +kernel
theorem dX6_fall_7 : decode cX6_fall 7 = .ok (.ifCond .ge 5, 3) := by decide +kernel
theorem dX6_fall_10 : decode cX6_fall 10 = .ok (.iconst (-1), 1) := by decide +kernel
theorem dX6_fall_11 : decode cX6_fall 11 = .ok (.ireturn, 1) := by decide +kernel
theorem dX6_fall_12 : decode cX6_fall 12 = .ok (.iconst 0, 1) := by decide +kernel
theorem dX6_fall_13 : decode cX6_fall 13 = .ok (.istore_n 3, 1) := by decide +kernel
theorem dX6_fall_14 : decode cX6_fall 14 = .ok (.iconst 0, 1) := by decide +kernel
theorem dX6_fall_15 : decode cX6_fall 15 = .ok (.istore 4, 2) := by decide +kernel
theorem dX6_fall_17 : decode cX6_fall 17 = .ok (.iload 4, 2) := by decide +kernel
theorem dX6_fall_19 : decode cX6_fall 19 = .ok (.aload_n 0, 1) := by decide +kernel
theorem dX6_fall_20 : decode cX6_fall 20 = .ok (.getfield 7, 3) := by decide +kernel
theorem dX6_fall_23 : decode cX6_fall 23 = .ok (.iconst 0, 1) := by decide +kernel
theorem dX6_fall_24 : decode cX6_fall 24 = .ok (.iaload, 1) := by decide +kernel
theorem dX6_fall_25 : decode cX6_fall 25 = .ok (.if_icmp .ge 42, 3) := by decide +kernel
theorem dX6_fall_28 : decode cX6_fall 28 = .ok (.aload_n 0, 1) := by decide +kernel
theorem dX6_fall_29 : decode cX6_fall 29 = .ok (.iload 4, 2) := by decide +kernel
theorem dX6_fall_31 : decode cX6_fall 31 = .ok (.iload_n 2, 1) := by decide +kernel
theorem dX6_fall_32 : decode cX6_fall 32 = .ok (.invokevirtual 134, 3) := by decide +kernel
theorem dX6_fall_35 : decode cX6_fall 35 = .ok (.ifCond .eq 24, 3) := by decide +kernel
theorem dX6_fall_38 : decode cX6_fall 38 = .ok (.aload_n 0, 1) := by decide +kernel
theorem dX6_fall_39 : decode cX6_fall 39 = .ok (.iload 4, 2) := by decide +kernel
theorem dX6_fall_41 : decode cX6_fall 41 = .ok (.iconst 2, 1) := by decide +kernel
theorem dX6_fall_42 : decode cX6_fall 42 = .ok (.invokevirtual 57, 3) := by decide +kernel
theorem dX6_fall_45 : decode cX6_fall 45 = .ok (.iload_n 3, 1) := by decide +kernel
theorem dX6_fall_46 : decode cX6_fall 46 = .ok (.if_icmp .le 13, 3) := by decide +kernel
theorem dX6_fall_49 : decode cX6_fall 49 = .ok (.aload_n 0, 1) := by decide +kernel
theorem dX6_fall_50 : decode cX6_fall 50 = .ok (.iload 4, 2) := by decide +kernel
theorem dX6_fall_52 : decode cX6_fall 52 = .ok (.iconst 2, 1) := by decide +kernel
theorem dX6_fall_53 : decode cX6_fall 53 = .ok (.invokevirtual 57, 3) := by decide +kernel
theorem dX6_fall_56 : decode cX6_fall 56 = .ok (.goto 4, 3) := by decide +kernel
theorem dX6_fall_59 : decode cX6_fall 59 = .ok (.iload_n 3, 1) := by decide +kernel
theorem dX6_fall_60 : decode cX6_fall 60 = .ok (.istore_n 3, 1) := by decide +kernel
theorem dX6_fall_61 : decode cX6_fall 61 = .ok (.iinc 4 1, 3) := by decide +kernel
theorem dX6_fall_64 : decode cX6_fall 64 = .ok (.goto (-47), 3) := by decide +kernel
theorem dX6_fall_67 : decode cX6_fall 67 = .ok (.aload_n 0, 1) := by decide +kernel
theorem dX6_fall_68 : decode cX6_fall 68 = .ok (.iload_n 2, 1) := by decide +kernel
theorem dX6_fall_69 : decode cX6_fall 69 = .ok (.iconst 2, 1) := by decide +kernel
theorem dX6_fall_70 : decode cX6_fall 70 = .ok (.invokevirtual 47, 3) := by decide +kernel
theorem dX6_fall_73 : decode cX6_fall 73 = .ok (.iload_n 3, 1) := by decide +kernel
theorem dX6_fall_74 : decode cX6_fall 74 = .ok (.isub, 1) := by decide +kernel
theorem dX6_fall_75 : decode cX6_fall 75 = .ok (.istore 4, 2) := by decide +kernel
theorem dX6_fall_77 : decode cX6_fall 77 = .ok (.iload 4, 2) := by decide +kernel
theorem dX6_fall_79 : decode cX6_fall 79 = .ok (.ifCond .ne 6, 3) := by decide +kernel
theorem dX6_fall_82 : decode cX6_fall 82 = .ok (.bipush (-5), 2) := by decide +kernel
theorem dX6_fall_84 : decode cX6_fall 84 = .ok (.ireturn, 1) := by decide +kernel
theorem dX6_fall_85 : decode cX6_fall 85 = .ok (.aload_n 0, 1) := by decide +kernel
theorem dX6_fall_86 : decode cX6_fall 86 = .ok (.aload_n 0, 1) := by decide +kernel
theorem dX6_fall_87 : decode cX6_fall 87 = .ok (.getfield 7, 3) := by decide +kernel
theorem dX6_fall_90 : decode cX6_fall 90 = .ok (.invokevirtual 110, 3) := by decide +kernel
theorem dX6_fall_93 : decode cX6_fall 93 = .ok (.aload_n 0, 1) := by decide +kernel
theorem dX6_fall_94 : decode cX6_fall 94 = .ok (.iload_n 2, 1) := by decide +kernel
theorem dX6_fall_95 : decode cX6_fall 95 = .ok (.iconst 3, 1) := by decide +kernel
theorem dX6_fall_96 : decode cX6_fall 96 = .ok (.iload_n 3, 1) := by decide +kernel
theorem dX6_fall_97 : decode cX6_fall 97 = .ok (.invokevirtual 114, 3) := by decide +kernel
theorem dX6_fall_100 : decode cX6_fall 100 = .ok (.iload 4, 2) := by decide +kernel
theorem dX6_fall_102 : decode cX6_fall 102 = .ok (.ireturn, 1) := by decide +kernel
set_option maxRecDepth 20000 in
theorem ggX6_doSplit_X6_high : GoodIn wsX6_doSplit wsX6_high := goodIn_r _ [6, 7, 8, 9, 5, 10, 11, 12, 13, 14, 1, 15, 16, 17, 18, 27, 28, 29, 30, 31, 32, 33, 34, 35, 36, 37, 38, 39, 40, 41, 42, 43] (by decide +kernel) (by decide +kernel)
set_option maxRecDepth 20000 in
theorem gX6_doSplit_X6_high : GoodIn wsX6_doSplit (wsV RX6 57 RX6 yX6_high wsX6_high) := goodIn_app (goodIn_of _ (by decide +kernel)) ggX6_doSplit_X6_high
set_option maxRecDepth 20000 in
theorem ggX6_doSplit_X6_low : GoodIn wsX6_doSplit wsX6_low := goodIn_r _ [10, 11, 12, 13, 5, 14, 1, 27, 28, 29, 30, 31, 32, 33, 34, 35, 36, 37, 38, 39, 40, 41, 42, 43] (by decide +kernel) (by decide +kernel)
set_option maxRecDepth 20000 in
theorem gX6_doSplit_X6_low : GoodIn wsX6_doSplit (wsV RX6 47 RX6 yX6_low wsX6_low) := goodIn_app (goodIn_of _ (by decide +kernel)) ggX6_doSplit_X6_low
set_option maxRecDepth 20000 in
theorem ggX6_doSplit_X6_put : GoodIn wsX6_doSplit wsX6_put := goodIn_r _ [22, 1, 27, 28, 29, 30, 31, 32, 33, 34, 35, 36, 37, 38, 39, 40, 41, 42, 43] (by decide +kernel) (by decide +kernel)
set_option maxRecDepth 20000 in
theorem gX6_doSplit_X6_put : GoodIn wsX6_doSplit (wsV RX6 114 RX6 yX6_put wsX6_put) := goodIn_app (goodIn_of _ (by decide +kernel)) ggX6_doSplit_X6_put
set_option maxRecDepth 20000 in
theorem ggX6_doSplit_X6_size : GoodIn wsX6_doSplit wsX6_size := goodIn_r _ [18, 11, 12, 13, 5, 14, 1, 27, 28, 29, 30, 31, 32, 33, 34, 35, 36, 37, 38, 39, 40, 41, 42, 43] (by decide +kernel) (by decide +kernel)
set_option maxRecDepth 20000 in
theorem gX6_doSplit_X6_size : GoodIn wsX6_doSplit (wsV RX6 50 RX6 yX6_size wsX6_size) := goodIn_app (goodIn_of _ (by decide +kernel)) ggX6_doSplit_X6_size
set_option maxRecDepth 20000 in
theorem ggX6_doSplit_X6_putBox : GoodIn wsX6_doSplit wsX6_putBox := goodIn_r _ [26, 1, 19, 20, 21, 5, 22, 27, 28, 29, 30, 31, 32, 33, 34, 35, 36, 37, 38, 39, 40, 41, 42, 43] (by decide +kernel) (by decide +kernel)
set_option maxRecDepth 20000 in
theorem gX6_doSplit_X6_putBox : GoodIn wsX6_doSplit (wsV RX6 122 RX6 yX6_putBox wsX6_putBox) := goodIn_app (goodIn_of _ (by decide +kernel)) ggX6_doSplit_X6_putBox
theorem dX6_doSplit_0 : decode cX6_doSplit 0 = .ok (.aload_n 0, 1) := by decide +kernel
theorem dX6_doSplit_1 : decode cX6_doSplit 1 = .ok (.iload_n 1, 1) := by decide +kernel
theorem dX6_doSplit_2 : decode cX6_doSplit 2 = .ok (.iload_n 2, 1) := by decide +kernel
theorem dX6_doSplit_3 : decode cX6_doSplit 3 = .ok (.invokevirtual 57, 3) := by decide +kernel
theorem dX6_doSplit_6 : decode cX6_doSplit 6 = .ok (.istore 4, 2) := by decide +kernel
theorem dX6_doSplit_8 : decode cX6_doSplit 8 = .ok (.aload_n 0, 1) := by decide +kernel
theorem dX6_doSplit_9 : decode cX6_doSplit 9 = .ok (.iload_n 1, 1) := by decide +kernel
theorem dX6_doSplit_10 : decode cX6_doSplit 10 = .ok (.iconst 4, 1) := by decide +kernel
theorem dX6_doSplit_11 : decode cX6_doSplit 11 = .ok (.iload_n 2, 1) := by decide +kernel
theorem dX6_doSplit_12 : decode cX6_doSplit 12 = .ok (.iadd, 1) := by decide +kernel
theorem dX6_doSplit_13 : decode cX6_doSplit 13 = .ok (.iload_n 3, 1) := by decide +kernel
theorem dX6_doSplit_14 : decode cX6_doSplit 14 = .ok (.aload_n 0, 1) := by decide +kernel
theorem dX6_doSplit_15 : decode cX6_doSplit 15 = .ok (.iload_n 1, 1) := by decide +kernel
theorem dX6_doSplit_16 : decode cX6_doSplit 16 = .ok (.iload_n 2, 1) := by decide +kernel
theorem dX6_doSplit_17 : decode cX6_doSplit 17 = .ok (.invokevirtual 47, 3) := by decide +kernel
theorem dX6_doSplit_20 : decode cX6_doSplit 20 = .ok (.isub, 1) := by decide +kernel
theorem dX6_doSplit_21 : decode cX6_doSplit 21 = .ok (.invokevirtual 114, 3) := by decide +kernel
theorem dX6_doSplit_24 : decode cX6_doSplit 24 = .ok (.aload_n 0, 1) := by decide +kernel
theorem dX6_doSplit_25 : decode cX6_doSplit 25 = .ok (.aload_n 0, 1) := by decide +kernel
theorem dX6_doSplit_26 : decode cX6_doSplit 26 = .ok (.iload_n 1, 1) := by decide +kernel
theorem dX6_doSplit_27 : decode cX6_doSplit 27 = .ok (.iconst 0, 1) := by decide +kernel
theorem dX6_doSplit_28 : decode cX6_doSplit 28 = .ok (.invokevirtual 47, 3) := by decide +kernel
theorem dX6_doSplit_31 : decode cX6_doSplit 31 = .ok (.aload_n 0, 1) := by decide +kernel
theorem dX6_doSplit_32 : decode cX6_doSplit 32 = .ok (.iload_n 1, 1) := by decide +kernel
theorem dX6_doSplit_33 : decode cX6_doSplit 33 = .ok (.iconst 1, 1) := by decide +kernel
theorem dX6_doSplit_34 : decode cX6_doSplit 34 = .ok (.invokevirtual 47, 3) := by decide +kernel
theorem dX6_doSplit_37 : decode cX6_doSplit 37 = .ok (.aload_n 0, 1) := by decide +kernel
theorem dX6_doSplit_38 : decode cX6_doSplit 38 = .ok (.iload_n 1, 1) := by decide +kernel
theorem dX6_doSplit_39 : decode cX6_doSplit 39 = .ok (.iconst 2, 1) := by decide +kernel
theorem dX6_doSplit_40 : decode cX6_doSplit 40 = .ok (.invokevirtual 47, 3) := by decide +kernel
theorem dX6_doSplit_43 : decode cX6_doSplit 43 = .ok (.aload_n 0, 1) := by decide +kernel
theorem dX6_doSplit_44 : decode cX6_doSplit 44 = .ok (.iload_n 1, 1) := by decide +kernel
theorem dX6_doSplit_45 : decode cX6_doSplit 45 = .ok (.iconst 0, 1) := by decide +kernel
theorem dX6_doSplit_46 : decode cX6_doSplit 46 = .ok (.invokevirtual 50, 3) := by decide +kernel
theorem dX6_doSplit_49 : decode cX6_doSplit 49 = .ok (.aload_n 0, 1) := by decide +kernel
theorem dX6_doSplit_50 : decode cX6_doSplit 50 = .ok (.iload_n 1, 1) := by decide +kernel
theorem dX6_doSplit_51 : decode cX6_doSplit 51 = .ok (.iconst 1, 1) := by decide +kernel
theorem dX6_doSplit_52 : decode cX6_doSplit 52 = .ok (.invokevirtual 50, 3) := by decide +kernel
theorem dX6_doSplit_55 : decode cX6_doSplit 55 = .ok (.aload_n 0, 1) := by decide +kernel
theorem dX6_doSplit_56 : decode cX6_doSplit 56 = .ok (.iload_n 1, 1) := by decide +kernel
theorem dX6_doSplit_57 : decode cX6_doSplit 57 = .ok (.iconst 2, 1) := by decide +kernel
theorem dX6_doSplit_58 : decode cX6_doSplit 58 = .ok (.invokevirtual 50, 3) := by decide +kernel
theorem dX6_doSplit_61 : decode cX6_doSplit 61 = .ok (.invokevirtual 122, 3) := by decide +kernel
theorem dX6_doSplit_64 : decode cX6_doSplit 64 = .ok (.istore 5, 2) := by decide +kernel
theorem dX6_doSplit_66 : decode cX6_doSplit 66 = .ok (.aload_n 0, 1) := by decide +kernel
theorem dX6_doSplit_67 : decode cX6_doSplit 67 = .ok (.aload_n 0, 1) := by decide +kernel
theorem dX6_doSplit_68 : decode cX6_doSplit 68 = .ok (.getfield 7, 3) := by decide +kernel
theorem dX6_doSplit_71 : decode cX6_doSplit 71 = .ok (.iconst 0, 1) := by decide +kernel
theorem dX6_doSplit_72 : decode cX6_doSplit 72 = .ok (.iaload, 1) := by decide +kernel
theorem dX6_doSplit_73 : decode cX6_doSplit 73 = .ok (.iconst 1, 1) := by decide +kernel
theorem dX6_doSplit_74 : decode cX6_doSplit 74 = .ok (.isub, 1) := by decide +kernel
theorem dX6_doSplit_75 : decode cX6_doSplit 75 = .ok (.iconst 1, 1) := by decide +kernel
theorem dX6_doSplit_76 : decode cX6_doSplit 76 = .ok (.iload_n 2, 1) := by decide +kernel
theorem dX6_doSplit_77 : decode cX6_doSplit 77 = .ok (.iadd, 1) := by decide +kernel
theorem dX6_doSplit_78 : decode cX6_doSplit 78 = .ok (.iload_n 3, 1) := by decide +kernel
theorem dX6_doSplit_79 : decode cX6_doSplit 79 = .ok (.invokevirtual 114, 3) := by decide +kernel
theorem dX6_doSplit_82 : decode cX6_doSplit 82 = .ok (.aload_n 0, 1) := by decide +kernel
theorem dX6_doSplit_83 : decode cX6_doSplit 83 = .ok (.aload_n 0, 1) := by decide +kernel
theorem dX6_doSplit_84 : decode cX6_doSplit 84 = .ok (.getfield 7, 3) := by decide +kernel
theorem dX6_doSplit_87 : decode cX6_doSplit 87 = .ok (.iconst 0, 1) := by decide +kernel
theorem dX6_doSplit_88 : decode cX6_doSplit 88 = .ok (.iaload, 1) := by decide +kernel
theorem dX6_doSplit_89 : decode cX6_doSplit 89 = .ok (.iconst 1, 1) := by decide +kernel
theorem dX6_doSplit_90 : decode cX6_doSplit 90 = .ok (.isub, 1) := by decide +kernel
theorem dX6_doSplit_91 : decode cX6_doSplit 91 = .ok (.iconst 4, 1) := by decide +kernel
theorem dX6_doSplit_92 : decode cX6_doSplit 92 = .ok (.iload_n 2, 1) := by decide +kernel
theorem dX6_doSplit_93 : decode cX6_doSplit 93 = .ok (.iadd, 1) := by decide +kernel
theorem dX6_doSplit_94 : decode cX6_doSplit 94 = .ok (.iload 4, 2) := by decide +kernel
theorem dX6_doSplit_96 : decode cX6_doSplit 96 = .ok (.iload_n 3, 1) := by decide +kernel
theorem dX6_doSplit_97 : decode cX6_doSplit 97 = .ok (.isub, 1) := by decide +kernel
theorem dX6_doSplit_98 : decode cX6_doSplit 98 = .ok (.invokevirtual 114, 3) := by decide +kernel
theorem dX6_doSplit_101 : decode cX6_doSplit 101 = .ok (.aload_n 0, 1) := by decide +kernel
theorem dX6_doSplit_102 : decode cX6_doSplit 102 = .ok (.getfield 7, 3) := by decide +kernel
theorem dX6_doSplit_105 : decode cX6_doSplit 105 = .ok (.iconst 2, 1) := by decide +kernel
theorem dX6_doSplit_106 : decode cX6_doSplit 106 = .ok (.dup2, 1) := by decide +kernel
theorem dX6_doSplit_107 : decode cX6_doSplit 107 = .ok (.iaload, 1) := by decide +kernel
theorem dX6_doSplit_108 : decode cX6_doSplit 108 = .ok (.iconst 1, 1) := by decide +kernel
theorem dX6_doSplit_109 : decode cX6_doSplit 109 = .ok (.iadd, 1) := by decide +kernel
theorem dX6_doSplit_110 : decode cX6_doSplit 110 = .ok (.iastore, 1) := by decide +kernel
theorem dX6_doSplit_111 : decode cX6_doSplit 111 = .ok (.iload 5, 2) := by decide +kernel
theorem dX6_doSplit_113 : decode cX6_doSplit 113 = .ok (.ireturn, 1) := by decide +kernel
set_option maxRecDepth 20000 in
theorem ggX6_split_X6_rankOf : GoodIn wsX6_split wsX6_rankOf := goodIn_r _ [6, 1, 7, 8, 9, 5, 10, 47, 48, 49, 50, 51, 52, 53, 54, 55, 56, 57, 58, 59, 60, 61, 62, 63] (by decide +kernel) (by decide +kernel)
set_option maxRecDepth 20000 in
theorem gX6_split_X6_rankOf : GoodIn wsX6_split (wsV RX6 125 RX6 yX6_rankOf wsX6_rankOf) := goodIn_app (goodIn_of _ (by decide +kernel)) ggX6_split_X6_rankOf
set_option maxRecDepth 20000 in
theorem ggX6_split_X6_isDirection : GoodIn wsX6_split wsX6_isDirection := goodIn_r _ [13, 14, 15, 5, 16] (by decide +kernel) (by decide +kernel)
set_option maxRecDepth 20000 in
theorem gX6_split_X6_isDirection : GoodIn wsX6_split (va_wsS RX6 128 yX6_isDirection wsX6_isDirection) := goodIn_app (goodIn_of _ (by decide +kernel)) ggX6_split_X6_isDirection
set_option maxRecDepth 20000 in
theorem ggX6_split_X6_low : GoodIn wsX6_split wsX6_low := goodIn_r _ [20, 7, 8, 9, 5, 10, 1, 47, 48, 49, 50, 51, 52, 53, 54, 55, 56, 57, 58, 59, 60, 61, 62, 63] (by decide +kernel) (by decide +kernel)
set_option maxRecDepth 20000 in
theorem gX6_split_X6_low : GoodIn wsX6_split (wsV RX6 47 RX6 yX6_low wsX6_low) := goodIn_app (goodIn_of _ (by decide +kernel)) ggX6_split_X6_low
set_option maxRecDepth 20000 in
theorem ggX6_split_X6_high : GoodIn wsX6_split wsX6_high := goodIn_r _ [24, 17, 18, 19, 5, 20, 7, 8, 9, 10, 1, 25, 26, 27, 28, 47, 48, 49, 50, 51, 52, 53, 54, 55, 56, 57, 58, 59, 60, 61, 62, 63] (by decide +kernel) (by decide +kernel)
set_option maxRecDepth 20000 in
theorem gX6_split_X6_high : GoodIn wsX6_split (wsV RX6 57 RX6 yX6_high wsX6_high) := goodIn_app (goodIn_of _ (by decide +kernel)) ggX6_split_X6_high
set_option maxRecDepth 20000 in
theorem ggX6_split_X6_push : GoodIn wsX6_split wsX6_push := goodIn_r _ [32, 33, 34, 47, 48, 49, 50, 51, 52, 53, 54, 55, 56, 57, 58, 59, 60, 61, 62, 63] (by decide +kernel) (by decide +kernel)
set_option maxRecDepth 20000 in
theorem gX6_split_X6_push : GoodIn wsX6_split (wsV RX6 110 RX6 yX6_push wsX6_push) := goodIn_app (goodIn_of _ (by decide +kernel)) ggX6_split_X6_push
set_option maxRecDepth 20000 in
theorem ggX6_split_X6_doSplit : GoodIn wsX6_split wsX6_doSplit := goodIn_r _ [38, 1, 21, 22, 23, 5, 24, 17, 18, 19, 20, 7, 8, 9, 10, 25, 26, 27, 28, 39, 40, 41, 42, 43, 44, 45, 46, 47, 48, 49, 50, 51, 52, 53, 54, 55, 56, 57, 58, 59, 60, 61, 62, 63] (by decide +kernel) (by decide +kernel)
set_option maxRecDepth 20000 in
theorem gX6_split_X6_doSplit : GoodIn wsX6_split (wsV RX6 137 RX6 yX6_doSplit wsX6_doSplit) := goodIn_app (goodIn_of _ (by decide +kernel)) ggX6_split_X6_doSplit
theorem dX6_split_0 : decode cX6_split 0 = .ok (.aload_n 0, 1) := by decide +kernel
theorem dX6_split_1 : decode cX6_split 1 = .ok (.iload_n 1, 1) := by decide +kernel
theorem dX6_split_2 : decode cX6_split 2 = .ok (.invokevirtual 125, 3) := by decide +kernel
theorem dX6_split_5 : decode cX6_split 5 = .ok (.istore 4, 2) := by decide +kernel
theorem dX6_split_7 : decode cX6_split 7 = .ok (.iload 4, 2) := by decide +kernel
theorem dX6_split_9 : decode cX6_split 9 = .ok (.ifCond .lt 10, 3) := by decide +kernel
theorem dX6_split_12 : decode cX6_split 12 = .ok (.iload_n 2, 1) := by decide +kernel
theorem dX6_split_13 : decode cX6_split 13 = .ok (.invokestatic 128, 3) := by decide +kernel
theorem dX6_split_16 : decode cX6_split 16 = .ok (.ifCond .ne 5, 3) := by decide +kernel
theorem dX6_split_19 : decode cX6_split 19 = .ok (.iconst (-1), 1) := by decide +kernel
theorem dX6_split_20 : decode cX6_split 20 = .ok (.ireturn, 1) := by decide +kernel
theorem dX6_split_21 : decode cX6_split 21 = .ok (.iload_n 3, 1) := by decide +kernel
theorem dX6_split_22 : decode cX6_split 22 = .ok (.aload_n 0, 1) := by decide +kernel
theorem dX6_split_23 : decode cX6_split 23 = .ok (.iload 4, 2) := by decide +kernel
theorem dX6_split_25 : decode cX6_split 25 = .ok (.iload_n 2, 1) := by decide +kernel
theorem dX6_split_26 : decode cX6_split 26 = .ok (.invokevirtual 47, 3) := by decide +kernel
theorem dX6_split_29 : decode cX6_split 29 = .ok (.if_icmp .le 14, 3) := by decide +kernel
theorem dX6_split_32 : decode cX6_split 32 = .ok (.iload_n 3, 1) := by decide +kernel
theorem dX6_split_33 : decode cX6_split 33 = .ok (.aload_n 0, 1) := by decide +kernel
theorem dX6_split_34 : decode cX6_split 34 = .ok (.iload 4, 2) := by decide +kernel
theorem dX6_split_36 : decode cX6_split 36 = .ok (.iload_n 2, 1) := by decide +kernel
theorem dX6_split_37 : decode cX6_split 37 = .ok (.invokevirtual 57, 3) := by decide +kernel
theorem dX6_split_40 : decode cX6_split 40 = .ok (.if_icmp .lt 6, 3) := by decide +kernel
theorem dX6_split_43 : decode cX6_split 43 = .ok (.bipush (-2), 2) := by decide +kernel
theorem dX6_split_45 : decode cX6_split 45 = .ok (.ireturn, 1) := by decide +kernel
theorem dX6_split_46 : decode cX6_split 46 = .ok (.aload_n 0, 1) := by decide +kernel
theorem dX6_split_47 : decode cX6_split 47 = .ok (.getfield 7, 3) := by decide +kernel
theorem dX6_split_50 : decode cX6_split 50 = .ok (.iconst 0, 1) := by decide +kernel
theorem dX6_split_51 : decode cX6_split 51 = .ok (.iaload, 1) := by decide +kernel
theorem dX6_split_52 : decode cX6_split 52 = .ok (.bipush 16, 2) := by decide +kernel
theorem dX6_split_54 : decode cX6_split 54 = .ok (.if_icmp .ne 6, 3) := by decide +kernel
theorem dX6_split_57 : decode cX6_split 57 = .ok (.bipush (-3), 2) := by decide +kernel
theorem dX6_split_59 : decode cX6_split 59 = .ok (.ireturn, 1) := by decide +kernel
theorem dX6_split_60 : decode cX6_split 60 = .ok (.aload_n 0, 1) := by decide +kernel
theorem dX6_split_61 : decode cX6_split 61 = .ok (.aload_n 0, 1) := by decide +kernel
theorem dX6_split_62 : decode cX6_split 62 = .ok (.getfield 7, 3) := by decide +kernel
theorem dX6_split_65 : decode cX6_split 65 = .ok (.invokevirtual 110, 3) := by decide +kernel
theorem dX6_split_68 : decode cX6_split 68 = .ok (.aload_n 0, 1) := by decide +kernel
theorem dX6_split_69 : decode cX6_split 69 = .ok (.iload 4, 2) := by decide +kernel
theorem dX6_split_71 : decode cX6_split 71 = .ok (.iload_n 2, 1) := by decide +kernel
theorem dX6_split_72 : decode cX6_split 72 = .ok (.iload_n 3, 1) := by decide +kernel
theorem dX6_split_73 : decode cX6_split 73 = .ok (.invokevirtual 137, 3) := by decide +kernel
theorem dX6_split_76 : decode cX6_split 76 = .ok (.ireturn, 1) := by decide +kernel
set_option maxRecDepth 20000 in
theorem ggX6_breakAt_X6_findHiding : GoodIn wsX6_breakAt wsX6_findHiding := goodIn_r _ [6, 1, 7, 8, 9, 10, 11, 5, 12, 13, 14, 15, 16, 17, 18, 19, 20, 21, 22, 23, 24, 25, 26, 27, 28, 29, 30, 31, 32, 33, 34, 35, 36, 37, 38, 39, 48, 49, 50, 51, 52, 53, 54, 55, 56, 57, 58, 59, 60, 61, 62, 63, 64] (by decide +kernel) (by decide +kernel)
set_option maxRecDepth 20000 in
theorem gX6_breakAt_X6_findHiding : GoodIn wsX6_breakAt (wsV RX6 141 RX6 yX6_findHiding wsX6_findHiding) := goodIn_app (goodIn_of _ (by decide +kernel)) ggX6_breakAt_X6_findHiding
set_option maxRecDepth 20000 in
theorem ggX6_breakAt_X6_isInRing : GoodIn wsX6_breakAt wsX6_isInRing := goodIn_r _ [43, 8, 37, 38, 5, 39, 48, 49, 50, 51, 52, 53, 54, 55, 56, 57, 58, 59, 60, 61, 62, 63, 64] (by decide +kernel) (by decide +kernel)
set_option maxRecDepth 20000 in
theorem gX6_breakAt_X6_isInRing : GoodIn wsX6_breakAt (wsV RX6 78 RX6 yX6_isInRing wsX6_isInRing) := goodIn_app (goodIn_of _ (by decide +kernel)) ggX6_breakAt_X6_isInRing
set_option maxRecDepth 20000 in
theorem ggX6_breakAt_X6_volume : GoodIn wsX6_breakAt wsX6_volume := goodIn_r _ [47, 25, 26, 27, 5, 28, 17, 18, 19, 20, 1, 48, 49, 50, 51, 52, 53, 54, 55, 56, 57, 58, 59, 60, 61, 62, 63, 64] (by decide +kernel) (by decide +kernel)
set_option maxRecDepth 20000 in
theorem gX6_breakAt_X6_volume : GoodIn wsX6_breakAt (wsV RX6 93 RX6 yX6_volume wsX6_volume) := goodIn_app (goodIn_of _ (by decide +kernel)) ggX6_breakAt_X6_volume
theorem dX6_breakAt_0 : decode cX6_breakAt 0 = .ok (.aload_n 0, 1) := by decide +kernel
theorem dX6_breakAt_1 : decode cX6_breakAt 1 = .ok (.invokevirtual 141, 3) := by decide +kernel
theorem dX6_breakAt_4 : decode cX6_breakAt 4 = .ok (.bipush (-5), 2) := by decide +kernel
theorem dX6_breakAt_6 : decode cX6_breakAt 6 = .ok (.istore_n 1, 1) := by decide +kernel
theorem dX6_breakAt_7 : decode cX6_breakAt 7 = .ok (.iconst 0, 1) := by decide +kernel
theorem dX6_breakAt_8 : decode cX6_breakAt 8 = .ok (.istore_n 2, 1) := by decide +kernel
theorem dX6_breakAt_9 : decode cX6_breakAt 9 = .ok (.iload_n 2, 1) := by decide +kernel
theorem dX6_breakAt_10 : decode cX6_breakAt 10 = .ok (.aload_n 0, 1) := by decide +kernel
theorem dX6_breakAt_11 : decode cX6_breakAt 11 = .ok (.getfield 7, 3) := by decide +kernel
theorem dX6_breakAt_14 : decode cX6_breakAt 14 = .ok (.iconst 0, 1) := by decide +kernel
theorem dX6_breakAt_15 : decode cX6_breakAt 15 = .ok (.iaload, 1) := by decide +kernel
theorem dX6_breakAt_16 : decode cX6_breakAt 16 = .ok (.if_icmp .ge 40, 3) := by decide +kernel
theorem dX6_breakAt_19 : decode cX6_breakAt 19 = .ok (.aload_n 0, 1) := by decide +kernel
theorem dX6_breakAt_20 : decode cX6_breakAt 20 = .ok (.iload_n 2, 1) := by decide +kernel
theorem dX6_breakAt_21 : decode cX6_breakAt 21 = .ok (.invokevirtual 78, 3) := by decide +kernel
theorem dX6_breakAt_24 : decode cX6_breakAt 24 = .ok (.ifCond .eq 24, 3) := by decide +kernel
theorem dX6_breakAt_27 : decode cX6_breakAt 27 = .ok (.iload_n 1, 1) := by decide +kernel
theorem dX6_breakAt_28 : decode cX6_breakAt 28 = .ok (.ifCond .lt 16, 3) := by decide +kernel
theorem dX6_breakAt_31 : decode cX6_breakAt 31 = .ok (.aload_n 0, 1) := by decide +kernel
theorem dX6_breakAt_32 : decode cX6_breakAt 32 = .ok (.iload_n 2, 1) := by decide +kernel
theorem dX6_breakAt_33 : decode cX6_breakAt 33 = .ok (.invokevirtual 93, 3) := by decide +kernel
theorem dX6_breakAt_36 : decode cX6_breakAt 36 = .ok (.aload_n 0, 1) := by decide +kernel
theorem dX6_breakAt_37 : decode cX6_breakAt 37 = .ok (.iload_n 1, 1) := by decide +kernel
theorem dX6_breakAt_38 : decode cX6_breakAt 38 = .ok (.invokevirtual 93, 3) := by decide +kernel
theorem dX6_breakAt_41 : decode cX6_breakAt 41 = .ok (.if_icmp .le 7, 3) := by decide +kernel
theorem dX6_breakAt_44 : decode cX6_breakAt 44 = .ok (.iload_n 2, 1) := by decide +kernel
theorem dX6_breakAt_45 : decode cX6_breakAt 45 = .ok (.goto 4, 3) := by decide +kernel
theorem dX6_breakAt_48 : decode cX6_breakAt 48 = .ok (.iload_n 1, 1) := by decide +kernel
theorem dX6_breakAt_49 : decode cX6_breakAt 49 = .ok (.istore_n 1, 1) := by decide +kernel
theorem dX6_breakAt_50 : decode cX6_breakAt 50 = .ok (.iinc 2 1, 3) := by decide +kernel
theorem dX6_breakAt_53 : decode cX6_breakAt 53 = .ok (.goto (-44), 3) := by decide +kernel
theorem dX6_breakAt_56 : decode cX6_breakAt 56 = .ok (.iload_n 1, 1) := by decide +kernel
theorem dX6_breakAt_57 : decode cX6_breakAt 57 = .ok (.ireturn, 1) := by decide +kernel
set_option maxRecDepth 20000 in
theorem ggX6_greatestDirection_X6_size : GoodIn wsX6_greatestDirection wsX6_size := goodIn_r _ [5, 6, 7, 8, 4, 9, 10, 11, 12, 13, 14, 15, 16, 17, 18, 19, 20, 21, 22, 23, 24, 25, 26, 27] (by decide +kernel) (by decide +kernel)
set_option maxRecDepth 20000 in
theorem gX6_greatestDirection_X6_size : GoodIn wsX6_greatestDirection (wsV RX6 50 RX6 yX6_size wsX6_size) := goodIn_app (goodIn_of _ (by decide +kernel)) ggX6_greatestDirection_X6_size
theorem dX6_greatestDirection_0 : decode cX6_greatestDirection 0 = .ok (.iconst 0, 1) := by decide +kernel
theorem dX6_greatestDirection_1 : decode cX6_greatestDirection 1 = .ok (.istore_n 2, 1) := by decide +kernel
theorem dX6_greatestDirection_2 : decode cX6_greatestDirection 2 = .ok (.iconst 1, 1) := by decide +kernel
theorem dX6_greatestDirection_3 : decode cX6_greatestDirection 3 = .ok (.istore_n 3, 1) := by decide +kernel
theorem dX6_greatestDirection_4 : decode cX6_greatestDirection 4 = .ok (.iload_n 3, 1) := by decide +kernel
theorem dX6_greatestDirection_5 : decode cX6_greatestDirection 5 = .ok (.iconst 3, 1) := by decide +kernel
theorem dX6_greatestDirection_6 : decode cX6_greatestDirection 6 = .ok (.if_icmp .ge 30, 3) := by decide +kernel
theorem dX6_greatestDirection_9 : decode cX6_greatestDirection 9 = .ok (.aload_n 0, 1) := by decide +kernel
theorem dX6_greatestDirection_10 : decode cX6_greatestDirection 10 = .ok (.iload_n 1, 1) := by decide +kernel
theorem dX6_greatestDirection_11 : decode cX6_greatestDirection 11 = .ok (.iload_n 3, 1) := by decide +kernel
theorem dX6_greatestDirection_12 : decode cX6_greatestDirection 12 = .ok (.invokevirtual 50, 3) := by decide +kernel
theorem dX6_greatestDirection_15 : decode cX6_greatestDirection 15 = .ok (.aload_n 0, 1) := by decide +kernel
theorem dX6_greatestDirection_16 : decode cX6_greatestDirection 16 = .ok (.iload_n 1, 1) := by decide +kernel
theorem dX6_greatestDirection_17 : decode cX6_greatestDirection 17 = .ok (.iload_n 2, 1) := by decide +kernel
theorem dX6_greatestDirection_18 : decode cX6_greatestDirection 18 = .ok (.invokevirtual 50, 3) := by decide +kernel
theorem dX6_greatestDirection_21 : decode cX6_greatestDirection 21 = .ok (.if_icmp .le 7, 3) := by decide +kernel
theorem dX6_greatestDirection_24 : decode cX6_greatestDirection 24 = .ok (.iload_n 3, 1) := by decide +kernel
theorem dX6_greatestDirection_25 : decode cX6_greatestDirection 25 = .ok (.goto 4, 3) := by decide +kernel
theorem dX6_greatestDirection_28 : decode cX6_greatestDirection 28 = .ok (.iload_n 2, 1) := by decide +kernel
theorem dX6_greatestDirection_29 : decode cX6_greatestDirection 29 = .ok (.istore_n 2, 1) := by decide +kernel
theorem dX6_greatestDirection_30 : decode cX6_greatestDirection 30 = .ok (.iinc 3 1, 3) := by decide +kernel
theorem dX6_greatestDirection_33 : decode cX6_greatestDirection 33 = .ok (.goto (-29), 3) := by decide +kernel
theorem dX6_greatestDirection_36 : decode cX6_greatestDirection 36 = .ok (.iload_n 2, 1) := by decide +kernel
theorem dX6_greatestDirection_37 : decode cX6_greatestDirection 37 = .ok (.ireturn, 1) := by decide +kernel
set_option maxRecDepth 20000 in
theorem ggX6_whyNoBreak_X6_greatestDirection : GoodIn wsX6_whyNoBreak wsX6_greatestDirection := goodIn_r _ [6, 7, 8, 9, 5, 10, 11, 12, 13, 14, 1, 15, 16, 17, 18, 19, 20, 21, 22, 23, 24, 25, 26, 27, 28, 29, 30, 31] (by decide +kernel) (by decide +kernel)
set_option maxRecDepth 20000 in
theorem gX6_whyNoBreak_X6_greatestDirection : GoodIn wsX6_whyNoBreak (wsV RX6 144 RX6 yX6_greatestDirection wsX6_greatestDirection) := goodIn_app (goodIn_of _ (by decide +kernel)) ggX6_whyNoBreak_X6_greatestDirection
set_option maxRecDepth 20000 in
theorem ggX6_whyNoBreak_X6_size : GoodIn wsX6_whyNoBreak wsX6_size := goodIn_r _ [10, 11, 12, 13, 5, 14, 1, 15, 16, 17, 18, 19, 20, 21, 22, 23, 24, 25, 26, 27, 28, 29, 30, 31] (by decide +kernel) (by decide +kernel)
set_option maxRecDepth 20000 in
theorem gX6_whyNoBreak_X6_size : GoodIn wsX6_whyNoBreak (wsV RX6 50 RX6 yX6_size wsX6_size) := goodIn_app (goodIn_of _ (by decide +kernel)) ggX6_whyNoBreak_X6_size
theorem dX6_whyNoBreak_0 : decode cX6_whyNoBreak 0 = .ok (.iload_n 1, 1) := by decide +kernel
theorem dX6_whyNoBreak_1 : decode cX6_whyNoBreak 1 = .ok (.ifCond .ge 6, 3) := by decide +kernel
theorem dX6_whyNoBreak_4 : decode cX6_whyNoBreak 4 = .ok (.bipush (-5), 2) := by decide +kernel
theorem dX6_whyNoBreak_6 : decode cX6_whyNoBreak 6 = .ok (.ireturn, 1) := by decide +kernel
theorem dX6_whyNoBreak_7 : decode cX6_whyNoBreak 7 = .ok (.aload_n 0, 1) := by decide +kernel
theorem dX6_whyNoBreak_8 : decode cX6_whyNoBreak 8 = .ok (.iload_n 1, 1) := by decide +kernel
theorem dX6_whyNoBreak_9 : decode cX6_whyNoBreak 9 = .ok (.aload_n 0, 1) := by decide +kernel
theorem dX6_whyNoBreak_10 : decode cX6_whyNoBreak 10 = .ok (.iload_n 1, 1) := by decide +kernel
theorem dX6_whyNoBreak_11 : decode cX6_whyNoBreak 11 = .ok (.invokevirtual 144, 3) := by decide +kernel
theorem dX6_whyNoBreak_14 : decode cX6_whyNoBreak 14 = .ok (.invokevirtual 50, 3) := by decide +kernel
theorem dX6_whyNoBreak_17 : decode cX6_whyNoBreak 17 = .ok (.iconst 1, 1) := by decide +kernel
theorem dX6_whyNoBreak_18 : decode cX6_whyNoBreak 18 = .ok (.if_icmp .ne 8, 3) := by decide +kernel
theorem dX6_whyNoBreak_21 : decode cX6_whyNoBreak 21 = .ok (.bipush (-4), 2) := by decide +kernel
theorem dX6_whyNoBreak_23 : decode cX6_whyNoBreak 23 = .ok (.goto 20, 3) := by decide +kernel
theorem dX6_whyNoBreak_26 : decode cX6_whyNoBreak 26 = .ok (.aload_n 0, 1) := by decide +kernel
theorem dX6_whyNoBreak_27 : decode cX6_whyNoBreak 27 = .ok (.getfield 7, 3) := by decide +kernel
theorem dX6_whyNoBreak_30 : decode cX6_whyNoBreak 30 = .ok (.iconst 0, 1) := by decide +kernel
theorem dX6_whyNoBreak_31 : decode cX6_whyNoBreak 31 = .ok (.iaload, 1) := by decide +kernel
theorem dX6_whyNoBreak_32 : decode cX6_whyNoBreak 32 = .ok (.bipush 16, 2) := by decide +kernel
theorem dX6_whyNoBreak_34 : decode cX6_whyNoBreak 34 = .ok (.if_icmp .ne 8, 3) := by decide +kernel
theorem dX6_whyNoBreak_37 : decode cX6_whyNoBreak 37 = .ok (.bipush (-3), 2) := by decide +kernel
theorem dX6_whyNoBreak_39 : decode cX6_whyNoBreak 39 = .ok (.goto 4, 3) := by decide +kernel
theorem dX6_whyNoBreak_42 : decode cX6_whyNoBreak 42 = .ok (.iconst 0, 1) := by decide +kernel
theorem dX6_whyNoBreak_43 : decode cX6_whyNoBreak 43 = .ok (.ireturn, 1) := by decide +kernel
set_option maxRecDepth 20000 in
theorem ggX6_doBreak_X6_greatestDirection : GoodIn wsX6_doBreak wsX6_greatestDirection := goodIn_r _ [5, 6, 7, 8, 4, 9, 10, 11, 12, 13, 14, 35, 36, 37, 38, 39, 40, 41, 42, 43, 44, 45, 46, 47, 48, 49, 50, 51] (by decide +kernel) (by decide +kernel)
set_option maxRecDepth 20000 in
theorem gX6_doBreak_X6_greatestDirection : GoodIn wsX6_doBreak (wsV RX6 144 RX6 yX6_greatestDirection wsX6_greatestDirection) := goodIn_app (goodIn_of _ (by decide +kernel)) ggX6_doBreak_X6_greatestDirection
set_option maxRecDepth 20000 in
theorem ggX6_doBreak_X6_low : GoodIn wsX6_doBreak wsX6_low := goodIn_r _ [18, 10, 11, 12, 4, 13, 14, 35, 36, 37, 38, 39, 40, 41, 42, 43, 44, 45, 46, 47, 48, 49, 50, 51] (by decide +kernel) (by decide +kernel)
set_option maxRecDepth 20000 in
theorem gX6_doBreak_X6_low : GoodIn wsX6_doBreak (wsV RX6 47 RX6 yX6_low wsX6_low) := goodIn_app (goodIn_of _ (by decide +kernel)) ggX6_doBreak_X6_low
set_option maxRecDepth 20000 in
theorem ggX6_doBreak_X6_size : GoodIn wsX6_doBreak wsX6_size := goodIn_r _ [9, 10, 11, 12, 4, 13, 14, 35, 36, 37, 38, 39, 40, 41, 42, 43, 44, 45, 46, 47, 48, 49, 50, 51] (by decide +kernel) (by decide +kernel)
set_option maxRecDepth 20000 in
theorem gX6_doBreak_X6_size : GoodIn wsX6_doBreak (wsV RX6 50 RX6 yX6_size wsX6_size) := goodIn_app (goodIn_of _ (by decide +kernel)) ggX6_doBreak_X6_size
set_option maxRecDepth 20000 in
theorem ggX6_doBreak_X6_doSplit : GoodIn wsX6_doBreak wsX6_doSplit := goodIn_r _ [22, 14, 23, 24, 25, 4, 26, 15, 16, 17, 18, 10, 11, 12, 13, 6, 7, 8, 9, 27, 28, 29, 30, 31, 32, 33, 34, 35, 36, 37, 38, 39, 40, 41, 42, 43, 44, 45, 46, 47, 48, 49, 50, 51] (by decide +kernel) (by decide +kernel)
set_option maxRecDepth 20000 in
theorem gX6_doBreak_X6_doSplit : GoodIn wsX6_doBreak (wsV RX6 137 RX6 yX6_doSplit wsX6_doSplit) := goodIn_app (goodIn_of _ (by decide +kernel)) ggX6_doBreak_X6_doSplit
theorem dX6_doBreak_0 : decode cX6_doBreak 0 = .ok (.aload_n 0, 1) := by decide +kernel
theorem dX6_doBreak_1 : decode cX6_doBreak 1 = .ok (.iload_n 1, 1) := by decide +kernel
theorem dX6_doBreak_2 : decode cX6_doBreak 2 = .ok (.invokevirtual 144, 3) := by decide +kernel
theorem dX6_doBreak_5 : decode cX6_doBreak 5 = .ok (.istore_n 2, 1) := by decide +kernel
theorem dX6_doBreak_6 : decode cX6_doBreak 6 = .ok (.aload_n 0, 1) := by decide +kernel
theorem dX6_doBreak_7 : decode cX6_doBreak 7 = .ok (.iload_n 1, 1) := by decide +kernel
theorem dX6_doBreak_8 : decode cX6_doBreak 8 = .ok (.iload_n 2, 1) := by decide +kernel
theorem dX6_doBreak_9 : decode cX6_doBreak 9 = .ok (.aload_n 0, 1) := by decide +kernel
theorem dX6_doBreak_10 : decode cX6_doBreak 10 = .ok (.iload_n 1, 1) := by decide +kernel
theorem dX6_doBreak_11 : decode cX6_doBreak 11 = .ok (.iload_n 2, 1) := by decide +kernel
theorem dX6_doBreak_12 : decode cX6_doBreak 12 = .ok (.invokevirtual 47, 3) := by decide +kernel
theorem dX6_doBreak_15 : decode cX6_doBreak 15 = .ok (.aload_n 0, 1) := by decide +kernel
theorem dX6_doBreak_16 : decode cX6_doBreak 16 = .ok (.iload_n 1, 1) := by decide +kernel
theorem dX6_doBreak_17 : decode cX6_doBreak 17 = .ok (.iload_n 2, 1) := by decide +kernel
theorem dX6_doBreak_18 : decode cX6_doBreak 18 = .ok (.invokevirtual 50, 3) := by decide +kernel
theorem dX6_doBreak_21 : decode cX6_doBreak 21 = .ok (.iconst 2, 1) := by decide +kernel
theorem dX6_doBreak_22 : decode cX6_doBreak 22 = .ok (.idiv, 1) := by decide +kernel
theorem dX6_doBreak_23 : decode cX6_doBreak 23 = .ok (.iadd, 1) := by decide +kernel
theorem dX6_doBreak_24 : decode cX6_doBreak 24 = .ok (.invokevirtual 137, 3) := by decide +kernel
theorem dX6_doBreak_27 : decode cX6_doBreak 27 = .ok (.ireturn, 1) := by decide +kernel
set_option maxRecDepth 20000 in
theorem ggX6_breakRing_X6_breakAt : GoodIn wsX6_breakRing wsX6_breakAt := goodIn_r _ [6, 1, 7, 8, 9, 5, 10, 11, 12, 13, 14, 15, 16, 17, 18, 19, 20, 21, 22, 23, 24, 25, 26, 27, 28, 29, 30, 31, 32, 33, 34, 35, 36, 37, 38, 39, 40, 41, 42, 43, 44, 45, 46, 47, 48, 49, 50, 51, 82, 83, 84, 85, 86, 87, 88, 89, 90, 91, 92, 93, 94, 95, 96, 97, 98] (by decide +kernel) (by decide +kernel)
set_option maxRecDepth 20000 in
theorem gX6_breakRing_X6_breakAt : GoodIn wsX6_breakRing (wsV RX6 147 RX6 yX6_breakAt wsX6_breakAt) := goodIn_app (goodIn_of _ (by decide +kernel)) ggX6_breakRing_X6_breakAt
set_option maxRecDepth 20000 in
theorem ggX6_breakRing_X6_whyNoBreak : GoodIn wsX6_breakRing wsX6_whyNoBreak := goodIn_r _ [55, 1, 56, 57, 58, 5, 59, 29, 30, 31, 32, 21, 22, 23, 24, 82, 83, 84, 85, 86, 87, 88, 89, 90, 91, 92, 93, 94, 95, 96, 97, 98] (by decide +kernel) (by decide +kernel)
set_option maxRecDepth 20000 in
theorem gX6_breakRing_X6_whyNoBreak : GoodIn wsX6_breakRing (wsV RX6 150 RX6 yX6_whyNoBreak wsX6_whyNoBreak) := goodIn_app (goodIn_of _ (by decide +kernel)) ggX6_breakRing_X6_whyNoBreak
set_option maxRecDepth 20000 in
theorem ggX6_breakRing_X6_push : GoodIn wsX6_breakRing wsX6_push := goodIn_r _ [63, 64, 65, 82, 83, 84, 85, 86, 87, 88, 89, 90, 91, 92, 93, 94, 95, 96, 97, 98] (by decide +kernel) (by decide +kernel)
set_option maxRecDepth 20000 in
theorem gX6_breakRing_X6_push : GoodIn wsX6_breakRing (wsV RX6 110 RX6 yX6_push wsX6_push) := goodIn_app (goodIn_of _ (by decide +kernel)) ggX6_breakRing_X6_push
set_option maxRecDepth 20000 in
theorem ggX6_breakRing_X6_doBreak : GoodIn wsX6_breakRing wsX6_doBreak := goodIn_r _ [69, 56, 57, 58, 5, 59, 29, 30, 31, 32, 21, 22, 23, 24, 1, 17, 18, 19, 20, 70, 71, 72, 73, 25, 26, 27, 28, 74, 75, 76, 77, 78, 79, 80, 81, 82, 83, 84, 85, 86, 87, 88, 89, 90, 91, 92, 93, 94, 95, 96, 97, 98] (by decide +kernel) (by decide +kernel)
set_option maxRecDepth 20000 in
theorem gX6_breakRing_X6_doBreak : GoodIn wsX6_breakRing (wsV RX6 153 RX6 yX6_doBreak wsX6_doBreak) := goodIn_app (goodIn_of _ (by decide +kernel)) ggX6_breakRing_X6_doBreak
theorem dX6_breakRing_0 : decode cX6_breakRing 0 = .ok (.aload_n 0, 1) := by decide +kernel
theorem dX6_breakRing_1 : decode cX6_breakRing 1 = .ok (.invokevirtual 147, 3) := by decide +kernel
theorem dX6_breakRing_4 : decode cX6_breakRing 4 = .ok (.istore_n 1, 1) := by decide +kernel
theorem dX6_breakRing_5 : decode cX6_breakRing 5 = .ok (.aload_n 0, 1) := by decide +kernel
theorem dX6_breakRing_6 : decode cX6_breakRing 6 = .ok (.iload_n 1, 1) := by decide +kernel
theorem dX6_breakRing_7 : decode cX6_breakRing 7 = .ok (.invokevirtual 150, 3) := by decide +kernel
theorem dX6_breakRing_10 : decode cX6_breakRing 10 = .ok (.istore_n 2, 1) := by decide +kernel
theorem dX6_breakRing_11 : decode cX6_breakRing 11 = .ok (.iload_n 2, 1) := by decide +kernel
theorem dX6_breakRing_12 : decode cX6_breakRing 12 = .ok (.ifCond .ge 5, 3) := by decide +kernel
theorem dX6_breakRing_15 : decode cX6_breakRing 15 = .ok (.iload_n 2, 1) := by decide +kernel
theorem dX6_breakRing_16 : decode cX6_breakRing 16 = .ok (.ireturn, 1) := by decide +kernel
theorem dX6_breakRing_17 : decode cX6_breakRing 17 = .ok (.aload_n 0, 1) := by decide +kernel
theorem dX6_breakRing_18 : decode cX6_breakRing 18 = .ok (.aload_n 0, 1) := by decide +kernel
theorem dX6_breakRing_19 : decode cX6_breakRing 19 = .ok (.getfield 7, 3) := by decide +kernel
theorem dX6_breakRing_22 : decode cX6_breakRing 22 = .ok (.invokevirtual 110, 3) := by decide +kernel
theorem dX6_breakRing_25 : decode cX6_breakRing 25 = .ok (.aload_n 0, 1) := by decide +kernel
theorem dX6_breakRing_26 : decode cX6_breakRing 26 = .ok (.iload_n 1, 1) := by decide +kernel
theorem dX6_breakRing_27 : decode cX6_breakRing 27 = .ok (.invokevirtual 153, 3) := by decide +kernel
theorem dX6_breakRing_30 : decode cX6_breakRing 30 = .ok (.ireturn, 1) := by decide +kernel
set_option maxRecDepth 20000 in
theorem ggX6_turn_X6_push : GoodIn wsX6_turn wsX6_push := goodIn_r _ [8, 9, 10, 54, 55, 56, 57, 58, 59, 60, 61, 62, 63, 64, 65, 66, 67, 68, 69, 70] (by decide +kernel) (by decide +kernel)
set_option maxRecDepth 20000 in
theorem gX6_turn_X6_push : GoodIn wsX6_turn (wsV RX6 110 RX6 yX6_push wsX6_push) := goodIn_app (goodIn_of _ (by decide +kernel)) ggX6_turn_X6_push
set_option maxRecDepth 20000 in
theorem ggX6_turn_X6_findHiding : GoodIn wsX6_turn wsX6_findHiding := goodIn_r _ [14, 1, 3, 15, 16, 17, 18, 7, 19, 20, 21, 22, 23, 24, 25, 26, 27, 28, 29, 30, 31, 32, 33, 34, 35, 36, 37, 38, 39, 40, 41, 42, 43, 44, 45, 46, 54, 55, 56, 57, 58, 59, 60, 61, 62, 63, 64, 65, 66, 67, 68, 69, 70] (by decide +kernel) (by decide +kernel)
set_option maxRecDepth 20000 in
theorem gX6_turn_X6_findHiding : GoodIn wsX6_turn (wsV RX6 141 RX6 yX6_findHiding wsX6_findHiding) := goodIn_app (goodIn_of _ (by decide +kernel)) ggX6_turn_X6_findHiding
set_option maxRecDepth 20000 in
theorem ggX6_turn_X6_low : GoodIn wsX6_turn wsX6_low := goodIn_r _ [23, 24, 25, 26, 7, 27, 1, 54, 55, 56, 57, 58, 59, 60, 61, 62, 63, 64, 65, 66, 67, 68, 69, 70] (by decide +kernel) (by decide +kernel)
set_option maxRecDepth 20000 in
theorem gX6_turn_X6_low : GoodIn wsX6_turn (wsV RX6 47 RX6 yX6_low wsX6_low) := goodIn_app (goodIn_of _ (by decide +kernel)) ggX6_turn_X6_low
set_option maxRecDepth 20000 in
theorem ggX6_turn_X6_size : GoodIn wsX6_turn wsX6_size := goodIn_r _ [35, 24, 25, 26, 7, 27, 1, 54, 55, 56, 57, 58, 59, 60, 61, 62, 63, 64, 65, 66, 67, 68, 69, 70] (by decide +kernel) (by decide +kernel)
set_option maxRecDepth 20000 in
theorem gX6_turn_X6_size : GoodIn wsX6_turn (wsV RX6 50 RX6 yX6_size wsX6_size) := goodIn_app (goodIn_of _ (by decide +kernel)) ggX6_turn_X6_size
set_option maxRecDepth 20000 in
theorem ggX6_turn_X6_high : GoodIn wsX6_turn wsX6_high := goodIn_r _ [31, 20, 21, 22, 7, 23, 24, 25, 26, 27, 1, 32, 33, 34, 35, 54, 55, 56, 57, 58, 59, 60, 61, 62, 63, 64, 65, 66, 67, 68, 69, 70] (by decide +kernel) (by decide +kernel)
set_option maxRecDepth 20000 in
theorem gX6_turn_X6_high : GoodIn wsX6_turn (wsV RX6 57 RX6 yX6_high wsX6_high) := goodIn_app (goodIn_of _ (by decide +kernel)) ggX6_turn_X6_high
set_option maxRecDepth 20000 in
theorem ggX6_turn_X6_put : GoodIn wsX6_turn wsX6_put := goodIn_r _ [50, 1, 54, 55, 56, 57, 58, 59, 60, 61, 62, 63, 64, 65, 66, 67, 68, 69, 70] (by decide +kernel) (by decide +kernel)
set_option maxRecDepth 20000 in
theorem gX6_turn_X6_put : GoodIn wsX6_turn (wsV RX6 114 RX6 yX6_put wsX6_put) := goodIn_app (goodIn_of _ (by decide +kernel)) ggX6_turn_X6_put
set_option maxRecDepth 20000 in
theorem ggX6_turn_X6_ones : GoodIn wsX6_turn wsX6_ones := goodIn_r _ [53] (by decide +kernel) (by decide +kernel)
set_option maxRecDepth 20000 in
theorem gX6_turn_X6_ones : GoodIn wsX6_turn (va_wsS RX6 156 yX6_ones wsX6_ones) := goodIn_app (goodIn_of _ (by decide +kernel)) ggX6_turn_X6_ones
theorem dX6_turn_0 : decode cX6_turn 0 = .ok (.aload_n 0, 1) := by decide +kernel
theorem dX6_turn_1 : decode cX6_turn 1 = .ok (.getfield 7, 3) := by decide +kernel
theorem dX6_turn_4 : decode cX6_turn 4 = .ok (.iconst 0, 1) := by decide +kernel
theorem dX6_turn_5 : decode cX6_turn 5 = .ok (.iaload, 1) := by decide +kernel
theorem dX6_turn_6 : decode cX6_turn 6 = .ok (.ifCond .ne 6, 3) := by decide +kernel
theorem dX6_turn_9 : decode cX6_turn 9 = .ok (.bipush (-5), 2) := by decide +kernel
theorem dX6_turn_11 : decode cX6_turn 11 = .ok (.ireturn, 1) := by decide +kernel
theorem dX6_turn_12 : decode cX6_turn 12 = .ok (.aload_n 0, 1) := by decide +kernel
theorem dX6_turn_13 : decode cX6_turn 13 = .ok (.aload_n 0, 1) := by decide +kernel
theorem dX6_turn_14 : decode cX6_turn 14 = .ok (.getfield 7, 3) := by decide +kernel
theorem dX6_turn_17 : decode cX6_turn 17 = .ok (.invokevirtual 110, 3) := by decide +kernel
theorem dX6_turn_20 : decode cX6_turn 20 = .ok (.aload_n 0, 1) := by decide +kernel
theorem dX6_turn_21 : decode cX6_turn 21 = .ok (.invokevirtual 141, 3) := by decide +kernel
theorem dX6_turn_24 : decode cX6_turn 24 = .ok (.iconst 0, 1) := by decide +kernel
theorem dX6_turn_25 : decode cX6_turn 25 = .ok (.istore_n 1, 1) := by decide +kernel
theorem dX6_turn_26 : decode cX6_turn 26 = .ok (.iload_n 1, 1) := by decide +kernel
theorem dX6_turn_27 : decode cX6_turn 27 = .ok (.aload_n 0, 1) := by decide +kernel
theorem dX6_turn_28 : decode cX6_turn 28 = .ok (.getfield 7, 3) := by decide +kernel
theorem dX6_turn_31 : decode cX6_turn 31 = .ok (.iconst 0, 1) := by decide +kernel
theorem dX6_turn_32 : decode cX6_turn 32 = .ok (.iaload, 1) := by decide +kernel
theorem dX6_turn_33 : decode cX6_turn 33 = .ok (.if_icmp .ge 21, 3) := by decide +kernel
theorem dX6_turn_36 : decode cX6_turn 36 = .ok (.aload_n 0, 1) := by decide +kernel
theorem dX6_turn_37 : decode cX6_turn 37 = .ok (.getfield 37, 3) := by decide +kernel
theorem dX6_turn_40 : decode cX6_turn 40 = .ok (.iload_n 1, 1) := by decide +kernel
theorem dX6_turn_41 : decode cX6_turn 41 = .ok (.aload_n 0, 1) := by decide +kernel
theorem dX6_turn_42 : decode cX6_turn 42 = .ok (.getfield 25, 3) := by decide +kernel
theorem dX6_turn_45 : decode cX6_turn 45 = .ok (.iload_n 1, 1) := by decide +kernel
theorem dX6_turn_46 : decode cX6_turn 46 = .ok (.iaload, 1) := by decide +kernel
theorem dX6_turn_47 : decode cX6_turn 47 = .ok (.iastore, 1) := by decide +kernel
theorem dX6_turn_48 : decode cX6_turn 48 = .ok (.iinc 1 1, 3) := by decide +kernel
theorem dX6_turn_51 : decode cX6_turn 51 = .ok (.goto (-25), 3) := by decide +kernel
theorem dX6_turn_54 : decode cX6_turn 54 = .ok (.iconst 0, 1) := by decide +kernel
theorem dX6_turn_55 : decode cX6_turn 55 = .ok (.istore_n 1, 1) := by decide +kernel
theorem dX6_turn_56 : decode cX6_turn 56 = .ok (.iload_n 1, 1) := by decide +kernel
theorem dX6_turn_57 : decode cX6_turn 57 = .ok (.aload_n 0, 1) := by decide +kernel
theorem dX6_turn_58 : decode cX6_turn 58 = .ok (.getfield 7, 3) := by decide +kernel
theorem dX6_turn_61 : decode cX6_turn 61 = .ok (.iconst 0, 1) := by decide +kernel
theorem dX6_turn_62 : decode cX6_turn 62 = .ok (.iaload, 1) := by decide +kernel
theorem dX6_turn_63 : decode cX6_turn 63 = .ok (.if_icmp .ge 64, 3) := by decide +kernel
theorem dX6_turn_66 : decode cX6_turn 66 = .ok (.aload_n 0, 1) := by decide +kernel
theorem dX6_turn_67 : decode cX6_turn 67 = .ok (.iload_n 1, 1) := by decide +kernel
theorem dX6_turn_68 : decode cX6_turn 68 = .ok (.iconst 0, 1) := by decide +kernel
theorem dX6_turn_69 : decode cX6_turn 69 = .ok (.invokevirtual 47, 3) := by decide +kernel
theorem dX6_turn_72 : decode cX6_turn 72 = .ok (.istore_n 2, 1) := by decide +kernel
theorem dX6_turn_73 : decode cX6_turn 73 = .ok (.aload_n 0, 1) := by decide +kernel
theorem dX6_turn_74 : decode cX6_turn 74 = .ok (.iload_n 1, 1) := by decide +kernel
theorem dX6_turn_75 : decode cX6_turn 75 = .ok (.iconst 0, 1) := by decide +kernel
theorem dX6_turn_76 : decode cX6_turn 76 = .ok (.invokevirtual 50, 3) := by decide +kernel
theorem dX6_turn_79 : decode cX6_turn 79 = .ok (.istore_n 3, 1) := by decide +kernel
theorem dX6_turn_80 : decode cX6_turn 80 = .ok (.aload_n 0, 1) := by decide +kernel
theorem dX6_turn_81 : decode cX6_turn 81 = .ok (.iload_n 1, 1) := by decide +kernel
theorem dX6_turn_82 : decode cX6_turn 82 = .ok (.iconst 1, 1) := by decide +kernel
theorem dX6_turn_83 : decode cX6_turn 83 = .ok (.bipush 32, 2) := by decide +kernel
theorem dX6_turn_85 : decode cX6_turn 85 = .ok (.aload_n 0, 1) := by decide +kernel
theorem dX6_turn_86 : decode cX6_turn 86 = .ok (.iload_n 1, 1) := by decide +kernel
theorem dX6_turn_87 : decode cX6_turn 87 = .ok (.iconst 1, 1) := by decide +kernel
theorem dX6_turn_88 : decode cX6_turn 88 = .ok (.invokevirtual 57, 3) := by decide +kernel
theorem dX6_turn_91 : decode cX6_turn 91 = .ok (.isub, 1) := by decide +kernel
theorem dX6_turn_92 : decode cX6_turn 92 = .ok (.invokevirtual 114, 3) := by decide +kernel
theorem dX6_turn_95 : decode cX6_turn 95 = .ok (.aload_n 0, 1) := by decide +kernel
theorem dX6_turn_96 : decode cX6_turn 96 = .ok (.iload_n 1, 1) := by decide +kernel
theorem dX6_turn_97 : decode cX6_turn 97 = .ok (.iconst 4, 1) := by decide +kernel
theorem dX6_turn_98 : decode cX6_turn 98 = .ok (.aload_n 0, 1) := by decide +kernel
theorem dX6_turn_99 : decode cX6_turn 99 = .ok (.iload_n 1, 1) := by decide +kernel
theorem dX6_turn_100 : decode cX6_turn 100 = .ok (.iconst 1, 1) := by decide +kernel
theorem dX6_turn_101 : decode cX6_turn 101 = .ok (.invokevirtual 50, 3) := by decide +kernel
theorem dX6_turn_104 : decode cX6_turn 104 = .ok (.invokevirtual 114, 3) := by decide +kernel
theorem dX6_turn_107 : decode cX6_turn 107 = .ok (.aload_n 0, 1) := by decide +kernel
theorem dX6_turn_108 : decode cX6_turn 108 = .ok (.iload_n 1, 1) := by decide +kernel
theorem dX6_turn_109 : decode cX6_turn 109 = .ok (.iconst 2, 1) := by decide +kernel
theorem dX6_turn_110 : decode cX6_turn 110 = .ok (.iload_n 2, 1) := by decide +kernel
theorem dX6_turn_111 : decode cX6_turn 111 = .ok (.invokevirtual 114, 3) := by decide +kernel
theorem dX6_turn_114 : decode cX6_turn 114 = .ok (.aload_n 0, 1) := by decide +kernel
theorem dX6_turn_115 : decode cX6_turn 115 = .ok (.iload_n 1, 1) := by decide +kernel
theorem dX6_turn_116 : decode cX6_turn 116 = .ok (.iconst 5, 1) := by decide +kernel
theorem dX6_turn_117 : decode cX6_turn 117 = .ok (.iload_n 3, 1) := by decide +kernel
theorem dX6_turn_118 : decode cX6_turn 118 = .ok (.invokevirtual 114, 3) := by decide +kernel
theorem dX6_turn_121 : decode cX6_turn 121 = .ok (.iinc 1 1, 3) := by decide +kernel
theorem dX6_turn_124 : decode cX6_turn 124 = .ok (.goto (-68), 3) := by decide +kernel
theorem dX6_turn_127 : decode cX6_turn 127 = .ok (.aload_n 0, 1) := by decide +kernel
theorem dX6_turn_128 : decode cX6_turn 128 = .ok (.invokevirtual 141, 3) := by decide +kernel
theorem dX6_turn_131 : decode cX6_turn 131 = .ok (.iconst 0, 1) := by decide +kernel
theorem dX6_turn_132 : decode cX6_turn 132 = .ok (.istore_n 1, 1) := by decide +kernel
theorem dX6_turn_133 : decode cX6_turn 133 = .ok (.iconst 0, 1) := by decide +kernel
theorem dX6_turn_134 : decode cX6_turn 134 = .ok (.istore_n 2, 1) := by decide +kernel
theorem dX6_turn_135 : decode cX6_turn 135 = .ok (.iload_n 2, 1) := by decide +kernel
theorem dX6_turn_136 : decode cX6_turn 136 = .ok (.aload_n 0, 1) := by decide +kernel
theorem dX6_turn_137 : decode cX6_turn 137 = .ok (.getfield 7, 3) := by decide +kernel
theorem dX6_turn_140 : decode cX6_turn 140 = .ok (.iconst 0, 1) := by decide +kernel
theorem dX6_turn_141 : decode cX6_turn 141 = .ok (.iaload, 1) := by decide +kernel
theorem dX6_turn_142 : decode cX6_turn 142 = .ok (.if_icmp .ge 30, 3) := by decide +kernel
theorem dX6_turn_145 : decode cX6_turn 145 = .ok (.iload_n 1, 1) := by decide +kernel
theorem dX6_turn_146 : decode cX6_turn 146 = .ok (.aload_n 0, 1) := by decide +kernel
theorem dX6_turn_147 : decode cX6_turn 147 = .ok (.getfield 37, 3) := by decide +kernel
theorem dX6_turn_150 : decode cX6_turn 150 = .ok (.iload_n 2, 1) := by decide +kernel
theorem dX6_turn_151 : decode cX6_turn 151 = .ok (.iaload, 1) := by decide +kernel
theorem dX6_turn_152 : decode cX6_turn 152 = .ok (.aload_n 0, 1) := by decide +kernel
theorem dX6_turn_153 : decode cX6_turn 153 = .ok (.getfield 25, 3) := by decide +kernel
theorem dX6_turn_156 : decode cX6_turn 156 = .ok (.iload_n 2, 1) := by decide +kernel
theorem dX6_turn_157 : decode cX6_turn 157 = .ok (.iaload, 1) := by decide +kernel
theorem dX6_turn_158 : decode cX6_turn 158 = .ok (.iconst (-1), 1) := by decide +kernel
theorem dX6_turn_159 : decode cX6_turn 159 = .ok (.ixor, 1) := by decide +kernel
theorem dX6_turn_160 : decode cX6_turn 160 = .ok (.iand, 1) := by decide +kernel
theorem dX6_turn_161 : decode cX6_turn 161 = .ok (.invokestatic 156, 3) := by decide +kernel
theorem dX6_turn_164 : decode cX6_turn 164 = .ok (.iadd, 1) := by decide +kernel
theorem dX6_turn_165 : decode cX6_turn 165 = .ok (.istore_n 1, 1) := by decide +kernel
theorem dX6_turn_166 : decode cX6_turn 166 = .ok (.iinc 2 1, 3) := by decide +kernel
theorem dX6_turn_169 : decode cX6_turn 169 = .ok (.goto (-34), 3) := by decide +kernel
theorem dX6_turn_172 : decode cX6_turn 172 = .ok (.iload_n 1, 1) := by decide +kernel
theorem dX6_turn_173 : decode cX6_turn 173 = .ok (.ireturn, 1) := by decide +kernel
set_option maxRecDepth 20000 in
theorem ggX6_set_X6_in : GoodIn wsX6_set wsX6_in := goodIn_r _ [5] (by decide +kernel) (by decide +kernel)
set_option maxRecDepth 20000 in
theorem gX6_set_X6_in : GoodIn wsX6_set (va_wsS RX6 53 yX6_in wsX6_in) := goodIn_app (goodIn_of _ (by decide +kernel)) ggX6_set_X6_in
set_option maxRecDepth 20000 in
theorem ggX6_set_X6_push : GoodIn wsX6_set wsX6_push := goodIn_r _ [9, 10, 11, 12, 13, 14, 15, 16, 17, 18, 19, 20, 21, 22, 23, 24, 25, 26, 27, 28] (by decide +kernel) (by decide +kernel)
set_option maxRecDepth 20000 in
theorem gX6_set_X6_push : GoodIn wsX6_set (wsV RX6 110 RX6 yX6_push wsX6_push) := goodIn_app (goodIn_of _ (by decide +kernel)) ggX6_set_X6_push
theorem dX6_set_0 : decode cX6_set 0 = .ok (.iload_n 1, 1) := by decide +kernel
theorem dX6_set_1 : decode cX6_set 1 = .ok (.ifCond .eq 5, 3) := by decide +kernel
theorem dX6_set_4 : decode cX6_set 4 = .ok (.iconst (-1), 1) := by decide +kernel
theorem dX6_set_5 : decode cX6_set 5 = .ok (.ireturn, 1) := by decide +kernel
theorem dX6_set_6 : decode cX6_set 6 = .ok (.iload_n 2, 1) := by decide +kernel
theorem dX6_set_7 : decode cX6_set 7 = .ok (.i2l, 1) := by decide +kernel
theorem dX6_set_8 : decode cX6_set 8 = .ok (.iconst 0, 1) := by decide +kernel
theorem dX6_set_9 : decode cX6_set 9 = .ok (.iconst 2, 1) := by decide +kernel
theorem dX6_set_10 : decode cX6_set 10 = .ok (.invokestatic 53, 3) := by decide +kernel
theorem dX6_set_13 : decode cX6_set 13 = .ok (.ifCond .ne 6, 3) := by decide +kernel
theorem dX6_set_16 : decode cX6_set 16 = .ok (.bipush (-2), 2) := by decide +kernel
theorem dX6_set_18 : decode cX6_set 18 = .ok (.ireturn, 1) := by decide +kernel
theorem dX6_set_19 : decode cX6_set 19 = .ok (.aload_n 0, 1) := by decide +kernel
theorem dX6_set_20 : decode cX6_set 20 = .ok (.getfield 7, 3) := by decide +kernel
theorem dX6_set_23 : decode cX6_set 23 = .ok (.iconst 3, 1) := by decide +kernel
theorem dX6_set_24 : decode cX6_set 24 = .ok (.iaload, 1) := by decide +kernel
theorem dX6_set_25 : decode cX6_set 25 = .ok (.iload_n 2, 1) := by decide +kernel
theorem dX6_set_26 : decode cX6_set 26 = .ok (.if_icmp .ne 6, 3) := by decide +kernel
theorem dX6_set_29 : decode cX6_set 29 = .ok (.bipush (-5), 2) := by decide +kernel
theorem dX6_set_31 : decode cX6_set 31 = .ok (.ireturn, 1) := by decide +kernel
theorem dX6_set_32 : decode cX6_set 32 = .ok (.aload_n 0, 1) := by decide +kernel
theorem dX6_set_33 : decode cX6_set 33 = .ok (.aload_n 0, 1) := by decide +kernel
theorem dX6_set_34 : decode cX6_set 34 = .ok (.getfield 7, 3) := by decide +kernel
theorem dX6_set_37 : decode cX6_set 37 = .ok (.invokevirtual 110, 3) := by decide +kernel
theorem dX6_set_40 : decode cX6_set 40 = .ok (.aload_n 0, 1) := by decide +kernel
theorem dX6_set_41 : decode cX6_set 41 = .ok (.getfield 7, 3) := by decide +kernel
theorem dX6_set_44 : decode cX6_set 44 = .ok (.iconst 3, 1) := by decide +kernel
theorem dX6_set_45 : decode cX6_set 45 = .ok (.iaload, 1) := by decide +kernel
theorem dX6_set_46 : decode cX6_set 46 = .ok (.istore_n 3, 1) := by decide +kernel
theorem dX6_set_47 : decode cX6_set 47 = .ok (.aload_n 0, 1) := by decide +kernel
theorem dX6_set_48 : decode cX6_set 48 = .ok (.getfield 7, 3) := by decide +kernel
theorem dX6_set_51 : decode cX6_set 51 = .ok (.iconst 3, 1) := by decide +kernel
theorem dX6_set_52 : decode cX6_set 52 = .ok (.iload_n 2, 1) := by decide +kernel
theorem dX6_set_53 : decode cX6_set 53 = .ok (.iastore, 1) := by decide +kernel
theorem dX6_set_54 : decode cX6_set 54 = .ok (.iload_n 3, 1) := by decide +kernel
theorem dX6_set_55 : decode cX6_set 55 = .ok (.ireturn, 1) := by decide +kernel
theorem dX6_type_0 : decode cX6_type 0 = .ok (.aload_n 0, 1) := by decide +kernel
theorem dX6_type_1 : decode cX6_type 1 = .ok (.getfield 159, 3) := by decide +kernel
theorem dX6_type_4 : decode cX6_type 4 = .ok (.bipush 80, 2) := by decide +kernel
theorem dX6_type_6 : decode cX6_type 6 = .ok (.if_icmp .ne 6, 3) := by decide +kernel
theorem dX6_type_9 : decode cX6_type 9 = .ok (.bipush (-3), 2) := by decide +kernel
theorem dX6_type_11 : decode cX6_type 11 = .ok (.ireturn, 1) := by decide +kernel
theorem dX6_type_12 : decode cX6_type 12 = .ok (.aload_n 0, 1) := by decide +kernel
theorem dX6_type_13 : decode cX6_type 13 = .ok (.getfield 22, 3) := by decide +kernel
theorem dX6_type_16 : decode cX6_type 16 = .ok (.aload_n 0, 1) := by decide +kernel
theorem dX6_type_17 : decode cX6_type 17 = .ok (.getfield 159, 3) := by decide +kernel
theorem dX6_type_20 : decode cX6_type 20 = .ok (.iload_n 1, 1) := by decide +kernel
theorem dX6_type_21 : decode cX6_type 21 = .ok (.iastore, 1) := by decide +kernel
theorem dX6_type_22 : decode cX6_type 22 = .ok (.aload_n 0, 1) := by decide +kernel
theorem dX6_type_23 : decode cX6_type 23 = .ok (.dup, 1) := by decide +kernel
theorem dX6_type_24 : decode cX6_type 24 = .ok (.getfield 159, 3) := by decide +kernel
theorem dX6_type_27 : decode cX6_type 27 = .ok (.iconst 1, 1) := by decide +kernel
theorem dX6_type_28 : decode cX6_type 28 = .ok (.iadd, 1) := by decide +kernel
theorem dX6_type_29 : decode cX6_type 29 = .ok (.putfield 159, 3) := by decide +kernel
theorem dX6_type_32 : decode cX6_type 32 = .ok (.aload_n 0, 1) := by decide +kernel
theorem dX6_type_33 : decode cX6_type 33 = .ok (.getfield 159, 3) := by decide +kernel
theorem dX6_type_36 : decode cX6_type 36 = .ok (.ireturn, 1) := by decide +kernel
theorem dX6_clearText_0 : decode cX6_clearText 0 = .ok (.aload_n 0, 1) := by decide +kernel
theorem dX6_clearText_1 : decode cX6_clearText 1 = .ok (.getfield 159, 3) := by decide +kernel
theorem dX6_clearText_4 : decode cX6_clearText 4 = .ok (.istore_n 1, 1) := by decide +kernel
theorem dX6_clearText_5 : decode cX6_clearText 5 = .ok (.aload_n 0, 1) := by decide +kernel
theorem dX6_clearText_6 : decode cX6_clearText 6 = .ok (.iconst 0, 1) := by decide +kernel
theorem dX6_clearText_7 : decode cX6_clearText 7 = .ok (.putfield 159, 3) := by decide +kernel
theorem dX6_clearText_10 : decode cX6_clearText 10 = .ok (.iload_n 1, 1) := by decide +kernel
theorem dX6_clearText_11 : decode cX6_clearText 11 = .ok (.ireturn, 1) := by decide +kernel
theorem dX6_sign_0 : decode cX6_sign 0 = .ok (.aload_n 0, 1) := by decide +kernel
theorem dX6_sign_1 : decode cX6_sign 1 = .ok (.getfield 162, 3) := by decide +kernel
theorem dX6_sign_4 : decode cX6_sign 4 = .ok (.aload_n 0, 1) := by decide +kernel
theorem dX6_sign_5 : decode cX6_sign 5 = .ok (.getfield 159, 3) := by decide +kernel
theorem dX6_sign_8 : decode cX6_sign 8 = .ok (.if_icmp .ge 15, 3) := by decide +kernel
theorem dX6_sign_11 : decode cX6_sign 11 = .ok (.aload_n 0, 1) := by decide +kernel
theorem dX6_sign_12 : decode cX6_sign 12 = .ok (.getfield 22, 3) := by decide +kernel
theorem dX6_sign_15 : decode cX6_sign 15 = .ok (.aload_n 0, 1) := by decide +kernel
theorem dX6_sign_16 : decode cX6_sign 16 = .ok (.getfield 162, 3) := by decide +kernel
theorem dX6_sign_19 : decode cX6_sign 19 = .ok (.iaload, 1) := by decide +kernel
theorem dX6_sign_20 : decode cX6_sign 20 = .ok (.goto 4, 3) := by decide +kernel
theorem dX6_sign_23 : decode cX6_sign 23 = .ok (.iconst 0, 1) := by decide +kernel
theorem dX6_sign_24 : decode cX6_sign 24 = .ok (.ireturn, 1) := by decide +kernel
theorem dX6_take_0 : decode cX6_take 0 = .ok (.aload_n 0, 1) := by decide +kernel
theorem dX6_take_1 : decode cX6_take 1 = .ok (.aload_n 0, 1) := by decide +kernel
theorem dX6_take_2 : decode cX6_take 2 = .ok (.getfield 165, 3) := by decide +kernel
theorem dX6_take_5 : decode cX6_take 5 = .ok (.ifCond .ne 7, 3) := by decide +kernel
theorem dX6_take_8 : decode cX6_take 8 = .ok (.iload_n 1, 1) := by decide +kernel
theorem dX6_take_9 : decode cX6_take 9 = .ok (.ifCond .ne 7, 3) := by decide +kernel
theorem dX6_take_12 : decode cX6_take 12 = .ok (.iconst 1, 1) := by decide +kernel
theorem dX6_take_13 : decode cX6_take 13 = .ok (.goto 4, 3) := by decide +kernel
theorem dX6_take_16 : decode cX6_take 16 = .ok (.iconst 0, 1) := by decide +kernel
theorem dX6_take_17 : decode cX6_take 17 = .ok (.putfield 165, 3) := by decide +kernel
theorem dX6_take_20 : decode cX6_take 20 = .ok (.aload_n 0, 1) := by decide +kernel
theorem dX6_take_21 : decode cX6_take 21 = .ok (.dup, 1) := by decide +kernel
theorem dX6_take_22 : decode cX6_take 22 = .ok (.getfield 162, 3) := by decide +kernel
theorem dX6_take_25 : decode cX6_take 25 = .ok (.aload_n 0, 1) := by decide +kernel
theorem dX6_take_26 : decode cX6_take 26 = .ok (.getfield 165, 3) := by decide +kernel
theorem dX6_take_29 : decode cX6_take 29 = .ok (.ifCond .eq 7, 3) := by decide +kernel
theorem dX6_take_32 : decode cX6_take 32 = .ok (.iconst 0, 1) := by decide +kernel
theorem dX6_take_33 : decode cX6_take 33 = .ok (.goto 4, 3) := by decide +kernel
theorem dX6_take_36 : decode cX6_take 36 = .ok (.iconst 1, 1) := by decide +kernel
theorem dX6_take_37 : decode cX6_take 37 = .ok (.iadd, 1) := by decide +kernel
theorem dX6_take_38 : decode cX6_take 38 = .ok (.putfield 162, 3) := by decide +kernel
theorem dX6_take_41 : decode cX6_take 41 = .ok (.return_, 1) := by decide +kernel
set_option maxRecDepth 20000 in
theorem ggX6_readNumber_X6_sign : GoodIn wsX6_readNumber wsX6_sign := goodIn_r _ [7, 2, 8, 9, 17, 18, 19, 20, 21, 22, 23, 24, 25, 26, 27, 28, 29, 30, 31, 32, 33] (by decide +kernel) (by decide +kernel)
set_option maxRecDepth 20000 in
theorem gX6_readNumber_X6_sign : GoodIn wsX6_readNumber (wsV RX6 168 RX6 yX6_sign wsX6_sign) := goodIn_app (goodIn_of _ (by decide +kernel)) ggX6_readNumber_X6_sign
set_option maxRecDepth 20000 in
theorem ggX6_readNumber_X6_in : GoodIn wsX6_readNumber wsX6_in := goodIn_r _ [12] (by decide +kernel) (by decide +kernel)
set_option maxRecDepth 20000 in
theorem gX6_readNumber_X6_in : GoodIn wsX6_readNumber (va_wsS RX6 53 yX6_in wsX6_in) := goodIn_app (goodIn_of _ (by decide +kernel)) ggX6_readNumber_X6_in
set_option maxRecDepth 20000 in
theorem ggX6_readNumber_X6_take : GoodIn wsX6_readNumber wsX6_take := goodIn_r _ [16, 1, 2, 17, 18, 19, 20, 21, 22, 23, 24, 25, 26, 27, 28, 29, 30, 31, 32, 33] (by decide +kernel) (by decide +kernel)
set_option maxRecDepth 20000 in
theorem gX6_readNumber_X6_take : GoodIn wsX6_readNumber (wsV RX6 171 RX6 yX6_take wsX6_take) := goodIn_app (goodIn_of _ (by decide +kernel)) ggX6_readNumber_X6_take
theorem dX6_readNumber_0 : decode cX6_readNumber 0 = .ok (.aload_n 0, 1) := by decide +kernel
theorem dX6_readNumber_1 : decode cX6_readNumber 1 = .ok (.invokevirtual 168, 3) := by decide +kernel
theorem dX6_readNumber_4 : decode cX6_readNumber 4 = .ok (.bipush 48, 2) := by decide +kernel
theorem dX6_readNumber_6 : decode cX6_readNumber 6 = .ok (.isub, 1) := by decide +kernel
theorem dX6_readNumber_7 : decode cX6_readNumber 7 = .ok (.istore_n 3, 1) := by decide +kernel
theorem dX6_readNumber_8 : decode cX6_readNumber 8 = .ok (.aload_n 0, 1) := by decide +kernel
theorem dX6_readNumber_9 : decode cX6_readNumber 9 = .ok (.iload_n 3, 1) := by decide +kernel
theorem dX6_readNumber_10 : decode cX6_readNumber 10 = .ok (.i2l, 1) := by decide +kernel
theorem dX6_readNumber_11 : decode cX6_readNumber 11 = .ok (.iload_n 1, 1) := by decide +kernel
theorem dX6_readNumber_12 : decode cX6_readNumber 12 = .ok (.bipush 9, 2) := by decide +kernel
theorem dX6_readNumber_14 : decode cX6_readNumber 14 = .ok (.invokestatic 53, 3) := by decide +kernel
theorem dX6_readNumber_17 : decode cX6_readNumber 17 = .ok (.invokevirtual 171, 3) := by decide +kernel
theorem dX6_readNumber_20 : decode cX6_readNumber 20 = .ok (.aload_n 0, 1) := by decide +kernel
theorem dX6_readNumber_21 : decode cX6_readNumber 21 = .ok (.getfield 165, 3) := by decide +kernel
theorem dX6_readNumber_24 : decode cX6_readNumber 24 = .ok (.ifCond .ne 64, 3) := by decide +kernel
theorem dX6_readNumber_27 : decode cX6_readNumber 27 = .ok (.iload_n 3, 1) := by decide +kernel
theorem dX6_readNumber_28 : decode cX6_readNumber 28 = .ok (.ifCond .le 60, 3) := by decide +kernel
theorem dX6_readNumber_31 : decode cX6_readNumber 31 = .ok (.aload_n 0, 1) := by decide +kernel
theorem dX6_readNumber_32 : decode cX6_readNumber 32 = .ok (.invokevirtual 168, 3) := by decide +kernel
theorem dX6_readNumber_35 : decode cX6_readNumber 35 = .ok (.i2l, 1) := by decide +kernel
theorem dX6_readNumber_36 : decode cX6_readNumber 36 = .ok (.bipush 48, 2) := by decide +kernel
theorem dX6_readNumber_38 : decode cX6_readNumber 38 = .ok (.bipush 57, 2) := by decide +kernel
theorem dX6_readNumber_40 : decode cX6_readNumber 40 = .ok (.invokestatic 53, 3) := by decide +kernel
theorem dX6_readNumber_43 : decode cX6_readNumber 43 = .ok (.ifCond .eq 45, 3) := by decide +kernel
theorem dX6_readNumber_46 : decode cX6_readNumber 46 = .ok (.bipush 10, 2) := by decide +kernel
theorem dX6_readNumber_48 : decode cX6_readNumber 48 = .ok (.iload_n 3, 1) := by decide +kernel
theorem dX6_readNumber_49 : decode cX6_readNumber 49 = .ok (.imul, 1) := by decide +kernel
theorem dX6_readNumber_50 : decode cX6_readNumber 50 = .ok (.aload_n 0, 1) := by decide +kernel
theorem dX6_readNumber_51 : decode cX6_readNumber 51 = .ok (.invokevirtual 168, 3) := by decide +kernel
theorem dX6_readNumber_54 : decode cX6_readNumber 54 = .ok (.iadd, 1) := by decide +kernel
theorem dX6_readNumber_55 : decode cX6_readNumber 55 = .ok (.bipush 48, 2) := by decide +kernel
theorem dX6_readNumber_57 : decode cX6_readNumber 57 = .ok (.isub, 1) := by decide +kernel
theorem dX6_readNumber_58 : decode cX6_readNumber 58 = .ok (.iload_n 2, 1) := by decide +kernel
theorem dX6_readNumber_59 : decode cX6_readNumber 59 = .ok (.if_icmp .gt 29, 3) := by decide +kernel
theorem dX6_readNumber_62 : decode cX6_readNumber 62 = .ok (.bipush 10, 2) := by decide +kernel
theorem dX6_readNumber_64 : decode cX6_readNumber 64 = .ok (.iload_n 3, 1) := by decide +kernel
theorem dX6_readNumber_65 : decode cX6_readNumber 65 = .ok (.imul, 1) := by decide +kernel
theorem dX6_readNumber_66 : decode cX6_readNumber 66 = .ok (.aload_n 0, 1) := by decide +kernel
theorem dX6_readNumber_67 : decode cX6_readNumber 67 = .ok (.invokevirtual 168, 3) := by decide +kernel
theorem dX6_readNumber_70 : decode cX6_readNumber 70 = .ok (.iadd, 1) := by decide +kernel
theorem dX6_readNumber_71 : decode cX6_readNumber 71 = .ok (.bipush 48, 2) := by decide +kernel
theorem dX6_readNumber_73 : decode cX6_readNumber 73 = .ok (.isub, 1) := by decide +kernel
theorem dX6_readNumber_74 : decode cX6_readNumber 74 = .ok (.istore_n 3, 1) := by decide +kernel
theorem dX6_readNumber_75 : decode cX6_readNumber 75 = .ok (.aload_n 0, 1) := by decide +kernel
theorem dX6_readNumber_76 : decode cX6_readNumber 76 = .ok (.dup, 1) := by decide +kernel
theorem dX6_readNumber_77 : decode cX6_readNumber 77 = .ok (.getfield 162, 3) := by decide +kernel
theorem dX6_readNumber_80 : decode cX6_readNumber 80 = .ok (.iconst 1, 1) := by decide +kernel
theorem dX6_readNumber_81 : decode cX6_readNumber 81 = .ok (.iadd, 1) := by decide +kernel
theorem dX6_readNumber_82 : decode cX6_readNumber 82 = .ok (.putfield 162, 3) := by decide +kernel
theorem dX6_readNumber_85 : decode cX6_readNumber 85 = .ok (.goto (-65), 3) := by decide +kernel
theorem dX6_readNumber_88 : decode cX6_readNumber 88 = .ok (.iload_n 3, 1) := by decide +kernel
theorem dX6_readNumber_89 : decode cX6_readNumber 89 = .ok (.ireturn, 1) := by decide +kernel
set_option maxRecDepth 20000 in
theorem ggX6_readBox_X6_sign : GoodIn wsX6_readBox wsX6_sign := goodIn_r _ [7, 8, 9, 10, 22, 23, 24, 25, 26, 27, 28, 29, 30, 31, 32, 33, 34, 35, 36, 37, 38] (by decide +kernel) (by decide +kernel)
set_option maxRecDepth 20000 in
theorem gX6_readBox_X6_sign : GoodIn wsX6_readBox (wsV RX6 168 RX6 yX6_sign wsX6_sign) := goodIn_app (goodIn_of _ (by decide +kernel)) ggX6_readBox_X6_sign
set_option maxRecDepth 20000 in
theorem ggX6_readBox_X6_take : GoodIn wsX6_readBox wsX6_take := goodIn_r _ [14, 1, 8, 22, 23, 24, 25, 26, 27, 28, 29, 30, 31, 32, 33, 34, 35, 36, 37, 38] (by decide +kernel) (by decide +kernel)
set_option maxRecDepth 20000 in
theorem gX6_readBox_X6_take : GoodIn wsX6_readBox (wsV RX6 171 RX6 yX6_take wsX6_take) := goodIn_app (goodIn_of _ (by decide +kernel)) ggX6_readBox_X6_take
set_option maxRecDepth 20000 in
theorem ggX6_readBox_X6_readNumber : GoodIn wsX6_readBox wsX6_readNumber := goodIn_r _ [18, 1, 8, 3, 4, 5, 6, 7, 9, 10, 19, 20, 21, 11, 12, 13, 14, 22, 23, 24, 25, 26, 27, 28, 29, 30, 31, 32, 33, 34, 35, 36, 37, 38] (by decide +kernel) (by decide +kernel)
set_option maxRecDepth 20000 in
theorem gX6_readBox_X6_readNumber : GoodIn wsX6_readBox (wsV RX6 175 RX6 yX6_readNumber wsX6_readNumber) := goodIn_app (goodIn_of _ (by decide +kernel)) ggX6_readBox_X6_readNumber
theorem dX6_readBox_0 : decode cX6_readBox 0 = .ok (.iconst 0, 1) := by decide +kernel
theorem dX6_readBox_1 : decode cX6_readBox 1 = .ok (.istore_n 1, 1) := by decide +kernel
theorem dX6_readBox_2 : decode cX6_readBox 2 = .ok (.iload_n 1, 1) := by decide +kernel
theorem dX6_readBox_3 : decode cX6_readBox 3 = .ok (.bipush 6, 2) := by decide +kernel
theorem dX6_readBox_5 : decode cX6_readBox 5 = .ok (.if_icmp .ge 76, 3) := by decide +kernel
theorem dX6_readBox_8 : decode cX6_readBox 8 = .ok (.iload_n 1, 1) := by decide +kernel
theorem dX6_readBox_9 : decode cX6_readBox 9 = .ok (.ifCond .le 31, 3) := by decide +kernel
theorem dX6_readBox_12 : decode cX6_readBox 12 = .ok (.aload_n 0, 1) := by decide +kernel
theorem dX6_readBox_13 : decode cX6_readBox 13 = .ok (.aload_n 0, 1) := by decide +kernel
theorem dX6_readBox_14 : decode cX6_readBox 14 = .ok (.invokevirtual 168, 3) := by decide +kernel
theorem dX6_readBox_17 : decode cX6_readBox 17 = .ok (.iload_n 1, 1) := by decide +kernel
theorem dX6_readBox_18 : decode cX6_readBox 18 = .ok (.iconst 3, 1) := by decide +kernel
theorem dX6_readBox_19 : decode cX6_readBox 19 = .ok (.if_icmp .ne 8, 3) := by decide +kernel
theorem dX6_readBox_22 : decode cX6_readBox 22 = .ok (.bipush 58, 2) := by decide +kernel
theorem dX6_readBox_24 : decode cX6_readBox 24 = .ok (.goto 5, 3) := by decide +kernel
theorem dX6_readBox_27 : decode cX6_readBox 27 = .ok (.bipush 44, 2) := by decide +kernel
theorem dX6_readBox_29 : decode cX6_readBox 29 = .ok (.if_icmp .ne 7, 3) := by decide +kernel
theorem dX6_readBox_32 : decode cX6_readBox 32 = .ok (.iconst 1, 1) := by decide +kernel
theorem dX6_readBox_33 : decode cX6_readBox 33 = .ok (.goto 4, 3) := by decide +kernel
theorem dX6_readBox_36 : decode cX6_readBox 36 = .ok (.iconst 0, 1) := by decide +kernel
theorem dX6_readBox_37 : decode cX6_readBox 37 = .ok (.invokevirtual 171, 3) := by decide +kernel
theorem dX6_readBox_40 : decode cX6_readBox 40 = .ok (.aload_n 0, 1) := by decide +kernel
theorem dX6_readBox_41 : decode cX6_readBox 41 = .ok (.getfield 165, 3) := by decide +kernel
theorem dX6_readBox_44 : decode cX6_readBox 44 = .ok (.ifCond .ne 31, 3) := by decide +kernel
theorem dX6_readBox_47 : decode cX6_readBox 47 = .ok (.aload_n 0, 1) := by decide +kernel
theorem dX6_readBox_48 : decode cX6_readBox 48 = .ok (.getfield 40, 3) := by decide +kernel
theorem dX6_readBox_51 : decode cX6_readBox 51 = .ok (.iload_n 1, 1) := by decide +kernel
theorem dX6_readBox_52 : decode cX6_readBox 52 = .ok (.iload_n 1, 1) := by decide +kernel
theorem dX6_readBox_53 : decode cX6_readBox 53 = .ok (.iconst 3, 1) := by decide +kernel
theorem dX6_readBox_54 : decode cX6_readBox 54 = .ok (.if_icmp .ge 13, 3) := by decide +kernel
theorem dX6_readBox_57 : decode cX6_readBox 57 = .ok (.aload_n 0, 1) := by decide +kernel
theorem dX6_readBox_58 : decode cX6_readBox 58 = .ok (.iconst 0, 1) := by decide +kernel
theorem dX6_readBox_59 : decode cX6_readBox 59 = .ok (.bipush 31, 2) := by decide +kernel
theorem dX6_readBox_61 : decode cX6_readBox 61 = .ok (.invokevirtual 175, 3) := by decide +kernel
theorem dX6_readBox_64 : decode cX6_readBox 64 = .ok (.goto 10, 3) := by decide +kernel
theorem dX6_readBox_67 : decode cX6_readBox 67 = .ok (.aload_n 0, 1) := by decide +kernel
theorem dX6_readBox_68 : decode cX6_readBox 68 = .ok (.iconst 1, 1) := by decide +kernel
theorem dX6_readBox_69 : decode cX6_readBox 69 = .ok (.bipush 12, 2) := by decide +kernel
theorem dX6_readBox_71 : decode cX6_readBox 71 = .ok (.invokevirtual 175, 3) := by decide +kernel
theorem dX6_readBox_74 : decode cX6_readBox 74 = .ok (.iastore, 1) := by decide +kernel
theorem dX6_readBox_75 : decode cX6_readBox 75 = .ok (.iinc 1 1, 3) := by decide +kernel
theorem dX6_readBox_78 : decode cX6_readBox 78 = .ok (.goto (-76), 3) := by decide +kernel
theorem dX6_readBox_81 : decode cX6_readBox 81 = .ok (.return_, 1) := by decide +kernel
set_option maxRecDepth 20000 in
theorem ggX6_findFault_X6_readBox : GoodIn wsX6_findFault wsX6_readBox := goodIn_r _ [8, 2, 9, 10, 11, 12, 7, 13, 1, 3, 14, 15, 16, 17, 18, 19, 20, 21, 22, 23, 24, 25, 26, 27, 28, 29, 30, 31, 32, 33, 34, 35, 36, 37, 38, 39, 40, 41, 42] (by decide +kernel) (by decide +kernel)
set_option maxRecDepth 20000 in
theorem gX6_findFault_X6_readBox : GoodIn wsX6_findFault (wsV RX6 178 RX6 yX6_readBox wsX6_readBox) := goodIn_app (goodIn_of _ (by decide +kernel)) ggX6_findFault_X6_readBox
set_option maxRecDepth 20000 in
theorem ggX6_findFault_X6_sign : GoodIn wsX6_findFault wsX6_sign := goodIn_r _ [13, 1, 3, 14, 26, 27, 28, 29, 30, 31, 32, 33, 34, 35, 36, 37, 38, 39, 40, 41, 42] (by decide +kernel) (by decide +kernel)
set_option maxRecDepth 20000 in
theorem gX6_findFault_X6_sign : GoodIn wsX6_findFault (wsV RX6 168 RX6 yX6_sign wsX6_sign) := goodIn_app (goodIn_of _ (by decide +kernel)) ggX6_findFault_X6_sign
set_option maxRecDepth 20000 in
theorem ggX6_findFault_X6_take : GoodIn wsX6_findFault wsX6_take := goodIn_r _ [18, 2, 1, 26, 27, 28, 29, 30, 31, 32, 33, 34, 35, 36, 37, 38, 39, 40, 41, 42] (by decide +kernel) (by decide +kernel)
set_option maxRecDepth 20000 in
theorem gX6_findFault_X6_take : GoodIn wsX6_findFault (wsV RX6 171 RX6 yX6_take wsX6_take) := goodIn_app (goodIn_of _ (by decide +kernel)) ggX6_findFault_X6_take
theorem dX6_findFault_0 : decode cX6_findFault 0 = .ok (.aload_n 0, 1) := by decide +kernel
theorem dX6_findFault_1 : decode cX6_findFault 1 = .ok (.iconst 0, 1) := by decide +kernel
theorem dX6_findFault_2 : decode cX6_findFault 2 = .ok (.putfield 162, 3) := by decide +kernel
theorem dX6_findFault_5 : decode cX6_findFault 5 = .ok (.aload_n 0, 1) := by decide +kernel
theorem dX6_findFault_6 : decode cX6_findFault 6 = .ok (.iconst 0, 1) := by decide +kernel
theorem dX6_findFault_7 : decode cX6_findFault 7 = .ok (.putfield 165, 3) := by decide +kernel
theorem dX6_findFault_10 : decode cX6_findFault 10 = .ok (.aload_n 0, 1) := by decide +kernel
theorem dX6_findFault_11 : decode cX6_findFault 11 = .ok (.invokevirtual 178, 3) := by decide +kernel
theorem dX6_findFault_14 : decode cX6_findFault 14 = .ok (.aload_n 0, 1) := by decide +kernel
theorem dX6_findFault_15 : decode cX6_findFault 15 = .ok (.getfield 165, 3) := by decide +kernel
theorem dX6_findFault_18 : decode cX6_findFault 18 = .ok (.ifCond .eq 8, 3) := by decide +kernel
theorem dX6_findFault_21 : decode cX6_findFault 21 = .ok (.aload_n 0, 1) := by decide +kernel
theorem dX6_findFault_22 : decode cX6_findFault 22 = .ok (.getfield 162, 3) := by decide +kernel
theorem dX6_findFault_25 : decode cX6_findFault 25 = .ok (.ireturn, 1) := by decide +kernel
theorem dX6_findFault_26 : decode cX6_findFault 26 = .ok (.aload_n 0, 1) := by decide +kernel
theorem dX6_findFault_27 : decode cX6_findFault 27 = .ok (.getfield 162, 3) := by decide +kernel
theorem dX6_findFault_30 : decode cX6_findFault 30 = .ok (.aload_n 0, 1) := by decide +kernel
theorem dX6_findFault_31 : decode cX6_findFault 31 = .ok (.getfield 159, 3) := by decide +kernel
theorem dX6_findFault_34 : decode cX6_findFault 34 = .ok (.if_icmp .ne 6, 3) := by decide +kernel
theorem dX6_findFault_37 : decode cX6_findFault 37 = .ok (.bipush (-5), 2) := by decide +kernel
theorem dX6_findFault_39 : decode cX6_findFault 39 = .ok (.ireturn, 1) := by decide +kernel
theorem dX6_findFault_40 : decode cX6_findFault 40 = .ok (.aload_n 0, 1) := by decide +kernel
theorem dX6_findFault_41 : decode cX6_findFault 41 = .ok (.aload_n 0, 1) := by decide +kernel
theorem dX6_findFault_42 : decode cX6_findFault 42 = .ok (.invokevirtual 168, 3) := by decide +kernel
theorem dX6_findFault_45 : decode cX6_findFault 45 = .ok (.bipush 59, 2) := by decide +kernel
theorem dX6_findFault_47 : decode cX6_findFault 47 = .ok (.if_icmp .ne 7, 3) := by decide +kernel
theorem dX6_findFault_50 : decode cX6_findFault 50 = .ok (.iconst 1, 1) := by decide +kernel
theorem dX6_findFault_51 : decode cX6_findFault 51 = .ok (.goto 4, 3) := by decide +kernel
theorem dX6_findFault_54 : decode cX6_findFault 54 = .ok (.iconst 0, 1) := by decide +kernel
theorem dX6_findFault_55 : decode cX6_findFault 55 = .ok (.invokevirtual 171, 3) := by decide +kernel
theorem dX6_findFault_58 : decode cX6_findFault 58 = .ok (.goto (-48), 3) := by decide +kernel
set_option maxRecDepth 20000 in
theorem ggX6_addAll_X6_findFault : GoodIn wsX6_addAll wsX6_findFault := goodIn_r _ [9, 1, 10, 2, 11, 12, 13, 8, 14, 3, 15, 16, 17, 18, 19, 20, 21, 22, 23, 24, 25, 26, 27, 28, 29, 30, 74, 75, 76, 77, 78, 79, 80, 81, 82, 83, 84, 85, 86, 87, 88, 89, 90] (by decide +kernel) (by decide +kernel)
set_option maxRecDepth 20000 in
theorem gX6_addAll_X6_findFault : GoodIn wsX6_addAll (wsV RX6 181 RX6 yX6_findFault wsX6_findFault) := goodIn_app (goodIn_of _ (by decide +kernel)) ggX6_addAll_X6_findFault
set_option maxRecDepth 20000 in
theorem ggX6_addAll_X6_putAside : GoodIn wsX6_addAll wsX6_putAside := goodIn_r _ [34, 4, 35, 74, 75, 76, 77, 78, 79, 80, 81, 82, 83, 84, 85, 86, 87, 88, 89, 90] (by decide +kernel) (by decide +kernel)
set_option maxRecDepth 20000 in
theorem gX6_addAll_X6_putAside : GoodIn wsX6_addAll (wsV RX6 184 RX6 yX6_putAside wsX6_putAside) := goodIn_app (goodIn_of _ (by decide +kernel)) ggX6_addAll_X6_putAside
set_option maxRecDepth 20000 in
theorem ggX6_addAll_X6_readBox : GoodIn wsX6_addAll wsX6_readBox := goodIn_r _ [14, 10, 3, 15, 16, 17, 8, 18, 1, 2, 19, 20, 21, 22, 23, 24, 25, 26, 27, 28, 29, 30, 74, 75, 76, 77, 78, 79, 80, 81, 82, 83, 84, 85, 86, 87, 88, 89, 90] (by decide +kernel) (by decide +kernel)
set_option maxRecDepth 20000 in
theorem gX6_addAll_X6_readBox : GoodIn wsX6_addAll (wsV RX6 178 RX6 yX6_readBox wsX6_readBox) := goodIn_app (goodIn_of _ (by decide +kernel)) ggX6_addAll_X6_readBox
set_option maxRecDepth 20000 in
theorem ggX6_addAll_X6_tryBox : GoodIn wsX6_addAll wsX6_tryBox := goodIn_r _ [39, 35, 28, 29, 8, 30, 40, 41, 42, 43, 44, 45, 46, 47, 48, 49, 50, 51, 52, 53, 54, 55, 74, 75, 76, 77, 78, 79, 80, 81, 82, 83, 84, 85, 86, 87, 88, 89, 90] (by decide +kernel) (by decide +kernel)
set_option maxRecDepth 20000 in
theorem gX6_addAll_X6_tryBox : GoodIn wsX6_addAll (wsV RX6 118 RX6 yX6_tryBox wsX6_tryBox) := goodIn_app (goodIn_of _ (by decide +kernel)) ggX6_addAll_X6_tryBox
set_option maxRecDepth 20000 in
theorem ggX6_addAll_X6_putBox : GoodIn wsX6_addAll wsX6_putBox := goodIn_r _ [59, 35, 60, 61, 62, 8, 63, 74, 75, 76, 77, 78, 79, 80, 81, 82, 83, 84, 85, 86, 87, 88, 89, 90] (by decide +kernel) (by decide +kernel)
set_option maxRecDepth 20000 in
theorem gX6_addAll_X6_putBox : GoodIn wsX6_addAll (wsV RX6 122 RX6 yX6_putBox wsX6_putBox) := goodIn_app (goodIn_of _ (by decide +kernel)) ggX6_addAll_X6_putBox
set_option maxRecDepth 20000 in
theorem ggX6_addAll_X6_putBack : GoodIn wsX6_addAll wsX6_putBack := goodIn_r _ [67, 35, 4, 74, 75, 76, 77, 78, 79, 80, 81, 82, 83, 84, 85, 86, 87, 88, 89, 90] (by decide +kernel) (by decide +kernel)
set_option maxRecDepth 20000 in
theorem gX6_addAll_X6_putBack : GoodIn wsX6_addAll (wsV RX6 187 RX6 yX6_putBack wsX6_putBack) := goodIn_app (goodIn_of _ (by decide +kernel)) ggX6_addAll_X6_putBack
set_option maxRecDepth 20000 in
theorem ggX6_addAll_X6_push : GoodIn wsX6_addAll wsX6_push := goodIn_r _ [71, 72, 73, 74, 75, 76, 77, 78, 79, 80, 81, 82, 83, 84, 85, 86, 87, 88, 89, 90] (by decide +kernel) (by decide +kernel)
set_option maxRecDepth 20000 in
theorem gX6_addAll_X6_push : GoodIn wsX6_addAll (wsV RX6 110 RX6 yX6_push wsX6_push) := goodIn_app (goodIn_of _ (by decide +kernel)) ggX6_addAll_X6_push
theorem dX6_addAll_0 : decode cX6_addAll 0 = .ok (.aload_n 0, 1) := by decide +kernel
theorem dX6_addAll_1 : decode cX6_addAll 1 = .ok (.invokevirtual 181, 3) := by decide +kernel
theorem dX6_addAll_4 : decode cX6_addAll 4 = .ok (.istore_n 1, 1) := by decide +kernel
theorem dX6_addAll_5 : decode cX6_addAll 5 = .ok (.iload_n 1, 1) := by decide +kernel
theorem dX6_addAll_6 : decode cX6_addAll 6 = .ok (.ifCond .lt 8, 3) := by decide +kernel
theorem dX6_addAll_9 : decode cX6_addAll 9 = .ok (.bipush (-100), 2) := by decide +kernel
theorem dX6_addAll_11 : decode cX6_addAll 11 = .ok (.iload_n 1, 1) := by decide +kernel
theorem dX6_addAll_12 : decode cX6_addAll 12 = .ok (.isub, 1) := by decide +kernel
theorem dX6_addAll_13 : decode cX6_addAll 13 = .ok (.ireturn, 1) := by decide +kernel
theorem dX6_addAll_14 : decode cX6_addAll 14 = .ok (.aload_n 0, 1) := by decide +kernel
theorem dX6_addAll_15 : decode cX6_addAll 15 = .ok (.invokevirtual 184, 3) := by decide +kernel
theorem dX6_addAll_18 : decode cX6_addAll 18 = .ok (.iconst 0, 1) := by decide +kernel
theorem dX6_addAll_19 : decode cX6_addAll 19 = .ok (.istore_n 2, 1) := by decide +kernel
theorem dX6_addAll_20 : decode cX6_addAll 20 = .ok (.iconst 0, 1) := by decide +kernel
theorem dX6_addAll_21 : decode cX6_addAll 21 = .ok (.istore_n 3, 1) := by decide +kernel
theorem dX6_addAll_22 : decode cX6_addAll 22 = .ok (.aload_n 0, 1) := by decide +kernel
theorem dX6_addAll_23 : decode cX6_addAll 23 = .ok (.iconst 0, 1) := by decide +kernel
theorem dX6_addAll_24 : decode cX6_addAll 24 = .ok (.putfield 162, 3) := by decide +kernel
theorem dX6_addAll_27 : decode cX6_addAll 27 = .ok (.aload_n 0, 1) := by decide +kernel
theorem dX6_addAll_28 : decode cX6_addAll 28 = .ok (.getfield 162, 3) := by decide +kernel
theorem dX6_addAll_31 : decode cX6_addAll 31 = .ok (.aload_n 0, 1) := by decide +kernel
theorem dX6_addAll_32 : decode cX6_addAll 32 = .ok (.getfield 159, 3) := by decide +kernel
theorem dX6_addAll_35 : decode cX6_addAll 35 = .ok (.if_icmp .ge 113, 3) := by decide +kernel
theorem dX6_addAll_38 : decode cX6_addAll 38 = .ok (.iload_n 3, 1) := by decide +kernel
theorem dX6_addAll_39 : decode cX6_addAll 39 = .ok (.ifCond .ne 109, 3) := by decide +kernel
theorem dX6_addAll_42 : decode cX6_addAll 42 = .ok (.aload_n 0, 1) := by decide +kernel
theorem dX6_addAll_43 : decode cX6_addAll 43 = .ok (.invokevirtual 178, 3) := by decide +kernel
theorem dX6_addAll_46 : decode cX6_addAll 46 = .ok (.aload_n 0, 1) := by decide +kernel
theorem dX6_addAll_47 : decode cX6_addAll 47 = .ok (.dup, 1) := by decide +kernel
theorem dX6_addAll_48 : decode cX6_addAll 48 = .ok (.getfield 162, 3) := by decide +kernel
theorem dX6_addAll_51 : decode cX6_addAll 51 = .ok (.iconst 1, 1) := by decide +kernel
theorem dX6_addAll_52 : decode cX6_addAll 52 = .ok (.iadd, 1) := by decide +kernel
theorem dX6_addAll_53 : decode cX6_addAll 53 = .ok (.putfield 162, 3) := by decide +kernel
theorem dX6_addAll_56 : decode cX6_addAll 56 = .ok (.aload_n 0, 1) := by decide +kernel
theorem dX6_addAll_57 : decode cX6_addAll 57 = .ok (.aload_n 0, 1) := by decide +kernel
theorem dX6_addAll_58 : decode cX6_addAll 58 = .ok (.getfield 40, 3) := by decide +kernel
theorem dX6_addAll_61 : decode cX6_addAll 61 = .ok (.iconst 0, 1) := by decide +kernel
theorem dX6_addAll_62 : decode cX6_addAll 62 = .ok (.iaload, 1) := by decide +kernel
theorem dX6_addAll_63 : decode cX6_addAll 63 = .ok (.aload_n 0, 1) := by decide +kernel
theorem dX6_addAll_64 : decode cX6_addAll 64 = .ok (.getfield 40, 3) := by decide +kernel
theorem dX6_addAll_67 : decode cX6_addAll 67 = .ok (.iconst 1, 1) := by decide +kernel
theorem dX6_addAll_68 : decode cX6_addAll 68 = .ok (.iaload, 1) := by decide +kernel
theorem dX6_addAll_69 : decode cX6_addAll 69 = .ok (.aload_n 0, 1) := by decide +kernel
theorem dX6_addAll_70 : decode cX6_addAll 70 = .ok (.getfield 40, 3) := by decide +kernel
theorem dX6_addAll_73 : decode cX6_addAll 73 = .ok (.iconst 2, 1) := by decide +kernel
theorem dX6_addAll_74 : decode cX6_addAll 74 = .ok (.iaload, 1) := by decide +kernel
theorem dX6_addAll_75 : decode cX6_addAll 75 = .ok (.aload_n 0, 1) := by decide +kernel
theorem dX6_addAll_76 : decode cX6_addAll 76 = .ok (.getfield 40, 3) := by decide +kernel
theorem dX6_addAll_79 : decode cX6_addAll 79 = .ok (.iconst 3, 1) := by decide +kernel
theorem dX6_addAll_80 : decode cX6_addAll 80 = .ok (.iaload, 1) := by decide +kernel
theorem dX6_addAll_81 : decode cX6_addAll 81 = .ok (.aload_n 0, 1) := by decide +kernel
theorem dX6_addAll_82 : decode cX6_addAll 82 = .ok (.getfield 40, 3) := by decide +kernel
theorem dX6_addAll_85 : decode cX6_addAll 85 = .ok (.iconst 4, 1) := by decide +kernel
theorem dX6_addAll_86 : decode cX6_addAll 86 = .ok (.iaload, 1) := by decide +kernel
theorem dX6_addAll_87 : decode cX6_addAll 87 = .ok (.aload_n 0, 1) := by decide +kernel
theorem dX6_addAll_88 : decode cX6_addAll 88 = .ok (.getfield 40, 3) := by decide +kernel
theorem dX6_addAll_91 : decode cX6_addAll 91 = .ok (.iconst 5, 1) := by decide +kernel
theorem dX6_addAll_92 : decode cX6_addAll 92 = .ok (.iaload, 1) := by decide +kernel
theorem dX6_addAll_93 : decode cX6_addAll 93 = .ok (.invokevirtual 118, 3) := by decide +kernel
theorem dX6_addAll_96 : decode cX6_addAll 96 = .ok (.istore_n 3, 1) := by decide +kernel
theorem dX6_addAll_97 : decode cX6_addAll 97 = .ok (.iload_n 3, 1) := by decide +kernel
theorem dX6_addAll_98 : decode cX6_addAll 98 = .ok (.ifCond .ne (-71), 3) := by decide +kernel
theorem dX6_addAll_101 : decode cX6_addAll 101 = .ok (.aload_n 0, 1) := by decide +kernel
theorem dX6_addAll_102 : decode cX6_addAll 102 = .ok (.aload_n 0, 1) := by decide +kernel
theorem dX6_addAll_103 : decode cX6_addAll 103 = .ok (.getfield 40, 3) := by decide +kernel
theorem dX6_addAll_106 : decode cX6_addAll 106 = .ok (.iconst 0, 1) := by decide +kernel
theorem dX6_addAll_107 : decode cX6_addAll 107 = .ok (.iaload, 1) := by decide +kernel
theorem dX6_addAll_108 : decode cX6_addAll 108 = .ok (.aload_n 0, 1) := by decide +kernel
theorem dX6_addAll_109 : decode cX6_addAll 109 = .ok (.getfield 40, 3) := by decide +kernel
theorem dX6_addAll_112 : decode cX6_addAll 112 = .ok (.iconst 1, 1) := by decide +kernel
theorem dX6_addAll_113 : decode cX6_addAll 113 = .ok (.iaload, 1) := by decide +kernel
theorem dX6_addAll_114 : decode cX6_addAll 114 = .ok (.aload_n 0, 1) := by decide +kernel
theorem dX6_addAll_115 : decode cX6_addAll 115 = .ok (.getfield 40, 3) := by decide +kernel
theorem dX6_addAll_118 : decode cX6_addAll 118 = .ok (.iconst 2, 1) := by decide +kernel
theorem dX6_addAll_119 : decode cX6_addAll 119 = .ok (.iaload, 1) := by decide +kernel
theorem dX6_addAll_120 : decode cX6_addAll 120 = .ok (.aload_n 0, 1) := by decide +kernel
theorem dX6_addAll_121 : decode cX6_addAll 121 = .ok (.getfield 40, 3) := by decide +kernel
theorem dX6_addAll_124 : decode cX6_addAll 124 = .ok (.iconst 3, 1) := by decide +kernel
theorem dX6_addAll_125 : decode cX6_addAll 125 = .ok (.iaload, 1) := by decide +kernel
theorem dX6_addAll_126 : decode cX6_addAll 126 = .ok (.aload_n 0, 1) := by decide +kernel
theorem dX6_addAll_127 : decode cX6_addAll 127 = .ok (.getfield 40, 3) := by decide +kernel
theorem dX6_addAll_130 : decode cX6_addAll 130 = .ok (.iconst 4, 1) := by decide +kernel
theorem dX6_addAll_131 : decode cX6_addAll 131 = .ok (.iaload, 1) := by decide +kernel
theorem dX6_addAll_132 : decode cX6_addAll 132 = .ok (.aload_n 0, 1) := by decide +kernel
theorem dX6_addAll_133 : decode cX6_addAll 133 = .ok (.getfield 40, 3) := by decide +kernel
theorem dX6_addAll_136 : decode cX6_addAll 136 = .ok (.iconst 5, 1) := by decide +kernel
theorem dX6_addAll_137 : decode cX6_addAll 137 = .ok (.iaload, 1) := by decide +kernel
theorem dX6_addAll_138 : decode cX6_addAll 138 = .ok (.invokevirtual 122, 3) := by decide +kernel
theorem dX6_addAll_141 : decode cX6_addAll 141 = .ok (.pop, 1) := by decide +kernel
theorem dX6_addAll_142 : decode cX6_addAll 142 = .ok (.iinc 2 1, 3) := by decide +kernel
theorem dX6_addAll_145 : decode cX6_addAll 145 = .ok (.goto (-118), 3) := by decide +kernel
theorem dX6_addAll_148 : decode cX6_addAll 148 = .ok (.iload_n 3, 1) := by decide +kernel
theorem dX6_addAll_149 : decode cX6_addAll 149 = .ok (.ifCond .ge 9, 3) := by decide +kernel
theorem dX6_addAll_152 : decode cX6_addAll 152 = .ok (.aload_n 0, 1) := by decide +kernel
theorem dX6_addAll_153 : decode cX6_addAll 153 = .ok (.invokevirtual 187, 3) := by decide +kernel
theorem dX6_addAll_156 : decode cX6_addAll 156 = .ok (.iload_n 3, 1) := by decide +kernel
theorem dX6_addAll_157 : decode cX6_addAll 157 = .ok (.ireturn, 1) := by decide +kernel
theorem dX6_addAll_158 : decode cX6_addAll 158 = .ok (.aload_n 0, 1) := by decide +kernel
theorem dX6_addAll_159 : decode cX6_addAll 159 = .ok (.aload_n 0, 1) := by decide +kernel
theorem dX6_addAll_160 : decode cX6_addAll 160 = .ok (.getfield 13, 3) := by decide +kernel
theorem dX6_addAll_163 : decode cX6_addAll 163 = .ok (.invokevirtual 110, 3) := by decide +kernel
theorem dX6_addAll_166 : decode cX6_addAll 166 = .ok (.iload_n 2, 1) := by decide +kernel
theorem dX6_addAll_167 : decode cX6_addAll 167 = .ok (.ireturn, 1) := by decide +kernel
set_option maxRecDepth 20000 in
theorem ggX6_box_X6_of : GoodIn wsX6_box wsX6_of := goodIn_r _ [6, 1, 7, 8, 9, 10, 11, 12, 13, 14, 15, 16, 17, 18, 19, 20, 21, 22, 23] (by decide +kernel) (by decide +kernel)
set_option maxRecDepth 20000 in
theorem gX6_box_X6_of : GoodIn wsX6_box (wsV RX6 43 RX6 yX6_of wsX6_of) := goodIn_app (goodIn_of _ (by decide +kernel)) ggX6_box_X6_of
theorem dX6_box_0 : decode cX6_box 0 = .ok (.iload_n 1, 1) := by decide +kernel
theorem dX6_box_1 : decode cX6_box 1 = .ok (.ifCond .ge 6, 3) := by decide +kernel
theorem dX6_box_4 : decode cX6_box 4 = .ok (.bipush (-2), 2) := by decide +kernel
theorem dX6_box_6 : decode cX6_box 6 = .ok (.ireturn, 1) := by decide +kernel
theorem dX6_box_7 : decode cX6_box 7 = .ok (.iload_n 1, 1) := by decide +kernel
theorem dX6_box_8 : decode cX6_box 8 = .ok (.aload_n 0, 1) := by decide +kernel
theorem dX6_box_9 : decode cX6_box 9 = .ok (.getfield 7, 3) := by decide +kernel
theorem dX6_box_12 : decode cX6_box 12 = .ok (.iconst 0, 1) := by decide +kernel
theorem dX6_box_13 : decode cX6_box 13 = .ok (.iaload, 1) := by decide +kernel
theorem dX6_box_14 : decode cX6_box 14 = .ok (.if_icmp .ge 12, 3) := by decide +kernel
theorem dX6_box_17 : decode cX6_box 17 = .ok (.aload_n 0, 1) := by decide +kernel
theorem dX6_box_18 : decode cX6_box 18 = .ok (.iload_n 1, 1) := by decide +kernel
theorem dX6_box_19 : decode cX6_box 19 = .ok (.iconst 0, 1) := by decide +kernel
theorem dX6_box_20 : decode cX6_box 20 = .ok (.invokevirtual 43, 3) := by decide +kernel
theorem dX6_box_23 : decode cX6_box 23 = .ok (.goto 5, 3) := by decide +kernel
theorem dX6_box_26 : decode cX6_box 26 = .ok (.bipush (-5), 2) := by decide +kernel
theorem dX6_box_28 : decode cX6_box 28 = .ok (.ireturn, 1) := by decide +kernel
set_option maxRecDepth 20000 in
theorem ggX6_end_X6_rankOf : GoodIn wsX6_end wsX6_rankOf := goodIn_r _ [5, 6, 7, 8, 9, 4, 10, 29, 30, 31, 32, 33, 34, 35, 36, 37, 38, 39, 40, 41, 42, 43, 44, 45] (by decide +kernel) (by decide +kernel)
set_option maxRecDepth 20000 in
theorem gX6_end_X6_rankOf : GoodIn wsX6_end (wsV RX6 125 RX6 yX6_rankOf wsX6_rankOf) := goodIn_app (goodIn_of _ (by decide +kernel)) ggX6_end_X6_rankOf
set_option maxRecDepth 20000 in
theorem ggX6_end_X6_isDirection : GoodIn wsX6_end wsX6_isDirection := goodIn_r _ [13, 14, 15, 4, 16] (by decide +kernel) (by decide +kernel)
set_option maxRecDepth 20000 in
theorem gX6_end_X6_isDirection : GoodIn wsX6_end (va_wsS RX6 128 yX6_isDirection wsX6_isDirection) := goodIn_app (goodIn_of _ (by decide +kernel)) ggX6_end_X6_isDirection
set_option maxRecDepth 20000 in
theorem ggX6_end_X6_high : GoodIn wsX6_end wsX6_high := goodIn_r _ [20, 21, 22, 23, 4, 24, 7, 8, 9, 10, 6, 25, 26, 27, 28, 29, 30, 31, 32, 33, 34, 35, 36, 37, 38, 39, 40, 41, 42, 43, 44, 45] (by decide +kernel) (by decide +kernel)
set_option maxRecDepth 20000 in
theorem gX6_end_X6_high : GoodIn wsX6_end (wsV RX6 57 RX6 yX6_high wsX6_high) := goodIn_app (goodIn_of _ (by decide +kernel)) ggX6_end_X6_high
set_option maxRecDepth 20000 in
theorem ggX6_end_X6_low : GoodIn wsX6_end wsX6_low := goodIn_r _ [24, 7, 8, 9, 4, 10, 6, 29, 30, 31, 32, 33, 34, 35, 36, 37, 38, 39, 40, 41, 42, 43, 44, 45] (by decide +kernel) (by decide +kernel)
set_option maxRecDepth 20000 in
theorem gX6_end_X6_low : GoodIn wsX6_end (wsV RX6 47 RX6 yX6_low wsX6_low) := goodIn_app (goodIn_of _ (by decide +kernel)) ggX6_end_X6_low
theorem dX6_end_0 : decode cX6_end 0 = .ok (.aload_n 0, 1) := by decide +kernel
theorem dX6_end_1 : decode cX6_end 1 = .ok (.iload_n 1, 1) := by decide +kernel
theorem dX6_end_2 : decode cX6_end 2 = .ok (.invokevirtual 125, 3) := by decide +kernel
theorem dX6_end_5 : decode cX6_end 5 = .ok (.istore 4, 2) := by decide +kernel
theorem dX6_end_7 : decode cX6_end 7 = .ok (.iload 4, 2) := by decide +kernel
theorem dX6_end_9 : decode cX6_end 9 = .ok (.ifCond .lt 10, 3) := by decide +kernel
theorem dX6_end_12 : decode cX6_end 12 = .ok (.iload_n 2, 1) := by decide +kernel
theorem dX6_end_13 : decode cX6_end 13 = .ok (.invokestatic 128, 3) := by decide +kernel
theorem dX6_end_16 : decode cX6_end 16 = .ok (.ifCond .ne 5, 3) := by decide +kernel
theorem dX6_end_19 : decode cX6_end 19 = .ok (.iconst (-1), 1) := by decide +kernel
theorem dX6_end_20 : decode cX6_end 20 = .ok (.ireturn, 1) := by decide +kernel
theorem dX6_end_21 : decode cX6_end 21 = .ok (.iload_n 3, 1) := by decide +kernel
theorem dX6_end_22 : decode cX6_end 22 = .ok (.ifCond .eq 13, 3) := by decide +kernel
theorem dX6_end_25 : decode cX6_end 25 = .ok (.aload_n 0, 1) := by decide +kernel
theorem dX6_end_26 : decode cX6_end 26 = .ok (.iload 4, 2) := by decide +kernel
theorem dX6_end_28 : decode cX6_end 28 = .ok (.iload_n 2, 1) := by decide +kernel
theorem dX6_end_29 : decode cX6_end 29 = .ok (.invokevirtual 57, 3) := by decide +kernel
theorem dX6_end_32 : decode cX6_end 32 = .ok (.goto 10, 3) := by decide +kernel
theorem dX6_end_35 : decode cX6_end 35 = .ok (.aload_n 0, 1) := by decide +kernel
theorem dX6_end_36 : decode cX6_end 36 = .ok (.iload 4, 2) := by decide +kernel
theorem dX6_end_38 : decode cX6_end 38 = .ok (.iload_n 2, 1) := by decide +kernel
theorem dX6_end_39 : decode cX6_end 39 = .ok (.invokevirtual 47, 3) := by decide +kernel
theorem dX6_end_42 : decode cX6_end 42 = .ok (.ireturn, 1) := by decide +kernel
set_option maxRecDepth 20000 in
theorem ggX6_hiders_X6_has : GoodIn wsX6_hiders wsX6_has := goodIn_r _ [6] (by decide +kernel) (by decide +kernel)
set_option maxRecDepth 20000 in
theorem gX6_hiders_X6_has : GoodIn wsX6_hiders (va_wsS RX6 75 yX6_has wsX6_has) := goodIn_app (goodIn_of _ (by decide +kernel)) ggX6_hiders_X6_has
theorem dX6_hiders_0 : decode cX6_hiders 0 = .ok (.iconst 0, 1) := by decide +kernel
theorem dX6_hiders_1 : decode cX6_hiders 1 = .ok (.istore_n 2, 1) := by decide +kernel
theorem dX6_hiders_2 : decode cX6_hiders 2 = .ok (.iconst 0, 1) := by decide +kernel
theorem dX6_hiders_3 : decode cX6_hiders 3 = .ok (.istore_n 3, 1) := by decide +kernel
theorem dX6_hiders_4 : decode cX6_hiders 4 = .ok (.iload_n 3, 1) := by decide +kernel
theorem dX6_hiders_5 : decode cX6_hiders 5 = .ok (.aload_n 0, 1) := by decide +kernel
theorem dX6_hiders_6 : decode cX6_hiders 6 = .ok (.getfield 7, 3) := by decide +kernel
theorem dX6_hiders_9 : decode cX6_hiders 9 = .ok (.iconst 0, 1) := by decide +kernel
theorem dX6_hiders_10 : decode cX6_hiders 10 = .ok (.iaload, 1) := by decide +kernel
theorem dX6_hiders_11 : decode cX6_hiders 11 = .ok (.if_icmp .ge 30, 3) := by decide +kernel
theorem dX6_hiders_14 : decode cX6_hiders 14 = .ok (.iload_n 2, 1) := by decide +kernel
theorem dX6_hiders_15 : decode cX6_hiders 15 = .ok (.aload_n 0, 1) := by decide +kernel
theorem dX6_hiders_16 : decode cX6_hiders 16 = .ok (.getfield 25, 3) := by decide +kernel
theorem dX6_hiders_19 : decode cX6_hiders 19 = .ok (.iload_n 3, 1) := by decide +kernel
theorem dX6_hiders_20 : decode cX6_hiders 20 = .ok (.iaload, 1) := by decide +kernel
theorem dX6_hiders_21 : decode cX6_hiders 21 = .ok (.iload_n 1, 1) := by decide +kernel
theorem dX6_hiders_22 : decode cX6_hiders 22 = .ok (.invokestatic 75, 3) := by decide +kernel
theorem dX6_hiders_25 : decode cX6_hiders 25 = .ok (.ifCond .eq 7, 3) := by decide +kernel
theorem dX6_hiders_28 : decode cX6_hiders 28 = .ok (.iconst 1, 1) := by decide +kernel
theorem dX6_hiders_29 : decode cX6_hiders 29 = .ok (.goto 4, 3) := by decide +kernel
theorem dX6_hiders_32 : decode cX6_hiders 32 = .ok (.iconst 0, 1) := by decide +kernel
theorem dX6_hiders_33 : decode cX6_hiders 33 = .ok (.iadd, 1) := by decide +kernel
theorem dX6_hiders_34 : decode cX6_hiders 34 = .ok (.istore_n 2, 1) := by decide +kernel
theorem dX6_hiders_35 : decode cX6_hiders 35 = .ok (.iinc 3 1, 3) := by decide +kernel
theorem dX6_hiders_38 : decode cX6_hiders 38 = .ok (.goto (-34), 3) := by decide +kernel
theorem dX6_hiders_41 : decode cX6_hiders 41 = .ok (.iload_n 2, 1) := by decide +kernel
theorem dX6_hiders_42 : decode cX6_hiders 42 = .ok (.ireturn, 1) := by decide +kernel
set_option maxRecDepth 20000 in
theorem ggX6_boxesBelow_X6_isBelow : GoodIn wsX6_boxesBelow wsX6_isBelow := goodIn_r _ [6, 7, 8, 9, 5, 10, 11, 12, 13, 14, 15, 16, 17, 18, 1, 19, 20, 21, 22, 23, 24, 25, 26, 27, 28, 29, 30, 31, 32, 33, 34, 35, 36, 37, 38, 39, 40, 41, 42, 43] (by decide +kernel) (by decide +kernel)
set_option maxRecDepth 20000 in
theorem gX6_boxesBelow_X6_isBelow : GoodIn wsX6_boxesBelow (wsV RX6 134 RX6 yX6_isBelow wsX6_isBelow) := goodIn_app (goodIn_of _ (by decide +kernel)) ggX6_boxesBelow_X6_isBelow
set_option maxRecDepth 20000 in
theorem ggX6_boxesBelow_X6_high : GoodIn wsX6_boxesBelow wsX6_high := goodIn_r _ [22, 11, 12, 13, 5, 14, 15, 16, 17, 18, 1, 23, 24, 25, 26, 27, 28, 29, 30, 31, 32, 33, 34, 35, 36, 37, 38, 39, 40, 41, 42, 43] (by decide +kernel) (by decide +kernel)
set_option maxRecDepth 20000 in
theorem gX6_boxesBelow_X6_high : GoodIn wsX6_boxesBelow (wsV RX6 57 RX6 yX6_high wsX6_high) := goodIn_app (goodIn_of _ (by decide +kernel)) ggX6_boxesBelow_X6_high
set_option maxRecDepth 20000 in
theorem ggX6_boxesBelow_X6_low : GoodIn wsX6_boxesBelow wsX6_low := goodIn_r _ [14, 15, 16, 17, 5, 18, 1, 27, 28, 29, 30, 31, 32, 33, 34, 35, 36, 37, 38, 39, 40, 41, 42, 43] (by decide +kernel) (by decide +kernel)
set_option maxRecDepth 20000 in
theorem gX6_boxesBelow_X6_low : GoodIn wsX6_boxesBelow (wsV RX6 47 RX6 yX6_low wsX6_low) := goodIn_app (goodIn_of _ (by decide +kernel)) ggX6_boxesBelow_X6_low
theorem dX6_boxesBelow_0 : decode cX6_boxesBelow 0 = .ok (.iconst 0, 1) := by decide +kernel
theorem dX6_boxesBelow_1 : decode cX6_boxesBelow 1 = .ok (.istore_n 3, 1) := by decide +kernel
theorem dX6_boxesBelow_2 : decode cX6_boxesBelow 2 = .ok (.iconst 0, 1) := by decide +kernel
theorem dX6_boxesBelow_3 : decode cX6_boxesBelow 3 = .ok (.istore 4, 2) := by decide +kernel
theorem dX6_boxesBelow_5 : decode cX6_boxesBelow 5 = .ok (.iload 4, 2) := by decide +kernel
theorem dX6_boxesBelow_7 : decode cX6_boxesBelow 7 = .ok (.aload_n 0, 1) := by decide +kernel
theorem dX6_boxesBelow_8 : decode cX6_boxesBelow 8 = .ok (.getfield 7, 3) := by decide +kernel
theorem dX6_boxesBelow_11 : decode cX6_boxesBelow 11 = .ok (.iconst 0, 1) := by decide +kernel
theorem dX6_boxesBelow_12 : decode cX6_boxesBelow 12 = .ok (.iaload, 1) := by decide +kernel
theorem dX6_boxesBelow_13 : decode cX6_boxesBelow 13 = .ok (.if_icmp .ge 47, 3) := by decide +kernel
theorem dX6_boxesBelow_16 : decode cX6_boxesBelow 16 = .ok (.iload_n 3, 1) := by decide +kernel
theorem dX6_boxesBelow_17 : decode cX6_boxesBelow 17 = .ok (.aload_n 0, 1) := by decide +kernel
theorem dX6_boxesBelow_18 : decode cX6_boxesBelow 18 = .ok (.iload 4, 2) := by decide +kernel
theorem dX6_boxesBelow_20 : decode cX6_boxesBelow 20 = .ok (.iload_n 1, 1) := by decide +kernel
theorem dX6_boxesBelow_21 : decode cX6_boxesBelow 21 = .ok (.invokevirtual 134, 3) := by decide +kernel
theorem dX6_boxesBelow_24 : decode cX6_boxesBelow 24 = .ok (.ifCond .eq 27, 3) := by decide +kernel
theorem dX6_boxesBelow_27 : decode cX6_boxesBelow 27 = .ok (.iload_n 2, 1) := by decide +kernel
theorem dX6_boxesBelow_28 : decode cX6_boxesBelow 28 = .ok (.ifCond .eq 19, 3) := by decide +kernel
theorem dX6_boxesBelow_31 : decode cX6_boxesBelow 31 = .ok (.aload_n 0, 1) := by decide +kernel
theorem dX6_boxesBelow_32 : decode cX6_boxesBelow 32 = .ok (.iload 4, 2) := by decide +kernel
theorem dX6_boxesBelow_34 : decode cX6_boxesBelow 34 = .ok (.iconst 2, 1) := by decide +kernel
theorem dX6_boxesBelow_35 : decode cX6_boxesBelow 35 = .ok (.invokevirtual 57, 3) := by decide +kernel
theorem dX6_boxesBelow_38 : decode cX6_boxesBelow 38 = .ok (.aload_n 0, 1) := by decide +kernel
theorem dX6_boxesBelow_39 : decode cX6_boxesBelow 39 = .ok (.iload_n 1, 1) := by decide +kernel
theorem dX6_boxesBelow_40 : decode cX6_boxesBelow 40 = .ok (.iconst 2, 1) := by decide +kernel
theorem dX6_boxesBelow_41 : decode cX6_boxesBelow 41 = .ok (.invokevirtual 47, 3) := by decide +kernel
theorem dX6_boxesBelow_44 : decode cX6_boxesBelow 44 = .ok (.if_icmp .ne 7, 3) := by decide +kernel
theorem dX6_boxesBelow_47 : decode cX6_boxesBelow 47 = .ok (.iconst 1, 1) := by decide +kernel
theorem dX6_boxesBelow_48 : decode cX6_boxesBelow 48 = .ok (.goto 4, 3) := by decide +kernel
theorem dX6_boxesBelow_51 : decode cX6_boxesBelow 51 = .ok (.iconst 0, 1) := by decide +kernel
theorem dX6_boxesBelow_52 : decode cX6_boxesBelow 52 = .ok (.iadd, 1) := by decide +kernel
theorem dX6_boxesBelow_53 : decode cX6_boxesBelow 53 = .ok (.istore_n 3, 1) := by decide +kernel
theorem dX6_boxesBelow_54 : decode cX6_boxesBelow 54 = .ok (.iinc 4 1, 3) := by decide +kernel
theorem dX6_boxesBelow_57 : decode cX6_boxesBelow 57 = .ok (.goto (-52), 3) := by decide +kernel
theorem dX6_boxesBelow_60 : decode cX6_boxesBelow 60 = .ok (.iload_n 3, 1) := by decide +kernel
theorem dX6_boxesBelow_61 : decode cX6_boxesBelow 61 = .ok (.ireturn, 1) := by decide +kernel
set_option maxRecDepth 20000 in
theorem ggX6_covers_X6_low : GoodIn wsX6_covers wsX6_low := goodIn_r _ [5, 6, 7, 8, 4, 9, 10, 22, 23, 24, 25, 26, 27, 28, 29, 30, 31, 32, 33, 34, 35, 36, 37, 38] (by decide +kernel) (by decide +kernel)
set_option maxRecDepth 20000 in
theorem gX6_covers_X6_low : GoodIn wsX6_covers (wsV RX6 47 RX6 yX6_low wsX6_low) := goodIn_app (goodIn_of _ (by decide +kernel)) ggX6_covers_X6_low
set_option maxRecDepth 20000 in
theorem ggX6_covers_X6_high : GoodIn wsX6_covers wsX6_high := goodIn_r _ [14, 1, 2, 3, 4, 5, 6, 7, 8, 9, 10, 15, 16, 17, 18, 22, 23, 24, 25, 26, 27, 28, 29, 30, 31, 32, 33, 34, 35, 36, 37, 38] (by decide +kernel) (by decide +kernel)
set_option maxRecDepth 20000 in
theorem gX6_covers_X6_high : GoodIn wsX6_covers (wsV RX6 57 RX6 yX6_high wsX6_high) := goodIn_app (goodIn_of _ (by decide +kernel)) ggX6_covers_X6_high
set_option maxRecDepth 20000 in
theorem ggX6_covers_X6_in : GoodIn wsX6_covers wsX6_in := goodIn_r _ [21] (by decide +kernel) (by decide +kernel)
set_option maxRecDepth 20000 in
theorem gX6_covers_X6_in : GoodIn wsX6_covers (va_wsS RX6 53 yX6_in wsX6_in) := goodIn_app (goodIn_of _ (by decide +kernel)) ggX6_covers_X6_in
theorem dX6_covers_0 : decode cX6_covers 0 = .ok (.iload_n 2, 1) := by decide +kernel
theorem dX6_covers_1 : decode cX6_covers 1 = .ok (.i2l, 1) := by decide +kernel
theorem dX6_covers_2 : decode cX6_covers 2 = .ok (.aload_n 0, 1) := by decide +kernel
theorem dX6_covers_3 : decode cX6_covers 3 = .ok (.iload_n 1, 1) := by decide +kernel
theorem dX6_covers_4 : decode cX6_covers 4 = .ok (.iconst 0, 1) := by decide +kernel
theorem dX6_covers_5 : decode cX6_covers 5 = .ok (.invokevirtual 47, 3) := by decide +kernel
theorem dX6_covers_8 : decode cX6_covers 8 = .ok (.aload_n 0, 1) := by decide +kernel
theorem dX6_covers_9 : decode cX6_covers 9 = .ok (.iload_n 1, 1) := by decide +kernel
theorem dX6_covers_10 : decode cX6_covers 10 = .ok (.iconst 0, 1) := by decide +kernel
theorem dX6_covers_11 : decode cX6_covers 11 = .ok (.invokevirtual 57, 3) := by decide +kernel
theorem dX6_covers_14 : decode cX6_covers 14 = .ok (.iconst 1, 1) := by decide +kernel
theorem dX6_covers_15 : decode cX6_covers 15 = .ok (.isub, 1) := by decide +kernel
theorem dX6_covers_16 : decode cX6_covers 16 = .ok (.invokestatic 53, 3) := by decide +kernel
theorem dX6_covers_19 : decode cX6_covers 19 = .ok (.ifCond .eq 29, 3) := by decide +kernel
theorem dX6_covers_22 : decode cX6_covers 22 = .ok (.iload_n 3, 1) := by decide +kernel
theorem dX6_covers_23 : decode cX6_covers 23 = .ok (.i2l, 1) := by decide +kernel
theorem dX6_covers_24 : decode cX6_covers 24 = .ok (.aload_n 0, 1) := by decide +kernel
theorem dX6_covers_25 : decode cX6_covers 25 = .ok (.iload_n 1, 1) := by decide +kernel
theorem dX6_covers_26 : decode cX6_covers 26 = .ok (.iconst 1, 1) := by decide +kernel
theorem dX6_covers_27 : decode cX6_covers 27 = .ok (.invokevirtual 47, 3) := by decide +kernel
theorem dX6_covers_30 : decode cX6_covers 30 = .ok (.aload_n 0, 1) := by decide +kernel
theorem dX6_covers_31 : decode cX6_covers 31 = .ok (.iload_n 1, 1) := by decide +kernel
theorem dX6_covers_32 : decode cX6_covers 32 = .ok (.iconst 1, 1) := by decide +kernel
theorem dX6_covers_33 : decode cX6_covers 33 = .ok (.invokevirtual 57, 3) := by decide +kernel
theorem dX6_covers_36 : decode cX6_covers 36 = .ok (.iconst 1, 1) := by decide +kernel
theorem dX6_covers_37 : decode cX6_covers 37 = .ok (.isub, 1) := by decide +kernel
theorem dX6_covers_38 : decode cX6_covers 38 = .ok (.invokestatic 53, 3) := by decide +kernel
theorem dX6_covers_41 : decode cX6_covers 41 = .ok (.ifCond .eq 7, 3) := by decide +kernel
theorem dX6_covers_44 : decode cX6_covers 44 = .ok (.iconst 1, 1) := by decide +kernel
theorem dX6_covers_45 : decode cX6_covers 45 = .ok (.goto 4, 3) := by decide +kernel
theorem dX6_covers_48 : decode cX6_covers 48 = .ok (.iconst 0, 1) := by decide +kernel
theorem dX6_covers_49 : decode cX6_covers 49 = .ok (.ireturn, 1) := by decide +kernel
set_option maxRecDepth 20000 in
theorem ggX6_shadows_X6_low : GoodIn wsX6_shadows wsX6_low := goodIn_r _ [6, 7, 8, 9, 5, 10, 1, 34, 35, 36, 37, 38, 39, 40, 41, 42, 43, 44, 45, 46, 47, 48, 49, 50] (by decide +kernel) (by decide +kernel)
set_option maxRecDepth 20000 in
theorem gX6_shadows_X6_low : GoodIn wsX6_shadows (wsV RX6 47 RX6 yX6_low wsX6_low) := goodIn_app (goodIn_of _ (by decide +kernel)) ggX6_shadows_X6_low
set_option maxRecDepth 20000 in
theorem ggX6_shadows_X6_high : GoodIn wsX6_shadows wsX6_high := goodIn_r _ [14, 2, 3, 4, 5, 6, 7, 8, 9, 10, 1, 15, 16, 17, 18, 34, 35, 36, 37, 38, 39, 40, 41, 42, 43, 44, 45, 46, 47, 48, 49, 50] (by decide +kernel) (by decide +kernel)
set_option maxRecDepth 20000 in
theorem gX6_shadows_X6_high : GoodIn wsX6_shadows (wsV RX6 57 RX6 yX6_high wsX6_high) := goodIn_app (goodIn_of _ (by decide +kernel)) ggX6_shadows_X6_high
set_option maxRecDepth 20000 in
theorem ggX6_shadows_X6_isBelow : GoodIn wsX6_shadows wsX6_isBelow := goodIn_r _ [22, 23, 24, 25, 5, 26, 2, 3, 4, 6, 7, 8, 9, 10, 1, 11, 12, 13, 14, 15, 16, 17, 18, 34, 35, 36, 37, 38, 39, 40, 41, 42, 43, 44, 45, 46, 47, 48, 49, 50] (by decide +kernel) (by decide +kernel)
set_option maxRecDepth 20000 in
theorem gX6_shadows_X6_isBelow : GoodIn wsX6_shadows (wsV RX6 134 RX6 yX6_isBelow wsX6_isBelow) := goodIn_app (goodIn_of _ (by decide +kernel)) ggX6_shadows_X6_isBelow
set_option maxRecDepth 20000 in
theorem ggX6_shadows_X6_covers : GoodIn wsX6_shadows wsX6_covers := goodIn_r _ [30, 2, 3, 4, 5, 6, 7, 8, 9, 10, 1, 11, 12, 13, 14, 15, 16, 17, 18, 31, 32, 33, 34, 35, 36, 37, 38, 39, 40, 41, 42, 43, 44, 45, 46, 47, 48, 49, 50] (by decide +kernel) (by decide +kernel)
set_option maxRecDepth 20000 in
theorem gX6_shadows_X6_covers : GoodIn wsX6_shadows (wsV RX6 190 RX6 yX6_covers wsX6_covers) := goodIn_app (goodIn_of _ (by decide +kernel)) ggX6_shadows_X6_covers
theorem dX6_shadows_0 : decode cX6_shadows 0 = .ok (.iconst 0, 1) := by decide +kernel
theorem dX6_shadows_1 : decode cX6_shadows 1 = .ok (.istore_n 2, 1) := by decide +kernel
theorem dX6_shadows_2 : decode cX6_shadows 2 = .ok (.aload_n 0, 1) := by decide +kernel
theorem dX6_shadows_3 : decode cX6_shadows 3 = .ok (.iload_n 1, 1) := by decide +kernel
theorem dX6_shadows_4 : decode cX6_shadows 4 = .ok (.iconst 0, 1) := by decide +kernel
theorem dX6_shadows_5 : decode cX6_shadows 5 = .ok (.invokevirtual 47, 3) := by decide +kernel
theorem dX6_shadows_8 : decode cX6_shadows 8 = .ok (.istore_n 3, 1) := by decide +kernel
theorem dX6_shadows_9 : decode cX6_shadows 9 = .ok (.iload_n 3, 1) := by decide +kernel
theorem dX6_shadows_10 : decode cX6_shadows 10 = .ok (.aload_n 0, 1) := by decide +kernel
theorem dX6_shadows_11 : decode cX6_shadows 11 = .ok (.iload_n 1, 1) := by decide +kernel
theorem dX6_shadows_12 : decode cX6_shadows 12 = .ok (.iconst 0, 1) := by decide +kernel
theorem dX6_shadows_13 : decode cX6_shadows 13 = .ok (.invokevirtual 57, 3) := by decide +kernel
theorem dX6_shadows_16 : decode cX6_shadows 16 = .ok (.if_icmp .ge 104, 3) := by decide +kernel
theorem dX6_shadows_19 : decode cX6_shadows 19 = .ok (.aload_n 0, 1) := by decide +kernel
theorem dX6_shadows_20 : decode cX6_shadows 20 = .ok (.iload_n 1, 1) := by decide +kernel
theorem dX6_shadows_21 : decode cX6_shadows 21 = .ok (.iconst 1, 1) := by decide +kernel
theorem dX6_shadows_22 : decode cX6_shadows 22 = .ok (.invokevirtual 47, 3) := by decide +kernel
theorem dX6_shadows_25 : decode cX6_shadows 25 = .ok (.istore 4, 2) := by decide +kernel
theorem dX6_shadows_27 : decode cX6_shadows 27 = .ok (.iload 4, 2) := by decide +kernel
theorem dX6_shadows_29 : decode cX6_shadows 29 = .ok (.aload_n 0, 1) := by decide +kernel
theorem dX6_shadows_30 : decode cX6_shadows 30 = .ok (.iload_n 1, 1) := by decide +kernel
theorem dX6_shadows_31 : decode cX6_shadows 31 = .ok (.iconst 1, 1) := by decide +kernel
theorem dX6_shadows_32 : decode cX6_shadows 32 = .ok (.invokevirtual 57, 3) := by decide +kernel
theorem dX6_shadows_35 : decode cX6_shadows 35 = .ok (.if_icmp .ge 79, 3) := by decide +kernel
theorem dX6_shadows_38 : decode cX6_shadows 38 = .ok (.iconst 0, 1) := by decide +kernel
theorem dX6_shadows_39 : decode cX6_shadows 39 = .ok (.istore 5, 2) := by decide +kernel
theorem dX6_shadows_41 : decode cX6_shadows 41 = .ok (.iconst 0, 1) := by decide +kernel
theorem dX6_shadows_42 : decode cX6_shadows 42 = .ok (.istore 6, 2) := by decide +kernel
theorem dX6_shadows_44 : decode cX6_shadows 44 = .ok (.iload 6, 2) := by decide +kernel
theorem dX6_shadows_46 : decode cX6_shadows 46 = .ok (.aload_n 0, 1) := by decide +kernel
theorem dX6_shadows_47 : decode cX6_shadows 47 = .ok (.getfield 7, 3) := by decide +kernel
theorem dX6_shadows_50 : decode cX6_shadows 50 = .ok (.iconst 0, 1) := by decide +kernel
theorem dX6_shadows_51 : decode cX6_shadows 51 = .ok (.iaload, 1) := by decide +kernel
theorem dX6_shadows_52 : decode cX6_shadows 52 = .ok (.if_icmp .ge 43, 3) := by decide +kernel
theorem dX6_shadows_55 : decode cX6_shadows 55 = .ok (.iload 5, 2) := by decide +kernel
theorem dX6_shadows_57 : decode cX6_shadows 57 = .ok (.ifCond .ne 25, 3) := by decide +kernel
theorem dX6_shadows_60 : decode cX6_shadows 60 = .ok (.aload_n 0, 1) := by decide +kernel
theorem dX6_shadows_61 : decode cX6_shadows 61 = .ok (.iload_n 1, 1) := by decide +kernel
theorem dX6_shadows_62 : decode cX6_shadows 62 = .ok (.iload 6, 2) := by decide +kernel
theorem dX6_shadows_64 : decode cX6_shadows 64 = .ok (.invokevirtual 134, 3) := by decide +kernel
theorem dX6_shadows_67 : decode cX6_shadows 67 = .ok (.ifCond .eq 19, 3) := by decide +kernel
theorem dX6_shadows_70 : decode cX6_shadows 70 = .ok (.aload_n 0, 1) := by decide +kernel
theorem dX6_shadows_71 : decode cX6_shadows 71 = .ok (.iload 6, 2) := by decide +kernel
theorem dX6_shadows_73 : decode cX6_shadows 73 = .ok (.iload_n 3, 1) := by decide +kernel
theorem dX6_shadows_74 : decode cX6_shadows 74 = .ok (.iload 4, 2) := by decide +kernel
theorem dX6_shadows_76 : decode cX6_shadows 76 = .ok (.invokevirtual 190, 3) := by decide +kernel
theorem dX6_shadows_79 : decode cX6_shadows 79 = .ok (.ifCond .eq 7, 3) := by decide +kernel
theorem dX6_shadows_82 : decode cX6_shadows 82 = .ok (.iconst 1, 1) := by decide +kernel
theorem dX6_shadows_83 : decode cX6_shadows 83 = .ok (.goto 4, 3) := by decide +kernel
theorem dX6_shadows_86 : decode cX6_shadows 86 = .ok (.iconst 0, 1) := by decide +kernel
theorem dX6_shadows_87 : decode cX6_shadows 87 = .ok (.istore 5, 2) := by decide +kernel
theorem dX6_shadows_89 : decode cX6_shadows 89 = .ok (.iinc 6 1, 3) := by decide +kernel
theorem dX6_shadows_92 : decode cX6_shadows 92 = .ok (.goto (-48), 3) := by decide +kernel
theorem dX6_shadows_95 : decode cX6_shadows 95 = .ok (.iload_n 2, 1) := by decide +kernel
theorem dX6_shadows_96 : decode cX6_shadows 96 = .ok (.iload 5, 2) := by decide +kernel
theorem dX6_shadows_98 : decode cX6_shadows 98 = .ok (.ifCond .eq 7, 3) := by decide +kernel
theorem dX6_shadows_101 : decode cX6_shadows 101 = .ok (.iconst 1, 1) := by decide +kernel
theorem dX6_shadows_102 : decode cX6_shadows 102 = .ok (.goto 4, 3) := by decide +kernel
theorem dX6_shadows_105 : decode cX6_shadows 105 = .ok (.iconst 0, 1) := by decide +kernel
theorem dX6_shadows_106 : decode cX6_shadows 106 = .ok (.iadd, 1) := by decide +kernel
theorem dX6_shadows_107 : decode cX6_shadows 107 = .ok (.istore_n 2, 1) := by decide +kernel
theorem dX6_shadows_108 : decode cX6_shadows 108 = .ok (.iinc 4 1, 3) := by decide +kernel
theorem dX6_shadows_111 : decode cX6_shadows 111 = .ok (.goto (-84), 3) := by decide +kernel
theorem dX6_shadows_114 : decode cX6_shadows 114 = .ok (.iinc 3 1, 3) := by decide +kernel
theorem dX6_shadows_117 : decode cX6_shadows 117 = .ok (.goto (-108), 3) := by decide +kernel
theorem dX6_shadows_120 : decode cX6_shadows 120 = .ok (.iload_n 2, 1) := by decide +kernel
theorem dX6_shadows_121 : decode cX6_shadows 121 = .ok (.ireturn, 1) := by decide +kernel
set_option maxRecDepth 20000 in
theorem ggX6_ofBox_X6_rankOf : GoodIn wsX6_ofBox wsX6_rankOf := goodIn_r _ [7, 8, 9, 10, 11, 6, 12, 99, 100, 101, 102, 103, 104, 105, 106, 107, 108, 109, 110, 111, 112, 113, 114, 115] (by decide +kernel) (by decide +kernel)
set_option maxRecDepth 20000 in
theorem gX6_ofBox_X6_rankOf : GoodIn wsX6_ofBox (wsV RX6 125 RX6 yX6_rankOf wsX6_rankOf) := goodIn_app (goodIn_of _ (by decide +kernel)) ggX6_ofBox_X6_rankOf
set_option maxRecDepth 20000 in
theorem ggX6_ofBox_X6_findHiding : GoodIn wsX6_ofBox wsX6_findHiding := goodIn_r _ [16, 8, 1, 17, 18, 19, 20, 6, 21, 22, 23, 24, 25, 9, 10, 11, 12, 26, 27, 28, 29, 30, 31, 32, 33, 34, 35, 36, 37, 38, 39, 40, 41, 42, 43, 44, 99, 100, 101, 102, 103, 104, 105, 106, 107, 108, 109, 110, 111, 112, 113, 114, 115] (by decide +kernel) (by decide +kernel)
set_option maxRecDepth 20000 in
theorem gX6_ofBox_X6_findHiding : GoodIn wsX6_ofBox (wsV RX6 141 RX6 yX6_findHiding wsX6_findHiding) := goodIn_app (goodIn_of _ (by decide +kernel)) ggX6_ofBox_X6_findHiding
set_option maxRecDepth 20000 in
theorem ggX6_ofBox_X6_findLayers : GoodIn wsX6_ofBox wsX6_findLayers := goodIn_r _ [48, 8, 2, 17, 1, 49, 50, 51, 6, 52, 53, 54, 55, 56, 42, 43, 44, 99, 100, 101, 102, 103, 104, 105, 106, 107, 108, 109, 110, 111, 112, 113, 114, 115] (by decide +kernel) (by decide +kernel)
set_option maxRecDepth 20000 in
theorem gX6_ofBox_X6_findLayers : GoodIn wsX6_ofBox (wsV RX6 193 RX6 yX6_findLayers wsX6_findLayers) := goodIn_app (goodIn_of _ (by decide +kernel)) ggX6_ofBox_X6_findLayers
set_option maxRecDepth 20000 in
theorem ggX6_ofBox_X6_volume : GoodIn wsX6_ofBox wsX6_volume := goodIn_r _ [60, 30, 31, 32, 6, 33, 9, 10, 11, 12, 8, 99, 100, 101, 102, 103, 104, 105, 106, 107, 108, 109, 110, 111, 112, 113, 114, 115] (by decide +kernel) (by decide +kernel)
set_option maxRecDepth 20000 in
theorem gX6_ofBox_X6_volume : GoodIn wsX6_ofBox (wsV RX6 93 RX6 yX6_volume wsX6_volume) := goodIn_app (goodIn_of _ (by decide +kernel)) ggX6_ofBox_X6_volume
set_option maxRecDepth 20000 in
theorem ggX6_ofBox_X6_ones : GoodIn wsX6_ofBox wsX6_ones := goodIn_r _ [63] (by decide +kernel) (by decide +kernel)
set_option maxRecDepth 20000 in
theorem gX6_ofBox_X6_ones : GoodIn wsX6_ofBox (va_wsS RX6 156 yX6_ones wsX6_ones) := goodIn_app (goodIn_of _ (by decide +kernel)) ggX6_ofBox_X6_ones
set_option maxRecDepth 20000 in
theorem ggX6_ofBox_X6_hiders : GoodIn wsX6_ofBox wsX6_hiders := goodIn_r _ [67, 8, 1, 42, 43, 6, 44, 99, 100, 101, 102, 103, 104, 105, 106, 107, 108, 109, 110, 111, 112, 113, 114, 115] (by decide +kernel) (by decide +kernel)
set_option maxRecDepth 20000 in
theorem gX6_ofBox_X6_hiders : GoodIn wsX6_ofBox (wsV RX6 196 RX6 yX6_hiders wsX6_hiders) := goodIn_app (goodIn_of _ (by decide +kernel)) ggX6_ofBox_X6_hiders
set_option maxRecDepth 20000 in
theorem ggX6_ofBox_X6_isInRing : GoodIn wsX6_ofBox wsX6_isInRing := goodIn_r _ [56, 17, 42, 43, 6, 44, 99, 100, 101, 102, 103, 104, 105, 106, 107, 108, 109, 110, 111, 112, 113, 114, 115] (by decide +kernel) (by decide +kernel)
set_option maxRecDepth 20000 in
theorem gX6_ofBox_X6_isInRing : GoodIn wsX6_ofBox (wsV RX6 78 RX6 yX6_isInRing wsX6_isInRing) := goodIn_app (goodIn_of _ (by decide +kernel)) ggX6_ofBox_X6_isInRing
set_option maxRecDepth 20000 in
theorem ggX6_ofBox_X6_shortestRing : GoodIn wsX6_ofBox wsX6_shortestRing := goodIn_r _ [71, 1, 42, 43, 6, 44, 72, 73, 74, 75, 8, 99, 100, 101, 102, 103, 104, 105, 106, 107, 108, 109, 110, 111, 112, 113, 114, 115] (by decide +kernel) (by decide +kernel)
set_option maxRecDepth 20000 in
theorem gX6_ofBox_X6_shortestRing : GoodIn wsX6_ofBox (wsV RX6 86 RX6 yX6_shortestRing wsX6_shortestRing) := goodIn_app (goodIn_of _ (by decide +kernel)) ggX6_ofBox_X6_shortestRing
set_option maxRecDepth 20000 in
theorem ggX6_ofBox_X6_boxesBelow : GoodIn wsX6_ofBox wsX6_boxesBelow := goodIn_r _ [79, 8, 80, 81, 82, 6, 83, 84, 85, 86, 87, 22, 23, 24, 25, 9, 10, 11, 12, 26, 27, 28, 29, 30, 31, 32, 33, 99, 100, 101, 102, 103, 104, 105, 106, 107, 108, 109, 110, 111, 112, 113, 114, 115] (by decide +kernel) (by decide +kernel)
set_option maxRecDepth 20000 in
theorem gX6_ofBox_X6_boxesBelow : GoodIn wsX6_ofBox (wsV RX6 199 RX6 yX6_boxesBelow wsX6_boxesBelow) := goodIn_app (goodIn_of _ (by decide +kernel)) ggX6_ofBox_X6_boxesBelow
set_option maxRecDepth 20000 in
theorem ggX6_ofBox_X6_shadows : GoodIn wsX6_ofBox wsX6_shadows := goodIn_r _ [91, 8, 22, 23, 24, 6, 25, 9, 10, 11, 12, 26, 27, 28, 29, 30, 31, 32, 33, 80, 81, 82, 83, 84, 85, 86, 87, 92, 93, 94, 95, 96, 97, 98, 99, 100, 101, 102, 103, 104, 105, 106, 107, 108, 109, 110, 111, 112, 113, 114, 115] (by decide +kernel) (by decide +kernel)
set_option maxRecDepth 20000 in
theorem gX6_ofBox_X6_shadows : GoodIn wsX6_ofBox (wsV RX6 203 RX6 yX6_shadows wsX6_shadows) := goodIn_app (goodIn_of _ (by decide +kernel)) ggX6_ofBox_X6_shadows
set_option maxRecDepth 20000 in
theorem ggX6_ofBox_X6_low : GoodIn wsX6_ofBox wsX6_low := goodIn_r _ [25, 9, 10, 11, 6, 12, 8, 99, 100, 101, 102, 103, 104, 105, 106, 107, 108, 109, 110, 111, 112, 113, 114, 115] (by decide +kernel) (by decide +kernel)
set_option maxRecDepth 20000 in
theorem gX6_ofBox_X6_low : GoodIn wsX6_ofBox (wsV RX6 47 RX6 yX6_low wsX6_low) := goodIn_app (goodIn_of _ (by decide +kernel)) ggX6_ofBox_X6_low
theorem dX6_ofBox_0 : decode cX6_ofBox 0 = .ok (.aload_n 0, 1) := by decide +kernel
theorem dX6_ofBox_1 : decode cX6_ofBox 1 = .ok (.iload_n 1, 1) := by decide +kernel
theorem dX6_ofBox_2 : decode cX6_ofBox 2 = .ok (.invokevirtual 125, 3) := by decide +kernel
theorem dX6_ofBox_5 : decode cX6_ofBox 5 = .ok (.istore_n 3, 1) := by decide +kernel
theorem dX6_ofBox_6 : decode cX6_ofBox 6 = .ok (.iload_n 3, 1) := by decide +kernel
theorem dX6_ofBox_7 : decode cX6_ofBox 7 = .ok (.ifCond .ge 5, 3) := by decide +kernel
theorem dX6_ofBox_10 : decode cX6_ofBox 10 = .ok (.iconst (-1), 1) := by decide +kernel
theorem dX6_ofBox_11 : decode cX6_ofBox 11 = .ok (.ireturn, 1) := by decide +kernel
theorem dX6_ofBox_12 : decode cX6_ofBox 12 = .ok (.aload_n 0, 1) := by decide +kernel
theorem dX6_ofBox_13 : decode cX6_ofBox 13 = .ok (.invokevirtual 141, 3) := by decide +kernel
theorem dX6_ofBox_16 : decode cX6_ofBox 16 = .ok (.aload_n 0, 1) := by decide +kernel
theorem dX6_ofBox_17 : decode cX6_ofBox 17 = .ok (.invokevirtual 193, 3) := by decide +kernel
theorem dX6_ofBox_20 : decode cX6_ofBox 20 = .ok (.iload_n 2, 1) := by decide +kernel
theorem dX6_ofBox_21 : decode cX6_ofBox 21 = .ok (.tableswitch 143 0 8 #[51, 57, 67, 73, 80, 99, 106, 113, 119], 51) := by decide +kernel
theorem dX6_ofBox_72 : decode cX6_ofBox 72 = .ok (.aload_n 0, 1) := by decide +kernel
theorem dX6_ofBox_73 : decode cX6_ofBox 73 = .ok (.iload_n 3, 1) := by decide +kernel
theorem dX6_ofBox_74 : decode cX6_ofBox 74 = .ok (.invokevirtual 93, 3) := by decide +kernel
theorem dX6_ofBox_77 : decode cX6_ofBox 77 = .ok (.ireturn, 1) := by decide +kernel
theorem dX6_ofBox_78 : decode cX6_ofBox 78 = .ok (.aload_n 0, 1) := by decide +kernel
theorem dX6_ofBox_79 : decode cX6_ofBox 79 = .ok (.getfield 25, 3) := by decide +kernel
theorem dX6_ofBox_82 : decode cX6_ofBox 82 = .ok (.iload_n 3, 1) := by decide +kernel
theorem dX6_ofBox_83 : decode cX6_ofBox 83 = .ok (.iaload, 1) := by decide +kernel
theorem dX6_ofBox_84 : decode cX6_ofBox 84 = .ok (.invokestatic 156, 3) := by decide +kernel
theorem dX6_ofBox_87 : decode cX6_ofBox 87 = .ok (.ireturn, 1) := by decide +kernel
theorem dX6_ofBox_88 : decode cX6_ofBox 88 = .ok (.aload_n 0, 1) := by decide +kernel
theorem dX6_ofBox_89 : decode cX6_ofBox 89 = .ok (.iload_n 3, 1) := by decide +kernel
theorem dX6_ofBox_90 : decode cX6_ofBox 90 = .ok (.invokevirtual 196, 3) := by decide +kernel
theorem dX6_ofBox_93 : decode cX6_ofBox 93 = .ok (.ireturn, 1) := by decide +kernel
theorem dX6_ofBox_94 : decode cX6_ofBox 94 = .ok (.aload_n 0, 1) := by decide +kernel
theorem dX6_ofBox_95 : decode cX6_ofBox 95 = .ok (.getfield 31, 3) := by decide +kernel
theorem dX6_ofBox_98 : decode cX6_ofBox 98 = .ok (.iload_n 3, 1) := by decide +kernel
theorem dX6_ofBox_99 : decode cX6_ofBox 99 = .ok (.iaload, 1) := by decide +kernel
theorem dX6_ofBox_100 : decode cX6_ofBox 100 = .ok (.ireturn, 1) := by decide +kernel
theorem dX6_ofBox_101 : decode cX6_ofBox 101 = .ok (.aload_n 0, 1) := by decide +kernel
theorem dX6_ofBox_102 : decode cX6_ofBox 102 = .ok (.iload_n 3, 1) := by decide +kernel
theorem dX6_ofBox_103 : decode cX6_ofBox 103 = .ok (.invokevirtual 78, 3) := by decide +kernel
theorem dX6_ofBox_106 : decode cX6_ofBox 106 = .ok (.ifCond .eq 11, 3) := by decide +kernel
theorem dX6_ofBox_109 : decode cX6_ofBox 109 = .ok (.aload_n 0, 1) := by decide +kernel
theorem dX6_ofBox_110 : decode cX6_ofBox 110 = .ok (.iload_n 3, 1) := by decide +kernel
theorem dX6_ofBox_111 : decode cX6_ofBox 111 = .ok (.invokevirtual 86, 3) := by decide +kernel
theorem dX6_ofBox_114 : decode cX6_ofBox 114 = .ok (.goto 5, 3) := by decide +kernel
theorem dX6_ofBox_117 : decode cX6_ofBox 117 = .ok (.bipush (-5), 2) := by decide +kernel
theorem dX6_ofBox_119 : decode cX6_ofBox 119 = .ok (.ireturn, 1) := by decide +kernel
theorem dX6_ofBox_120 : decode cX6_ofBox 120 = .ok (.aload_n 0, 1) := by decide +kernel
theorem dX6_ofBox_121 : decode cX6_ofBox 121 = .ok (.iload_n 3, 1) := by decide +kernel
theorem dX6_ofBox_122 : decode cX6_ofBox 122 = .ok (.iconst 1, 1) := by decide +kernel
theorem dX6_ofBox_123 : decode cX6_ofBox 123 = .ok (.invokevirtual 199, 3) := by decide +kernel
theorem dX6_ofBox_126 : decode cX6_ofBox 126 = .ok (.ireturn, 1) := by decide +kernel
theorem dX6_ofBox_127 : decode cX6_ofBox 127 = .ok (.aload_n 0, 1) := by decide +kernel
theorem dX6_ofBox_128 : decode cX6_ofBox 128 = .ok (.iload_n 3, 1) := by decide +kernel
theorem dX6_ofBox_129 : decode cX6_ofBox 129 = .ok (.iconst 0, 1) := by decide +kernel
theorem dX6_ofBox_130 : decode cX6_ofBox 130 = .ok (.invokevirtual 199, 3) := by decide +kernel
theorem dX6_ofBox_133 : decode cX6_ofBox 133 = .ok (.ireturn, 1) := by decide +kernel
theorem dX6_ofBox_134 : decode cX6_ofBox 134 = .ok (.aload_n 0, 1) := by decide +kernel
theorem dX6_ofBox_135 : decode cX6_ofBox 135 = .ok (.iload_n 3, 1) := by decide +kernel
theorem dX6_ofBox_136 : decode cX6_ofBox 136 = .ok (.invokevirtual 203, 3) := by decide +kernel
theorem dX6_ofBox_139 : decode cX6_ofBox 139 = .ok (.ireturn, 1) := by decide +kernel
theorem dX6_ofBox_140 : decode cX6_ofBox 140 = .ok (.aload_n 0, 1) := by decide +kernel
theorem dX6_ofBox_141 : decode cX6_ofBox 141 = .ok (.iload_n 3, 1) := by decide +kernel
theorem dX6_ofBox_142 : decode cX6_ofBox 142 = .ok (.iconst 2, 1) := by decide +kernel
theorem dX6_ofBox_143 : decode cX6_ofBox 143 = .ok (.invokevirtual 47, 3) := by decide +kernel
theorem dX6_ofBox_146 : decode cX6_ofBox 146 = .ok (.ifCond .eq 12, 3) := by decide +kernel
theorem dX6_ofBox_149 : decode cX6_ofBox 149 = .ok (.aload_n 0, 1) := by decide +kernel
theorem dX6_ofBox_150 : decode cX6_ofBox 150 = .ok (.iload_n 3, 1) := by decide +kernel
theorem dX6_ofBox_151 : decode cX6_ofBox 151 = .ok (.iconst 1, 1) := by decide +kernel
theorem dX6_ofBox_152 : decode cX6_ofBox 152 = .ok (.invokevirtual 199, 3) := by decide +kernel
theorem dX6_ofBox_155 : decode cX6_ofBox 155 = .ok (.ifCond .le 7, 3) := by decide +kernel
theorem dX6_ofBox_158 : decode cX6_ofBox 158 = .ok (.iconst 1, 1) := by decide +kernel
theorem dX6_ofBox_159 : decode cX6_ofBox 159 = .ok (.goto 4, 3) := by decide +kernel
theorem dX6_ofBox_162 : decode cX6_ofBox 162 = .ok (.iconst 0, 1) := by decide +kernel
theorem dX6_ofBox_163 : decode cX6_ofBox 163 = .ok (.ireturn, 1) := by decide +kernel
theorem dX6_ofBox_164 : decode cX6_ofBox 164 = .ok (.bipush (-2), 2) := by decide +kernel
theorem dX6_ofBox_166 : decode cX6_ofBox 166 = .ok (.ireturn, 1) := by decide +kernel
set_option maxRecDepth 20000 in
theorem ggX6_pair_X6_rankOf : GoodIn wsX6_pair wsX6_rankOf := goodIn_r _ [5, 6, 7, 8, 9, 4, 10, 35, 36, 37, 38, 39, 40, 41, 42, 43, 44, 45, 46, 47, 48, 49, 50, 51] (by decide +kernel) (by decide +kernel)
set_option maxRecDepth 20000 in
theorem gX6_pair_X6_rankOf : GoodIn wsX6_pair (wsV RX6 125 RX6 yX6_rankOf wsX6_rankOf) := goodIn_app (goodIn_of _ (by decide +kernel)) ggX6_pair_X6_rankOf
set_option maxRecDepth 20000 in
theorem ggX6_pair_X6_hidesBy : GoodIn wsX6_pair wsX6_hidesBy := goodIn_r _ [14, 15, 16, 17, 4, 18, 7, 8, 9, 10, 6, 19, 20, 21, 22, 23, 24, 25, 26, 27, 28, 29, 30, 31, 32, 33, 34, 35, 36, 37, 38, 39, 40, 41, 42, 43, 44, 45, 46, 47, 48, 49, 50, 51] (by decide +kernel) (by decide +kernel)
set_option maxRecDepth 20000 in
theorem gX6_pair_X6_hidesBy : GoodIn wsX6_pair (wsV RX6 72 RX6 yX6_hidesBy wsX6_hidesBy) := goodIn_app (goodIn_of _ (by decide +kernel)) ggX6_pair_X6_hidesBy
theorem dX6_pair_0 : decode cX6_pair 0 = .ok (.aload_n 0, 1) := by decide +kernel
theorem dX6_pair_1 : decode cX6_pair 1 = .ok (.iload_n 1, 1) := by decide +kernel
theorem dX6_pair_2 : decode cX6_pair 2 = .ok (.invokevirtual 125, 3) := by decide +kernel
theorem dX6_pair_5 : decode cX6_pair 5 = .ok (.istore_n 3, 1) := by decide +kernel
theorem dX6_pair_6 : decode cX6_pair 6 = .ok (.aload_n 0, 1) := by decide +kernel
theorem dX6_pair_7 : decode cX6_pair 7 = .ok (.iload_n 2, 1) := by decide +kernel
theorem dX6_pair_8 : decode cX6_pair 8 = .ok (.invokevirtual 125, 3) := by decide +kernel
theorem dX6_pair_11 : decode cX6_pair 11 = .ok (.istore 4, 2) := by decide +kernel
theorem dX6_pair_13 : decode cX6_pair 13 = .ok (.iload_n 3, 1) := by decide +kernel
theorem dX6_pair_14 : decode cX6_pair 14 = .ok (.ifCond .lt 8, 3) := by decide +kernel
theorem dX6_pair_17 : decode cX6_pair 17 = .ok (.iload 4, 2) := by decide +kernel
theorem dX6_pair_19 : decode cX6_pair 19 = .ok (.ifCond .ge 5, 3) := by decide +kernel
theorem dX6_pair_22 : decode cX6_pair 22 = .ok (.iconst (-1), 1) := by decide +kernel
theorem dX6_pair_23 : decode cX6_pair 23 = .ok (.ireturn, 1) := by decide +kernel
theorem dX6_pair_24 : decode cX6_pair 24 = .ok (.iload_n 3, 1) := by decide +kernel
theorem dX6_pair_25 : decode cX6_pair 25 = .ok (.iload 4, 2) := by decide +kernel
theorem dX6_pair_27 : decode cX6_pair 27 = .ok (.if_icmp .ne 6, 3) := by decide +kernel
theorem dX6_pair_30 : decode cX6_pair 30 = .ok (.bipush (-2), 2) := by decide +kernel
theorem dX6_pair_32 : decode cX6_pair 32 = .ok (.ireturn, 1) := by decide +kernel
theorem dX6_pair_33 : decode cX6_pair 33 = .ok (.aload_n 0, 1) := by decide +kernel
theorem dX6_pair_34 : decode cX6_pair 34 = .ok (.iload 4, 2) := by decide +kernel
theorem dX6_pair_36 : decode cX6_pair 36 = .ok (.iload_n 3, 1) := by decide +kernel
theorem dX6_pair_37 : decode cX6_pair 37 = .ok (.invokevirtual 72, 3) := by decide +kernel
theorem dX6_pair_40 : decode cX6_pair 40 = .ok (.istore 5, 2) := by decide +kernel
theorem dX6_pair_42 : decode cX6_pair 42 = .ok (.iload 5, 2) := by decide +kernel
theorem dX6_pair_44 : decode cX6_pair 44 = .ok (.ifCond .le 10, 3) := by decide +kernel
theorem dX6_pair_47 : decode cX6_pair 47 = .ok (.iconst 3, 1) := by decide +kernel
theorem dX6_pair_48 : decode cX6_pair 48 = .ok (.iload 5, 2) := by decide +kernel
theorem dX6_pair_50 : decode cX6_pair 50 = .ok (.iadd, 1) := by decide +kernel
theorem dX6_pair_51 : decode cX6_pair 51 = .ok (.goto 10, 3) := by decide +kernel
theorem dX6_pair_54 : decode cX6_pair 54 = .ok (.aload_n 0, 1) := by decide +kernel
theorem dX6_pair_55 : decode cX6_pair 55 = .ok (.iload_n 3, 1) := by decide +kernel
theorem dX6_pair_56 : decode cX6_pair 56 = .ok (.iload 4, 2) := by decide +kernel
theorem dX6_pair_58 : decode cX6_pair 58 = .ok (.invokevirtual 72, 3) := by decide +kernel
theorem dX6_pair_61 : decode cX6_pair 61 = .ok (.ireturn, 1) := by decide +kernel
set_option maxRecDepth 20000 in
theorem ggX6_drawn_X6_findHiding : GoodIn wsX6_drawn wsX6_findHiding := goodIn_r _ [7, 8, 9, 10, 11, 12, 13, 6, 14, 15, 16, 17, 18, 19, 20, 21, 22, 23, 24, 25, 26, 27, 28, 29, 30, 31, 32, 33, 34, 35, 36, 37, 38, 39, 40, 41, 54, 55, 56, 57, 58, 59, 60, 61, 62, 63, 64, 65, 66, 67, 68, 69, 70] (by decide +kernel) (by decide +kernel)
set_option maxRecDepth 20000 in
theorem gX6_drawn_X6_findHiding : GoodIn wsX6_drawn (wsV RX6 141 RX6 yX6_findHiding wsX6_findHiding) := goodIn_app (goodIn_of _ (by decide +kernel)) ggX6_drawn_X6_findHiding
set_option maxRecDepth 20000 in
theorem ggX6_drawn_X6_drawAll : GoodIn wsX6_drawn wsX6_drawAll := goodIn_r _ [45, 8, 1, 9, 2, 39, 40, 6, 41, 46, 47, 48, 49, 15, 16, 17, 18, 19, 20, 21, 22, 50, 51, 52, 53, 27, 28, 29, 30, 54, 55, 56, 57, 58, 59, 60, 61, 62, 63, 64, 65, 66, 67, 68, 69, 70] (by decide +kernel) (by decide +kernel)
set_option maxRecDepth 20000 in
theorem gX6_drawn_X6_drawAll : GoodIn wsX6_drawn (wsV RX6 206 RX6 yX6_drawAll wsX6_drawAll) := goodIn_app (goodIn_of _ (by decide +kernel)) ggX6_drawn_X6_drawAll
set_option maxRecDepth 20000 in
theorem ggX6_drawn_X6_of : GoodIn wsX6_drawn wsX6_of := goodIn_r _ [22, 8, 54, 55, 56, 57, 58, 59, 60, 61, 62, 63, 64, 65, 66, 67, 68, 69, 70] (by decide +kernel) (by decide +kernel)
set_option maxRecDepth 20000 in
theorem gX6_drawn_X6_of : GoodIn wsX6_drawn (wsV RX6 43 RX6 yX6_of wsX6_of) := goodIn_app (goodIn_of _ (by decide +kernel)) ggX6_drawn_X6_of
theorem dX6_drawn_0 : decode cX6_drawn 0 = .ok (.iload_n 1, 1) := by decide +kernel
theorem dX6_drawn_1 : decode cX6_drawn 1 = .ok (.ifCond .ge 6, 3) := by decide +kernel
theorem dX6_drawn_4 : decode cX6_drawn 4 = .ok (.bipush (-2), 2) := by decide +kernel
theorem dX6_drawn_6 : decode cX6_drawn 6 = .ok (.ireturn, 1) := by decide +kernel
theorem dX6_drawn_7 : decode cX6_drawn 7 = .ok (.aload_n 0, 1) := by decide +kernel
theorem dX6_drawn_8 : decode cX6_drawn 8 = .ok (.invokevirtual 141, 3) := by decide +kernel
theorem dX6_drawn_11 : decode cX6_drawn 11 = .ok (.aload_n 0, 1) := by decide +kernel
theorem dX6_drawn_12 : decode cX6_drawn 12 = .ok (.iconst 0, 1) := by decide +kernel
theorem dX6_drawn_13 : decode cX6_drawn 13 = .ok (.invokevirtual 206, 3) := by decide +kernel
theorem dX6_drawn_16 : decode cX6_drawn 16 = .ok (.iload_n 1, 1) := by decide +kernel
theorem dX6_drawn_17 : decode cX6_drawn 17 = .ok (.aload_n 0, 1) := by decide +kernel
theorem dX6_drawn_18 : decode cX6_drawn 18 = .ok (.getfield 96, 3) := by decide +kernel
theorem dX6_drawn_21 : decode cX6_drawn 21 = .ok (.if_icmp .ge 17, 3) := by decide +kernel
theorem dX6_drawn_24 : decode cX6_drawn 24 = .ok (.aload_n 0, 1) := by decide +kernel
theorem dX6_drawn_25 : decode cX6_drawn 25 = .ok (.aload_n 0, 1) := by decide +kernel
theorem dX6_drawn_26 : decode cX6_drawn 26 = .ok (.getfield 34, 3) := by decide +kernel
theorem dX6_drawn_29 : decode cX6_drawn 29 = .ok (.iload_n 1, 1) := by decide +kernel
theorem dX6_drawn_30 : decode cX6_drawn 30 = .ok (.iaload, 1) := by decide +kernel
theorem dX6_drawn_31 : decode cX6_drawn 31 = .ok (.iconst 0, 1) := by decide +kernel
theorem dX6_drawn_32 : decode cX6_drawn 32 = .ok (.invokevirtual 43, 3) := by decide +kernel
theorem dX6_drawn_35 : decode cX6_drawn 35 = .ok (.goto 5, 3) := by decide +kernel
theorem dX6_drawn_38 : decode cX6_drawn 38 = .ok (.bipush (-5), 2) := by decide +kernel
theorem dX6_drawn_40 : decode cX6_drawn 40 = .ok (.ireturn, 1) := by decide +kernel
set_option maxRecDepth 20000 in
theorem ggX6_total_X6_findHiding : GoodIn wsX6_total wsX6_findHiding := goodIn_r _ [11, 1, 2, 12, 13, 14, 15, 10, 16, 17, 18, 19, 20, 21, 22, 23, 24, 25, 26, 27, 28, 29, 30, 31, 32, 33, 34, 35, 36, 37, 38, 39, 40, 41, 42, 43, 103, 104, 105, 106, 107, 108, 109, 110, 111, 112, 113, 114, 115, 116, 117, 118, 119] (by decide +kernel) (by decide +kernel)
set_option maxRecDepth 20000 in
theorem gX6_total_X6_findHiding : GoodIn wsX6_total (wsV RX6 141 RX6 yX6_findHiding wsX6_findHiding) := goodIn_app (goodIn_of _ (by decide +kernel)) ggX6_total_X6_findHiding
set_option maxRecDepth 20000 in
theorem ggX6_total_X6_findLayers : GoodIn wsX6_total wsX6_findLayers := goodIn_r _ [47, 1, 3, 12, 2, 48, 49, 50, 10, 51, 52, 53, 54, 55, 41, 42, 43, 103, 104, 105, 106, 107, 108, 109, 110, 111, 112, 113, 114, 115, 116, 117, 118, 119] (by decide +kernel) (by decide +kernel)
set_option maxRecDepth 20000 in
theorem gX6_total_X6_findLayers : GoodIn wsX6_total (wsV RX6 193 RX6 yX6_findLayers wsX6_findLayers) := goodIn_app (goodIn_of _ (by decide +kernel)) ggX6_total_X6_findLayers
set_option maxRecDepth 20000 in
theorem ggX6_total_X6_drawAll : GoodIn wsX6_total wsX6_drawAll := goodIn_r _ [59, 1, 4, 2, 60, 41, 42, 10, 43, 61, 62, 63, 64, 17, 18, 19, 20, 21, 22, 23, 24, 65, 66, 67, 68, 29, 30, 31, 32, 103, 104, 105, 106, 107, 108, 109, 110, 111, 112, 113, 114, 115, 116, 117, 118, 119] (by decide +kernel) (by decide +kernel)
set_option maxRecDepth 20000 in
theorem gX6_total_X6_drawAll : GoodIn wsX6_total (wsV RX6 206 RX6 yX6_drawAll wsX6_drawAll) := goodIn_app (goodIn_of _ (by decide +kernel)) ggX6_total_X6_drawAll
set_option maxRecDepth 20000 in
theorem ggX6_total_X6_ones : GoodIn wsX6_total wsX6_ones := goodIn_r _ [71] (by decide +kernel) (by decide +kernel)
set_option maxRecDepth 20000 in
theorem gX6_total_X6_ones : GoodIn wsX6_total (va_wsS RX6 156 yX6_ones wsX6_ones) := goodIn_app (goodIn_of _ (by decide +kernel)) ggX6_total_X6_ones
set_option maxRecDepth 20000 in
theorem ggX6_total_X6_volume : GoodIn wsX6_total wsX6_volume := goodIn_r _ [68, 29, 30, 31, 10, 32, 21, 22, 23, 24, 1, 103, 104, 105, 106, 107, 108, 109, 110, 111, 112, 113, 114, 115, 116, 117, 118, 119] (by decide +kernel) (by decide +kernel)
set_option maxRecDepth 20000 in
theorem gX6_total_X6_volume : GoodIn wsX6_total (wsV RX6 93 RX6 yX6_volume wsX6_volume) := goodIn_app (goodIn_of _ (by decide +kernel)) ggX6_total_X6_volume
set_option maxRecDepth 20000 in
theorem ggX6_total_X6_shadows : GoodIn wsX6_total wsX6_shadows := goodIn_r _ [75, 1, 17, 18, 19, 10, 20, 21, 22, 23, 24, 25, 26, 27, 28, 29, 30, 31, 32, 76, 77, 78, 79, 80, 81, 82, 83, 84, 85, 86, 87, 88, 89, 90, 103, 104, 105, 106, 107, 108, 109, 110, 111, 112, 113, 114, 115, 116, 117, 118, 119] (by decide +kernel) (by decide +kernel)
set_option maxRecDepth 20000 in
theorem gX6_total_X6_shadows : GoodIn wsX6_total (wsV RX6 203 RX6 yX6_shadows wsX6_shadows) := goodIn_app (goodIn_of _ (by decide +kernel)) ggX6_total_X6_shadows
set_option maxRecDepth 20000 in
theorem ggX6_total_X6_ringBoxes : GoodIn wsX6_total wsX6_ringBoxes := goodIn_r _ [51, 1, 52, 53, 54, 10, 55, 12, 41, 42, 43, 103, 104, 105, 106, 107, 108, 109, 110, 111, 112, 113, 114, 115, 116, 117, 118, 119] (by decide +kernel) (by decide +kernel)
set_option maxRecDepth 20000 in
theorem gX6_total_X6_ringBoxes : GoodIn wsX6_total (wsV RX6 89 RX6 yX6_ringBoxes wsX6_ringBoxes) := goodIn_app (goodIn_of _ (by decide +kernel)) ggX6_total_X6_ringBoxes
set_option maxRecDepth 20000 in
theorem ggX6_total_X6_shortestOfAll : GoodIn wsX6_total wsX6_shortestOfAll := goodIn_r _ [94, 1, 52, 53, 54, 10, 55, 12, 41, 42, 43, 95, 96, 97, 98, 2, 99, 100, 101, 102, 103, 104, 105, 106, 107, 108, 109, 110, 111, 112, 113, 114, 115, 116, 117, 118, 119] (by decide +kernel) (by decide +kernel)
set_option maxRecDepth 20000 in
theorem gX6_total_X6_shortestOfAll : GoodIn wsX6_total (wsV RX6 210 RX6 yX6_shortestOfAll wsX6_shortestOfAll) := goodIn_app (goodIn_of _ (by decide +kernel)) ggX6_total_X6_shortestOfAll
theorem dX6_total_0 : decode cX6_total 0 = .ok (.aload_n 0, 1) := by decide +kernel
theorem dX6_total_1 : decode cX6_total 1 = .ok (.invokevirtual 141, 3) := by decide +kernel
theorem dX6_total_4 : decode cX6_total 4 = .ok (.aload_n 0, 1) := by decide +kernel
theorem dX6_total_5 : decode cX6_total 5 = .ok (.invokevirtual 193, 3) := by decide +kernel
theorem dX6_total_8 : decode cX6_total 8 = .ok (.aload_n 0, 1) := by decide +kernel
theorem dX6_total_9 : decode cX6_total 9 = .ok (.iconst 0, 1) := by decide +kernel
theorem dX6_total_10 : decode cX6_total 10 = .ok (.invokevirtual 206, 3) := by decide +kernel
theorem dX6_total_13 : decode cX6_total 13 = .ok (.iconst 0, 1) := by decide +kernel
theorem dX6_total_14 : decode cX6_total 14 = .ok (.istore_n 2, 1) := by decide +kernel
theorem dX6_total_15 : decode cX6_total 15 = .ok (.bipush (-5), 2) := by decide +kernel
theorem dX6_total_17 : decode cX6_total 17 = .ok (.istore_n 3, 1) := by decide +kernel
theorem dX6_total_18 : decode cX6_total 18 = .ok (.iconst 0, 1) := by decide +kernel
theorem dX6_total_19 : decode cX6_total 19 = .ok (.istore 4, 2) := by decide +kernel
theorem dX6_total_21 : decode cX6_total 21 = .ok (.iconst 0, 1) := by decide +kernel
theorem dX6_total_22 : decode cX6_total 22 = .ok (.istore 5, 2) := by decide +kernel
theorem dX6_total_24 : decode cX6_total 24 = .ok (.iconst 0, 1) := by decide +kernel
theorem dX6_total_25 : decode cX6_total 25 = .ok (.istore 6, 2) := by decide +kernel
theorem dX6_total_27 : decode cX6_total 27 = .ok (.iload 6, 2) := by decide +kernel
theorem dX6_total_29 : decode cX6_total 29 = .ok (.aload_n 0, 1) := by decide +kernel
theorem dX6_total_30 : decode cX6_total 30 = .ok (.getfield 7, 3) := by decide +kernel
theorem dX6_total_33 : decode cX6_total 33 = .ok (.iconst 0, 1) := by decide +kernel
theorem dX6_total_34 : decode cX6_total 34 = .ok (.iaload, 1) := by decide +kernel
theorem dX6_total_35 : decode cX6_total 35 = .ok (.if_icmp .ge 77, 3) := by decide +kernel
theorem dX6_total_38 : decode cX6_total 38 = .ok (.iload_n 2, 1) := by decide +kernel
theorem dX6_total_39 : decode cX6_total 39 = .ok (.aload_n 0, 1) := by decide +kernel
theorem dX6_total_40 : decode cX6_total 40 = .ok (.getfield 25, 3) := by decide +kernel
theorem dX6_total_43 : decode cX6_total 43 = .ok (.iload 6, 2) := by decide +kernel
theorem dX6_total_45 : decode cX6_total 45 = .ok (.iaload, 1) := by decide +kernel
theorem dX6_total_46 : decode cX6_total 46 = .ok (.invokestatic 156, 3) := by decide +kernel
theorem dX6_total_49 : decode cX6_total 49 = .ok (.iadd, 1) := by decide +kernel
theorem dX6_total_50 : decode cX6_total 50 = .ok (.istore_n 2, 1) := by decide +kernel
theorem dX6_total_51 : decode cX6_total 51 = .ok (.aload_n 0, 1) := by decide +kernel
theorem dX6_total_52 : decode cX6_total 52 = .ok (.getfield 31, 3) := by decide +kernel
theorem dX6_total_55 : decode cX6_total 55 = .ok (.iload 6, 2) := by decide +kernel
theorem dX6_total_57 : decode cX6_total 57 = .ok (.iaload, 1) := by decide +kernel
theorem dX6_total_58 : decode cX6_total 58 = .ok (.iload_n 3, 1) := by decide +kernel
theorem dX6_total_59 : decode cX6_total 59 = .ok (.if_icmp .le 13, 3) := by decide +kernel
theorem dX6_total_62 : decode cX6_total 62 = .ok (.aload_n 0, 1) := by decide +kernel
theorem dX6_total_63 : decode cX6_total 63 = .ok (.getfield 31, 3) := by decide +kernel
theorem dX6_total_66 : decode cX6_total 66 = .ok (.iload 6, 2) := by decide +kernel
theorem dX6_total_68 : decode cX6_total 68 = .ok (.iaload, 1) := by decide +kernel
theorem dX6_total_69 : decode cX6_total 69 = .ok (.goto 4, 3) := by decide +kernel
theorem dX6_total_72 : decode cX6_total 72 = .ok (.iload_n 3, 1) := by decide +kernel
theorem dX6_total_73 : decode cX6_total 73 = .ok (.istore_n 3, 1) := by decide +kernel
theorem dX6_total_74 : decode cX6_total 74 = .ok (.iload 4, 2) := by decide +kernel
theorem dX6_total_76 : decode cX6_total 76 = .ok (.aload_n 0, 1) := by decide +kernel
theorem dX6_total_77 : decode cX6_total 77 = .ok (.iload 6, 2) := by decide +kernel
theorem dX6_total_79 : decode cX6_total 79 = .ok (.invokevirtual 93, 3) := by decide +kernel
theorem dX6_total_82 : decode cX6_total 82 = .ok (.iadd, 1) := by decide +kernel
theorem dX6_total_83 : decode cX6_total 83 = .ok (.istore 4, 2) := by decide +kernel
theorem dX6_total_85 : decode cX6_total 85 = .ok (.iload 5, 2) := by decide +kernel
theorem dX6_total_87 : decode cX6_total 87 = .ok (.iload_n 1, 1) := by decide +kernel
theorem dX6_total_88 : decode cX6_total 88 = .ok (.bipush 9, 2) := by decide +kernel
theorem dX6_total_90 : decode cX6_total 90 = .ok (.if_icmp .ne 12, 3) := by decide +kernel
theorem dX6_total_93 : decode cX6_total 93 = .ok (.aload_n 0, 1) := by decide +kernel
theorem dX6_total_94 : decode cX6_total 94 = .ok (.iload 6, 2) := by decide +kernel
theorem dX6_total_96 : decode cX6_total 96 = .ok (.invokevirtual 203, 3) := by decide +kernel
theorem dX6_total_99 : decode cX6_total 99 = .ok (.goto 4, 3) := by decide +kernel
theorem dX6_total_102 : decode cX6_total 102 = .ok (.iconst 0, 1) := by decide +kernel
theorem dX6_total_103 : decode cX6_total 103 = .ok (.iadd, 1) := by decide +kernel
theorem dX6_total_104 : decode cX6_total 104 = .ok (.istore 5, 2) := by decide +kernel
theorem dX6_total_106 : decode cX6_total 106 = .ok (.iinc 6 1, 3) := by decide +kernel
theorem dX6_total_109 : decode cX6_total 109 = .ok (.goto (-82), 3) := by decide +kernel
theorem dX6_total_112 : decode cX6_total 112 = .ok (.iload_n 1, 1) := by decide +kernel
theorem dX6_total_113 : decode cX6_total 113 = .ok (.tableswitch 133 0 12 #[67, 74, 81, 83, 88, 96, 101, 103, 110, 113, 116, 123, 128], 67) := by decide +kernel
theorem dX6_total_180 : decode cX6_total 180 = .ok (.aload_n 0, 1) := by decide +kernel
theorem dX6_total_181 : decode cX6_total 181 = .ok (.getfield 7, 3) := by decide +kernel
theorem dX6_total_184 : decode cX6_total 184 = .ok (.iconst 0, 1) := by decide +kernel
theorem dX6_total_185 : decode cX6_total 185 = .ok (.iaload, 1) := by decide +kernel
theorem dX6_total_186 : decode cX6_total 186 = .ok (.ireturn, 1) := by decide +kernel
theorem dX6_total_187 : decode cX6_total 187 = .ok (.aload_n 0, 1) := by decide +kernel
theorem dX6_total_188 : decode cX6_total 188 = .ok (.getfield 7, 3) := by decide +kernel
theorem dX6_total_191 : decode cX6_total 191 = .ok (.iconst 1, 1) := by decide +kernel
theorem dX6_total_192 : decode cX6_total 192 = .ok (.iaload, 1) := by decide +kernel
theorem dX6_total_193 : decode cX6_total 193 = .ok (.ireturn, 1) := by decide +kernel
theorem dX6_total_194 : decode cX6_total 194 = .ok (.iload_n 2, 1) := by decide +kernel
theorem dX6_total_195 : decode cX6_total 195 = .ok (.ireturn, 1) := by decide +kernel
theorem dX6_total_196 : decode cX6_total 196 = .ok (.aload_n 0, 1) := by decide +kernel
theorem dX6_total_197 : decode cX6_total 197 = .ok (.getfield 96, 3) := by decide +kernel
theorem dX6_total_200 : decode cX6_total 200 = .ok (.ireturn, 1) := by decide +kernel
theorem dX6_total_201 : decode cX6_total 201 = .ok (.aload_n 0, 1) := by decide +kernel
theorem dX6_total_202 : decode cX6_total 202 = .ok (.invokevirtual 89, 3) := by decide +kernel
theorem dX6_total_205 : decode cX6_total 205 = .ok (.invokestatic 156, 3) := by decide +kernel
theorem dX6_total_208 : decode cX6_total 208 = .ok (.ireturn, 1) := by decide +kernel
theorem dX6_total_209 : decode cX6_total 209 = .ok (.aload_n 0, 1) := by decide +kernel
theorem dX6_total_210 : decode cX6_total 210 = .ok (.invokevirtual 210, 3) := by decide +kernel
theorem dX6_total_213 : decode cX6_total 213 = .ok (.ireturn, 1) := by decide +kernel
theorem dX6_total_214 : decode cX6_total 214 = .ok (.iload_n 3, 1) := by decide +kernel
theorem dX6_total_215 : decode cX6_total 215 = .ok (.ireturn, 1) := by decide +kernel
theorem dX6_total_216 : decode cX6_total 216 = .ok (.aload_n 0, 1) := by decide +kernel
theorem dX6_total_217 : decode cX6_total 217 = .ok (.getfield 7, 3) := by decide +kernel
theorem dX6_total_220 : decode cX6_total 220 = .ok (.iconst 2, 1) := by decide +kernel
theorem dX6_total_221 : decode cX6_total 221 = .ok (.iaload, 1) := by decide +kernel
theorem dX6_total_222 : decode cX6_total 222 = .ok (.ireturn, 1) := by decide +kernel
theorem dX6_total_223 : decode cX6_total 223 = .ok (.iload 4, 2) := by decide +kernel
theorem dX6_total_225 : decode cX6_total 225 = .ok (.ireturn, 1) := by decide +kernel
theorem dX6_total_226 : decode cX6_total 226 = .ok (.iload 5, 2) := by decide +kernel
theorem dX6_total_228 : decode cX6_total 228 = .ok (.ireturn, 1) := by decide +kernel
theorem dX6_total_229 : decode cX6_total 229 = .ok (.aload_n 0, 1) := by decide +kernel
theorem dX6_total_230 : decode cX6_total 230 = .ok (.getfield 7, 3) := by decide +kernel
theorem dX6_total_233 : decode cX6_total 233 = .ok (.iconst 3, 1) := by decide +kernel
theorem dX6_total_234 : decode cX6_total 234 = .ok (.iaload, 1) := by decide +kernel
theorem dX6_total_235 : decode cX6_total 235 = .ok (.ireturn, 1) := by decide +kernel
theorem dX6_total_236 : decode cX6_total 236 = .ok (.aload_n 0, 1) := by decide +kernel
theorem dX6_total_237 : decode cX6_total 237 = .ok (.getfield 103, 3) := by decide +kernel
theorem dX6_total_240 : decode cX6_total 240 = .ok (.ireturn, 1) := by decide +kernel
theorem dX6_total_241 : decode cX6_total 241 = .ok (.aload_n 0, 1) := by decide +kernel
theorem dX6_total_242 : decode cX6_total 242 = .ok (.getfield 159, 3) := by decide +kernel
theorem dX6_total_245 : decode cX6_total 245 = .ok (.ireturn, 1) := by decide +kernel
theorem dX6_total_246 : decode cX6_total 246 = .ok (.bipush (-2), 2) := by decide +kernel
theorem dX6_total_248 : decode cX6_total 248 = .ok (.ireturn, 1) := by decide +kernel
set_option maxRecDepth 20000 in
theorem ggX6_waitsFor_X6_rankOf : GoodIn wsX6_waitsFor wsX6_rankOf := goodIn_r _ [7, 2, 8, 9, 10, 6, 11, 62, 63, 64, 65, 66, 67, 68, 69, 70, 71, 72, 73, 74, 75, 76, 77, 78] (by decide +kernel) (by decide +kernel)
set_option maxRecDepth 20000 in
theorem gX6_waitsFor_X6_rankOf : GoodIn wsX6_waitsFor (wsV RX6 125 RX6 yX6_rankOf wsX6_rankOf) := goodIn_app (goodIn_of _ (by decide +kernel)) ggX6_waitsFor_X6_rankOf
set_option maxRecDepth 20000 in
theorem ggX6_waitsFor_X6_findHiding : GoodIn wsX6_waitsFor wsX6_findHiding := goodIn_r _ [15, 2, 1, 16, 17, 18, 19, 6, 20, 21, 22, 23, 24, 8, 9, 10, 11, 25, 26, 27, 28, 29, 30, 31, 32, 33, 34, 35, 36, 37, 38, 39, 40, 41, 42, 43, 62, 63, 64, 65, 66, 67, 68, 69, 70, 71, 72, 73, 74, 75, 76, 77, 78] (by decide +kernel) (by decide +kernel)
set_option maxRecDepth 20000 in
theorem gX6_waitsFor_X6_findHiding : GoodIn wsX6_waitsFor (wsV RX6 141 RX6 yX6_findHiding wsX6_findHiding) := goodIn_app (goodIn_of _ (by decide +kernel)) ggX6_waitsFor_X6_findHiding
set_option maxRecDepth 20000 in
theorem ggX6_waitsFor_X6_drawAll : GoodIn wsX6_waitsFor wsX6_drawAll := goodIn_r _ [47, 2, 48, 1, 49, 41, 42, 6, 43, 50, 51, 52, 53, 21, 22, 23, 24, 8, 9, 10, 11, 54, 55, 56, 57, 29, 30, 31, 32, 62, 63, 64, 65, 66, 67, 68, 69, 70, 71, 72, 73, 74, 75, 76, 77, 78] (by decide +kernel) (by decide +kernel)
set_option maxRecDepth 20000 in
theorem gX6_waitsFor_X6_drawAll : GoodIn wsX6_waitsFor (wsV RX6 206 RX6 yX6_drawAll wsX6_drawAll) := goodIn_app (goodIn_of _ (by decide +kernel)) ggX6_waitsFor_X6_drawAll
set_option maxRecDepth 20000 in
theorem ggX6_waitsFor_X6_drawnSet : GoodIn wsX6_waitsFor wsX6_drawnSet := goodIn_r _ [61, 48, 49, 62, 63, 64, 65, 66, 67, 68, 69, 70, 71, 72, 73, 74, 75, 76, 77, 78] (by decide +kernel) (by decide +kernel)
set_option maxRecDepth 20000 in
theorem gX6_waitsFor_X6_drawnSet : GoodIn wsX6_waitsFor (wsV RX6 213 RX6 yX6_drawnSet wsX6_drawnSet) := goodIn_app (goodIn_of _ (by decide +kernel)) ggX6_waitsFor_X6_drawnSet
set_option maxRecDepth 20000 in
theorem ggX6_waitsFor_X6_has : GoodIn wsX6_waitsFor wsX6_has := goodIn_r _ [43] (by decide +kernel) (by decide +kernel)
set_option maxRecDepth 20000 in
theorem gX6_waitsFor_X6_has : GoodIn wsX6_waitsFor (va_wsS RX6 75 yX6_has wsX6_has) := goodIn_app (goodIn_of _ (by decide +kernel)) ggX6_waitsFor_X6_has
set_option maxRecDepth 20000 in
theorem ggX6_waitsFor_X6_of : GoodIn wsX6_waitsFor wsX6_of := goodIn_r _ [11, 2, 62, 63, 64, 65, 66, 67, 68, 69, 70, 71, 72, 73, 74, 75, 76, 77, 78] (by decide +kernel) (by decide +kernel)
set_option maxRecDepth 20000 in
theorem gX6_waitsFor_X6_of : GoodIn wsX6_waitsFor (wsV RX6 43 RX6 yX6_of wsX6_of) := goodIn_app (goodIn_of _ (by decide +kernel)) ggX6_waitsFor_X6_of
theorem dX6_waitsFor_0 : decode cX6_waitsFor 0 = .ok (.aload_n 0, 1) := by decide +kernel
theorem dX6_waitsFor_1 : decode cX6_waitsFor 1 = .ok (.iload_n 1, 1) := by decide +kernel
theorem dX6_waitsFor_2 : decode cX6_waitsFor 2 = .ok (.invokevirtual 125, 3) := by decide +kernel
theorem dX6_waitsFor_5 : decode cX6_waitsFor 5 = .ok (.istore_n 2, 1) := by decide +kernel
theorem dX6_waitsFor_6 : decode cX6_waitsFor 6 = .ok (.iload_n 2, 1) := by decide +kernel
theorem dX6_waitsFor_7 : decode cX6_waitsFor 7 = .ok (.ifCond .ge 5, 3) := by decide +kernel
theorem dX6_waitsFor_10 : decode cX6_waitsFor 10 = .ok (.iconst (-1), 1) := by decide +kernel
theorem dX6_waitsFor_11 : decode cX6_waitsFor 11 = .ok (.ireturn, 1) := by decide +kernel
theorem dX6_waitsFor_12 : decode cX6_waitsFor 12 = .ok (.aload_n 0, 1) := by decide +kernel
theorem dX6_waitsFor_13 : decode cX6_waitsFor 13 = .ok (.invokevirtual 141, 3) := by decide +kernel
theorem dX6_waitsFor_16 : decode cX6_waitsFor 16 = .ok (.aload_n 0, 1) := by decide +kernel
theorem dX6_waitsFor_17 : decode cX6_waitsFor 17 = .ok (.iconst 0, 1) := by decide +kernel
theorem dX6_waitsFor_18 : decode cX6_waitsFor 18 = .ok (.invokevirtual 206, 3) := by decide +kernel
theorem dX6_waitsFor_21 : decode cX6_waitsFor 21 = .ok (.aload_n 0, 1) := by decide +kernel
theorem dX6_waitsFor_22 : decode cX6_waitsFor 22 = .ok (.getfield 25, 3) := by decide +kernel
theorem dX6_waitsFor_25 : decode cX6_waitsFor 25 = .ok (.iload_n 2, 1) := by decide +kernel
theorem dX6_waitsFor_26 : decode cX6_waitsFor 26 = .ok (.iaload, 1) := by decide +kernel
theorem dX6_waitsFor_27 : decode cX6_waitsFor 27 = .ok (.aload_n 0, 1) := by decide +kernel
theorem dX6_waitsFor_28 : decode cX6_waitsFor 28 = .ok (.invokevirtual 213, 3) := by decide +kernel
theorem dX6_waitsFor_31 : decode cX6_waitsFor 31 = .ok (.iconst (-1), 1) := by decide +kernel
theorem dX6_waitsFor_32 : decode cX6_waitsFor 32 = .ok (.ixor, 1) := by decide +kernel
theorem dX6_waitsFor_33 : decode cX6_waitsFor 33 = .ok (.iand, 1) := by decide +kernel
theorem dX6_waitsFor_34 : decode cX6_waitsFor 34 = .ok (.istore_n 3, 1) := by decide +kernel
theorem dX6_waitsFor_35 : decode cX6_waitsFor 35 = .ok (.bipush (-5), 2) := by decide +kernel
theorem dX6_waitsFor_37 : decode cX6_waitsFor 37 = .ok (.istore 4, 2) := by decide +kernel
theorem dX6_waitsFor_39 : decode cX6_waitsFor 39 = .ok (.aload_n 0, 1) := by decide +kernel
theorem dX6_waitsFor_40 : decode cX6_waitsFor 40 = .ok (.getfield 7, 3) := by decide +kernel
theorem dX6_waitsFor_43 : decode cX6_waitsFor 43 = .ok (.iconst 0, 1) := by decide +kernel
theorem dX6_waitsFor_44 : decode cX6_waitsFor 44 = .ok (.iaload, 1) := by decide +kernel
theorem dX6_waitsFor_45 : decode cX6_waitsFor 45 = .ok (.iconst 1, 1) := by decide +kernel
theorem dX6_waitsFor_46 : decode cX6_waitsFor 46 = .ok (.isub, 1) := by decide +kernel
theorem dX6_waitsFor_47 : decode cX6_waitsFor 47 = .ok (.istore 5, 2) := by decide +kernel
theorem dX6_waitsFor_49 : decode cX6_waitsFor 49 = .ok (.iload 5, 2) := by decide +kernel
theorem dX6_waitsFor_51 : decode cX6_waitsFor 51 = .ok (.ifCond .lt 32, 3) := by decide +kernel
theorem dX6_waitsFor_54 : decode cX6_waitsFor 54 = .ok (.iload_n 3, 1) := by decide +kernel
theorem dX6_waitsFor_55 : decode cX6_waitsFor 55 = .ok (.iload 5, 2) := by decide +kernel
theorem dX6_waitsFor_57 : decode cX6_waitsFor 57 = .ok (.invokestatic 75, 3) := by decide +kernel
theorem dX6_waitsFor_60 : decode cX6_waitsFor 60 = .ok (.ifCond .eq 13, 3) := by decide +kernel
theorem dX6_waitsFor_63 : decode cX6_waitsFor 63 = .ok (.aload_n 0, 1) := by decide +kernel
theorem dX6_waitsFor_64 : decode cX6_waitsFor 64 = .ok (.iload 5, 2) := by decide +kernel
theorem dX6_waitsFor_66 : decode cX6_waitsFor 66 = .ok (.iconst 0, 1) := by decide +kernel
theorem dX6_waitsFor_67 : decode cX6_waitsFor 67 = .ok (.invokevirtual 43, 3) := by decide +kernel
theorem dX6_waitsFor_70 : decode cX6_waitsFor 70 = .ok (.goto 5, 3) := by decide +kernel
theorem dX6_waitsFor_73 : decode cX6_waitsFor 73 = .ok (.iload 4, 2) := by decide +kernel
theorem dX6_waitsFor_75 : decode cX6_waitsFor 75 = .ok (.istore 4, 2) := by decide +kernel
theorem dX6_waitsFor_77 : decode cX6_waitsFor 77 = .ok (.iinc 5 (-1), 3) := by decide +kernel
theorem dX6_waitsFor_80 : decode cX6_waitsFor 80 = .ok (.goto (-31), 3) := by decide +kernel
theorem dX6_waitsFor_83 : decode cX6_waitsFor 83 = .ok (.aload_n 0, 1) := by decide +kernel
theorem dX6_waitsFor_84 : decode cX6_waitsFor 84 = .ok (.invokevirtual 213, 3) := by decide +kernel
theorem dX6_waitsFor_87 : decode cX6_waitsFor 87 = .ok (.iload_n 2, 1) := by decide +kernel
theorem dX6_waitsFor_88 : decode cX6_waitsFor 88 = .ok (.invokestatic 75, 3) := by decide +kernel
theorem dX6_waitsFor_91 : decode cX6_waitsFor 91 = .ok (.ifCond .eq 8, 3) := by decide +kernel
theorem dX6_waitsFor_94 : decode cX6_waitsFor 94 = .ok (.bipush (-5), 2) := by decide +kernel
theorem dX6_waitsFor_96 : decode cX6_waitsFor 96 = .ok (.goto 5, 3) := by decide +kernel
theorem dX6_waitsFor_99 : decode cX6_waitsFor 99 = .ok (.iload 4, 2) := by decide +kernel
theorem dX6_waitsFor_101 : decode cX6_waitsFor 101 = .ok (.ireturn, 1) := by decide +kernel
set_option maxRecDepth 20000 in
theorem ggX6_breaks_X6_putAside : GoodIn wsX6_breaks wsX6_putAside := goodIn_r _ [5, 6, 7, 85, 86, 87, 88, 89, 90, 91, 92, 93, 94, 95, 96, 97, 98, 99, 100, 101] (by decide +kernel) (by decide +kernel)
set_option maxRecDepth 20000 in
theorem gX6_breaks_X6_putAside : GoodIn wsX6_breaks (wsV RX6 184 RX6 yX6_putAside wsX6_putAside) := goodIn_app (goodIn_of _ (by decide +kernel)) ggX6_breaks_X6_putAside
set_option maxRecDepth 20000 in
theorem ggX6_breaks_X6_breakAt : GoodIn wsX6_breaks wsX6_breakAt := goodIn_r _ [11, 7, 12, 13, 14, 4, 15, 16, 17, 18, 19, 20, 21, 22, 23, 24, 25, 26, 27, 28, 29, 30, 31, 32, 33, 34, 35, 36, 37, 38, 39, 40, 41, 42, 43, 44, 45, 46, 47, 48, 49, 50, 51, 52, 53, 54, 55, 56, 85, 86, 87, 88, 89, 90, 91, 92, 93, 94, 95, 96, 97, 98, 99, 100, 101] (by decide +kernel) (by decide +kernel)
set_option maxRecDepth 20000 in
theorem gX6_breaks_X6_breakAt : GoodIn wsX6_breaks (wsV RX6 147 RX6 yX6_breakAt wsX6_breakAt) := goodIn_app (goodIn_of _ (by decide +kernel)) ggX6_breaks_X6_breakAt
set_option maxRecDepth 20000 in
theorem ggX6_breaks_X6_whyNoBreak : GoodIn wsX6_breaks wsX6_whyNoBreak := goodIn_r _ [60, 7, 61, 62, 63, 4, 64, 34, 35, 36, 37, 26, 27, 28, 29, 85, 86, 87, 88, 89, 90, 91, 92, 93, 94, 95, 96, 97, 98, 99, 100, 101] (by decide +kernel) (by decide +kernel)
set_option maxRecDepth 20000 in
theorem gX6_breaks_X6_whyNoBreak : GoodIn wsX6_breaks (wsV RX6 150 RX6 yX6_whyNoBreak wsX6_whyNoBreak) := goodIn_app (goodIn_of _ (by decide +kernel)) ggX6_breaks_X6_whyNoBreak
set_option maxRecDepth 20000 in
theorem ggX6_breaks_X6_doBreak : GoodIn wsX6_breaks wsX6_doBreak := goodIn_r _ [68, 61, 62, 63, 4, 64, 34, 35, 36, 37, 26, 27, 28, 29, 7, 22, 23, 24, 25, 69, 70, 71, 72, 30, 31, 32, 33, 73, 74, 75, 76, 77, 78, 79, 80, 85, 86, 87, 88, 89, 90, 91, 92, 93, 94, 95, 96, 97, 98, 99, 100, 101] (by decide +kernel) (by decide +kernel)
set_option maxRecDepth 20000 in
theorem gX6_breaks_X6_doBreak : GoodIn wsX6_breaks (wsV RX6 153 RX6 yX6_doBreak wsX6_doBreak) := goodIn_app (goodIn_of _ (by decide +kernel)) ggX6_breaks_X6_doBreak
set_option maxRecDepth 20000 in
theorem ggX6_breaks_X6_putBack : GoodIn wsX6_breaks wsX6_putBack := goodIn_r _ [84, 7, 6, 85, 86, 87, 88, 89, 90, 91, 92, 93, 94, 95, 96, 97, 98, 99, 100, 101] (by decide +kernel) (by decide +kernel)
set_option maxRecDepth 20000 in
theorem gX6_breaks_X6_putBack : GoodIn wsX6_breaks (wsV RX6 187 RX6 yX6_putBack wsX6_putBack) := goodIn_app (goodIn_of _ (by decide +kernel)) ggX6_breaks_X6_putBack
theorem dX6_breaks_0 : decode cX6_breaks 0 = .ok (.aload_n 0, 1) := by decide +kernel
theorem dX6_breaks_1 : decode cX6_breaks 1 = .ok (.invokevirtual 184, 3) := by decide +kernel
theorem dX6_breaks_4 : decode cX6_breaks 4 = .ok (.iconst 0, 1) := by decide +kernel
theorem dX6_breaks_5 : decode cX6_breaks 5 = .ok (.istore_n 1, 1) := by decide +kernel
theorem dX6_breaks_6 : decode cX6_breaks 6 = .ok (.aload_n 0, 1) := by decide +kernel
theorem dX6_breaks_7 : decode cX6_breaks 7 = .ok (.invokevirtual 147, 3) := by decide +kernel
theorem dX6_breaks_10 : decode cX6_breaks 10 = .ok (.istore_n 2, 1) := by decide +kernel
theorem dX6_breaks_11 : decode cX6_breaks 11 = .ok (.aload_n 0, 1) := by decide +kernel
theorem dX6_breaks_12 : decode cX6_breaks 12 = .ok (.iload_n 2, 1) := by decide +kernel
theorem dX6_breaks_13 : decode cX6_breaks 13 = .ok (.invokevirtual 150, 3) := by decide +kernel
theorem dX6_breaks_16 : decode cX6_breaks 16 = .ok (.istore_n 3, 1) := by decide +kernel
theorem dX6_breaks_17 : decode cX6_breaks 17 = .ok (.iload_n 3, 1) := by decide +kernel
theorem dX6_breaks_18 : decode cX6_breaks 18 = .ok (.ifCond .ne 26, 3) := by decide +kernel
theorem dX6_breaks_21 : decode cX6_breaks 21 = .ok (.aload_n 0, 1) := by decide +kernel
theorem dX6_breaks_22 : decode cX6_breaks 22 = .ok (.iload_n 2, 1) := by decide +kernel
theorem dX6_breaks_23 : decode cX6_breaks 23 = .ok (.invokevirtual 153, 3) := by decide +kernel
theorem dX6_breaks_26 : decode cX6_breaks 26 = .ok (.pop, 1) := by decide +kernel
theorem dX6_breaks_27 : decode cX6_breaks 27 = .ok (.iinc 1 1, 3) := by decide +kernel
theorem dX6_breaks_30 : decode cX6_breaks 30 = .ok (.aload_n 0, 1) := by decide +kernel
theorem dX6_breaks_31 : decode cX6_breaks 31 = .ok (.invokevirtual 147, 3) := by decide +kernel
theorem dX6_breaks_34 : decode cX6_breaks 34 = .ok (.istore_n 2, 1) := by decide +kernel
theorem dX6_breaks_35 : decode cX6_breaks 35 = .ok (.aload_n 0, 1) := by decide +kernel
theorem dX6_breaks_36 : decode cX6_breaks 36 = .ok (.iload_n 2, 1) := by decide +kernel
theorem dX6_breaks_37 : decode cX6_breaks 37 = .ok (.invokevirtual 150, 3) := by decide +kernel
theorem dX6_breaks_40 : decode cX6_breaks 40 = .ok (.istore_n 3, 1) := by decide +kernel
theorem dX6_breaks_41 : decode cX6_breaks 41 = .ok (.goto (-24), 3) := by decide +kernel
theorem dX6_breaks_44 : decode cX6_breaks 44 = .ok (.aload_n 0, 1) := by decide +kernel
theorem dX6_breaks_45 : decode cX6_breaks 45 = .ok (.invokevirtual 187, 3) := by decide +kernel
theorem dX6_breaks_48 : decode cX6_breaks 48 = .ok (.iload_n 3, 1) := by decide +kernel
theorem dX6_breaks_49 : decode cX6_breaks 49 = .ok (.bipush (-5), 2) := by decide +kernel
theorem dX6_breaks_51 : decode cX6_breaks 51 = .ok (.if_icmp .ne 7, 3) := by decide +kernel
theorem dX6_breaks_54 : decode cX6_breaks 54 = .ok (.iload_n 1, 1) := by decide +kernel
theorem dX6_breaks_55 : decode cX6_breaks 55 = .ok (.goto 4, 3) := by decide +kernel
theorem dX6_breaks_58 : decode cX6_breaks 58 = .ok (.iload_n 3, 1) := by decide +kernel
theorem dX6_breaks_59 : decode cX6_breaks 59 = .ok (.ireturn, 1) := by decide +kernel
set_option maxRecDepth 20000 in
theorem ggX6_drawnWithout_X6_rankOf : GoodIn wsX6_drawnWithout wsX6_rankOf := goodIn_r _ [6, 7, 8, 9, 10, 5, 11, 58, 59, 60, 61, 62, 63, 64, 65, 66, 67, 68, 69, 70, 71, 72, 73, 74] (by decide +kernel) (by decide +kernel)
set_option maxRecDepth 20000 in
theorem gX6_drawnWithout_X6_rankOf : GoodIn wsX6_drawnWithout (wsV RX6 125 RX6 yX6_rankOf wsX6_rankOf) := goodIn_app (goodIn_of _ (by decide +kernel)) ggX6_drawnWithout_X6_rankOf
set_option maxRecDepth 20000 in
theorem ggX6_drawnWithout_X6_findHiding : GoodIn wsX6_drawnWithout wsX6_findHiding := goodIn_r _ [15, 7, 16, 17, 18, 19, 20, 5, 21, 22, 23, 24, 25, 8, 9, 10, 11, 26, 27, 28, 29, 30, 31, 32, 33, 34, 35, 36, 37, 38, 39, 40, 41, 42, 43, 44, 58, 59, 60, 61, 62, 63, 64, 65, 66, 67, 68, 69, 70, 71, 72, 73, 74] (by decide +kernel) (by decide +kernel)
set_option maxRecDepth 20000 in
theorem gX6_drawnWithout_X6_findHiding : GoodIn wsX6_drawnWithout (wsV RX6 141 RX6 yX6_findHiding wsX6_findHiding) := goodIn_app (goodIn_of _ (by decide +kernel)) ggX6_drawnWithout_X6_findHiding
set_option maxRecDepth 20000 in
theorem ggX6_drawnWithout_X6_drawAll : GoodIn wsX6_drawnWithout wsX6_drawAll := goodIn_r _ [48, 7, 1, 16, 49, 42, 43, 5, 44, 50, 51, 52, 53, 22, 23, 24, 25, 8, 9, 10, 11, 54, 55, 56, 57, 30, 31, 32, 33, 58, 59, 60, 61, 62, 63, 64, 65, 66, 67, 68, 69, 70, 71, 72, 73, 74] (by decide +kernel) (by decide +kernel)
set_option maxRecDepth 20000 in
theorem gX6_drawnWithout_X6_drawAll : GoodIn wsX6_drawnWithout (wsV RX6 206 RX6 yX6_drawAll wsX6_drawAll) := goodIn_app (goodIn_of _ (by decide +kernel)) ggX6_drawnWithout_X6_drawAll
theorem dX6_drawnWithout_0 : decode cX6_drawnWithout 0 = .ok (.aload_n 0, 1) := by decide +kernel
theorem dX6_drawnWithout_1 : decode cX6_drawnWithout 1 = .ok (.iload_n 1, 1) := by decide +kernel
theorem dX6_drawnWithout_2 : decode cX6_drawnWithout 2 = .ok (.invokevirtual 125, 3) := by decide +kernel
theorem dX6_drawnWithout_5 : decode cX6_drawnWithout 5 = .ok (.istore_n 2, 1) := by decide +kernel
theorem dX6_drawnWithout_6 : decode cX6_drawnWithout 6 = .ok (.iload_n 2, 1) := by decide +kernel
theorem dX6_drawnWithout_7 : decode cX6_drawnWithout 7 = .ok (.ifCond .ge 5, 3) := by decide +kernel
theorem dX6_drawnWithout_10 : decode cX6_drawnWithout 10 = .ok (.iconst (-1), 1) := by decide +kernel
theorem dX6_drawnWithout_11 : decode cX6_drawnWithout 11 = .ok (.ireturn, 1) := by decide +kernel
theorem dX6_drawnWithout_12 : decode cX6_drawnWithout 12 = .ok (.aload_n 0, 1) := by decide +kernel
theorem dX6_drawnWithout_13 : decode cX6_drawnWithout 13 = .ok (.invokevirtual 141, 3) := by decide +kernel
theorem dX6_drawnWithout_16 : decode cX6_drawnWithout 16 = .ok (.aload_n 0, 1) := by decide +kernel
theorem dX6_drawnWithout_17 : decode cX6_drawnWithout 17 = .ok (.iconst 1, 1) := by decide +kernel
theorem dX6_drawnWithout_18 : decode cX6_drawnWithout 18 = .ok (.iload_n 2, 1) := by decide +kernel
theorem dX6_drawnWithout_19 : decode cX6_drawnWithout 19 = .ok (.ishl, 1) := by decide +kernel
theorem dX6_drawnWithout_20 : decode cX6_drawnWithout 20 = .ok (.invokevirtual 206, 3) := by decide +kernel
theorem dX6_drawnWithout_23 : decode cX6_drawnWithout 23 = .ok (.aload_n 0, 1) := by decide +kernel
theorem dX6_drawnWithout_24 : decode cX6_drawnWithout 24 = .ok (.getfield 96, 3) := by decide +kernel
theorem dX6_drawnWithout_27 : decode cX6_drawnWithout 27 = .ok (.ireturn, 1) := by decide +kernel
theorem dJ6_bitCount_0f7a4_0 : decode cJ6_bitCount_0f7a4 0 = .ok (.iload_n 0, 1) := by decide +kernel
theorem dJ6_bitCount_0f7a4_1 : decode cJ6_bitCount_0f7a4 1 = .ok (.iload_n 0, 1) := by decide +kernel
theorem dJ6_bitCount_0f7a4_2 : decode cJ6_bitCount_0f7a4 2 = .ok (.iconst 1, 1) := by decide +kernel
theorem dJ6_bitCount_0f7a4_3 : decode cJ6_bitCount_0f7a4 3 = .ok (.iushr, 1) := by decide +kernel
theorem dJ6_bitCount_0f7a4_4 : decode cJ6_bitCount_0f7a4 4 = .ok (.ldc_w 265, 3) := by decide +kernel
theorem dJ6_bitCount_0f7a4_7 : decode cJ6_bitCount_0f7a4 7 = .ok (.iand, 1) := by decide +kernel
theorem dJ6_bitCount_0f7a4_8 : decode cJ6_bitCount_0f7a4 8 = .ok (.isub, 1) := by decide +kernel
theorem dJ6_bitCount_0f7a4_9 : decode cJ6_bitCount_0f7a4 9 = .ok (.istore_n 0, 1) := by decide +kernel
theorem dJ6_bitCount_0f7a4_10 : decode cJ6_bitCount_0f7a4 10 = .ok (.iload_n 0, 1) := by decide +kernel
theorem dJ6_bitCount_0f7a4_11 : decode cJ6_bitCount_0f7a4 11 = .ok (.ldc_w 266, 3) := by decide +kernel
theorem dJ6_bitCount_0f7a4_14 : decode cJ6_bitCount_0f7a4 14 = .ok (.iand, 1) := by decide +kernel
theorem dJ6_bitCount_0f7a4_15 : decode cJ6_bitCount_0f7a4 15 = .ok (.iload_n 0, 1) := by decide +kernel
theorem dJ6_bitCount_0f7a4_16 : decode cJ6_bitCount_0f7a4 16 = .ok (.iconst 2, 1) := by decide +kernel
theorem dJ6_bitCount_0f7a4_17 : decode cJ6_bitCount_0f7a4 17 = .ok (.iushr, 1) := by decide +kernel
theorem dJ6_bitCount_0f7a4_18 : decode cJ6_bitCount_0f7a4 18 = .ok (.ldc_w 266, 3) := by decide +kernel
theorem dJ6_bitCount_0f7a4_21 : decode cJ6_bitCount_0f7a4 21 = .ok (.iand, 1) := by decide +kernel
theorem dJ6_bitCount_0f7a4_22 : decode cJ6_bitCount_0f7a4 22 = .ok (.iadd, 1) := by decide +kernel
theorem dJ6_bitCount_0f7a4_23 : decode cJ6_bitCount_0f7a4 23 = .ok (.istore_n 0, 1) := by decide +kernel
theorem dJ6_bitCount_0f7a4_24 : decode cJ6_bitCount_0f7a4 24 = .ok (.iload_n 0, 1) := by decide +kernel
theorem dJ6_bitCount_0f7a4_25 : decode cJ6_bitCount_0f7a4 25 = .ok (.iload_n 0, 1) := by decide +kernel
theorem dJ6_bitCount_0f7a4_26 : decode cJ6_bitCount_0f7a4 26 = .ok (.iconst 4, 1) := by decide +kernel
theorem dJ6_bitCount_0f7a4_27 : decode cJ6_bitCount_0f7a4 27 = .ok (.iushr, 1) := by decide +kernel
theorem dJ6_bitCount_0f7a4_28 : decode cJ6_bitCount_0f7a4 28 = .ok (.iadd, 1) := by decide +kernel
theorem dJ6_bitCount_0f7a4_29 : decode cJ6_bitCount_0f7a4 29 = .ok (.ldc_w 267, 3) := by decide +kernel
theorem dJ6_bitCount_0f7a4_32 : decode cJ6_bitCount_0f7a4 32 = .ok (.iand, 1) := by decide +kernel
theorem dJ6_bitCount_0f7a4_33 : decode cJ6_bitCount_0f7a4 33 = .ok (.istore_n 0, 1) := by decide +kernel
theorem dJ6_bitCount_0f7a4_34 : decode cJ6_bitCount_0f7a4 34 = .ok (.iload_n 0, 1) := by decide +kernel
theorem dJ6_bitCount_0f7a4_35 : decode cJ6_bitCount_0f7a4 35 = .ok (.iload_n 0, 1) := by decide +kernel
theorem dJ6_bitCount_0f7a4_36 : decode cJ6_bitCount_0f7a4 36 = .ok (.bipush 8, 2) := by decide +kernel
theorem dJ6_bitCount_0f7a4_38 : decode cJ6_bitCount_0f7a4 38 = .ok (.iushr, 1) := by decide +kernel
theorem dJ6_bitCount_0f7a4_39 : decode cJ6_bitCount_0f7a4 39 = .ok (.iadd, 1) := by decide +kernel
theorem dJ6_bitCount_0f7a4_40 : decode cJ6_bitCount_0f7a4 40 = .ok (.istore_n 0, 1) := by decide +kernel
theorem dJ6_bitCount_0f7a4_41 : decode cJ6_bitCount_0f7a4 41 = .ok (.iload_n 0, 1) := by decide +kernel
theorem dJ6_bitCount_0f7a4_42 : decode cJ6_bitCount_0f7a4 42 = .ok (.iload_n 0, 1) := by decide +kernel
theorem dJ6_bitCount_0f7a4_43 : decode cJ6_bitCount_0f7a4 43 = .ok (.bipush 16, 2) := by decide +kernel
theorem dJ6_bitCount_0f7a4_45 : decode cJ6_bitCount_0f7a4 45 = .ok (.iushr, 1) := by decide +kernel
theorem dJ6_bitCount_0f7a4_46 : decode cJ6_bitCount_0f7a4 46 = .ok (.iadd, 1) := by decide +kernel
theorem dJ6_bitCount_0f7a4_47 : decode cJ6_bitCount_0f7a4 47 = .ok (.istore_n 0, 1) := by decide +kernel
theorem dJ6_bitCount_0f7a4_48 : decode cJ6_bitCount_0f7a4 48 = .ok (.iload_n 0, 1) := by decide +kernel
theorem dJ6_bitCount_0f7a4_49 : decode cJ6_bitCount_0f7a4 49 = .ok (.bipush 63, 2) := by decide +kernel
theorem dJ6_bitCount_0f7a4_51 : decode cJ6_bitCount_0f7a4 51 = .ok (.iand, 1) := by decide +kernel
theorem dJ6_bitCount_0f7a4_52 : decode cJ6_bitCount_0f7a4 52 = .ok (.ireturn, 1) := by decide +kernel
theorem dJ9_max_7cf53_0 : decode cJ9_max_7cf53 0 = .ok (.iload_n 0, 1) := by decide +kernel
theorem dJ9_max_7cf53_1 : decode cJ9_max_7cf53 1 = .ok (.iload_n 1, 1) := by decide +kernel
theorem dJ9_max_7cf53_2 : decode cJ9_max_7cf53 2 = .ok (.if_icmp .lt 7, 3) := by decide +kernel
theorem dJ9_max_7cf53_5 : decode cJ9_max_7cf53 5 = .ok (.iload_n 0, 1) := by decide +kernel
theorem dJ9_max_7cf53_6 : decode cJ9_max_7cf53 6 = .ok (.goto 4, 3) := by decide +kernel
theorem dJ9_max_7cf53_9 : decode cJ9_max_7cf53 9 = .ok (.iload_n 1, 1) := by decide +kernel
theorem dJ9_max_7cf53_10 : decode cJ9_max_7cf53 10 = .ok (.ireturn, 1) := by decide +kernel
theorem dJ7_fill_53178_0 : decode cJ7_fill_53178 0 = .ok (.iconst 0, 1) := by decide +kernel
theorem dJ7_fill_53178_1 : decode cJ7_fill_53178 1 = .ok (.istore_n 2, 1) := by decide +kernel
theorem dJ7_fill_53178_2 : decode cJ7_fill_53178 2 = .ok (.aload_n 0, 1) := by decide +kernel
theorem dJ7_fill_53178_3 : decode cJ7_fill_53178 3 = .ok (.arraylength, 1) := by decide +kernel
theorem dJ7_fill_53178_4 : decode cJ7_fill_53178 4 = .ok (.istore_n 3, 1) := by decide +kernel
theorem dJ7_fill_53178_5 : decode cJ7_fill_53178 5 = .ok (.iload_n 2, 1) := by decide +kernel
theorem dJ7_fill_53178_6 : decode cJ7_fill_53178 6 = .ok (.iload_n 3, 1) := by decide +kernel
theorem dJ7_fill_53178_7 : decode cJ7_fill_53178 7 = .ok (.if_icmp .ge 13, 3) := by decide +kernel
theorem dJ7_fill_53178_10 : decode cJ7_fill_53178 10 = .ok (.aload_n 0, 1) := by decide +kernel
theorem dJ7_fill_53178_11 : decode cJ7_fill_53178 11 = .ok (.iload_n 2, 1) := by decide +kernel
theorem dJ7_fill_53178_12 : decode cJ7_fill_53178 12 = .ok (.iload_n 1, 1) := by decide +kernel
theorem dJ7_fill_53178_13 : decode cJ7_fill_53178 13 = .ok (.iastore, 1) := by decide +kernel
theorem dJ7_fill_53178_14 : decode cJ7_fill_53178 14 = .ok (.iinc 2 1, 3) := by decide +kernel
theorem dJ7_fill_53178_17 : decode cJ7_fill_53178 17 = .ok (.goto (-12), 3) := by decide +kernel
theorem dJ7_fill_53178_20 : decode cJ7_fill_53178 20 = .ok (.return_, 1) := by decide +kernel
abbrev vwCl : List vw_C := [(RX0, TX0, 3), (RX1, TX1, 2), (RX2, TX2, 7), (RX3, TX3, 5), (RX4, TX4, 4), (RX5, TX5, 9), (RX6, TX6, 17)]
end
section
/-! CORE: one world of 381 cells (the class's 369, the reference's 12); the judgement AtW; contracts CtW; its rows -/
/-- what the cells hold: by a cell's number and a place in it -/
abbrev Sg : Type := Nat → Nat → Int32
/-- the classes' numbers and slots; the array classes (0 int, 1 Box, 2 Space, 3 char); the addresses by number -/
abbrev Om : Type := va_G × (Nat → ClassId) × (Nat → Nat)
def ad (Ω : Om) (k : Nat) : Nat := Ω.2.2 k
/-- box b: its cell, its low, its high; space s: its cell, its row; picture p -/
def iBo (b : Nat) : Nat := 3 * b
def iL (b : Nat) : Nat := 3 * b + 1
def iH (b : Nat) : Nat := 3 * b + 2
def iS (s : Nat) : Nat := 339 + 2 * s
def iA (s : Nat) : Nat := 340 + 2 * s
def iP (p : Nat) : Nat := 353 + 5 * p
/-- the box at a slot of a space -/
def bx (s i : Nat) : Nat := 16 * s + i
def upS (σ : Sg) (k i : Nat) (v : Int32) : Sg := fun k' => if k' = k then upd (σ k) i v else σ k'
theorem up_get (σ : Sg) (k i : Nat) (v : Int32) (k' i' : Nat) : upS σ k i v k' i' = if k' = k ∧ i' = i then v else σ k' i' := by
  unfold upS upd
  by_cases h : k' = k
  · subst h
    by_cases h2 : i' = i <;> simp [h2]
  · simp [h]
theorem up_at (σ : Sg) (k i : Nat) (v : Int32) : upS σ k i v k = upd (σ k) i v := by simp [upS]
theorem up_ne {σ : Sg} {k i : Nat} {v : Int32} {k' : Nat} (h : k' ≠ k) : upS σ k i v k' = σ k' := by simp [upS, h]
def zArr (Ω : Om) (σ : Sg) (k n : Nat) : va_E := .inl (Ω.2.1 0, n, .inl (σ k))
def zBox (Ω : Om) (σ : Sg) (k : Nat) : va_E := .inr (0, [.int (σ k 0), .ref (ad Ω (k + 1)), .ref (ad Ω (k + 2))])
def zSp (Ω : Om) (σ : Sg) (k : Nat) : va_E := .inr (3, [.ref (ad Ω (k + 1)), .int (σ k 1), .int (σ k 2), .int (σ k 3), .int (σ k 4)])
def zSpA (Ω : Om) (k : Nat) : va_E := .inl (Ω.2.1 1, 16, .inr (.inr (.inr (.inr (fun i => some (ad Ω (iBo (bx ((k - 340) / 2) i))))))))
def zPic (Ω : Om) (σ : Sg) (k : Nat) : va_E := .inr (2, [.int (σ k 0), .ref (ad Ω (k + 1)), .ref (ad Ω (k + 2)), .ref (ad Ω (k + 3)), .int (σ k 4), .int (σ k 5), .ref (ad Ω (k + 4))])
def zHis (Ω : Om) (σ : Sg) (k : Nat) : va_E := .inr (1, [.ref (ad Ω 364), .int (σ k 1)])
def zHisA (Ω : Om) (σ : Sg) (k : Nat) : va_E := .inl (Ω.2.1 2, 4, .inr (.inr (.inr (.inr (fun i => some (ad Ω (iS (σ k i).toNatClampNeg)))))))
def zTxt (Ω : Om) (σ : Sg) (k : Nat) : va_E := .inr (4, [.ref (ad Ω 366), .int (σ k 1), .ref (ad Ω 367), .int (σ k 3)])
def zCh (Ω : Om) (σ : Sg) (k : Nat) : va_E := .inl (Ω.2.1 3, 80, .inl (σ k))
def zMain (Ω : Om) (σ : Sg) (k : Nat) : va_E := .inr (5, [.ref (ad Ω (iS 0)), .ref (ad Ω (iS 1)), .ref (ad Ω (iS 2)), .int (σ k 3), .ref (ad Ω 363), .ref (ad Ω 365), .ref (ad Ω (iP 0)), .ref (ad Ω (iP 1)), .ref (ad Ω (iBo 112))])
def zMod (Ω : Om) (σ : Sg) (k : Nat) : va_E := .inr (6, [.ref (ad Ω 370), .ref (ad Ω 371), .ref (ad Ω 372), .int (σ k 3), .ref (ad Ω 373), .int (σ k 5), .ref (ad Ω 374), .int (σ k 7), .ref (ad Ω 375), .ref (ad Ω 376), .ref (ad Ω 377), .ref (ad Ω 378), .int (σ k 12), .ref (ad Ω 379), .ref (ad Ω 380), .int (σ k 15), .int (σ k 16)])
def mLen (k : Nat) : Nat := if k = 372 then 464 else if k < 374 then 116 else if k = 374 then 80 else if k = 380 then 6 else 16
def cel (Ω : Om) (σ : Sg) (k : Nat) : va_E :=
  if k < 339 then (if k % 3 = 0 then zBox Ω σ k else zArr Ω σ k 3)
  else if k < 353 then (if k % 2 = 1 then zSp Ω σ k else zSpA Ω k)
  else if k < 363 then (if k = 353 ∨ k = 358 then zPic Ω σ k else zArr Ω σ k 16)
  else if k = 363 then zHis Ω σ k else if k = 364 then zHisA Ω σ k else if k = 365 then zTxt Ω σ k else if k = 366 then zCh Ω σ k else if k = 367 then zArr Ω σ k 41
  else if k = 368 then zMain Ω σ k else if k = 369 then zMod Ω σ k else zArr Ω σ k (mLen k)
theorem cel_box {Ω : Om} {σ : Sg} {b : Nat} (h : b < 113) : cel Ω σ (iBo b) = .inr (0, [.int (σ (iBo b) 0), .ref (ad Ω (iL b)), .ref (ad Ω (iH b))]) := by
  unfold cel iBo
  rw [if_pos (by omega), if_pos (by omega)]
  rfl
theorem cel_low {Ω : Om} {σ : Sg} {b : Nat} (h : b < 113) : cel Ω σ (iL b) = .inl (Ω.2.1 0, 3, .inl (σ (iL b))) := by
  unfold cel iL
  rw [if_pos (by omega), if_neg (by omega)]
  rfl
theorem cel_high {Ω : Om} {σ : Sg} {b : Nat} (h : b < 113) : cel Ω σ (iH b) = .inl (Ω.2.1 0, 3, .inl (σ (iH b))) := by
  unfold cel iH
  rw [if_pos (by omega), if_neg (by omega)]
  rfl
theorem cel_sp {Ω : Om} {σ : Sg} {s : Nat} (h : s < 7) : cel Ω σ (iS s) = .inr (3, [.ref (ad Ω (iA s)), .int (σ (iS s) 1), .int (σ (iS s) 2), .int (σ (iS s) 3), .int (σ (iS s) 4)]) := by
  unfold cel iS iA
  rw [if_neg (by omega), if_pos (by omega), if_pos (by omega)]
  unfold zSp
  rw [show 339 + 2 * s + 1 = 340 + 2 * s by omega]
theorem cel_spA {Ω : Om} {σ : Sg} {s : Nat} (h : s < 7) : cel Ω σ (iA s) = .inl (Ω.2.1 1, 16, .inr (.inr (.inr (.inr (fun i => some (ad Ω (iBo (bx s i)))))))) := by
  unfold cel iA
  rw [if_neg (by omega), if_pos (by omega), if_neg (by omega)]
  unfold zSpA
  rw [show (340 + 2 * s - 340) / 2 = s by omega]
theorem cel_pic {Ω : Om} {σ : Sg} {p : Nat} (h : p < 2) : cel Ω σ (iP p) = .inr (2, [.int (σ (iP p) 0), .ref (ad Ω (iP p + 1)), .ref (ad Ω (iP p + 2)), .ref (ad Ω (iP p + 3)), .int (σ (iP p) 4), .int (σ (iP p) 5), .ref (ad Ω (iP p + 4))]) := by
  unfold cel iP
  rw [if_neg (by omega), if_neg (by omega), if_pos (by omega), if_pos (by omega)]
  rfl
theorem cel_picA {Ω : Om} {σ : Sg} {p j : Nat} (h : p < 2) (h1 : 0 < j) (h2 : j < 5) : cel Ω σ (iP p + j) = .inl (Ω.2.1 0, 16, .inl (σ (iP p + j))) := by
  unfold cel iP
  rw [if_neg (by omega), if_neg (by omega), if_pos (by omega), if_neg (by omega)]
  rfl
theorem cel_marr {Ω : Om} {σ : Sg} {k : Nat} (h : 369 < k) : cel Ω σ k = .inl (Ω.2.1 0, mLen k, .inl (σ k)) := by
  unfold cel
  rw [if_neg (by omega), if_neg (by omega), if_neg (by omega), if_neg (by omega), if_neg (by omega), if_neg (by omega), if_neg (by omega), if_neg (by omega), if_neg (by omega), if_neg (by omega)]
  rfl
theorem cel_congr {Ω : Om} {σ σ' : Sg} {k : Nat} (h : σ' k = σ k) : cel Ω σ' k = cel Ω σ k := by
  unfold cel zBox zArr zSp zPic zHis zHisA zTxt zCh zMain zMod
  simp only [h]
def CW (Ω : Om) (σ : Sg) : va_W := (List.range 381).map fun k => (ad Ω k, cel Ω σ k)
theorem CW_get {Ω : Om} {σ : Sg} {k : Nat} (h : k < 381) : (CW Ω σ)[k]? = some (ad Ω k, cel Ω σ k) := by
  simp [CW, h]
theorem CW_set {Ω : Om} {σ σ' : Sg} {k : Nat} {e : va_E} (ho : ∀ j, j ≠ k → σ' j = σ j) (he : cel Ω σ' k = e) : (CW Ω σ).set k (ad Ω k, e) = CW Ω σ' := by
  subst he
  refine List.ext_getElem? fun j => ?_
  rw [List.getElem?_set]
  by_cases hj : k = j
  · subst hj
    by_cases hk : k < 381
    · rw [if_pos rfl, if_pos (by simp [CW, hk]), CW_get hk]
    · rw [if_pos rfl, if_neg (by simp [CW, hk])]
      simp [CW, hk]
  · rw [if_neg hj]
    by_cases hk : j < 381
    · rw [CW_get hk, CW_get hk, cel_congr (ho j (fun q => hj q.symm))]
    · simp [CW, hk]
theorem CW_D {A : Nat → Prop} {Ω : Om} {σ σ' : Sg} (h : va_D A (CW Ω σ)) : va_D A (CW Ω σ') := by
  have key : ∀ (k : Nat) (q : Nat × va_E), (CW Ω σ')[k]? = some q → ∃ q', (CW Ω σ)[k]? = some q' ∧ q'.1 = q.1 := by
    intro k q hq
    by_cases hk : k < 381
    · rw [CW_get hk] at hq
      exact ⟨_, CW_get hk, by cases hq; rfl⟩
    · simp [CW, hk] at hq
  refine ⟨fun i j p q hp hq e => ?_, fun k q hq => ?_⟩
  · obtain ⟨p', h1, h2⟩ := key i p hp
    obtain ⟨q', h3, h4⟩ := key j q hq
    exact h.1 i j p' q' h1 h3 (by rw [h2, h4, e])
  · obtain ⟨q', h1, h2⟩ := key k q hq
    rw [← h2]
    exact h.2 k q' h1
abbrev Sz0 : Sg := fun _ _ => 0
def tysO (Ω : Om) : List (ClassId × FieldType) := [(Ω.2.1 0, .int), (Ω.2.1 1, .object RX0), (Ω.2.1 2, .object RX3), (Ω.2.1 3, .char)]
/-! locals as a list by place, with holes -/
def lvZ : Nat → List (Option Value) → List (Nat × Value)
  | _, [] => []
  | i, none :: t => lvZ (i + 1) t
  | i, some v :: t => (i, v) :: lvZ (i + 1) t
def lvG : List (Option Value) → Nat → Option Value
  | [], _ => none
  | a :: _, 0 => a
  | _ :: t, i + 1 => lvG t i
def lvS : List (Option Value) → Nat → Option Value → List (Option Value)
  | [], _, _ => []
  | _ :: t, 0, v => v :: t
  | a :: t, i + 1, v => a :: lvS t i v
theorem lvZ_mem : ∀ (lv : List (Option Value)) (k : Nat) (q : Nat × Value), q ∈ lvZ k lv ↔ ∃ j, lvG lv j = some q.2 ∧ q.1 = k + j
  | [], k, q => by simp [lvZ, lvG]
  | none :: t, k, q => by
    rw [lvZ, lvZ_mem t]
    constructor
    · rintro ⟨j, h1, h2⟩
      exact ⟨j + 1, h1, by omega⟩
    · rintro ⟨j, h1, h2⟩
      cases j with
      | zero => simp [lvG] at h1
      | succ j => exact ⟨j, h1, by omega⟩
  | some v :: t, k, q => by
    rw [lvZ, List.mem_cons, lvZ_mem t]
    constructor
    · rintro (rfl | ⟨j, h1, h2⟩)
      · exact ⟨0, rfl, rfl⟩
      · exact ⟨j + 1, h1, by omega⟩
    · rintro ⟨j, h1, h2⟩
      cases j with
      | zero => exact Or.inl (by obtain ⟨a, b⟩ := q; simp [lvG] at h1; simp at h2; rw [h1, h2])
      | succ j => exact Or.inr ⟨j, h1, by omega⟩
theorem lvG_S : ∀ (lv : List (Option Value)) (i j : Nat) (v : Option Value), lvG (lvS lv i v) j = if j = i ∧ i < lv.length then v else lvG lv j
  | [], i, j, v => by simp [lvS, lvG]
  | a :: t, 0, 0, v => by simp [lvS, lvG]
  | a :: t, 0, j + 1, v => by simp [lvS, lvG]
  | a :: t, i + 1, 0, v => by simp [lvS, lvG]
  | a :: t, i + 1, j + 1, v => by
    rw [lvS, lvG, lvG_S t i j v]
    simp [lvG]
def lvH (ls : Array Slot) (n : Nat) (lv : List (Option Value)) : Prop := lv_has ls n (lvZ 0 lv)
theorem lvH_at {ls : Array Slot} {n i : Nat} {lv : List (Option Value)} {v : Value} (h : lvH ls n lv) (hl : lvG lv i = some v) : ls[i]? = some (.val v) :=
  h.2.2 (i, v) ((lvZ_mem lv 0 (i, v)).mpr ⟨i, hl, by omega⟩)
/-- no long stands just ahead -/
def lvK (lv : List (Option Value)) : Nat → Bool
  | 0 => true
  | i + 1 => match lvG lv i with
    | some v => v.category != 2
    | none => true
theorem lvH_set {ls : Array Slot} {n i : Nat} {lv : List (Option Value)} {v : Value} (h : lv_has ls n ((i, v) :: (lvZ 0 lv).filter (fun q => !(q.1 == i) && !(q.1 + 1 == i && q.2.category == 2)))) (hk : lvK lv i = true) : lvH ls n (lvS lv i (some v)) := by
  refine ⟨h.1, h.2.1, fun q hq => ?_⟩
  obtain ⟨j, h1, h2⟩ := (lvZ_mem _ _ _).mp hq
  rw [lvG_S] at h1
  obtain ⟨a, w⟩ := q
  simp only [Nat.zero_add] at h2
  subst h2
  split at h1
  next hc =>
    obtain ⟨rfl, -⟩ := hc
    cases h1
    exact h.2.2 (a, v) List.mem_cons_self
  next hc =>
    by_cases hai : a = i
    · subst hai
      have : ¬ a < lv.length := fun q => hc ⟨rfl, q⟩
      have hn : ∀ (l : List (Option Value)) (a : Nat), ¬ a < l.length → lvG l a = none := by
        intro l
        induction l with
        | nil => intro a _; rfl
        | cons b t ih =>
          intro a ha
          cases a with
          | zero => simp at ha
          | succ a => exact ih a (by simpa using ha)
      rw [hn lv a this] at h1
      cases h1
    · refine h.2.2 (a, w) (List.mem_cons_of_mem _ (List.mem_filter.mpr ⟨(lvZ_mem _ _ _).mpr ⟨a, h1, by omega⟩, ?_⟩))
      have e1 : (a == i) = false := by simpa using hai
      simp only [e1, Bool.not_false, Bool.true_and]
      by_cases hb : a + 1 = i
      · subst hb
        simp only [lvK] at hk
        simp only at h1
        rw [h1] at hk
        simpa using hk
      · have e2 : (a + 1 == i) = false := by simpa using hb
        simp [e2]
theorem lvH_set2 {ls : Array Slot} {n i : Nat} {lv : List (Option Value)} {v : Value} (h : lv_has ls n ((i, v) :: (lvZ 0 lv).filter (fun q => !(q.1 == i) && (!(q.1 == i + 1) && !(q.1 + 1 == i && q.2.category == 2))))) (hk : lvK lv i = true) : lvH ls n (lvS (lvS lv i (some v)) (i + 1) none) := by
  refine ⟨h.1, h.2.1, fun q hq => ?_⟩
  obtain ⟨j, h1, h2⟩ := (lvZ_mem _ _ _).mp hq
  rw [lvG_S, lvG_S] at h1
  obtain ⟨a, w⟩ := q
  simp only [Nat.zero_add] at h2
  subst h2
  split at h1
  next hc => cases h1
  next hc0 =>
    have hn : ∀ (l : List (Option Value)) (a : Nat), ¬ a < l.length → lvG l a = none := by
      intro l
      induction l with
      | nil => intro a _; rfl
      | cons b t ih =>
        intro a ha
        cases a with
        | zero => simp at ha
        | succ a => exact ih a (by simpa using ha)
    have hlen : ∀ (l : List (Option Value)) (i : Nat) (v : Option Value), (lvS l i v).length = l.length := by
      intro l
      induction l with
      | nil => intro i v; rfl
      | cons b t ih =>
        intro i v
        cases i with
        | zero => rfl
        | succ i => simp [lvS, ih]
    rw [hlen] at hc0
    split at h1
    next hc =>
      obtain ⟨rfl, -⟩ := hc
      cases h1
      exact h.2.2 (a, v) List.mem_cons_self
    next hc =>
      have g0 : ∀ b, lvG lv b = some w → b < lv.length := fun b hb => Nat.not_le.mp (fun q => by rw [hn lv b (by omega)] at hb; cases hb)
      have hal := g0 a h1
      have hai : a ≠ i := fun e => hc ⟨e, by omega⟩
      have hai1 : a ≠ i + 1 := fun e => hc0 ⟨e, by omega⟩
      refine h.2.2 (a, w) (List.mem_cons_of_mem _ (List.mem_filter.mpr ⟨(lvZ_mem _ _ _).mpr ⟨a, h1, by omega⟩, ?_⟩))
      have e1 : (a == i) = false := by simpa using hai
      have e3 : (a == i + 1) = false := by simpa using hai1
      simp only [e1, e3, Bool.not_false, Bool.true_and]
      by_cases hb : a + 1 = i
      · subst hb
        simp only [lvK] at hk
        simp only at h1
        rw [h1] at hk
        simpa using hk
      · have e2 : (a + 1 == i) = false := by simpa using hb
        simp [e2]
end
section
theorem zz_last : True := trivial
end
