theorem dX5_enter_48 : decode cX5_enter 48 = .ok (.istore 8, 2) := by decide +kernel
theorem dX5_enter_50 : decode cX5_enter 50 = .ok (.iload 8, 2) := by decide +kernel
theorem dX5_enter_52 : decode cX5_enter 52 = .ok (.ifCond .ne 6, 3) := by decide +kernel
theorem dX5_enter_55 : decode cX5_enter 55 = .ok (.bipush (-2), 2) := by decide +kernel
theorem dX5_enter_57 : decode cX5_enter 57 = .ok (.ireturn, 1) := by decide +kernel
theorem dX5_enter_58 : decode cX5_enter 58 = .ok (.aload_n 1, 1) := by decide +kernel
theorem dX5_enter_59 : decode cX5_enter 59 = .ok (.aload_n 0, 1) := by decide +kernel
theorem dX5_enter_60 : decode cX5_enter 60 = .ok (.getfield 49, 3) := by decide +kernel
theorem dX5_enter_63 : decode cX5_enter 63 = .ok (.iconst (-1), 1) := by decide +kernel
theorem dX5_enter_64 : decode cX5_enter 64 = .ok (.invokevirtual 99, 3) := by decide +kernel
theorem dX5_enter_67 : decode cX5_enter 67 = .ok (.ifCond .eq 6, 3) := by decide +kernel
theorem dX5_enter_70 : decode cX5_enter 70 = .ok (.bipush (-4), 2) := by decide +kernel
theorem dX5_enter_72 : decode cX5_enter 72 = .ok (.ireturn, 1) := by decide +kernel
theorem dX5_enter_73 : decode cX5_enter 73 = .ok (.aload_n 1, 1) := by decide +kernel
theorem dX5_enter_74 : decode cX5_enter 74 = .ok (.invokevirtual 106, 3) := by decide +kernel
theorem dX5_enter_77 : decode cX5_enter 77 = .ok (.ifCond .eq 8, 3) := by decide +kernel
theorem dX5_enter_80 : decode cX5_enter 80 = .ok (.bipush (-3), 2) := by decide +kernel
theorem dX5_enter_82 : decode cX5_enter 82 = .ok (.goto 11, 3) := by decide +kernel
theorem dX5_enter_85 : decode cX5_enter 85 = .ok (.aload_n 1, 1) := by decide +kernel
theorem dX5_enter_86 : decode cX5_enter 86 = .ok (.aload_n 0, 1) := by decide +kernel
theorem dX5_enter_87 : decode cX5_enter 87 = .ok (.getfield 49, 3) := by decide +kernel
theorem dX5_enter_90 : decode cX5_enter 90 = .ok (.invokevirtual 225, 3) := by decide +kernel
theorem dX5_enter_93 : decode cX5_enter 93 = .ok (.ireturn, 1) := by decide +kernel
set_option maxRecDepth 20000 in
theorem ggX5_breakOne_X2_look : GoodIn wsX5_breakOne wsX2_look := goodIn_r _ [8, 9, 10, 11, 12, 13, 7, 14, 15, 16, 17, 18, 19, 20, 21, 22, 23, 24, 25, 26, 27, 28, 29, 30, 31, 32, 33, 34, 35, 36, 37, 38, 39, 40, 41, 42, 43, 44, 45, 46, 47, 48, 49, 50, 51, 52, 53, 54, 55, 56, 57, 58, 59, 60, 61, 62, 63, 64, 65, 66, 67, 68, 69, 70, 71, 72, 73, 74, 75, 76, 77, 78, 79, 80, 81, 82, 83, 84, 85, 134, 135, 136, 137, 138, 142, 143, 144, 145, 146, 147, 148, 139, 140, 141] (by decide +kernel) (by decide +kernel)
set_option maxRecDepth 20000 in
theorem gX5_breakOne_X2_look : GoodIn wsX5_breakOne (wsV RX5 125 RX2 yX2_look wsX2_look) := goodIn_app (goodIn_of _ (by decide +kernel)) ggX5_breakOne_X2_look
set_option maxRecDepth 20000 in
theorem ggX5_breakOne_X2_greatestInRings : GoodIn wsX5_breakOne wsX2_greatestInRings := goodIn_r _ [89, 10, 15, 90, 91, 92, 7, 93, 35, 40, 41, 42, 94, 71, 72, 19, 73, 74, 75, 76, 77, 22, 21, 142, 143, 144, 145, 146, 147, 148, 134, 135, 136, 137, 138, 139, 140, 141] (by decide +kernel) (by decide +kernel)
set_option maxRecDepth 20000 in
theorem gX5_breakOne_X2_greatestInRings : GoodIn wsX5_breakOne (wsV RX5 227 RX2 yX2_greatestInRings wsX2_greatestInRings) := goodIn_app (goodIn_of _ (by decide +kernel)) ggX5_breakOne_X2_greatestInRings
set_option maxRecDepth 20000 in
theorem ggX5_breakOne_X0_longestDirection : GoodIn wsX5_breakOne wsX0_longestDirection := goodIn_r _ [98, 74, 75, 76, 19, 77, 22, 21, 139, 140, 141] (by decide +kernel) (by decide +kernel)
set_option maxRecDepth 20000 in
theorem gX5_breakOne_X0_longestDirection : GoodIn wsX5_breakOne (wsV RX5 230 RX0 yX0_longestDirection wsX0_longestDirection) := goodIn_app (goodIn_of _ (by decide +kernel)) ggX5_breakOne_X0_longestDirection
set_option maxRecDepth 20000 in
theorem ggX5_breakOne_X0_size : GoodIn wsX5_breakOne wsX0_size := goodIn_r _ [77, 22, 21, 139, 140, 141] (by decide +kernel) (by decide +kernel)
set_option maxRecDepth 20000 in
theorem gX5_breakOne_X0_size : GoodIn wsX5_breakOne (wsV RX5 233 RX0 yX0_size wsX0_size) := goodIn_app (goodIn_of _ (by decide +kernel)) ggX5_breakOne_X0_size
set_option maxRecDepth 20000 in
theorem ggX5_breakOne_X3_isFull : GoodIn wsX5_breakOne wsX3_isFull := goodIn_r _ [103, 104, 134, 135, 136, 137, 138] (by decide +kernel) (by decide +kernel)
set_option maxRecDepth 20000 in
theorem gX5_breakOne_X3_isFull : GoodIn wsX5_breakOne (wsV RX5 106 RX3 yX3_isFull wsX3_isFull) := goodIn_app (goodIn_of _ (by decide +kernel)) ggX5_breakOne_X3_isFull
set_option maxRecDepth 20000 in
theorem ggX5_breakOne_X3_cutInTwo : GoodIn wsX5_breakOne wsX3_cutInTwo := goodIn_r _ [108, 65, 104, 109, 110, 111, 112, 113, 114, 62, 115, 116, 117, 118, 101, 102, 103, 119, 120, 121, 19, 122, 123, 21, 124, 37, 38, 39, 22, 134, 135, 136, 137, 138, 139, 140, 141] (by decide +kernel) (by decide +kernel)
set_option maxRecDepth 20000 in
theorem gX5_breakOne_X3_cutInTwo : GoodIn wsX5_breakOne (wsV RX5 110 RX3 yX3_cutInTwo wsX3_cutInTwo) := goodIn_app (goodIn_of _ (by decide +kernel)) ggX5_breakOne_X3_cutInTwo
theorem dX5_breakOne_0 : decode cX5_breakOne 0 = .ok (.aload_n 0, 1) := by decide +kernel
theorem dX5_breakOne_1 : decode cX5_breakOne 1 = .ok (.getfield 39, 3) := by decide +kernel
theorem dX5_breakOne_4 : decode cX5_breakOne 4 = .ok (.aload_n 1, 1) := by decide +kernel
theorem dX5_breakOne_5 : decode cX5_breakOne 5 = .ok (.invokevirtual 125, 3) := by decide +kernel
theorem dX5_breakOne_8 : decode cX5_breakOne 8 = .ok (.aload_n 0, 1) := by decide +kernel
theorem dX5_breakOne_9 : decode cX5_breakOne 9 = .ok (.getfield 39, 3) := by decide +kernel
theorem dX5_breakOne_12 : decode cX5_breakOne 12 = .ok (.aload_n 1, 1) := by decide +kernel
theorem dX5_breakOne_13 : decode cX5_breakOne 13 = .ok (.invokevirtual 227, 3) := by decide +kernel
theorem dX5_breakOne_16 : decode cX5_breakOne 16 = .ok (.istore_n 2, 1) := by decide +kernel
theorem dX5_breakOne_17 : decode cX5_breakOne 17 = .ok (.iload_n 2, 1) := by decide +kernel
theorem dX5_breakOne_18 : decode cX5_breakOne 18 = .ok (.iconst (-1), 1) := by decide +kernel
theorem dX5_breakOne_19 : decode cX5_breakOne 19 = .ok (.if_icmp .ne 6, 3) := by decide +kernel
theorem dX5_breakOne_22 : decode cX5_breakOne 22 = .ok (.bipush (-5), 2) := by decide +kernel
theorem dX5_breakOne_24 : decode cX5_breakOne 24 = .ok (.ireturn, 1) := by decide +kernel
theorem dX5_breakOne_25 : decode cX5_breakOne 25 = .ok (.aload_n 1, 1) := by decide +kernel
theorem dX5_breakOne_26 : decode cX5_breakOne 26 = .ok (.getfield 72, 3) := by decide +kernel
theorem dX5_breakOne_29 : decode cX5_breakOne 29 = .ok (.iload_n 2, 1) := by decide +kernel
theorem dX5_breakOne_30 : decode cX5_breakOne 30 = .ok (.aaload, 1) := by decide +kernel
theorem dX5_breakOne_31 : decode cX5_breakOne 31 = .ok (.astore_n 3, 1) := by decide +kernel
theorem dX5_breakOne_32 : decode cX5_breakOne 32 = .ok (.aload_n 3, 1) := by decide +kernel
theorem dX5_breakOne_33 : decode cX5_breakOne 33 = .ok (.invokevirtual 230, 3) := by decide +kernel
theorem dX5_breakOne_36 : decode cX5_breakOne 36 = .ok (.istore 4, 2) := by decide +kernel
theorem dX5_breakOne_38 : decode cX5_breakOne 38 = .ok (.aload_n 3, 1) := by decide +kernel
theorem dX5_breakOne_39 : decode cX5_breakOne 39 = .ok (.iload 4, 2) := by decide +kernel
theorem dX5_breakOne_41 : decode cX5_breakOne 41 = .ok (.invokevirtual 233, 3) := by decide +kernel
theorem dX5_breakOne_44 : decode cX5_breakOne 44 = .ok (.istore 5, 2) := by decide +kernel
theorem dX5_breakOne_46 : decode cX5_breakOne 46 = .ok (.iload 5, 2) := by decide +kernel
theorem dX5_breakOne_48 : decode cX5_breakOne 48 = .ok (.iconst 1, 1) := by decide +kernel
theorem dX5_breakOne_49 : decode cX5_breakOne 49 = .ok (.if_icmp .gt 6, 3) := by decide +kernel
theorem dX5_breakOne_52 : decode cX5_breakOne 52 = .ok (.bipush (-4), 2) := by decide +kernel
theorem dX5_breakOne_54 : decode cX5_breakOne 54 = .ok (.ireturn, 1) := by decide +kernel
theorem dX5_breakOne_55 : decode cX5_breakOne 55 = .ok (.aload_n 1, 1) := by decide +kernel
theorem dX5_breakOne_56 : decode cX5_breakOne 56 = .ok (.invokevirtual 106, 3) := by decide +kernel
theorem dX5_breakOne_59 : decode cX5_breakOne 59 = .ok (.ifCond .eq 6, 3) := by decide +kernel
theorem dX5_breakOne_62 : decode cX5_breakOne 62 = .ok (.bipush (-3), 2) := by decide +kernel
theorem dX5_breakOne_64 : decode cX5_breakOne 64 = .ok (.ireturn, 1) := by decide +kernel
theorem dX5_breakOne_65 : decode cX5_breakOne 65 = .ok (.aload_n 1, 1) := by decide +kernel
theorem dX5_breakOne_66 : decode cX5_breakOne 66 = .ok (.iload_n 2, 1) := by decide +kernel
theorem dX5_breakOne_67 : decode cX5_breakOne 67 = .ok (.iload 4, 2) := by decide +kernel
theorem dX5_breakOne_69 : decode cX5_breakOne 69 = .ok (.aload_n 3, 1) := by decide +kernel
theorem dX5_breakOne_70 : decode cX5_breakOne 70 = .ok (.getfield 88, 3) := by decide +kernel
theorem dX5_breakOne_73 : decode cX5_breakOne 73 = .ok (.iload 4, 2) := by decide +kernel
theorem dX5_breakOne_75 : decode cX5_breakOne 75 = .ok (.iaload, 1) := by decide +kernel
theorem dX5_breakOne_76 : decode cX5_breakOne 76 = .ok (.iload 5, 2) := by decide +kernel
theorem dX5_breakOne_78 : decode cX5_breakOne 78 = .ok (.iconst 2, 1) := by decide +kernel
theorem dX5_breakOne_79 : decode cX5_breakOne 79 = .ok (.idiv, 1) := by decide +kernel
theorem dX5_breakOne_80 : decode cX5_breakOne 80 = .ok (.iadd, 1) := by decide +kernel
theorem dX5_breakOne_81 : decode cX5_breakOne 81 = .ok (.invokevirtual 110, 3) := by decide +kernel
theorem dX5_breakOne_84 : decode cX5_breakOne 84 = .ok (.ireturn, 1) := by decide +kernel
theorem dX6_init_0 : decode cX6_init 0 = .ok (.aload_n 0, 1) := by decide +kernel
theorem dX6_init_1 : decode cX6_init 1 = .ok (.invokespecial 1, 3) := by decide +kernel
theorem dX6_init_4 : decode cX6_init 4 = .ok (.aload_n 0, 1) := by decide +kernel
theorem dX6_init_5 : decode cX6_init 5 = .ok (.bipush 116, 2) := by decide +kernel
theorem dX6_init_7 : decode cX6_init 7 = .ok (.newarray .int, 2) := by decide +kernel
theorem dX6_init_9 : decode cX6_init 9 = .ok (.putfield 7, 3) := by decide +kernel
theorem dX6_init_12 : decode cX6_init 12 = .ok (.aload_n 0, 1) := by decide +kernel
theorem dX6_init_13 : decode cX6_init 13 = .ok (.bipush 116, 2) := by decide +kernel
theorem dX6_init_15 : decode cX6_init 15 = .ok (.newarray .int, 2) := by decide +kernel
theorem dX6_init_17 : decode cX6_init 17 = .ok (.putfield 13, 3) := by decide +kernel
theorem dX6_init_20 : decode cX6_init 20 = .ok (.aload_n 0, 1) := by decide +kernel
theorem dX6_init_21 : decode cX6_init 21 = .ok (.sipush 464, 3) := by decide +kernel
theorem dX6_init_24 : decode cX6_init 24 = .ok (.newarray .int, 2) := by decide +kernel
theorem dX6_init_26 : decode cX6_init 26 = .ok (.putfield 16, 3) := by decide +kernel
theorem dX6_init_29 : decode cX6_init 29 = .ok (.aload_n 0, 1) := by decide +kernel
theorem dX6_init_30 : decode cX6_init 30 = .ok (.bipush 116, 2) := by decide +kernel
theorem dX6_init_32 : decode cX6_init 32 = .ok (.newarray .int, 2) := by decide +kernel
theorem dX6_init_34 : decode cX6_init 34 = .ok (.putfield 19, 3) := by decide +kernel
theorem dX6_init_37 : decode cX6_init 37 = .ok (.aload_n 0, 1) := by decide +kernel
theorem dX6_init_38 : decode cX6_init 38 = .ok (.bipush 80, 2) := by decide +kernel
theorem dX6_init_40 : decode cX6_init 40 = .ok (.newarray .int, 2) := by decide +kernel
theorem dX6_init_42 : decode cX6_init 42 = .ok (.putfield 22, 3) := by decide +kernel
theorem dX6_init_45 : decode cX6_init 45 = .ok (.aload_n 0, 1) := by decide +kernel
theorem dX6_init_46 : decode cX6_init 46 = .ok (.bipush 16, 2) := by decide +kernel
theorem dX6_init_48 : decode cX6_init 48 = .ok (.newarray .int, 2) := by decide +kernel
theorem dX6_init_50 : decode cX6_init 50 = .ok (.putfield 25, 3) := by decide +kernel
theorem dX6_init_53 : decode cX6_init 53 = .ok (.aload_n 0, 1) := by decide +kernel
theorem dX6_init_54 : decode cX6_init 54 = .ok (.bipush 16, 2) := by decide +kernel
theorem dX6_init_56 : decode cX6_init 56 = .ok (.newarray .int, 2) := by decide +kernel
theorem dX6_init_58 : decode cX6_init 58 = .ok (.putfield 28, 3) := by decide +kernel
theorem dX6_init_61 : decode cX6_init 61 = .ok (.aload_n 0, 1) := by decide +kernel
theorem dX6_init_62 : decode cX6_init 62 = .ok (.bipush 16, 2) := by decide +kernel
theorem dX6_init_64 : decode cX6_init 64 = .ok (.newarray .int, 2) := by decide +kernel
theorem dX6_init_66 : decode cX6_init 66 = .ok (.putfield 31, 3) := by decide +kernel
theorem dX6_init_69 : decode cX6_init 69 = .ok (.aload_n 0, 1) := by decide +kernel
theorem dX6_init_70 : decode cX6_init 70 = .ok (.bipush 16, 2) := by decide +kernel
theorem dX6_init_72 : decode cX6_init 72 = .ok (.newarray .int, 2) := by decide +kernel
theorem dX6_init_74 : decode cX6_init 74 = .ok (.putfield 34, 3) := by decide +kernel
theorem dX6_init_77 : decode cX6_init 77 = .ok (.aload_n 0, 1) := by decide +kernel
theorem dX6_init_78 : decode cX6_init 78 = .ok (.bipush 16, 2) := by decide +kernel
theorem dX6_init_80 : decode cX6_init 80 = .ok (.newarray .int, 2) := by decide +kernel
theorem dX6_init_82 : decode cX6_init 82 = .ok (.putfield 37, 3) := by decide +kernel
theorem dX6_init_85 : decode cX6_init 85 = .ok (.aload_n 0, 1) := by decide +kernel
theorem dX6_init_86 : decode cX6_init 86 = .ok (.bipush 6, 2) := by decide +kernel
theorem dX6_init_88 : decode cX6_init 88 = .ok (.newarray .int, 2) := by decide +kernel
theorem dX6_init_90 : decode cX6_init 90 = .ok (.putfield 40, 3) := by decide +kernel
theorem dX6_init_93 : decode cX6_init 93 = .ok (.return_, 1) := by decide +kernel
theorem dX6_in_0 : decode cX6_in 0 = .ok (.lload_n 0, 1) := by decide +kernel
theorem dX6_in_1 : decode cX6_in 1 = .ok (.iload_n 2, 1) := by decide +kernel
theorem dX6_in_2 : decode cX6_in 2 = .ok (.i2l, 1) := by decide +kernel
theorem dX6_in_3 : decode cX6_in 3 = .ok (.lcmp, 1) := by decide +kernel
theorem dX6_in_4 : decode cX6_in 4 = .ok (.ifCond .lt 14, 3) := by decide +kernel
theorem dX6_in_7 : decode cX6_in 7 = .ok (.lload_n 0, 1) := by decide +kernel
theorem dX6_in_8 : decode cX6_in 8 = .ok (.iload_n 3, 1) := by decide +kernel
theorem dX6_in_9 : decode cX6_in 9 = .ok (.i2l, 1) := by decide +kernel
theorem dX6_in_10 : decode cX6_in 10 = .ok (.lcmp, 1) := by decide +kernel
theorem dX6_in_11 : decode cX6_in 11 = .ok (.ifCond .gt 7, 3) := by decide +kernel
theorem dX6_in_14 : decode cX6_in 14 = .ok (.iconst 1, 1) := by decide +kernel
theorem dX6_in_15 : decode cX6_in 15 = .ok (.goto 4, 3) := by decide +kernel
theorem dX6_in_18 : decode cX6_in 18 = .ok (.iconst 0, 1) := by decide +kernel
theorem dX6_in_19 : decode cX6_in 19 = .ok (.ireturn, 1) := by decide +kernel
theorem dX6_has_0 : decode cX6_has 0 = .ok (.iload_n 0, 1) := by decide +kernel
theorem dX6_has_1 : decode cX6_has 1 = .ok (.iload_n 1, 1) := by decide +kernel
theorem dX6_has_2 : decode cX6_has 2 = .ok (.ishr, 1) := by decide +kernel
theorem dX6_has_3 : decode cX6_has 3 = .ok (.iconst 1, 1) := by decide +kernel
theorem dX6_has_4 : decode cX6_has 4 = .ok (.iand, 1) := by decide +kernel
theorem dX6_has_5 : decode cX6_has 5 = .ok (.iconst 1, 1) := by decide +kernel
theorem dX6_has_6 : decode cX6_has 6 = .ok (.if_icmp .ne 7, 3) := by decide +kernel
theorem dX6_has_9 : decode cX6_has 9 = .ok (.iconst 1, 1) := by decide +kernel
theorem dX6_has_10 : decode cX6_has 10 = .ok (.goto 4, 3) := by decide +kernel
theorem dX6_has_13 : decode cX6_has 13 = .ok (.iconst 0, 1) := by decide +kernel
theorem dX6_has_14 : decode cX6_has 14 = .ok (.ireturn, 1) := by decide +kernel
theorem dX6_ones_0 : decode cX6_ones 0 = .ok (.iconst 0, 1) := by decide +kernel
theorem dX6_ones_1 : decode cX6_ones 1 = .ok (.istore_n 1, 1) := by decide +kernel
theorem dX6_ones_2 : decode cX6_ones 2 = .ok (.iconst 0, 1) := by decide +kernel
theorem dX6_ones_3 : decode cX6_ones 3 = .ok (.istore_n 2, 1) := by decide +kernel
theorem dX6_ones_4 : decode cX6_ones 4 = .ok (.iload_n 2, 1) := by decide +kernel
theorem dX6_ones_5 : decode cX6_ones 5 = .ok (.bipush 16, 2) := by decide +kernel
theorem dX6_ones_7 : decode cX6_ones 7 = .ok (.if_icmp .ge 17, 3) := by decide +kernel
theorem dX6_ones_10 : decode cX6_ones 10 = .ok (.iload_n 1, 1) := by decide +kernel
theorem dX6_ones_11 : decode cX6_ones 11 = .ok (.iload_n 0, 1) := by decide +kernel
theorem dX6_ones_12 : decode cX6_ones 12 = .ok (.iload_n 2, 1) := by decide +kernel
theorem dX6_ones_13 : decode cX6_ones 13 = .ok (.ishr, 1) := by decide +kernel
theorem dX6_ones_14 : decode cX6_ones 14 = .ok (.iconst 1, 1) := by decide +kernel
theorem dX6_ones_15 : decode cX6_ones 15 = .ok (.iand, 1) := by decide +kernel
theorem dX6_ones_16 : decode cX6_ones 16 = .ok (.iadd, 1) := by decide +kernel
theorem dX6_ones_17 : decode cX6_ones 17 = .ok (.istore_n 1, 1) := by decide +kernel
theorem dX6_ones_18 : decode cX6_ones 18 = .ok (.iinc 2 1, 3) := by decide +kernel
theorem dX6_ones_21 : decode cX6_ones 21 = .ok (.goto (-17), 3) := by decide +kernel
theorem dX6_ones_24 : decode cX6_ones 24 = .ok (.iload_n 1, 1) := by decide +kernel
theorem dX6_ones_25 : decode cX6_ones 25 = .ok (.ireturn, 1) := by decide +kernel
theorem dX6_of_0 : decode cX6_of 0 = .ok (.aload_n 0, 1) := by decide +kernel
theorem dX6_of_1 : decode cX6_of 1 = .ok (.getfield 7, 3) := by decide +kernel
theorem dX6_of_4 : decode cX6_of 4 = .ok (.iconst 4, 1) := by decide +kernel
theorem dX6_of_5 : decode cX6_of 5 = .ok (.bipush 7, 2) := by decide +kernel
theorem dX6_of_7 : decode cX6_of 7 = .ok (.iload_n 1, 1) := by decide +kernel
theorem dX6_of_8 : decode cX6_of 8 = .ok (.imul, 1) := by decide +kernel
theorem dX6_of_9 : decode cX6_of 9 = .ok (.iadd, 1) := by decide +kernel
theorem dX6_of_10 : decode cX6_of 10 = .ok (.iload_n 2, 1) := by decide +kernel
theorem dX6_of_11 : decode cX6_of 11 = .ok (.iadd, 1) := by decide +kernel
theorem dX6_of_12 : decode cX6_of 12 = .ok (.iaload, 1) := by decide +kernel
theorem dX6_of_13 : decode cX6_of 13 = .ok (.ireturn, 1) := by decide +kernel
theorem dX6_put_0 : decode cX6_put 0 = .ok (.aload_n 0, 1) := by decide +kernel
theorem dX6_put_1 : decode cX6_put 1 = .ok (.getfield 7, 3) := by decide +kernel
theorem dX6_put_4 : decode cX6_put 4 = .ok (.iconst 4, 1) := by decide +kernel
theorem dX6_put_5 : decode cX6_put 5 = .ok (.bipush 7, 2) := by decide +kernel
theorem dX6_put_7 : decode cX6_put 7 = .ok (.iload_n 1, 1) := by decide +kernel
theorem dX6_put_8 : decode cX6_put 8 = .ok (.imul, 1) := by decide +kernel
theorem dX6_put_9 : decode cX6_put 9 = .ok (.iadd, 1) := by decide +kernel
theorem dX6_put_10 : decode cX6_put 10 = .ok (.iload_n 2, 1) := by decide +kernel
theorem dX6_put_11 : decode cX6_put 11 = .ok (.iadd, 1) := by decide +kernel
theorem dX6_put_12 : decode cX6_put 12 = .ok (.iload_n 3, 1) := by decide +kernel
theorem dX6_put_13 : decode cX6_put 13 = .ok (.iastore, 1) := by decide +kernel
theorem dX6_put_14 : decode cX6_put 14 = .ok (.return_, 1) := by decide +kernel
set_option maxRecDepth 20000 in
theorem ggX6_low_X6_of : GoodIn wsX6_low wsX6_of := goodIn_r _ [5, 6, 7, 8, 9, 10, 11, 12, 13, 14, 15, 16, 17, 18, 19, 20, 21, 22, 23] (by decide +kernel) (by decide +kernel)
set_option maxRecDepth 20000 in
theorem gX6_low_X6_of : GoodIn wsX6_low (wsV RX6 43 RX6 yX6_of wsX6_of) := goodIn_app (goodIn_of _ (by decide +kernel)) ggX6_low_X6_of
theorem dX6_low_0 : decode cX6_low 0 = .ok (.aload_n 0, 1) := by decide +kernel
theorem dX6_low_1 : decode cX6_low 1 = .ok (.iload_n 1, 1) := by decide +kernel
theorem dX6_low_2 : decode cX6_low 2 = .ok (.iconst 1, 1) := by decide +kernel
theorem dX6_low_3 : decode cX6_low 3 = .ok (.iload_n 2, 1) := by decide +kernel
theorem dX6_low_4 : decode cX6_low 4 = .ok (.iadd, 1) := by decide +kernel
theorem dX6_low_5 : decode cX6_low 5 = .ok (.invokevirtual 43, 3) := by decide +kernel
theorem dX6_low_8 : decode cX6_low 8 = .ok (.ireturn, 1) := by decide +kernel
set_option maxRecDepth 20000 in
theorem ggX6_size_X6_of : GoodIn wsX6_size wsX6_of := goodIn_r _ [5, 6, 7, 8, 9, 10, 11, 12, 13, 14, 15, 16, 17, 18, 19, 20, 21, 22, 23] (by decide +kernel) (by decide +kernel)
set_option maxRecDepth 20000 in
theorem gX6_size_X6_of : GoodIn wsX6_size (wsV RX6 43 RX6 yX6_of wsX6_of) := goodIn_app (goodIn_of _ (by decide +kernel)) ggX6_size_X6_of
theorem dX6_size_0 : decode cX6_size 0 = .ok (.aload_n 0, 1) := by decide +kernel
theorem dX6_size_1 : decode cX6_size 1 = .ok (.iload_n 1, 1) := by decide +kernel
theorem dX6_size_2 : decode cX6_size 2 = .ok (.iconst 4, 1) := by decide +kernel
theorem dX6_size_3 : decode cX6_size 3 = .ok (.iload_n 2, 1) := by decide +kernel
theorem dX6_size_4 : decode cX6_size 4 = .ok (.iadd, 1) := by decide +kernel
theorem dX6_size_5 : decode cX6_size 5 = .ok (.invokevirtual 43, 3) := by decide +kernel
theorem dX6_size_8 : decode cX6_size 8 = .ok (.ireturn, 1) := by decide +kernel
set_option maxRecDepth 20000 in
theorem ggX6_high_X6_low : GoodIn wsX6_high wsX6_low := goodIn_r _ [5, 6, 7, 8, 4, 9, 10, 15, 16, 17, 18, 19, 20, 21, 22, 23, 24, 25, 26, 27, 28, 29, 30, 31] (by decide +kernel) (by decide +kernel)
set_option maxRecDepth 20000 in
theorem gX6_high_X6_low : GoodIn wsX6_high (wsV RX6 47 RX6 yX6_low wsX6_low) := goodIn_app (goodIn_of _ (by decide +kernel)) ggX6_high_X6_low
set_option maxRecDepth 20000 in
theorem ggX6_high_X6_size : GoodIn wsX6_high wsX6_size := goodIn_r _ [14, 6, 7, 8, 4, 9, 10, 15, 16, 17, 18, 19, 20, 21, 22, 23, 24, 25, 26, 27, 28, 29, 30, 31] (by decide +kernel) (by decide +kernel)
set_option maxRecDepth 20000 in
theorem gX6_high_X6_size : GoodIn wsX6_high (wsV RX6 50 RX6 yX6_size wsX6_size) := goodIn_app (goodIn_of _ (by decide +kernel)) ggX6_high_X6_size
theorem dX6_high_0 : decode cX6_high 0 = .ok (.aload_n 0, 1) := by decide +kernel
theorem dX6_high_1 : decode cX6_high 1 = .ok (.iload_n 1, 1) := by decide +kernel
theorem dX6_high_2 : decode cX6_high 2 = .ok (.iload_n 2, 1) := by decide +kernel
theorem dX6_high_3 : decode cX6_high 3 = .ok (.invokevirtual 47, 3) := by decide +kernel
theorem dX6_high_6 : decode cX6_high 6 = .ok (.aload_n 0, 1) := by decide +kernel
theorem dX6_high_7 : decode cX6_high 7 = .ok (.iload_n 1, 1) := by decide +kernel
theorem dX6_high_8 : decode cX6_high 8 = .ok (.iload_n 2, 1) := by decide +kernel
theorem dX6_high_9 : decode cX6_high 9 = .ok (.invokevirtual 50, 3) := by decide +kernel
theorem dX6_high_12 : decode cX6_high 12 = .ok (.iadd, 1) := by decide +kernel
theorem dX6_high_13 : decode cX6_high 13 = .ok (.ireturn, 1) := by decide +kernel
set_option maxRecDepth 20000 in
theorem ggX6_volume_X6_size : GoodIn wsX6_volume wsX6_size := goodIn_r _ [5, 6, 7, 8, 4, 9, 10, 11, 12, 13, 14, 15, 16, 17, 18, 19, 20, 21, 22, 23, 24, 25, 26, 27] (by decide +kernel) (by decide +kernel)
set_option maxRecDepth 20000 in
theorem gX6_volume_X6_size : GoodIn wsX6_volume (wsV RX6 50 RX6 yX6_size wsX6_size) := goodIn_app (goodIn_of _ (by decide +kernel)) ggX6_volume_X6_size
theorem dX6_volume_0 : decode cX6_volume 0 = .ok (.aload_n 0, 1) := by decide +kernel
theorem dX6_volume_1 : decode cX6_volume 1 = .ok (.iload_n 1, 1) := by decide +kernel
theorem dX6_volume_2 : decode cX6_volume 2 = .ok (.iconst 0, 1) := by decide +kernel
theorem dX6_volume_3 : decode cX6_volume 3 = .ok (.invokevirtual 50, 3) := by decide +kernel
theorem dX6_volume_6 : decode cX6_volume 6 = .ok (.aload_n 0, 1) := by decide +kernel
theorem dX6_volume_7 : decode cX6_volume 7 = .ok (.iload_n 1, 1) := by decide +kernel
theorem dX6_volume_8 : decode cX6_volume 8 = .ok (.iconst 1, 1) := by decide +kernel
theorem dX6_volume_9 : decode cX6_volume 9 = .ok (.invokevirtual 50, 3) := by decide +kernel
theorem dX6_volume_12 : decode cX6_volume 12 = .ok (.imul, 1) := by decide +kernel
theorem dX6_volume_13 : decode cX6_volume 13 = .ok (.aload_n 0, 1) := by decide +kernel
theorem dX6_volume_14 : decode cX6_volume 14 = .ok (.iload_n 1, 1) := by decide +kernel
theorem dX6_volume_15 : decode cX6_volume 15 = .ok (.iconst 2, 1) := by decide +kernel
theorem dX6_volume_16 : decode cX6_volume 16 = .ok (.invokevirtual 50, 3) := by decide +kernel
theorem dX6_volume_19 : decode cX6_volume 19 = .ok (.imul, 1) := by decide +kernel
theorem dX6_volume_20 : decode cX6_volume 20 = .ok (.ireturn, 1) := by decide +kernel
set_option maxRecDepth 20000 in
theorem ggX6_rankOf_X6_of : GoodIn wsX6_rankOf wsX6_of := goodIn_r _ [6, 1, 7, 8, 9, 10, 11, 12, 13, 14, 15, 16, 17, 18, 19, 20, 21, 22, 23] (by decide +kernel) (by decide +kernel)
set_option maxRecDepth 20000 in
theorem gX6_rankOf_X6_of : GoodIn wsX6_rankOf (wsV RX6 43 RX6 yX6_of wsX6_of) := goodIn_app (goodIn_of _ (by decide +kernel)) ggX6_rankOf_X6_of
theorem dX6_rankOf_0 : decode cX6_rankOf 0 = .ok (.iconst (-1), 1) := by decide +kernel
theorem dX6_rankOf_1 : decode cX6_rankOf 1 = .ok (.istore_n 2, 1) := by decide +kernel
theorem dX6_rankOf_2 : decode cX6_rankOf 2 = .ok (.iconst 0, 1) := by decide +kernel
theorem dX6_rankOf_3 : decode cX6_rankOf 3 = .ok (.istore_n 3, 1) := by decide +kernel
theorem dX6_rankOf_4 : decode cX6_rankOf 4 = .ok (.iload_n 3, 1) := by decide +kernel
theorem dX6_rankOf_5 : decode cX6_rankOf 5 = .ok (.aload_n 0, 1) := by decide +kernel
theorem dX6_rankOf_6 : decode cX6_rankOf 6 = .ok (.getfield 7, 3) := by decide +kernel
theorem dX6_rankOf_9 : decode cX6_rankOf 9 = .ok (.iconst 0, 1) := by decide +kernel
theorem dX6_rankOf_10 : decode cX6_rankOf 10 = .ok (.iaload, 1) := by decide +kernel
theorem dX6_rankOf_11 : decode cX6_rankOf 11 = .ok (.if_icmp .ge 25, 3) := by decide +kernel
theorem dX6_rankOf_14 : decode cX6_rankOf 14 = .ok (.aload_n 0, 1) := by decide +kernel
theorem dX6_rankOf_15 : decode cX6_rankOf 15 = .ok (.iload_n 3, 1) := by decide +kernel
theorem dX6_rankOf_16 : decode cX6_rankOf 16 = .ok (.iconst 0, 1) := by decide +kernel
theorem dX6_rankOf_17 : decode cX6_rankOf 17 = .ok (.invokevirtual 43, 3) := by decide +kernel
theorem dX6_rankOf_20 : decode cX6_rankOf 20 = .ok (.iload_n 1, 1) := by decide +kernel
theorem dX6_rankOf_21 : decode cX6_rankOf 21 = .ok (.if_icmp .ne 7, 3) := by decide +kernel
theorem dX6_rankOf_24 : decode cX6_rankOf 24 = .ok (.iload_n 3, 1) := by decide +kernel
theorem dX6_rankOf_25 : decode cX6_rankOf 25 = .ok (.goto 4, 3) := by decide +kernel
theorem dX6_rankOf_28 : decode cX6_rankOf 28 = .ok (.iload_n 2, 1) := by decide +kernel
theorem dX6_rankOf_29 : decode cX6_rankOf 29 = .ok (.istore_n 2, 1) := by decide +kernel
theorem dX6_rankOf_30 : decode cX6_rankOf 30 = .ok (.iinc 3 1, 3) := by decide +kernel
theorem dX6_rankOf_33 : decode cX6_rankOf 33 = .ok (.goto (-29), 3) := by decide +kernel
theorem dX6_rankOf_36 : decode cX6_rankOf 36 = .ok (.iload_n 2, 1) := by decide +kernel
theorem dX6_rankOf_37 : decode cX6_rankOf 37 = .ok (.ireturn, 1) := by decide +kernel
set_option maxRecDepth 20000 in
theorem ggX6_isDirection_X6_in : GoodIn wsX6_isDirection wsX6_in := goodIn_r _ [4] (by decide +kernel) (by decide +kernel)
set_option maxRecDepth 20000 in
theorem gX6_isDirection_X6_in : GoodIn wsX6_isDirection (va_wsS RX6 53 yX6_in wsX6_in) := goodIn_app (goodIn_of _ (by decide +kernel)) ggX6_isDirection_X6_in
theorem dX6_isDirection_0 : decode cX6_isDirection 0 = .ok (.iload_n 0, 1) := by decide +kernel
theorem dX6_isDirection_1 : decode cX6_isDirection 1 = .ok (.i2l, 1) := by decide +kernel
theorem dX6_isDirection_2 : decode cX6_isDirection 2 = .ok (.iconst 0, 1) := by decide +kernel
theorem dX6_isDirection_3 : decode cX6_isDirection 3 = .ok (.iconst 2, 1) := by decide +kernel
theorem dX6_isDirection_4 : decode cX6_isDirection 4 = .ok (.invokestatic 53, 3) := by decide +kernel
theorem dX6_isDirection_7 : decode cX6_isDirection 7 = .ok (.ireturn, 1) := by decide +kernel
set_option maxRecDepth 20000 in
theorem ggX6_cross_X6_low : GoodIn wsX6_cross wsX6_low := goodIn_r _ [5, 6, 7, 8, 4, 9, 10, 19, 20, 21, 22, 23, 24, 25, 26, 27, 28, 29, 30, 31, 32, 33, 34, 35] (by decide +kernel) (by decide +kernel)
set_option maxRecDepth 20000 in
theorem gX6_cross_X6_low : GoodIn wsX6_cross (wsV RX6 47 RX6 yX6_low wsX6_low) := goodIn_app (goodIn_of _ (by decide +kernel)) ggX6_cross_X6_low
set_option maxRecDepth 20000 in
theorem ggX6_cross_X6_high : GoodIn wsX6_cross wsX6_high := goodIn_r _ [14, 1, 2, 3, 4, 5, 6, 7, 8, 9, 10, 15, 16, 17, 18, 19, 20, 21, 22, 23, 24, 25, 26, 27, 28, 29, 30, 31, 32, 33, 34, 35] (by decide +kernel) (by decide +kernel)
set_option maxRecDepth 20000 in
theorem gX6_cross_X6_high : GoodIn wsX6_cross (wsV RX6 57 RX6 yX6_high wsX6_high) := goodIn_app (goodIn_of _ (by decide +kernel)) ggX6_cross_X6_high
theorem dX6_cross_0 : decode cX6_cross 0 = .ok (.aload_n 0, 1) := by decide +kernel
theorem dX6_cross_1 : decode cX6_cross 1 = .ok (.iload_n 1, 1) := by decide +kernel
theorem dX6_cross_2 : decode cX6_cross 2 = .ok (.iload_n 3, 1) := by decide +kernel
theorem dX6_cross_3 : decode cX6_cross 3 = .ok (.invokevirtual 47, 3) := by decide +kernel
theorem dX6_cross_6 : decode cX6_cross 6 = .ok (.aload_n 0, 1) := by decide +kernel
theorem dX6_cross_7 : decode cX6_cross 7 = .ok (.iload_n 2, 1) := by decide +kernel
theorem dX6_cross_8 : decode cX6_cross 8 = .ok (.iload_n 3, 1) := by decide +kernel
theorem dX6_cross_9 : decode cX6_cross 9 = .ok (.invokevirtual 57, 3) := by decide +kernel
theorem dX6_cross_12 : decode cX6_cross 12 = .ok (.if_icmp .ge 22, 3) := by decide +kernel
theorem dX6_cross_15 : decode cX6_cross 15 = .ok (.aload_n 0, 1) := by decide +kernel
theorem dX6_cross_16 : decode cX6_cross 16 = .ok (.iload_n 2, 1) := by decide +kernel
theorem dX6_cross_17 : decode cX6_cross 17 = .ok (.iload_n 3, 1) := by decide +kernel
theorem dX6_cross_18 : decode cX6_cross 18 = .ok (.invokevirtual 47, 3) := by decide +kernel
theorem dX6_cross_21 : decode cX6_cross 21 = .ok (.aload_n 0, 1) := by decide +kernel
theorem dX6_cross_22 : decode cX6_cross 22 = .ok (.iload_n 1, 1) := by decide +kernel
theorem dX6_cross_23 : decode cX6_cross 23 = .ok (.iload_n 3, 1) := by decide +kernel
theorem dX6_cross_24 : decode cX6_cross 24 = .ok (.invokevirtual 57, 3) := by decide +kernel
theorem dX6_cross_27 : decode cX6_cross 27 = .ok (.if_icmp .ge 7, 3) := by decide +kernel
theorem dX6_cross_30 : decode cX6_cross 30 = .ok (.iconst 1, 1) := by decide +kernel
theorem dX6_cross_31 : decode cX6_cross 31 = .ok (.goto 4, 3) := by decide +kernel
theorem dX6_cross_34 : decode cX6_cross 34 = .ok (.iconst 0, 1) := by decide +kernel
theorem dX6_cross_35 : decode cX6_cross 35 = .ok (.ireturn, 1) := by decide +kernel
set_option maxRecDepth 20000 in
theorem ggX6_cutsAny_X6_cross : GoodIn wsX6_cutsAny wsX6_cross := goodIn_r _ [5, 6, 7, 8, 4, 9, 10, 11, 12, 13, 14, 15, 16, 17, 18, 19, 20, 21, 22, 23, 24, 25, 26, 27, 28, 29, 30, 31, 32, 33, 34, 35, 36, 37, 38, 39] (by decide +kernel) (by decide +kernel)
set_option maxRecDepth 20000 in
theorem gX6_cutsAny_X6_cross : GoodIn wsX6_cutsAny (wsV RX6 60 RX6 yX6_cross wsX6_cross) := goodIn_app (goodIn_of _ (by decide +kernel)) ggX6_cutsAny_X6_cross
theorem dX6_cutsAny_0 : decode cX6_cutsAny 0 = .ok (.iconst 0, 1) := by decide +kernel
theorem dX6_cutsAny_1 : decode cX6_cutsAny 1 = .ok (.istore_n 3, 1) := by decide +kernel
theorem dX6_cutsAny_2 : decode cX6_cutsAny 2 = .ok (.iconst 0, 1) := by decide +kernel
theorem dX6_cutsAny_3 : decode cX6_cutsAny 3 = .ok (.istore 4, 2) := by decide +kernel
theorem dX6_cutsAny_5 : decode cX6_cutsAny 5 = .ok (.iload 4, 2) := by decide +kernel
theorem dX6_cutsAny_7 : decode cX6_cutsAny 7 = .ok (.iload_n 2, 1) := by decide +kernel
theorem dX6_cutsAny_8 : decode cX6_cutsAny 8 = .ok (.if_icmp .ge 58, 3) := by decide +kernel
theorem dX6_cutsAny_11 : decode cX6_cutsAny 11 = .ok (.iload_n 3, 1) := by decide +kernel
theorem dX6_cutsAny_12 : decode cX6_cutsAny 12 = .ok (.ifCond .ne 42, 3) := by decide +kernel
theorem dX6_cutsAny_15 : decode cX6_cutsAny 15 = .ok (.iload 4, 2) := by decide +kernel
theorem dX6_cutsAny_17 : decode cX6_cutsAny 17 = .ok (.iload_n 1, 1) := by decide +kernel
theorem dX6_cutsAny_18 : decode cX6_cutsAny 18 = .ok (.if_icmp .eq 40, 3) := by decide +kernel
theorem dX6_cutsAny_21 : decode cX6_cutsAny 21 = .ok (.aload_n 0, 1) := by decide +kernel
theorem dX6_cutsAny_22 : decode cX6_cutsAny 22 = .ok (.iload_n 1, 1) := by decide +kernel
theorem dX6_cutsAny_23 : decode cX6_cutsAny 23 = .ok (.iload 4, 2) := by decide +kernel
theorem dX6_cutsAny_25 : decode cX6_cutsAny 25 = .ok (.iconst 0, 1) := by decide +kernel
theorem dX6_cutsAny_26 : decode cX6_cutsAny 26 = .ok (.invokevirtual 60, 3) := by decide +kernel
theorem dX6_cutsAny_29 : decode cX6_cutsAny 29 = .ok (.ifCond .eq 29, 3) := by decide +kernel
theorem dX6_cutsAny_32 : decode cX6_cutsAny 32 = .ok (.aload_n 0, 1) := by decide +kernel
theorem dX6_cutsAny_33 : decode cX6_cutsAny 33 = .ok (.iload_n 1, 1) := by decide +kernel
theorem dX6_cutsAny_34 : decode cX6_cutsAny 34 = .ok (.iload 4, 2) := by decide +kernel
theorem dX6_cutsAny_36 : decode cX6_cutsAny 36 = .ok (.iconst 1, 1) := by decide +kernel
theorem dX6_cutsAny_37 : decode cX6_cutsAny 37 = .ok (.invokevirtual 60, 3) := by decide +kernel
theorem dX6_cutsAny_40 : decode cX6_cutsAny 40 = .ok (.ifCond .eq 18, 3) := by decide +kernel
theorem dX6_cutsAny_43 : decode cX6_cutsAny 43 = .ok (.aload_n 0, 1) := by decide +kernel
theorem dX6_cutsAny_44 : decode cX6_cutsAny 44 = .ok (.iload_n 1, 1) := by decide +kernel
theorem dX6_cutsAny_45 : decode cX6_cutsAny 45 = .ok (.iload 4, 2) := by decide +kernel
theorem dX6_cutsAny_47 : decode cX6_cutsAny 47 = .ok (.iconst 2, 1) := by decide +kernel
theorem dX6_cutsAny_48 : decode cX6_cutsAny 48 = .ok (.invokevirtual 60, 3) := by decide +kernel
theorem dX6_cutsAny_51 : decode cX6_cutsAny 51 = .ok (.ifCond .eq 7, 3) := by decide +kernel
theorem dX6_cutsAny_54 : decode cX6_cutsAny 54 = .ok (.iconst 1, 1) := by decide +kernel
theorem dX6_cutsAny_55 : decode cX6_cutsAny 55 = .ok (.goto 4, 3) := by decide +kernel
theorem dX6_cutsAny_58 : decode cX6_cutsAny 58 = .ok (.iconst 0, 1) := by decide +kernel
theorem dX6_cutsAny_59 : decode cX6_cutsAny 59 = .ok (.istore_n 3, 1) := by decide +kernel
theorem dX6_cutsAny_60 : decode cX6_cutsAny 60 = .ok (.iinc 4 1, 3) := by decide +kernel
theorem dX6_cutsAny_63 : decode cX6_cutsAny 63 = .ok (.goto (-58), 3) := by decide +kernel
theorem dX6_cutsAny_66 : decode cX6_cutsAny 66 = .ok (.iload_n 3, 1) := by decide +kernel
theorem dX6_cutsAny_67 : decode cX6_cutsAny 67 = .ok (.ireturn, 1) := by decide +kernel
set_option maxRecDepth 20000 in
theorem ggX6_reachesBelow_X6_low : GoodIn wsX6_reachesBelow wsX6_low := goodIn_r _ [5, 6, 7, 8, 4, 9, 10, 19, 20, 21, 22, 23, 24, 25, 26, 27, 28, 29, 30, 31, 32, 33, 34, 35] (by decide +kernel) (by decide +kernel)
set_option maxRecDepth 20000 in
theorem gX6_reachesBelow_X6_low : GoodIn wsX6_reachesBelow (wsV RX6 47 RX6 yX6_low wsX6_low) := goodIn_app (goodIn_of _ (by decide +kernel)) ggX6_reachesBelow_X6_low
set_option maxRecDepth 20000 in
theorem ggX6_reachesBelow_X6_high : GoodIn wsX6_reachesBelow wsX6_high := goodIn_r _ [14, 1, 2, 3, 4, 5, 6, 7, 8, 9, 10, 15, 16, 17, 18, 19, 20, 21, 22, 23, 24, 25, 26, 27, 28, 29, 30, 31, 32, 33, 34, 35] (by decide +kernel) (by decide +kernel)
set_option maxRecDepth 20000 in
theorem gX6_reachesBelow_X6_high : GoodIn wsX6_reachesBelow (wsV RX6 57 RX6 yX6_high wsX6_high) := goodIn_app (goodIn_of _ (by decide +kernel)) ggX6_reachesBelow_X6_high
theorem dX6_reachesBelow_0 : decode cX6_reachesBelow 0 = .ok (.aload_n 0, 1) := by decide +kernel
theorem dX6_reachesBelow_1 : decode cX6_reachesBelow 1 = .ok (.iload_n 1, 1) := by decide +kernel
theorem dX6_reachesBelow_2 : decode cX6_reachesBelow 2 = .ok (.iload_n 3, 1) := by decide +kernel
theorem dX6_reachesBelow_3 : decode cX6_reachesBelow 3 = .ok (.invokevirtual 47, 3) := by decide +kernel
theorem dX6_reachesBelow_6 : decode cX6_reachesBelow 6 = .ok (.aload_n 0, 1) := by decide +kernel
theorem dX6_reachesBelow_7 : decode cX6_reachesBelow 7 = .ok (.iload_n 1, 1) := by decide +kernel
theorem dX6_reachesBelow_8 : decode cX6_reachesBelow 8 = .ok (.iload 4, 2) := by decide +kernel
theorem dX6_reachesBelow_10 : decode cX6_reachesBelow 10 = .ok (.invokevirtual 57, 3) := by decide +kernel
theorem dX6_reachesBelow_13 : decode cX6_reachesBelow 13 = .ok (.isub, 1) := by decide +kernel
theorem dX6_reachesBelow_14 : decode cX6_reachesBelow 14 = .ok (.aload_n 0, 1) := by decide +kernel
theorem dX6_reachesBelow_15 : decode cX6_reachesBelow 15 = .ok (.iload_n 2, 1) := by decide +kernel
theorem dX6_reachesBelow_16 : decode cX6_reachesBelow 16 = .ok (.iload_n 3, 1) := by decide +kernel
theorem dX6_reachesBelow_17 : decode cX6_reachesBelow 17 = .ok (.invokevirtual 57, 3) := by decide +kernel
theorem dX6_reachesBelow_20 : decode cX6_reachesBelow 20 = .ok (.aload_n 0, 1) := by decide +kernel
theorem dX6_reachesBelow_21 : decode cX6_reachesBelow 21 = .ok (.iload_n 2, 1) := by decide +kernel
theorem dX6_reachesBelow_22 : decode cX6_reachesBelow 22 = .ok (.iload 4, 2) := by decide +kernel
theorem dX6_reachesBelow_24 : decode cX6_reachesBelow 24 = .ok (.invokevirtual 47, 3) := by decide +kernel
theorem dX6_reachesBelow_27 : decode cX6_reachesBelow 27 = .ok (.isub, 1) := by decide +kernel
theorem dX6_reachesBelow_28 : decode cX6_reachesBelow 28 = .ok (.if_icmp .ge 7, 3) := by decide +kernel
theorem dX6_reachesBelow_31 : decode cX6_reachesBelow 31 = .ok (.iconst 1, 1) := by decide +kernel
theorem dX6_reachesBelow_32 : decode cX6_reachesBelow 32 = .ok (.goto 4, 3) := by decide +kernel
theorem dX6_reachesBelow_35 : decode cX6_reachesBelow 35 = .ok (.iconst 0, 1) := by decide +kernel
theorem dX6_reachesBelow_36 : decode cX6_reachesBelow 36 = .ok (.ireturn, 1) := by decide +kernel
set_option maxRecDepth 20000 in
theorem ggX6_overlap_X6_reachesBelow : GoodIn wsX6_overlap wsX6_reachesBelow := goodIn_r _ [5, 6, 7, 8, 4, 9, 10, 11, 12, 13, 14, 15, 16, 17, 18, 19, 20, 21, 22, 23, 24, 25, 26, 27, 28, 29, 30, 31, 32, 33, 34, 35, 36, 37, 38, 39] (by decide +kernel) (by decide +kernel)
set_option maxRecDepth 20000 in
theorem gX6_overlap_X6_reachesBelow : GoodIn wsX6_overlap (wsV RX6 64 RX6 yX6_reachesBelow wsX6_reachesBelow) := goodIn_app (goodIn_of _ (by decide +kernel)) ggX6_overlap_X6_reachesBelow
theorem dX6_overlap_0 : decode cX6_overlap 0 = .ok (.iconst 1, 1) := by decide +kernel
theorem dX6_overlap_1 : decode cX6_overlap 1 = .ok (.istore_n 3, 1) := by decide +kernel
theorem dX6_overlap_2 : decode cX6_overlap 2 = .ok (.iconst 0, 1) := by decide +kernel
theorem dX6_overlap_3 : decode cX6_overlap 3 = .ok (.istore 4, 2) := by decide +kernel
theorem dX6_overlap_5 : decode cX6_overlap 5 = .ok (.iload 4, 2) := by decide +kernel
theorem dX6_overlap_7 : decode cX6_overlap 7 = .ok (.iconst 2, 1) := by decide +kernel
theorem dX6_overlap_8 : decode cX6_overlap 8 = .ok (.if_icmp .ge 63, 3) := by decide +kernel
theorem dX6_overlap_11 : decode cX6_overlap 11 = .ok (.iload 4, 2) := by decide +kernel
theorem dX6_overlap_13 : decode cX6_overlap 13 = .ok (.iconst 1, 1) := by decide +kernel
theorem dX6_overlap_14 : decode cX6_overlap 14 = .ok (.iadd, 1) := by decide +kernel
theorem dX6_overlap_15 : decode cX6_overlap 15 = .ok (.istore 5, 2) := by decide +kernel
theorem dX6_overlap_17 : decode cX6_overlap 17 = .ok (.iload 5, 2) := by decide +kernel
theorem dX6_overlap_19 : decode cX6_overlap 19 = .ok (.iconst 3, 1) := by decide +kernel
theorem dX6_overlap_20 : decode cX6_overlap 20 = .ok (.if_icmp .ge 45, 3) := by decide +kernel
theorem dX6_overlap_23 : decode cX6_overlap 23 = .ok (.iload_n 3, 1) := by decide +kernel
theorem dX6_overlap_24 : decode cX6_overlap 24 = .ok (.ifCond .eq 33, 3) := by decide +kernel
theorem dX6_overlap_27 : decode cX6_overlap 27 = .ok (.aload_n 0, 1) := by decide +kernel
theorem dX6_overlap_28 : decode cX6_overlap 28 = .ok (.iload_n 1, 1) := by decide +kernel
theorem dX6_overlap_29 : decode cX6_overlap 29 = .ok (.iload_n 2, 1) := by decide +kernel
theorem dX6_overlap_30 : decode cX6_overlap 30 = .ok (.iload 4, 2) := by decide +kernel
theorem dX6_overlap_32 : decode cX6_overlap 32 = .ok (.iload 5, 2) := by decide +kernel
theorem dX6_overlap_34 : decode cX6_overlap 34 = .ok (.invokevirtual 64, 3) := by decide +kernel
theorem dX6_overlap_37 : decode cX6_overlap 37 = .ok (.ifCond .eq 20, 3) := by decide +kernel
theorem dX6_overlap_40 : decode cX6_overlap 40 = .ok (.aload_n 0, 1) := by decide +kernel
theorem dX6_overlap_41 : decode cX6_overlap 41 = .ok (.iload_n 2, 1) := by decide +kernel
theorem dX6_overlap_42 : decode cX6_overlap 42 = .ok (.iload_n 1, 1) := by decide +kernel
theorem dX6_overlap_43 : decode cX6_overlap 43 = .ok (.iload 4, 2) := by decide +kernel
theorem dX6_overlap_45 : decode cX6_overlap 45 = .ok (.iload 5, 2) := by decide +kernel
theorem dX6_overlap_47 : decode cX6_overlap 47 = .ok (.invokevirtual 64, 3) := by decide +kernel
theorem dX6_overlap_50 : decode cX6_overlap 50 = .ok (.ifCond .eq 7, 3) := by decide +kernel
theorem dX6_overlap_53 : decode cX6_overlap 53 = .ok (.iconst 1, 1) := by decide +kernel
theorem dX6_overlap_54 : decode cX6_overlap 54 = .ok (.goto 4, 3) := by decide +kernel
theorem dX6_overlap_57 : decode cX6_overlap 57 = .ok (.iconst 0, 1) := by decide +kernel
theorem dX6_overlap_58 : decode cX6_overlap 58 = .ok (.istore_n 3, 1) := by decide +kernel
theorem dX6_overlap_59 : decode cX6_overlap 59 = .ok (.iinc 5 1, 3) := by decide +kernel
theorem dX6_overlap_62 : decode cX6_overlap 62 = .ok (.goto (-45), 3) := by decide +kernel
theorem dX6_overlap_65 : decode cX6_overlap 65 = .ok (.iinc 4 1, 3) := by decide +kernel
theorem dX6_overlap_68 : decode cX6_overlap 68 = .ok (.goto (-63), 3) := by decide +kernel
theorem dX6_overlap_71 : decode cX6_overlap 71 = .ok (.iload_n 3, 1) := by decide +kernel
theorem dX6_overlap_72 : decode cX6_overlap 72 = .ok (.ireturn, 1) := by decide +kernel
set_option maxRecDepth 20000 in
theorem ggX6_hidesBy_X6_low : GoodIn wsX6_hidesBy wsX6_low := goodIn_r _ [5, 6, 7, 8, 4, 9, 10, 27, 28, 29, 30, 31, 32, 33, 34, 35, 36, 37, 38, 39, 40, 41, 42, 43] (by decide +kernel) (by decide +kernel)
set_option maxRecDepth 20000 in
theorem gX6_hidesBy_X6_low : GoodIn wsX6_hidesBy (wsV RX6 47 RX6 yX6_low wsX6_low) := goodIn_app (goodIn_of _ (by decide +kernel)) ggX6_hidesBy_X6_low
set_option maxRecDepth 20000 in
theorem ggX6_hidesBy_X6_high : GoodIn wsX6_hidesBy wsX6_high := goodIn_r _ [14, 1, 2, 3, 4, 5, 6, 7, 8, 9, 10, 15, 16, 17, 18, 27, 28, 29, 30, 31, 32, 33, 34, 35, 36, 37, 38, 39, 40, 41, 42, 43] (by decide +kernel) (by decide +kernel)
set_option maxRecDepth 20000 in
theorem gX6_hidesBy_X6_high : GoodIn wsX6_hidesBy (wsV RX6 57 RX6 yX6_high wsX6_high) := goodIn_app (goodIn_of _ (by decide +kernel)) ggX6_hidesBy_X6_high
set_option maxRecDepth 20000 in
theorem ggX6_hidesBy_X6_overlap : GoodIn wsX6_hidesBy wsX6_overlap := goodIn_r _ [22, 23, 24, 25, 4, 26, 1, 2, 3, 5, 6, 7, 8, 9, 10, 11, 12, 13, 14, 15, 16, 17, 18, 27, 28, 29, 30, 31, 32, 33, 34, 35, 36, 37, 38, 39, 40, 41, 42, 43] (by decide +kernel) (by decide +kernel)
set_option maxRecDepth 20000 in
theorem gX6_hidesBy_X6_overlap : GoodIn wsX6_hidesBy (wsV RX6 68 RX6 yX6_overlap wsX6_overlap) := goodIn_app (goodIn_of _ (by decide +kernel)) ggX6_hidesBy_X6_overlap
theorem dX6_hidesBy_0 : decode cX6_hidesBy 0 = .ok (.iconst 0, 1) := by decide +kernel
theorem dX6_hidesBy_1 : decode cX6_hidesBy 1 = .ok (.istore_n 3, 1) := by decide +kernel
theorem dX6_hidesBy_2 : decode cX6_hidesBy 2 = .ok (.iconst 2, 1) := by decide +kernel
theorem dX6_hidesBy_3 : decode cX6_hidesBy 3 = .ok (.istore 4, 2) := by decide +kernel
theorem dX6_hidesBy_5 : decode cX6_hidesBy 5 = .ok (.iload 4, 2) := by decide +kernel
theorem dX6_hidesBy_7 : decode cX6_hidesBy 7 = .ok (.ifCond .lt 35, 3) := by decide +kernel
theorem dX6_hidesBy_10 : decode cX6_hidesBy 10 = .ok (.aload_n 0, 1) := by decide +kernel
theorem dX6_hidesBy_11 : decode cX6_hidesBy 11 = .ok (.iload_n 1, 1) := by decide +kernel
theorem dX6_hidesBy_12 : decode cX6_hidesBy 12 = .ok (.iload 4, 2) := by decide +kernel
theorem dX6_hidesBy_14 : decode cX6_hidesBy 14 = .ok (.invokevirtual 47, 3) := by decide +kernel
theorem dX6_hidesBy_17 : decode cX6_hidesBy 17 = .ok (.aload_n 0, 1) := by decide +kernel
theorem dX6_hidesBy_18 : decode cX6_hidesBy 18 = .ok (.iload_n 2, 1) := by decide +kernel
theorem dX6_hidesBy_19 : decode cX6_hidesBy 19 = .ok (.iload 4, 2) := by decide +kernel
theorem dX6_hidesBy_21 : decode cX6_hidesBy 21 = .ok (.invokevirtual 57, 3) := by decide +kernel
theorem dX6_hidesBy_24 : decode cX6_hidesBy 24 = .ok (.if_icmp .lt 10, 3) := by decide +kernel
theorem dX6_hidesBy_27 : decode cX6_hidesBy 27 = .ok (.iload 4, 2) := by decide +kernel
theorem dX6_hidesBy_29 : decode cX6_hidesBy 29 = .ok (.iconst 1, 1) := by decide +kernel
theorem dX6_hidesBy_30 : decode cX6_hidesBy 30 = .ok (.iadd, 1) := by decide +kernel
theorem dX6_hidesBy_31 : decode cX6_hidesBy 31 = .ok (.goto 4, 3) := by decide +kernel
theorem dX6_hidesBy_34 : decode cX6_hidesBy 34 = .ok (.iload_n 3, 1) := by decide +kernel
theorem dX6_hidesBy_35 : decode cX6_hidesBy 35 = .ok (.istore_n 3, 1) := by decide +kernel
theorem dX6_hidesBy_36 : decode cX6_hidesBy 36 = .ok (.iinc 4 (-1), 3) := by decide +kernel
theorem dX6_hidesBy_39 : decode cX6_hidesBy 39 = .ok (.goto (-34), 3) := by decide +kernel
theorem dX6_hidesBy_42 : decode cX6_hidesBy 42 = .ok (.iload_n 1, 1) := by decide +kernel
theorem dX6_hidesBy_43 : decode cX6_hidesBy 43 = .ok (.iload_n 2, 1) := by decide +kernel
theorem dX6_hidesBy_44 : decode cX6_hidesBy 44 = .ok (.if_icmp .eq 16, 3) := by decide +kernel
theorem dX6_hidesBy_47 : decode cX6_hidesBy 47 = .ok (.aload_n 0, 1) := by decide +kernel
theorem dX6_hidesBy_48 : decode cX6_hidesBy 48 = .ok (.iload_n 1, 1) := by decide +kernel
theorem dX6_hidesBy_49 : decode cX6_hidesBy 49 = .ok (.iload_n 2, 1) := by decide +kernel
theorem dX6_hidesBy_50 : decode cX6_hidesBy 50 = .ok (.invokevirtual 68, 3) := by decide +kernel
theorem dX6_hidesBy_53 : decode cX6_hidesBy 53 = .ok (.ifCond .eq 7, 3) := by decide +kernel
theorem dX6_hidesBy_56 : decode cX6_hidesBy 56 = .ok (.iload_n 3, 1) := by decide +kernel
theorem dX6_hidesBy_57 : decode cX6_hidesBy 57 = .ok (.goto 4, 3) := by decide +kernel
theorem dX6_hidesBy_60 : decode cX6_hidesBy 60 = .ok (.iconst 0, 1) := by decide +kernel
theorem dX6_hidesBy_61 : decode cX6_hidesBy 61 = .ok (.ireturn, 1) := by decide +kernel
set_option maxRecDepth 20000 in
theorem ggX6_findHiding_X6_hidesBy : GoodIn wsX6_findHiding wsX6_hidesBy := goodIn_r _ [8, 9, 10, 11, 7, 12, 13, 14, 15, 16, 1, 17, 18, 19, 20, 21, 22, 23, 24, 25, 26, 27, 28, 29, 30, 31, 32, 36, 37, 38, 39, 40, 41, 42, 43, 44, 45, 46, 47, 48, 49, 50, 51, 52] (by decide +kernel) (by decide +kernel)
set_option maxRecDepth 20000 in
theorem gX6_findHiding_X6_hidesBy : GoodIn wsX6_findHiding (wsV RX6 72 RX6 yX6_hidesBy wsX6_hidesBy) := goodIn_app (goodIn_of _ (by decide +kernel)) ggX6_findHiding_X6_hidesBy
set_option maxRecDepth 20000 in
theorem ggX6_findHiding_X6_has : GoodIn wsX6_findHiding wsX6_has := goodIn_r _ [35] (by decide +kernel) (by decide +kernel)
set_option maxRecDepth 20000 in
theorem gX6_findHiding_X6_has : GoodIn wsX6_findHiding (va_wsS RX6 75 yX6_has wsX6_has) := goodIn_app (goodIn_of _ (by decide +kernel)) ggX6_findHiding_X6_has
theorem dX6_findHiding_0 : decode cX6_findHiding 0 = .ok (.iconst 0, 1) := by decide +kernel
theorem dX6_findHiding_1 : decode cX6_findHiding 1 = .ok (.istore_n 1, 1) := by decide +kernel
theorem dX6_findHiding_2 : decode cX6_findHiding 2 = .ok (.iload_n 1, 1) := by decide +kernel
theorem dX6_findHiding_3 : decode cX6_findHiding 3 = .ok (.aload_n 0, 1) := by decide +kernel
theorem dX6_findHiding_4 : decode cX6_findHiding 4 = .ok (.getfield 7, 3) := by decide +kernel
theorem dX6_findHiding_7 : decode cX6_findHiding 7 = .ok (.iconst 0, 1) := by decide +kernel
theorem dX6_findHiding_8 : decode cX6_findHiding 8 = .ok (.iaload, 1) := by decide +kernel
theorem dX6_findHiding_9 : decode cX6_findHiding 9 = .ok (.if_icmp .ge 71, 3) := by decide +kernel
theorem dX6_findHiding_12 : decode cX6_findHiding 12 = .ok (.aload_n 0, 1) := by decide +kernel
theorem dX6_findHiding_13 : decode cX6_findHiding 13 = .ok (.getfield 25, 3) := by decide +kernel
theorem dX6_findHiding_16 : decode cX6_findHiding 16 = .ok (.iload_n 1, 1) := by decide +kernel
theorem dX6_findHiding_17 : decode cX6_findHiding 17 = .ok (.iconst 0, 1) := by decide +kernel
theorem dX6_findHiding_18 : decode cX6_findHiding 18 = .ok (.iastore, 1) := by decide +kernel
theorem dX6_findHiding_19 : decode cX6_findHiding 19 = .ok (.iconst 0, 1) := by decide +kernel
theorem dX6_findHiding_20 : decode cX6_findHiding 20 = .ok (.istore_n 2, 1) := by decide +kernel
theorem dX6_findHiding_21 : decode cX6_findHiding 21 = .ok (.iload_n 2, 1) := by decide +kernel
theorem dX6_findHiding_22 : decode cX6_findHiding 22 = .ok (.aload_n 0, 1) := by decide +kernel
theorem dX6_findHiding_23 : decode cX6_findHiding 23 = .ok (.getfield 7, 3) := by decide +kernel
theorem dX6_findHiding_26 : decode cX6_findHiding 26 = .ok (.iconst 0, 1) := by decide +kernel
theorem dX6_findHiding_27 : decode cX6_findHiding 27 = .ok (.iaload, 1) := by decide +kernel
theorem dX6_findHiding_28 : decode cX6_findHiding 28 = .ok (.if_icmp .ge 34, 3) := by decide +kernel
theorem dX6_findHiding_31 : decode cX6_findHiding 31 = .ok (.aload_n 0, 1) := by decide +kernel
theorem dX6_findHiding_32 : decode cX6_findHiding 32 = .ok (.getfield 25, 3) := by decide +kernel
theorem dX6_findHiding_35 : decode cX6_findHiding 35 = .ok (.iload_n 1, 1) := by decide +kernel
theorem dX6_findHiding_36 : decode cX6_findHiding 36 = .ok (.dup2, 1) := by decide +kernel
theorem dX6_findHiding_37 : decode cX6_findHiding 37 = .ok (.iaload, 1) := by decide +kernel
theorem dX6_findHiding_38 : decode cX6_findHiding 38 = .ok (.aload_n 0, 1) := by decide +kernel
theorem dX6_findHiding_39 : decode cX6_findHiding 39 = .ok (.iload_n 1, 1) := by decide +kernel
theorem dX6_findHiding_40 : decode cX6_findHiding 40 = .ok (.iload_n 2, 1) := by decide +kernel
theorem dX6_findHiding_41 : decode cX6_findHiding 41 = .ok (.invokevirtual 72, 3) := by decide +kernel
theorem dX6_findHiding_44 : decode cX6_findHiding 44 = .ok (.ifCond .le 9, 3) := by decide +kernel
theorem dX6_findHiding_47 : decode cX6_findHiding 47 = .ok (.iconst 1, 1) := by decide +kernel
theorem dX6_findHiding_48 : decode cX6_findHiding 48 = .ok (.iload_n 2, 1) := by decide +kernel
theorem dX6_findHiding_49 : decode cX6_findHiding 49 = .ok (.ishl, 1) := by decide +kernel
theorem dX6_findHiding_50 : decode cX6_findHiding 50 = .ok (.goto 4, 3) := by decide +kernel
theorem dX6_findHiding_53 : decode cX6_findHiding 53 = .ok (.iconst 0, 1) := by decide +kernel
theorem dX6_findHiding_54 : decode cX6_findHiding 54 = .ok (.ior, 1) := by decide +kernel
theorem dX6_findHiding_55 : decode cX6_findHiding 55 = .ok (.iastore, 1) := by decide +kernel
theorem dX6_findHiding_56 : decode cX6_findHiding 56 = .ok (.iinc 2 1, 3) := by decide +kernel
theorem dX6_findHiding_59 : decode cX6_findHiding 59 = .ok (.goto (-38), 3) := by decide +kernel
theorem dX6_findHiding_62 : decode cX6_findHiding 62 = .ok (.aload_n 0, 1) := by decide +kernel
theorem dX6_findHiding_63 : decode cX6_findHiding 63 = .ok (.getfield 28, 3) := by decide +kernel
theorem dX6_findHiding_66 : decode cX6_findHiding 66 = .ok (.iload_n 1, 1) := by decide +kernel
theorem dX6_findHiding_67 : decode cX6_findHiding 67 = .ok (.aload_n 0, 1) := by decide +kernel
theorem dX6_findHiding_68 : decode cX6_findHiding 68 = .ok (.getfield 25, 3) := by decide +kernel
theorem dX6_findHiding_71 : decode cX6_findHiding 71 = .ok (.iload_n 1, 1) := by decide +kernel
theorem dX6_findHiding_72 : decode cX6_findHiding 72 = .ok (.iaload, 1) := by decide +kernel
theorem dX6_findHiding_73 : decode cX6_findHiding 73 = .ok (.iastore, 1) := by decide +kernel
theorem dX6_findHiding_74 : decode cX6_findHiding 74 = .ok (.iinc 1 1, 3) := by decide +kernel
theorem dX6_findHiding_77 : decode cX6_findHiding 77 = .ok (.goto (-75), 3) := by decide +kernel
theorem dX6_findHiding_80 : decode cX6_findHiding 80 = .ok (.iconst 0, 1) := by decide +kernel
theorem dX6_findHiding_81 : decode cX6_findHiding 81 = .ok (.istore_n 1, 1) := by decide +kernel
theorem dX6_findHiding_82 : decode cX6_findHiding 82 = .ok (.iload_n 1, 1) := by decide +kernel
theorem dX6_findHiding_83 : decode cX6_findHiding 83 = .ok (.aload_n 0, 1) := by decide +kernel
theorem dX6_findHiding_84 : decode cX6_findHiding 84 = .ok (.getfield 7, 3) := by decide +kernel
theorem dX6_findHiding_87 : decode cX6_findHiding 87 = .ok (.iconst 0, 1) := by decide +kernel
theorem dX6_findHiding_88 : decode cX6_findHiding 88 = .ok (.iaload, 1) := by decide +kernel
theorem dX6_findHiding_89 : decode cX6_findHiding 89 = .ok (.if_icmp .ge 59, 3) := by decide +kernel
theorem dX6_findHiding_92 : decode cX6_findHiding 92 = .ok (.iconst 0, 1) := by decide +kernel
theorem dX6_findHiding_93 : decode cX6_findHiding 93 = .ok (.istore_n 2, 1) := by decide +kernel
theorem dX6_findHiding_94 : decode cX6_findHiding 94 = .ok (.iload_n 2, 1) := by decide +kernel
theorem dX6_findHiding_95 : decode cX6_findHiding 95 = .ok (.aload_n 0, 1) := by decide +kernel
theorem dX6_findHiding_96 : decode cX6_findHiding 96 = .ok (.getfield 7, 3) := by decide +kernel
theorem dX6_findHiding_99 : decode cX6_findHiding 99 = .ok (.iconst 0, 1) := by decide +kernel
theorem dX6_findHiding_100 : decode cX6_findHiding 100 = .ok (.iaload, 1) := by decide +kernel
theorem dX6_findHiding_101 : decode cX6_findHiding 101 = .ok (.if_icmp .ge 41, 3) := by decide +kernel
theorem dX6_findHiding_104 : decode cX6_findHiding 104 = .ok (.aload_n 0, 1) := by decide +kernel
theorem dX6_findHiding_105 : decode cX6_findHiding 105 = .ok (.getfield 28, 3) := by decide +kernel
theorem dX6_findHiding_108 : decode cX6_findHiding 108 = .ok (.iload_n 2, 1) := by decide +kernel
theorem dX6_findHiding_109 : decode cX6_findHiding 109 = .ok (.dup2, 1) := by decide +kernel
theorem dX6_findHiding_110 : decode cX6_findHiding 110 = .ok (.iaload, 1) := by decide +kernel
theorem dX6_findHiding_111 : decode cX6_findHiding 111 = .ok (.aload_n 0, 1) := by decide +kernel
theorem dX6_findHiding_112 : decode cX6_findHiding 112 = .ok (.getfield 28, 3) := by decide +kernel
theorem dX6_findHiding_115 : decode cX6_findHiding 115 = .ok (.iload_n 2, 1) := by decide +kernel
theorem dX6_findHiding_116 : decode cX6_findHiding 116 = .ok (.iaload, 1) := by decide +kernel
theorem dX6_findHiding_117 : decode cX6_findHiding 117 = .ok (.iload_n 1, 1) := by decide +kernel
theorem dX6_findHiding_118 : decode cX6_findHiding 118 = .ok (.invokestatic 75, 3) := by decide +kernel
theorem dX6_findHiding_121 : decode cX6_findHiding 121 = .ok (.ifCond .eq 12, 3) := by decide +kernel
theorem dX6_findHiding_124 : decode cX6_findHiding 124 = .ok (.aload_n 0, 1) := by decide +kernel
theorem dX6_findHiding_125 : decode cX6_findHiding 125 = .ok (.getfield 28, 3) := by decide +kernel
theorem dX6_findHiding_128 : decode cX6_findHiding 128 = .ok (.iload_n 1, 1) := by decide +kernel
theorem dX6_findHiding_129 : decode cX6_findHiding 129 = .ok (.iaload, 1) := by decide +kernel
theorem dX6_findHiding_130 : decode cX6_findHiding 130 = .ok (.goto 4, 3) := by decide +kernel
theorem dX6_findHiding_133 : decode cX6_findHiding 133 = .ok (.iconst 0, 1) := by decide +kernel
theorem dX6_findHiding_134 : decode cX6_findHiding 134 = .ok (.ior, 1) := by decide +kernel
theorem dX6_findHiding_135 : decode cX6_findHiding 135 = .ok (.iastore, 1) := by decide +kernel
theorem dX6_findHiding_136 : decode cX6_findHiding 136 = .ok (.iinc 2 1, 3) := by decide +kernel
theorem dX6_findHiding_139 : decode cX6_findHiding 139 = .ok (.goto (-45), 3) := by decide +kernel
theorem dX6_findHiding_142 : decode cX6_findHiding 142 = .ok (.iinc 1 1, 3) := by decide +kernel
theorem dX6_findHiding_145 : decode cX6_findHiding 145 = .ok (.goto (-63), 3) := by decide +kernel
theorem dX6_findHiding_148 : decode cX6_findHiding 148 = .ok (.return_, 1) := by decide +kernel
set_option maxRecDepth 20000 in
theorem ggX6_isInRing_X6_has : GoodIn wsX6_isInRing wsX6_has := goodIn_r _ [5] (by decide +kernel) (by decide +kernel)
set_option maxRecDepth 20000 in
theorem gX6_isInRing_X6_has : GoodIn wsX6_isInRing (va_wsS RX6 75 yX6_has wsX6_has) := goodIn_app (goodIn_of _ (by decide +kernel)) ggX6_isInRing_X6_has
theorem dX6_isInRing_0 : decode cX6_isInRing 0 = .ok (.aload_n 0, 1) := by decide +kernel
theorem dX6_isInRing_1 : decode cX6_isInRing 1 = .ok (.getfield 28, 3) := by decide +kernel
theorem dX6_isInRing_4 : decode cX6_isInRing 4 = .ok (.iload_n 1, 1) := by decide +kernel
theorem dX6_isInRing_5 : decode cX6_isInRing 5 = .ok (.iaload, 1) := by decide +kernel
theorem dX6_isInRing_6 : decode cX6_isInRing 6 = .ok (.iload_n 1, 1) := by decide +kernel
theorem dX6_isInRing_7 : decode cX6_isInRing 7 = .ok (.invokestatic 75, 3) := by decide +kernel
theorem dX6_isInRing_10 : decode cX6_isInRing 10 = .ok (.ireturn, 1) := by decide +kernel
set_option maxRecDepth 20000 in
theorem ggX6_ringBoxes_X6_isInRing : GoodIn wsX6_ringBoxes wsX6_isInRing := goodIn_r _ [6, 7, 8, 9, 5, 10, 11, 12, 13, 14, 15, 16, 17, 18, 19, 20, 21, 22, 23, 24, 25, 26, 27] (by decide +kernel) (by decide +kernel)
set_option maxRecDepth 20000 in
theorem gX6_ringBoxes_X6_isInRing : GoodIn wsX6_ringBoxes (wsV RX6 78 RX6 yX6_isInRing wsX6_isInRing) := goodIn_app (goodIn_of _ (by decide +kernel)) ggX6_ringBoxes_X6_isInRing
theorem dX6_ringBoxes_0 : decode cX6_ringBoxes 0 = .ok (.iconst 0, 1) := by decide +kernel
theorem dX6_ringBoxes_1 : decode cX6_ringBoxes 1 = .ok (.istore_n 1, 1) := by decide +kernel
theorem dX6_ringBoxes_2 : decode cX6_ringBoxes 2 = .ok (.iconst 0, 1) := by decide +kernel
theorem dX6_ringBoxes_3 : decode cX6_ringBoxes 3 = .ok (.istore_n 2, 1) := by decide +kernel
theorem dX6_ringBoxes_4 : decode cX6_ringBoxes 4 = .ok (.iload_n 2, 1) := by decide +kernel
theorem dX6_ringBoxes_5 : decode cX6_ringBoxes 5 = .ok (.aload_n 0, 1) := by decide +kernel
theorem dX6_ringBoxes_6 : decode cX6_ringBoxes 6 = .ok (.getfield 7, 3) := by decide +kernel
theorem dX6_ringBoxes_9 : decode cX6_ringBoxes 9 = .ok (.iconst 0, 1) := by decide +kernel
theorem dX6_ringBoxes_10 : decode cX6_ringBoxes 10 = .ok (.iaload, 1) := by decide +kernel
theorem dX6_ringBoxes_11 : decode cX6_ringBoxes 11 = .ok (.if_icmp .ge 27, 3) := by decide +kernel
theorem dX6_ringBoxes_14 : decode cX6_ringBoxes 14 = .ok (.iload_n 1, 1) := by decide +kernel
theorem dX6_ringBoxes_15 : decode cX6_ringBoxes 15 = .ok (.aload_n 0, 1) := by decide +kernel
theorem dX6_ringBoxes_16 : decode cX6_ringBoxes 16 = .ok (.iload_n 2, 1) := by decide +kernel
theorem dX6_ringBoxes_17 : decode cX6_ringBoxes 17 = .ok (.invokevirtual 78, 3) := by decide +kernel
theorem dX6_ringBoxes_20 : decode cX6_ringBoxes 20 = .ok (.ifCond .eq 9, 3) := by decide +kernel
theorem dX6_ringBoxes_23 : decode cX6_ringBoxes 23 = .ok (.iconst 1, 1) := by decide +kernel
theorem dX6_ringBoxes_24 : decode cX6_ringBoxes 24 = .ok (.iload_n 2, 1) := by decide +kernel
theorem dX6_ringBoxes_25 : decode cX6_ringBoxes 25 = .ok (.ishl, 1) := by decide +kernel
theorem dX6_ringBoxes_26 : decode cX6_ringBoxes 26 = .ok (.goto 4, 3) := by decide +kernel
theorem dX6_ringBoxes_29 : decode cX6_ringBoxes 29 = .ok (.iconst 0, 1) := by decide +kernel
theorem dX6_ringBoxes_30 : decode cX6_ringBoxes 30 = .ok (.ior, 1) := by decide +kernel
theorem dX6_ringBoxes_31 : decode cX6_ringBoxes 31 = .ok (.istore_n 1, 1) := by decide +kernel
theorem dX6_ringBoxes_32 : decode cX6_ringBoxes 32 = .ok (.iinc 2 1, 3) := by decide +kernel
theorem dX6_ringBoxes_35 : decode cX6_ringBoxes 35 = .ok (.goto (-31), 3) := by decide +kernel
theorem dX6_ringBoxes_38 : decode cX6_ringBoxes 38 = .ok (.iload_n 1, 1) := by decide +kernel
theorem dX6_ringBoxes_39 : decode cX6_ringBoxes 39 = .ok (.ireturn, 1) := by decide +kernel
set_option maxRecDepth 20000 in
theorem ggX6_hiddenByAny_X6_has : GoodIn wsX6_hiddenByAny wsX6_has := goodIn_r _ [6] (by decide +kernel) (by decide +kernel)
set_option maxRecDepth 20000 in
theorem gX6_hiddenByAny_X6_has : GoodIn wsX6_hiddenByAny (va_wsS RX6 75 yX6_has wsX6_has) := goodIn_app (goodIn_of _ (by decide +kernel)) ggX6_hiddenByAny_X6_has
theorem dX6_hiddenByAny_0 : decode cX6_hiddenByAny 0 = .ok (.iconst 0, 1) := by decide +kernel
theorem dX6_hiddenByAny_1 : decode cX6_hiddenByAny 1 = .ok (.istore_n 2, 1) := by decide +kernel
theorem dX6_hiddenByAny_2 : decode cX6_hiddenByAny 2 = .ok (.iconst 0, 1) := by decide +kernel
theorem dX6_hiddenByAny_3 : decode cX6_hiddenByAny 3 = .ok (.istore_n 3, 1) := by decide +kernel
theorem dX6_hiddenByAny_4 : decode cX6_hiddenByAny 4 = .ok (.iload_n 3, 1) := by decide +kernel
theorem dX6_hiddenByAny_5 : decode cX6_hiddenByAny 5 = .ok (.aload_n 0, 1) := by decide +kernel
theorem dX6_hiddenByAny_6 : decode cX6_hiddenByAny 6 = .ok (.getfield 7, 3) := by decide +kernel
theorem dX6_hiddenByAny_9 : decode cX6_hiddenByAny 9 = .ok (.iconst 0, 1) := by decide +kernel
theorem dX6_hiddenByAny_10 : decode cX6_hiddenByAny 10 = .ok (.iaload, 1) := by decide +kernel
theorem dX6_hiddenByAny_11 : decode cX6_hiddenByAny 11 = .ok (.if_icmp .ge 30, 3) := by decide +kernel
theorem dX6_hiddenByAny_14 : decode cX6_hiddenByAny 14 = .ok (.iload_n 2, 1) := by decide +kernel
theorem dX6_hiddenByAny_15 : decode cX6_hiddenByAny 15 = .ok (.iload_n 1, 1) := by decide +kernel
theorem dX6_hiddenByAny_16 : decode cX6_hiddenByAny 16 = .ok (.iload_n 3, 1) := by decide +kernel
theorem dX6_hiddenByAny_17 : decode cX6_hiddenByAny 17 = .ok (.invokestatic 75, 3) := by decide +kernel
theorem dX6_hiddenByAny_20 : decode cX6_hiddenByAny 20 = .ok (.ifCond .eq 12, 3) := by decide +kernel
theorem dX6_hiddenByAny_23 : decode cX6_hiddenByAny 23 = .ok (.aload_n 0, 1) := by decide +kernel
theorem dX6_hiddenByAny_24 : decode cX6_hiddenByAny 24 = .ok (.getfield 25, 3) := by decide +kernel
theorem dX6_hiddenByAny_27 : decode cX6_hiddenByAny 27 = .ok (.iload_n 3, 1) := by decide +kernel
theorem dX6_hiddenByAny_28 : decode cX6_hiddenByAny 28 = .ok (.iaload, 1) := by decide +kernel
theorem dX6_hiddenByAny_29 : decode cX6_hiddenByAny 29 = .ok (.goto 4, 3) := by decide +kernel
theorem dX6_hiddenByAny_32 : decode cX6_hiddenByAny 32 = .ok (.iconst 0, 1) := by decide +kernel
theorem dX6_hiddenByAny_33 : decode cX6_hiddenByAny 33 = .ok (.ior, 1) := by decide +kernel
theorem dX6_hiddenByAny_34 : decode cX6_hiddenByAny 34 = .ok (.istore_n 2, 1) := by decide +kernel
theorem dX6_hiddenByAny_35 : decode cX6_hiddenByAny 35 = .ok (.iinc 3 1, 3) := by decide +kernel
theorem dX6_hiddenByAny_38 : decode cX6_hiddenByAny 38 = .ok (.goto (-34), 3) := by decide +kernel
theorem dX6_hiddenByAny_41 : decode cX6_hiddenByAny 41 = .ok (.iload_n 2, 1) := by decide +kernel
theorem dX6_hiddenByAny_42 : decode cX6_hiddenByAny 42 = .ok (.ireturn, 1) := by decide +kernel
set_option maxRecDepth 20000 in
theorem ggX6_shortestRing_X6_has : GoodIn wsX6_shortestRing wsX6_has := goodIn_r _ [5] (by decide +kernel) (by decide +kernel)
set_option maxRecDepth 20000 in
theorem gX6_shortestRing_X6_has : GoodIn wsX6_shortestRing (va_wsS RX6 75 yX6_has wsX6_has) := goodIn_app (goodIn_of _ (by decide +kernel)) ggX6_shortestRing_X6_has
set_option maxRecDepth 20000 in
theorem ggX6_shortestRing_X6_hiddenByAny : GoodIn wsX6_shortestRing wsX6_hiddenByAny := goodIn_r _ [9, 10, 1, 2, 3, 4, 5, 11, 12, 13, 14, 15, 16, 17, 18, 19, 20, 21, 22, 23, 24, 25, 26, 27] (by decide +kernel) (by decide +kernel)
set_option maxRecDepth 20000 in
theorem gX6_shortestRing_X6_hiddenByAny : GoodIn wsX6_shortestRing (wsV RX6 82 RX6 yX6_hiddenByAny wsX6_hiddenByAny) := goodIn_app (goodIn_of _ (by decide +kernel)) ggX6_shortestRing_X6_hiddenByAny
theorem dX6_shortestRing_0 : decode cX6_shortestRing 0 = .ok (.aload_n 0, 1) := by decide +kernel
theorem dX6_shortestRing_1 : decode cX6_shortestRing 1 = .ok (.getfield 25, 3) := by decide +kernel
theorem dX6_shortestRing_4 : decode cX6_shortestRing 4 = .ok (.iload_n 1, 1) := by decide +kernel
theorem dX6_shortestRing_5 : decode cX6_shortestRing 5 = .ok (.iaload, 1) := by decide +kernel
theorem dX6_shortestRing_6 : decode cX6_shortestRing 6 = .ok (.istore_n 2, 1) := by decide +kernel
theorem dX6_shortestRing_7 : decode cX6_shortestRing 7 = .ok (.iconst 1, 1) := by decide +kernel
theorem dX6_shortestRing_8 : decode cX6_shortestRing 8 = .ok (.istore_n 3, 1) := by decide +kernel
theorem dX6_shortestRing_9 : decode cX6_shortestRing 9 = .ok (.iload_n 2, 1) := by decide +kernel
theorem dX6_shortestRing_10 : decode cX6_shortestRing 10 = .ok (.iload_n 1, 1) := by decide +kernel
theorem dX6_shortestRing_11 : decode cX6_shortestRing 11 = .ok (.invokestatic 75, 3) := by decide +kernel
theorem dX6_shortestRing_14 : decode cX6_shortestRing 14 = .ok (.ifCond .ne 15, 3) := by decide +kernel
theorem dX6_shortestRing_17 : decode cX6_shortestRing 17 = .ok (.aload_n 0, 1) := by decide +kernel
theorem dX6_shortestRing_18 : decode cX6_shortestRing 18 = .ok (.iload_n 2, 1) := by decide +kernel
theorem dX6_shortestRing_19 : decode cX6_shortestRing 19 = .ok (.invokevirtual 82, 3) := by decide +kernel
theorem dX6_shortestRing_22 : decode cX6_shortestRing 22 = .ok (.istore_n 2, 1) := by decide +kernel
theorem dX6_shortestRing_23 : decode cX6_shortestRing 23 = .ok (.iinc 3 1, 3) := by decide +kernel
theorem dX6_shortestRing_26 : decode cX6_shortestRing 26 = .ok (.goto (-17), 3) := by decide +kernel
theorem dX6_shortestRing_29 : decode cX6_shortestRing 29 = .ok (.iload_n 3, 1) := by decide +kernel
theorem dX6_shortestRing_30 : decode cX6_shortestRing 30 = .ok (.ireturn, 1) := by decide +kernel
set_option maxRecDepth 20000 in
theorem ggX6_shortestOfAll_X6_isInRing : GoodIn wsX6_shortestOfAll wsX6_isInRing := goodIn_r _ [6, 7, 8, 9, 5, 10, 20, 21, 22, 23, 24, 25, 26, 27, 28, 29, 30, 31, 32, 33, 34, 35, 36] (by decide +kernel) (by decide +kernel)
set_option maxRecDepth 20000 in
theorem gX6_shortestOfAll_X6_isInRing : GoodIn wsX6_shortestOfAll (wsV RX6 78 RX6 yX6_isInRing wsX6_isInRing) := goodIn_app (goodIn_of _ (by decide +kernel)) ggX6_shortestOfAll_X6_isInRing
set_option maxRecDepth 20000 in
theorem ggX6_shortestOfAll_X6_shortestRing : GoodIn wsX6_shortestOfAll wsX6_shortestRing := goodIn_r _ [14, 15, 8, 9, 5, 10, 16, 17, 18, 19, 1, 20, 21, 22, 23, 24, 25, 26, 27, 28, 29, 30, 31, 32, 33, 34, 35, 36] (by decide +kernel) (by decide +kernel)
set_option maxRecDepth 20000 in
theorem gX6_shortestOfAll_X6_shortestRing : GoodIn wsX6_shortestOfAll (wsV RX6 86 RX6 yX6_shortestRing wsX6_shortestRing) := goodIn_app (goodIn_of _ (by decide +kernel)) ggX6_shortestOfAll_X6_shortestRing
theorem dX6_shortestOfAll_0 : decode cX6_shortestOfAll 0 = .ok (.bipush (-5), 2) := by decide +kernel
theorem dX6_shortestOfAll_2 : decode cX6_shortestOfAll 2 = .ok (.istore_n 1, 1) := by decide +kernel
theorem dX6_shortestOfAll_3 : decode cX6_shortestOfAll 3 = .ok (.iconst 0, 1) := by decide +kernel
theorem dX6_shortestOfAll_4 : decode cX6_shortestOfAll 4 = .ok (.istore_n 2, 1) := by decide +kernel
theorem dX6_shortestOfAll_5 : decode cX6_shortestOfAll 5 = .ok (.iload_n 2, 1) := by decide +kernel
theorem dX6_shortestOfAll_6 : decode cX6_shortestOfAll 6 = .ok (.aload_n 0, 1) := by decide +kernel
theorem dX6_shortestOfAll_7 : decode cX6_shortestOfAll 7 = .ok (.getfield 7, 3) := by decide +kernel
theorem dX6_shortestOfAll_10 : decode cX6_shortestOfAll 10 = .ok (.iconst 0, 1) := by decide +kernel
theorem dX6_shortestOfAll_11 : decode cX6_shortestOfAll 11 = .ok (.iaload, 1) := by decide +kernel
theorem dX6_shortestOfAll_12 : decode cX6_shortestOfAll 12 = .ok (.if_icmp .ge 38, 3) := by decide +kernel
theorem dX6_shortestOfAll_15 : decode cX6_shortestOfAll 15 = .ok (.aload_n 0, 1) := by decide +kernel
theorem dX6_shortestOfAll_16 : decode cX6_shortestOfAll 16 = .ok (.iload_n 2, 1) := by decide +kernel
theorem dX6_shortestOfAll_17 : decode cX6_shortestOfAll 17 = .ok (.invokevirtual 78, 3) := by decide +kernel
theorem dX6_shortestOfAll_20 : decode cX6_shortestOfAll 20 = .ok (.ifCond .eq 24, 3) := by decide +kernel
theorem dX6_shortestOfAll_23 : decode cX6_shortestOfAll 23 = .ok (.aload_n 0, 1) := by decide +kernel
theorem dX6_shortestOfAll_24 : decode cX6_shortestOfAll 24 = .ok (.iload_n 2, 1) := by decide +kernel
theorem dX6_shortestOfAll_25 : decode cX6_shortestOfAll 25 = .ok (.invokevirtual 86, 3) := by decide +kernel
theorem dX6_shortestOfAll_28 : decode cX6_shortestOfAll 28 = .ok (.istore_n 3, 1) := by decide +kernel
theorem dX6_shortestOfAll_29 : decode cX6_shortestOfAll 29 = .ok (.iload_n 1, 1) := by decide +kernel
theorem dX6_shortestOfAll_30 : decode cX6_shortestOfAll 30 = .ok (.ifCond .lt 8, 3) := by decide +kernel
theorem dX6_shortestOfAll_33 : decode cX6_shortestOfAll 33 = .ok (.iload_n 3, 1) := by decide +kernel
theorem dX6_shortestOfAll_34 : decode cX6_shortestOfAll 34 = .ok (.iload_n 1, 1) := by decide +kernel
theorem dX6_shortestOfAll_35 : decode cX6_shortestOfAll 35 = .ok (.if_icmp .ge 7, 3) := by decide +kernel
theorem dX6_shortestOfAll_38 : decode cX6_shortestOfAll 38 = .ok (.iload_n 3, 1) := by decide +kernel
theorem dX6_shortestOfAll_39 : decode cX6_shortestOfAll 39 = .ok (.goto 4, 3) := by decide +kernel
theorem dX6_shortestOfAll_42 : decode cX6_shortestOfAll 42 = .ok (.iload_n 1, 1) := by decide +kernel
theorem dX6_shortestOfAll_43 : decode cX6_shortestOfAll 43 = .ok (.istore_n 1, 1) := by decide +kernel
theorem dX6_shortestOfAll_44 : decode cX6_shortestOfAll 44 = .ok (.iinc 2 1, 3) := by decide +kernel
theorem dX6_shortestOfAll_47 : decode cX6_shortestOfAll 47 = .ok (.goto (-42), 3) := by decide +kernel
theorem dX6_shortestOfAll_50 : decode cX6_shortestOfAll 50 = .ok (.iload_n 1, 1) := by decide +kernel
theorem dX6_shortestOfAll_51 : decode cX6_shortestOfAll 51 = .ok (.ireturn, 1) := by decide +kernel
set_option maxRecDepth 20000 in
theorem ggX6_findLayers_X6_ringBoxes : GoodIn wsX6_findLayers wsX6_ringBoxes := goodIn_r _ [9, 1, 10, 11, 12, 8, 13, 3, 14, 15, 16, 17, 18, 19, 20, 21, 22, 23, 24, 25, 26, 27, 28, 29, 30, 31, 32, 33] (by decide +kernel) (by decide +kernel)
set_option maxRecDepth 20000 in
theorem gX6_findLayers_X6_ringBoxes : GoodIn wsX6_findLayers (wsV RX6 89 RX6 yX6_ringBoxes wsX6_ringBoxes) := goodIn_app (goodIn_of _ (by decide +kernel)) ggX6_findLayers_X6_ringBoxes
set_option maxRecDepth 20000 in
theorem ggX6_findLayers_X6_has : GoodIn wsX6_findLayers wsX6_has := goodIn_r _ [16] (by decide +kernel) (by decide +kernel)
set_option maxRecDepth 20000 in
theorem gX6_findLayers_X6_has : GoodIn wsX6_findLayers (va_wsS RX6 75 yX6_has wsX6_has) := goodIn_app (goodIn_of _ (by decide +kernel)) ggX6_findLayers_X6_has
theorem dX6_findLayers_0 : decode cX6_findLayers 0 = .ok (.aload_n 0, 1) := by decide +kernel
theorem dX6_findLayers_1 : decode cX6_findLayers 1 = .ok (.invokevirtual 89, 3) := by decide +kernel
theorem dX6_findLayers_4 : decode cX6_findLayers 4 = .ok (.istore_n 1, 1) := by decide +kernel
theorem dX6_findLayers_5 : decode cX6_findLayers 5 = .ok (.iconst 0, 1) := by decide +kernel
theorem dX6_findLayers_6 : decode cX6_findLayers 6 = .ok (.istore_n 2, 1) := by decide +kernel
theorem dX6_findLayers_7 : decode cX6_findLayers 7 = .ok (.iload_n 2, 1) := by decide +kernel
theorem dX6_findLayers_8 : decode cX6_findLayers 8 = .ok (.aload_n 0, 1) := by decide +kernel
theorem dX6_findLayers_9 : decode cX6_findLayers 9 = .ok (.getfield 7, 3) := by decide +kernel
theorem dX6_findLayers_12 : decode cX6_findLayers 12 = .ok (.iconst 0, 1) := by decide +kernel
theorem dX6_findLayers_13 : decode cX6_findLayers 13 = .ok (.iaload, 1) := by decide +kernel
theorem dX6_findLayers_14 : decode cX6_findLayers 14 = .ok (.if_icmp .ge 40, 3) := by decide +kernel
theorem dX6_findLayers_17 : decode cX6_findLayers 17 = .ok (.aload_n 0, 1) := by decide +kernel
theorem dX6_findLayers_18 : decode cX6_findLayers 18 = .ok (.getfield 31, 3) := by decide +kernel
theorem dX6_findLayers_21 : decode cX6_findLayers 21 = .ok (.iload_n 2, 1) := by decide +kernel
theorem dX6_findLayers_22 : decode cX6_findLayers 22 = .ok (.iload_n 1, 1) := by decide +kernel
theorem dX6_findLayers_23 : decode cX6_findLayers 23 = .ok (.iload_n 2, 1) := by decide +kernel
theorem dX6_findLayers_24 : decode cX6_findLayers 24 = .ok (.invokestatic 75, 3) := by decide +kernel
theorem dX6_findLayers_27 : decode cX6_findLayers 27 = .ok (.ifCond .ne 14, 3) := by decide +kernel
theorem dX6_findLayers_30 : decode cX6_findLayers 30 = .ok (.aload_n 0, 1) := by decide +kernel
theorem dX6_findLayers_31 : decode cX6_findLayers 31 = .ok (.getfield 28, 3) := by decide +kernel
theorem dX6_findLayers_34 : decode cX6_findLayers 34 = .ok (.iload_n 2, 1) := by decide +kernel
theorem dX6_findLayers_35 : decode cX6_findLayers 35 = .ok (.iaload, 1) := by decide +kernel
theorem dX6_findLayers_36 : decode cX6_findLayers 36 = .ok (.iload_n 1, 1) := by decide +kernel
theorem dX6_findLayers_37 : decode cX6_findLayers 37 = .ok (.iand, 1) := by decide +kernel
theorem dX6_findLayers_38 : decode cX6_findLayers 38 = .ok (.ifCond .eq 8, 3) := by decide +kernel
theorem dX6_findLayers_41 : decode cX6_findLayers 41 = .ok (.bipush (-5), 2) := by decide +kernel
theorem dX6_findLayers_43 : decode cX6_findLayers 43 = .ok (.goto 4, 3) := by decide +kernel
theorem dX6_findLayers_46 : decode cX6_findLayers 46 = .ok (.iconst 0, 1) := by decide +kernel
theorem dX6_findLayers_47 : decode cX6_findLayers 47 = .ok (.iastore, 1) := by decide +kernel
theorem dX6_findLayers_48 : decode cX6_findLayers 48 = .ok (.iinc 2 1, 3) := by decide +kernel
theorem dX6_findLayers_51 : decode cX6_findLayers 51 = .ok (.goto (-44), 3) := by decide +kernel
theorem dX6_findLayers_54 : decode cX6_findLayers 54 = .ok (.iconst 0, 1) := by decide +kernel
theorem dX6_findLayers_55 : decode cX6_findLayers 55 = .ok (.istore_n 2, 1) := by decide +kernel
theorem dX6_findLayers_56 : decode cX6_findLayers 56 = .ok (.iload_n 2, 1) := by decide +kernel
theorem dX6_findLayers_57 : decode cX6_findLayers 57 = .ok (.aload_n 0, 1) := by decide +kernel
theorem dX6_findLayers_58 : decode cX6_findLayers 58 = .ok (.getfield 7, 3) := by decide +kernel
theorem dX6_findLayers_61 : decode cX6_findLayers 61 = .ok (.iconst 0, 1) := by decide +kernel
theorem dX6_findLayers_62 : decode cX6_findLayers 62 = .ok (.iaload, 1) := by decide +kernel
theorem dX6_findLayers_63 : decode cX6_findLayers 63 = .ok (.if_icmp .ge 110, 3) := by decide +kernel
theorem dX6_findLayers_66 : decode cX6_findLayers 66 = .ok (.iconst 0, 1) := by decide +kernel
theorem dX6_findLayers_67 : decode cX6_findLayers 67 = .ok (.istore_n 3, 1) := by decide +kernel
theorem dX6_findLayers_68 : decode cX6_findLayers 68 = .ok (.iload_n 3, 1) := by decide +kernel
theorem dX6_findLayers_69 : decode cX6_findLayers 69 = .ok (.aload_n 0, 1) := by decide +kernel
theorem dX6_findLayers_70 : decode cX6_findLayers 70 = .ok (.getfield 7, 3) := by decide +kernel
theorem dX6_findLayers_73 : decode cX6_findLayers 73 = .ok (.iconst 0, 1) := by decide +kernel
theorem dX6_findLayers_74 : decode cX6_findLayers 74 = .ok (.iaload, 1) := by decide +kernel
theorem dX6_findLayers_75 : decode cX6_findLayers 75 = .ok (.if_icmp .ge 92, 3) := by decide +kernel
theorem dX6_findLayers_78 : decode cX6_findLayers 78 = .ok (.iconst 0, 1) := by decide +kernel
theorem dX6_findLayers_79 : decode cX6_findLayers 79 = .ok (.istore 4, 2) := by decide +kernel
theorem dX6_findLayers_81 : decode cX6_findLayers 81 = .ok (.iload 4, 2) := by decide +kernel
theorem dX6_findLayers_83 : decode cX6_findLayers 83 = .ok (.aload_n 0, 1) := by decide +kernel
theorem dX6_findLayers_84 : decode cX6_findLayers 84 = .ok (.getfield 7, 3) := by decide +kernel
theorem dX6_findLayers_87 : decode cX6_findLayers 87 = .ok (.iconst 0, 1) := by decide +kernel
theorem dX6_findLayers_88 : decode cX6_findLayers 88 = .ok (.iaload, 1) := by decide +kernel
theorem dX6_findLayers_89 : decode cX6_findLayers 89 = .ok (.if_icmp .ge 72, 3) := by decide +kernel
theorem dX6_findLayers_92 : decode cX6_findLayers 92 = .ok (.aload_n 0, 1) := by decide +kernel
theorem dX6_findLayers_93 : decode cX6_findLayers 93 = .ok (.getfield 31, 3) := by decide +kernel
theorem dX6_findLayers_96 : decode cX6_findLayers 96 = .ok (.iload_n 3, 1) := by decide +kernel
theorem dX6_findLayers_97 : decode cX6_findLayers 97 = .ok (.aload_n 0, 1) := by decide +kernel
theorem dX6_findLayers_98 : decode cX6_findLayers 98 = .ok (.getfield 31, 3) := by decide +kernel
theorem dX6_findLayers_101 : decode cX6_findLayers 101 = .ok (.iload_n 3, 1) := by decide +kernel
theorem dX6_findLayers_102 : decode cX6_findLayers 102 = .ok (.iaload, 1) := by decide +kernel
theorem dX6_findLayers_103 : decode cX6_findLayers 103 = .ok (.ifCond .lt 45, 3) := by decide +kernel
theorem dX6_findLayers_106 : decode cX6_findLayers 106 = .ok (.aload_n 0, 1) := by decide +kernel
theorem dX6_findLayers_107 : decode cX6_findLayers 107 = .ok (.getfield 25, 3) := by decide +kernel
theorem dX6_findLayers_110 : decode cX6_findLayers 110 = .ok (.iload_n 3, 1) := by decide +kernel
theorem dX6_findLayers_111 : decode cX6_findLayers 111 = .ok (.iaload, 1) := by decide +kernel
theorem dX6_findLayers_112 : decode cX6_findLayers 112 = .ok (.iload 4, 2) := by decide +kernel
theorem dX6_findLayers_114 : decode cX6_findLayers 114 = .ok (.invokestatic 75, 3) := by decide +kernel
theorem dX6_findLayers_117 : decode cX6_findLayers 117 = .ok (.ifCond .eq 31, 3) := by decide +kernel
theorem dX6_findLayers_120 : decode cX6_findLayers 120 = .ok (.aload_n 0, 1) := by decide +kernel
theorem dX6_findLayers_121 : decode cX6_findLayers 121 = .ok (.getfield 31, 3) := by decide +kernel
theorem dX6_findLayers_124 : decode cX6_findLayers 124 = .ok (.iload 4, 2) := by decide +kernel
theorem dX6_findLayers_126 : decode cX6_findLayers 126 = .ok (.iaload, 1) := by decide +kernel
theorem dX6_findLayers_127 : decode cX6_findLayers 127 = .ok (.aload_n 0, 1) := by decide +kernel
theorem dX6_findLayers_128 : decode cX6_findLayers 128 = .ok (.getfield 31, 3) := by decide +kernel
theorem dX6_findLayers_131 : decode cX6_findLayers 131 = .ok (.iload_n 3, 1) := by decide +kernel
theorem dX6_findLayers_132 : decode cX6_findLayers 132 = .ok (.iaload, 1) := by decide +kernel
theorem dX6_findLayers_133 : decode cX6_findLayers 133 = .ok (.if_icmp .lt 15, 3) := by decide +kernel
theorem dX6_findLayers_136 : decode cX6_findLayers 136 = .ok (.aload_n 0, 1) := by decide +kernel
theorem dX6_findLayers_137 : decode cX6_findLayers 137 = .ok (.getfield 31, 3) := by decide +kernel
theorem dX6_findLayers_140 : decode cX6_findLayers 140 = .ok (.iload 4, 2) := by decide +kernel
theorem dX6_findLayers_142 : decode cX6_findLayers 142 = .ok (.iaload, 1) := by decide +kernel
theorem dX6_findLayers_143 : decode cX6_findLayers 143 = .ok (.iconst 1, 1) := by decide +kernel
theorem dX6_findLayers_144 : decode cX6_findLayers 144 = .ok (.iadd, 1) := by decide +kernel
theorem dX6_findLayers_145 : decode cX6_findLayers 145 = .ok (.goto 9, 3) := by decide +kernel
theorem dX6_findLayers_148 : decode cX6_findLayers 148 = .ok (.aload_n 0, 1) := by decide +kernel
theorem dX6_findLayers_149 : decode cX6_findLayers 149 = .ok (.getfield 31, 3) := by decide +kernel
theorem dX6_findLayers_152 : decode cX6_findLayers 152 = .ok (.iload_n 3, 1) := by decide +kernel
theorem dX6_findLayers_153 : decode cX6_findLayers 153 = .ok (.iaload, 1) := by decide +kernel
theorem dX6_findLayers_154 : decode cX6_findLayers 154 = .ok (.iastore, 1) := by decide +kernel
theorem dX6_findLayers_155 : decode cX6_findLayers 155 = .ok (.iinc 4 1, 3) := by decide +kernel
theorem dX6_findLayers_158 : decode cX6_findLayers 158 = .ok (.goto (-77), 3) := by decide +kernel
theorem dX6_findLayers_161 : decode cX6_findLayers 161 = .ok (.iinc 3 1, 3) := by decide +kernel
theorem dX6_findLayers_164 : decode cX6_findLayers 164 = .ok (.goto (-96), 3) := by decide +kernel
theorem dX6_findLayers_167 : decode cX6_findLayers 167 = .ok (.iinc 2 1, 3) := by decide +kernel
theorem dX6_findLayers_170 : decode cX6_findLayers 170 = .ok (.goto (-114), 3) := by decide +kernel
theorem dX6_findLayers_173 : decode cX6_findLayers 173 = .ok (.return_, 1) := by decide +kernel
set_option maxRecDepth 20000 in
theorem ggX6_weight_X6_low : GoodIn wsX6_weight wsX6_low := goodIn_r _ [6, 7, 8, 9, 5, 10, 1, 19, 20, 21, 22, 23, 24, 25, 26, 27, 28, 29, 30, 31, 32, 33, 34, 35] (by decide +kernel) (by decide +kernel)
set_option maxRecDepth 20000 in
theorem gX6_weight_X6_low : GoodIn wsX6_weight (wsV RX6 47 RX6 yX6_low wsX6_low) := goodIn_app (goodIn_of _ (by decide +kernel)) ggX6_weight_X6_low
set_option maxRecDepth 20000 in
theorem ggX6_weight_X6_volume : GoodIn wsX6_weight wsX6_volume := goodIn_r _ [14, 15, 16, 17, 5, 18, 7, 8, 9, 10, 1, 19, 20, 21, 22, 23, 24, 25, 26, 27, 28, 29, 30, 31, 32, 33, 34, 35] (by decide +kernel) (by decide +kernel)
set_option maxRecDepth 20000 in
theorem gX6_weight_X6_volume : GoodIn wsX6_weight (wsV RX6 93 RX6 yX6_volume wsX6_volume) := goodIn_app (goodIn_of _ (by decide +kernel)) ggX6_weight_X6_volume
theorem dX6_weight_0 : decode cX6_weight 0 = .ok (.aload_n 0, 1) := by decide +kernel
theorem dX6_weight_1 : decode cX6_weight 1 = .ok (.getfield 7, 3) := by decide +kernel
theorem dX6_weight_4 : decode cX6_weight 4 = .ok (.iconst 3, 1) := by decide +kernel
theorem dX6_weight_5 : decode cX6_weight 5 = .ok (.iaload, 1) := by decide +kernel
theorem dX6_weight_6 : decode cX6_weight 6 = .ok (.ifCond .ne 7, 3) := by decide +kernel
theorem dX6_weight_9 : decode cX6_weight 9 = .ok (.iconst 0, 1) := by decide +kernel
theorem dX6_weight_10 : decode cX6_weight 10 = .ok (.goto 41, 3) := by decide +kernel
theorem dX6_weight_13 : decode cX6_weight 13 = .ok (.aload_n 0, 1) := by decide +kernel
theorem dX6_weight_14 : decode cX6_weight 14 = .ok (.getfield 7, 3) := by decide +kernel
theorem dX6_weight_17 : decode cX6_weight 17 = .ok (.iconst 3, 1) := by decide +kernel
theorem dX6_weight_18 : decode cX6_weight 18 = .ok (.iaload, 1) := by decide +kernel
theorem dX6_weight_19 : decode cX6_weight 19 = .ok (.iconst 1, 1) := by decide +kernel
theorem dX6_weight_20 : decode cX6_weight 20 = .ok (.if_icmp .ne 26, 3) := by decide +kernel
theorem dX6_weight_23 : decode cX6_weight 23 = .ok (.aload_n 0, 1) := by decide +kernel
theorem dX6_weight_24 : decode cX6_weight 24 = .ok (.iload_n 1, 1) := by decide +kernel
theorem dX6_weight_25 : decode cX6_weight 25 = .ok (.iconst 0, 1) := by decide +kernel
theorem dX6_weight_26 : decode cX6_weight 26 = .ok (.invokevirtual 47, 3) := by decide +kernel
theorem dX6_weight_29 : decode cX6_weight 29 = .ok (.aload_n 0, 1) := by decide +kernel
theorem dX6_weight_30 : decode cX6_weight 30 = .ok (.iload_n 1, 1) := by decide +kernel
theorem dX6_weight_31 : decode cX6_weight 31 = .ok (.iconst 1, 1) := by decide +kernel
theorem dX6_weight_32 : decode cX6_weight 32 = .ok (.invokevirtual 47, 3) := by decide +kernel
theorem dX6_weight_35 : decode cX6_weight 35 = .ok (.iadd, 1) := by decide +kernel
theorem dX6_weight_36 : decode cX6_weight 36 = .ok (.aload_n 0, 1) := by decide +kernel
theorem dX6_weight_37 : decode cX6_weight 37 = .ok (.iload_n 1, 1) := by decide +kernel
theorem dX6_weight_38 : decode cX6_weight 38 = .ok (.iconst 2, 1) := by decide +kernel
theorem dX6_weight_39 : decode cX6_weight 39 = .ok (.invokevirtual 47, 3) := by decide +kernel
theorem dX6_weight_42 : decode cX6_weight 42 = .ok (.iadd, 1) := by decide +kernel
theorem dX6_weight_43 : decode cX6_weight 43 = .ok (.goto 8, 3) := by decide +kernel
theorem dX6_weight_46 : decode cX6_weight 46 = .ok (.aload_n 0, 1) := by decide +kernel
theorem dX6_weight_47 : decode cX6_weight 47 = .ok (.iload_n 1, 1) := by decide +kernel
theorem dX6_weight_48 : decode cX6_weight 48 = .ok (.invokevirtual 93, 3) := by decide +kernel
theorem dX6_weight_51 : decode cX6_weight 51 = .ok (.ireturn, 1) := by decide +kernel
set_option maxRecDepth 20000 in
theorem ggX6_drawAll_X6_has : GoodIn wsX6_drawAll wsX6_has := goodIn_r _ [8] (by decide +kernel) (by decide +kernel)
set_option maxRecDepth 20000 in
theorem gX6_drawAll_X6_has : GoodIn wsX6_drawAll (va_wsS RX6 75 yX6_has wsX6_has) := goodIn_app (goodIn_of _ (by decide +kernel)) ggX6_drawAll_X6_has
set_option maxRecDepth 20000 in
theorem ggX6_drawAll_X6_weight : GoodIn wsX6_drawAll wsX6_weight := goodIn_r _ [12, 1, 13, 14, 15, 7, 16, 17, 18, 19, 20, 21, 22, 23, 24, 25, 26, 27, 28, 29, 30, 31, 32, 33, 34, 35, 36, 37, 38, 39, 40, 41, 42, 43, 44, 45] (by decide +kernel) (by decide +kernel)
set_option maxRecDepth 20000 in
theorem gX6_drawAll_X6_weight : GoodIn wsX6_drawAll (wsV RX6 100 RX6 yX6_weight wsX6_weight) := goodIn_app (goodIn_of _ (by decide +kernel)) ggX6_drawAll_X6_weight
theorem dX6_drawAll_0 : decode cX6_drawAll 0 = .ok (.iconst 1, 1) := by decide +kernel
theorem dX6_drawAll_1 : decode cX6_drawAll 1 = .ok (.aload_n 0, 1) := by decide +kernel
theorem dX6_drawAll_2 : decode cX6_drawAll 2 = .ok (.getfield 7, 3) := by decide +kernel
theorem dX6_drawAll_5 : decode cX6_drawAll 5 = .ok (.iconst 0, 1) := by decide +kernel
theorem dX6_drawAll_6 : decode cX6_drawAll 6 = .ok (.iaload, 1) := by decide +kernel
theorem dX6_drawAll_7 : decode cX6_drawAll 7 = .ok (.ishl, 1) := by decide +kernel
theorem dX6_drawAll_8 : decode cX6_drawAll 8 = .ok (.iconst 1, 1) := by decide +kernel
theorem dX6_drawAll_9 : decode cX6_drawAll 9 = .ok (.isub, 1) := by decide +kernel
theorem dX6_drawAll_10 : decode cX6_drawAll 10 = .ok (.iload_n 1, 1) := by decide +kernel
theorem dX6_drawAll_11 : decode cX6_drawAll 11 = .ok (.iconst (-1), 1) := by decide +kernel
theorem dX6_drawAll_12 : decode cX6_drawAll 12 = .ok (.ixor, 1) := by decide +kernel
theorem dX6_drawAll_13 : decode cX6_drawAll 13 = .ok (.iand, 1) := by decide +kernel
theorem dX6_drawAll_14 : decode cX6_drawAll 14 = .ok (.istore_n 2, 1) := by decide +kernel
theorem dX6_drawAll_15 : decode cX6_drawAll 15 = .ok (.aload_n 0, 1) := by decide +kernel
theorem dX6_drawAll_16 : decode cX6_drawAll 16 = .ok (.iconst 0, 1) := by decide +kernel
theorem dX6_drawAll_17 : decode cX6_drawAll 17 = .ok (.putfield 96, 3) := by decide +kernel
theorem dX6_drawAll_20 : decode cX6_drawAll 20 = .ok (.iconst 0, 1) := by decide +kernel
theorem dX6_drawAll_21 : decode cX6_drawAll 21 = .ok (.istore_n 3, 1) := by decide +kernel
theorem dX6_drawAll_22 : decode cX6_drawAll 22 = .ok (.iload_n 3, 1) := by decide +kernel
theorem dX6_drawAll_23 : decode cX6_drawAll 23 = .ok (.ifCond .lt 118, 3) := by decide +kernel
theorem dX6_drawAll_26 : decode cX6_drawAll 26 = .ok (.iconst (-1), 1) := by decide +kernel
theorem dX6_drawAll_27 : decode cX6_drawAll 27 = .ok (.istore_n 3, 1) := by decide +kernel
theorem dX6_drawAll_28 : decode cX6_drawAll 28 = .ok (.iconst 0, 1) := by decide +kernel
theorem dX6_drawAll_29 : decode cX6_drawAll 29 = .ok (.istore 4, 2) := by decide +kernel
theorem dX6_drawAll_31 : decode cX6_drawAll 31 = .ok (.iload 4, 2) := by decide +kernel
theorem dX6_drawAll_33 : decode cX6_drawAll 33 = .ok (.aload_n 0, 1) := by decide +kernel
theorem dX6_drawAll_34 : decode cX6_drawAll 34 = .ok (.getfield 7, 3) := by decide +kernel
theorem dX6_drawAll_37 : decode cX6_drawAll 37 = .ok (.iconst 0, 1) := by decide +kernel
theorem dX6_drawAll_38 : decode cX6_drawAll 38 = .ok (.iaload, 1) := by decide +kernel
theorem dX6_drawAll_39 : decode cX6_drawAll 39 = .ok (.if_icmp .ge 67, 3) := by decide +kernel
theorem dX6_drawAll_42 : decode cX6_drawAll 42 = .ok (.iload_n 2, 1) := by decide +kernel
theorem dX6_drawAll_43 : decode cX6_drawAll 43 = .ok (.iload 4, 2) := by decide +kernel
theorem dX6_drawAll_45 : decode cX6_drawAll 45 = .ok (.invokestatic 75, 3) := by decide +kernel
theorem dX6_drawAll_48 : decode cX6_drawAll 48 = .ok (.ifCond .eq 19, 3) := by decide +kernel
theorem dX6_drawAll_51 : decode cX6_drawAll 51 = .ok (.aload_n 0, 1) := by decide +kernel
theorem dX6_drawAll_52 : decode cX6_drawAll 52 = .ok (.getfield 25, 3) := by decide +kernel
theorem dX6_drawAll_55 : decode cX6_drawAll 55 = .ok (.iload 4, 2) := by decide +kernel
theorem dX6_drawAll_57 : decode cX6_drawAll 57 = .ok (.iaload, 1) := by decide +kernel
theorem dX6_drawAll_58 : decode cX6_drawAll 58 = .ok (.iload_n 2, 1) := by decide +kernel
theorem dX6_drawAll_59 : decode cX6_drawAll 59 = .ok (.iand, 1) := by decide +kernel
theorem dX6_drawAll_60 : decode cX6_drawAll 60 = .ok (.ifCond .ne 7, 3) := by decide +kernel
theorem dX6_drawAll_63 : decode cX6_drawAll 63 = .ok (.iconst 1, 1) := by decide +kernel
theorem dX6_drawAll_64 : decode cX6_drawAll 64 = .ok (.goto 4, 3) := by decide +kernel
theorem dX6_drawAll_67 : decode cX6_drawAll 67 = .ok (.iconst 0, 1) := by decide +kernel
theorem dX6_drawAll_68 : decode cX6_drawAll 68 = .ok (.istore 5, 2) := by decide +kernel
theorem dX6_drawAll_70 : decode cX6_drawAll 70 = .ok (.iload 5, 2) := by decide +kernel
theorem dX6_drawAll_72 : decode cX6_drawAll 72 = .ok (.ifCond .eq 26, 3) := by decide +kernel
theorem dX6_drawAll_75 : decode cX6_drawAll 75 = .ok (.iload_n 3, 1) := by decide +kernel
theorem dX6_drawAll_76 : decode cX6_drawAll 76 = .ok (.ifCond .lt 17, 3) := by decide +kernel
theorem dX6_drawAll_79 : decode cX6_drawAll 79 = .ok (.aload_n 0, 1) := by decide +kernel
theorem dX6_drawAll_80 : decode cX6_drawAll 80 = .ok (.iload 4, 2) := by decide +kernel
theorem dX6_drawAll_82 : decode cX6_drawAll 82 = .ok (.invokevirtual 100, 3) := by decide +kernel
theorem dX6_drawAll_85 : decode cX6_drawAll 85 = .ok (.aload_n 0, 1) := by decide +kernel
theorem dX6_drawAll_86 : decode cX6_drawAll 86 = .ok (.iload_n 3, 1) := by decide +kernel
theorem dX6_drawAll_87 : decode cX6_drawAll 87 = .ok (.invokevirtual 100, 3) := by decide +kernel
theorem dX6_drawAll_90 : decode cX6_drawAll 90 = .ok (.if_icmp .ge 8, 3) := by decide +kernel
theorem dX6_drawAll_93 : decode cX6_drawAll 93 = .ok (.iload 4, 2) := by decide +kernel
theorem dX6_drawAll_95 : decode cX6_drawAll 95 = .ok (.goto 4, 3) := by decide +kernel
theorem dX6_drawAll_98 : decode cX6_drawAll 98 = .ok (.iload_n 3, 1) := by decide +kernel
theorem dX6_drawAll_99 : decode cX6_drawAll 99 = .ok (.istore_n 3, 1) := by decide +kernel
theorem dX6_drawAll_100 : decode cX6_drawAll 100 = .ok (.iinc 4 1, 3) := by decide +kernel
theorem dX6_drawAll_103 : decode cX6_drawAll 103 = .ok (.goto (-72), 3) := by decide +kernel
theorem dX6_drawAll_106 : decode cX6_drawAll 106 = .ok (.iload_n 3, 1) := by decide +kernel
theorem dX6_drawAll_107 : decode cX6_drawAll 107 = .ok (.ifCond .lt (-85), 3) := by decide +kernel
theorem dX6_drawAll_110 : decode cX6_drawAll 110 = .ok (.aload_n 0, 1) := by decide +kernel
theorem dX6_drawAll_111 : decode cX6_drawAll 111 = .ok (.getfield 34, 3) := by decide +kernel
theorem dX6_drawAll_114 : decode cX6_drawAll 114 = .ok (.aload_n 0, 1) := by decide +kernel
theorem dX6_drawAll_115 : decode cX6_drawAll 115 = .ok (.getfield 96, 3) := by decide +kernel
theorem dX6_drawAll_118 : decode cX6_drawAll 118 = .ok (.iload_n 3, 1) := by decide +kernel
theorem dX6_drawAll_119 : decode cX6_drawAll 119 = .ok (.iastore, 1) := by decide +kernel
theorem dX6_drawAll_120 : decode cX6_drawAll 120 = .ok (.aload_n 0, 1) := by decide +kernel
theorem dX6_drawAll_121 : decode cX6_drawAll 121 = .ok (.dup, 1) := by decide +kernel
theorem dX6_drawAll_122 : decode cX6_drawAll 122 = .ok (.getfield 96, 3) := by decide +kernel
theorem dX6_drawAll_125 : decode cX6_drawAll 125 = .ok (.iconst 1, 1) := by decide +kernel
theorem dX6_drawAll_126 : decode cX6_drawAll 126 = .ok (.iadd, 1) := by decide +kernel
theorem dX6_drawAll_127 : decode cX6_drawAll 127 = .ok (.putfield 96, 3) := by decide +kernel
theorem dX6_drawAll_130 : decode cX6_drawAll 130 = .ok (.iload_n 2, 1) := by decide +kernel
theorem dX6_drawAll_131 : decode cX6_drawAll 131 = .ok (.iconst 1, 1) := by decide +kernel
theorem dX6_drawAll_132 : decode cX6_drawAll 132 = .ok (.iload_n 3, 1) := by decide +kernel
theorem dX6_drawAll_133 : decode cX6_drawAll 133 = .ok (.ishl, 1) := by decide +kernel
theorem dX6_drawAll_134 : decode cX6_drawAll 134 = .ok (.iconst (-1), 1) := by decide +kernel
theorem dX6_drawAll_135 : decode cX6_drawAll 135 = .ok (.ixor, 1) := by decide +kernel
theorem dX6_drawAll_136 : decode cX6_drawAll 136 = .ok (.iand, 1) := by decide +kernel
theorem dX6_drawAll_137 : decode cX6_drawAll 137 = .ok (.istore_n 2, 1) := by decide +kernel
theorem dX6_drawAll_138 : decode cX6_drawAll 138 = .ok (.goto (-116), 3) := by decide +kernel
theorem dX6_drawAll_141 : decode cX6_drawAll 141 = .ok (.return_, 1) := by decide +kernel
theorem dX6_drawnSet_0 : decode cX6_drawnSet 0 = .ok (.iconst 0, 1) := by decide +kernel
theorem dX6_drawnSet_1 : decode cX6_drawnSet 1 = .ok (.istore_n 1, 1) := by decide +kernel
theorem dX6_drawnSet_2 : decode cX6_drawnSet 2 = .ok (.iconst 0, 1) := by decide +kernel
theorem dX6_drawnSet_3 : decode cX6_drawnSet 3 = .ok (.istore_n 2, 1) := by decide +kernel
theorem dX6_drawnSet_4 : decode cX6_drawnSet 4 = .ok (.iload_n 2, 1) := by decide +kernel
theorem dX6_drawnSet_5 : decode cX6_drawnSet 5 = .ok (.aload_n 0, 1) := by decide +kernel
theorem dX6_drawnSet_6 : decode cX6_drawnSet 6 = .ok (.getfield 96, 3) := by decide +kernel
theorem dX6_drawnSet_9 : decode cX6_drawnSet 9 = .ok (.if_icmp .ge 20, 3) := by decide +kernel
theorem dX6_drawnSet_12 : decode cX6_drawnSet 12 = .ok (.iload_n 1, 1) := by decide +kernel
theorem dX6_drawnSet_13 : decode cX6_drawnSet 13 = .ok (.iconst 1, 1) := by decide +kernel
theorem dX6_drawnSet_14 : decode cX6_drawnSet 14 = .ok (.aload_n 0, 1) := by decide +kernel
theorem dX6_drawnSet_15 : decode cX6_drawnSet 15 = .ok (.getfield 34, 3) := by decide +kernel
theorem dX6_drawnSet_18 : decode cX6_drawnSet 18 = .ok (.iload_n 2, 1) := by decide +kernel
theorem dX6_drawnSet_19 : decode cX6_drawnSet 19 = .ok (.iaload, 1) := by decide +kernel
theorem dX6_drawnSet_20 : decode cX6_drawnSet 20 = .ok (.ishl, 1) := by decide +kernel
theorem dX6_drawnSet_21 : decode cX6_drawnSet 21 = .ok (.ior, 1) := by decide +kernel
theorem dX6_drawnSet_22 : decode cX6_drawnSet 22 = .ok (.istore_n 1, 1) := by decide +kernel
theorem dX6_drawnSet_23 : decode cX6_drawnSet 23 = .ok (.iinc 2 1, 3) := by decide +kernel
theorem dX6_drawnSet_26 : decode cX6_drawnSet 26 = .ok (.goto (-22), 3) := by decide +kernel
theorem dX6_drawnSet_29 : decode cX6_drawnSet 29 = .ok (.iload_n 1, 1) := by decide +kernel
theorem dX6_drawnSet_30 : decode cX6_drawnSet 30 = .ok (.ireturn, 1) := by decide +kernel
theorem dX6_push_0 : decode cX6_push 0 = .ok (.aload_n 0, 1) := by decide +kernel
theorem dX6_push_1 : decode cX6_push 1 = .ok (.getfield 103, 3) := by decide +kernel
theorem dX6_push_4 : decode cX6_push 4 = .ok (.iconst 4, 1) := by decide +kernel
theorem dX6_push_5 : decode cX6_push 5 = .ok (.if_icmp .ne 43, 3) := by decide +kernel
theorem dX6_push_8 : decode cX6_push 8 = .ok (.iconst 0, 1) := by decide +kernel
theorem dX6_push_9 : decode cX6_push 9 = .ok (.istore_n 2, 1) := by decide +kernel
theorem dX6_push_10 : decode cX6_push 10 = .ok (.iload_n 2, 1) := by decide +kernel
theorem dX6_push_11 : decode cX6_push 11 = .ok (.sipush 348, 3) := by decide +kernel
theorem dX6_push_14 : decode cX6_push 14 = .ok (.if_icmp .ge 24, 3) := by decide +kernel
theorem dX6_push_17 : decode cX6_push 17 = .ok (.aload_n 0, 1) := by decide +kernel
theorem dX6_push_18 : decode cX6_push 18 = .ok (.getfield 16, 3) := by decide +kernel
theorem dX6_push_21 : decode cX6_push 21 = .ok (.iload_n 2, 1) := by decide +kernel
theorem dX6_push_22 : decode cX6_push 22 = .ok (.aload_n 0, 1) := by decide +kernel
theorem dX6_push_23 : decode cX6_push 23 = .ok (.getfield 16, 3) := by decide +kernel
theorem dX6_push_26 : decode cX6_push 26 = .ok (.bipush 116, 2) := by decide +kernel
theorem dX6_push_28 : decode cX6_push 28 = .ok (.iload_n 2, 1) := by decide +kernel
theorem dX6_push_29 : decode cX6_push 29 = .ok (.iadd, 1) := by decide +kernel
theorem dX6_push_30 : decode cX6_push 30 = .ok (.iaload, 1) := by decide +kernel
theorem dX6_push_31 : decode cX6_push 31 = .ok (.iastore, 1) := by decide +kernel
theorem dX6_push_32 : decode cX6_push 32 = .ok (.iinc 2 1, 3) := by decide +kernel
theorem dX6_push_35 : decode cX6_push 35 = .ok (.goto (-25), 3) := by decide +kernel
theorem dX6_push_38 : decode cX6_push 38 = .ok (.aload_n 0, 1) := by decide +kernel
theorem dX6_push_39 : decode cX6_push 39 = .ok (.dup, 1) := by decide +kernel
theorem dX6_push_40 : decode cX6_push 40 = .ok (.getfield 103, 3) := by decide +kernel
theorem dX6_push_43 : decode cX6_push 43 = .ok (.iconst 1, 1) := by decide +kernel
theorem dX6_push_44 : decode cX6_push 44 = .ok (.isub, 1) := by decide +kernel
theorem dX6_push_45 : decode cX6_push 45 = .ok (.putfield 103, 3) := by decide +kernel
theorem dX6_push_48 : decode cX6_push 48 = .ok (.iconst 0, 1) := by decide +kernel
theorem dX6_push_49 : decode cX6_push 49 = .ok (.istore_n 2, 1) := by decide +kernel
theorem dX6_push_50 : decode cX6_push 50 = .ok (.iload_n 2, 1) := by decide +kernel
theorem dX6_push_51 : decode cX6_push 51 = .ok (.bipush 116, 2) := by decide +kernel
theorem dX6_push_53 : decode cX6_push 53 = .ok (.if_icmp .ge 26, 3) := by decide +kernel
theorem dX6_push_56 : decode cX6_push 56 = .ok (.aload_n 0, 1) := by decide +kernel
theorem dX6_push_57 : decode cX6_push 57 = .ok (.getfield 16, 3) := by decide +kernel
theorem dX6_push_60 : decode cX6_push 60 = .ok (.bipush 116, 2) := by decide +kernel
theorem dX6_push_62 : decode cX6_push 62 = .ok (.aload_n 0, 1) := by decide +kernel
theorem dX6_push_63 : decode cX6_push 63 = .ok (.getfield 103, 3) := by decide +kernel
theorem dX6_push_66 : decode cX6_push 66 = .ok (.imul, 1) := by decide +kernel
theorem dX6_push_67 : decode cX6_push 67 = .ok (.iload_n 2, 1) := by decide +kernel
theorem dX6_push_68 : decode cX6_push 68 = .ok (.iadd, 1) := by decide +kernel
theorem dX6_push_69 : decode cX6_push 69 = .ok (.aload_n 1, 1) := by decide +kernel
theorem dX6_push_70 : decode cX6_push 70 = .ok (.iload_n 2, 1) := by decide +kernel
theorem dX6_push_71 : decode cX6_push 71 = .ok (.iaload, 1) := by decide +kernel
theorem dX6_push_72 : decode cX6_push 72 = .ok (.iastore, 1) := by decide +kernel
theorem dX6_push_73 : decode cX6_push 73 = .ok (.iinc 2 1, 3) := by decide +kernel
theorem dX6_push_76 : decode cX6_push 76 = .ok (.goto (-26), 3) := by decide +kernel
theorem dX6_push_79 : decode cX6_push 79 = .ok (.aload_n 0, 1) := by decide +kernel
theorem dX6_push_80 : decode cX6_push 80 = .ok (.dup, 1) := by decide +kernel
theorem dX6_push_81 : decode cX6_push 81 = .ok (.getfield 103, 3) := by decide +kernel
theorem dX6_push_84 : decode cX6_push 84 = .ok (.iconst 1, 1) := by decide +kernel
theorem dX6_push_85 : decode cX6_push 85 = .ok (.iadd, 1) := by decide +kernel
theorem dX6_push_86 : decode cX6_push 86 = .ok (.putfield 103, 3) := by decide +kernel
theorem dX6_push_89 : decode cX6_push 89 = .ok (.return_, 1) := by decide +kernel
theorem dX6_putAside_0 : decode cX6_putAside 0 = .ok (.iconst 0, 1) := by decide +kernel
theorem dX6_putAside_1 : decode cX6_putAside 1 = .ok (.istore_n 1, 1) := by decide +kernel
theorem dX6_putAside_2 : decode cX6_putAside 2 = .ok (.iload_n 1, 1) := by decide +kernel
theorem dX6_putAside_3 : decode cX6_putAside 3 = .ok (.bipush 116, 2) := by decide +kernel
theorem dX6_putAside_5 : decode cX6_putAside 5 = .ok (.if_icmp .ge 21, 3) := by decide +kernel
theorem dX6_putAside_8 : decode cX6_putAside 8 = .ok (.aload_n 0, 1) := by decide +kernel
theorem dX6_putAside_9 : decode cX6_putAside 9 = .ok (.getfield 13, 3) := by decide +kernel
theorem dX6_putAside_12 : decode cX6_putAside 12 = .ok (.iload_n 1, 1) := by decide +kernel
theorem dX6_putAside_13 : decode cX6_putAside 13 = .ok (.aload_n 0, 1) := by decide +kernel
theorem dX6_putAside_14 : decode cX6_putAside 14 = .ok (.getfield 7, 3) := by decide +kernel
theorem dX6_putAside_17 : decode cX6_putAside 17 = .ok (.iload_n 1, 1) := by decide +kernel
theorem dX6_putAside_18 : decode cX6_putAside 18 = .ok (.iaload, 1) := by decide +kernel
theorem dX6_putAside_19 : decode cX6_putAside 19 = .ok (.iastore, 1) := by decide +kernel
theorem dX6_putAside_20 : decode cX6_putAside 20 = .ok (.iinc 1 1, 3) := by decide +kernel
theorem dX6_putAside_23 : decode cX6_putAside 23 = .ok (.goto (-21), 3) := by decide +kernel
theorem dX6_putAside_26 : decode cX6_putAside 26 = .ok (.return_, 1) := by decide +kernel
theorem dX6_putBack_0 : decode cX6_putBack 0 = .ok (.iconst 0, 1) := by decide +kernel
theorem dX6_putBack_1 : decode cX6_putBack 1 = .ok (.istore_n 1, 1) := by decide +kernel
theorem dX6_putBack_2 : decode cX6_putBack 2 = .ok (.iload_n 1, 1) := by decide +kernel
theorem dX6_putBack_3 : decode cX6_putBack 3 = .ok (.bipush 116, 2) := by decide +kernel
theorem dX6_putBack_5 : decode cX6_putBack 5 = .ok (.if_icmp .ge 21, 3) := by decide +kernel
theorem dX6_putBack_8 : decode cX6_putBack 8 = .ok (.aload_n 0, 1) := by decide +kernel
theorem dX6_putBack_9 : decode cX6_putBack 9 = .ok (.getfield 7, 3) := by decide +kernel
theorem dX6_putBack_12 : decode cX6_putBack 12 = .ok (.iload_n 1, 1) := by decide +kernel
theorem dX6_putBack_13 : decode cX6_putBack 13 = .ok (.aload_n 0, 1) := by decide +kernel
theorem dX6_putBack_14 : decode cX6_putBack 14 = .ok (.getfield 13, 3) := by decide +kernel
theorem dX6_putBack_17 : decode cX6_putBack 17 = .ok (.iload_n 1, 1) := by decide +kernel
theorem dX6_putBack_18 : decode cX6_putBack 18 = .ok (.iaload, 1) := by decide +kernel
theorem dX6_putBack_19 : decode cX6_putBack 19 = .ok (.iastore, 1) := by decide +kernel
theorem dX6_putBack_20 : decode cX6_putBack 20 = .ok (.iinc 1 1, 3) := by decide +kernel
theorem dX6_putBack_23 : decode cX6_putBack 23 = .ok (.goto (-21), 3) := by decide +kernel
theorem dX6_putBack_26 : decode cX6_putBack 26 = .ok (.return_, 1) := by decide +kernel
theorem dX6_undo_0 : decode cX6_undo 0 = .ok (.aload_n 0, 1) := by decide +kernel
theorem dX6_undo_1 : decode cX6_undo 1 = .ok (.getfield 103, 3) := by decide +kernel
theorem dX6_undo_4 : decode cX6_undo 4 = .ok (.ifCond .ne 6, 3) := by decide +kernel
theorem dX6_undo_7 : decode cX6_undo 7 = .ok (.bipush (-5), 2) := by decide +kernel
theorem dX6_undo_9 : decode cX6_undo 9 = .ok (.ireturn, 1) := by decide +kernel
theorem dX6_undo_10 : decode cX6_undo 10 = .ok (.aload_n 0, 1) := by decide +kernel
theorem dX6_undo_11 : decode cX6_undo 11 = .ok (.dup, 1) := by decide +kernel
theorem dX6_undo_12 : decode cX6_undo 12 = .ok (.getfield 103, 3) := by decide +kernel
theorem dX6_undo_15 : decode cX6_undo 15 = .ok (.iconst 1, 1) := by decide +kernel
theorem dX6_undo_16 : decode cX6_undo 16 = .ok (.isub, 1) := by decide +kernel
theorem dX6_undo_17 : decode cX6_undo 17 = .ok (.putfield 103, 3) := by decide +kernel
theorem dX6_undo_20 : decode cX6_undo 20 = .ok (.iconst 0, 1) := by decide +kernel
theorem dX6_undo_21 : decode cX6_undo 21 = .ok (.istore_n 1, 1) := by decide +kernel
theorem dX6_undo_22 : decode cX6_undo 22 = .ok (.iload_n 1, 1) := by decide +kernel
theorem dX6_undo_23 : decode cX6_undo 23 = .ok (.bipush 116, 2) := by decide +kernel
theorem dX6_undo_25 : decode cX6_undo 25 = .ok (.if_icmp .ge 29, 3) := by decide +kernel
theorem dX6_undo_28 : decode cX6_undo 28 = .ok (.aload_n 0, 1) := by decide +kernel
theorem dX6_undo_29 : decode cX6_undo 29 = .ok (.getfield 7, 3) := by decide +kernel
theorem dX6_undo_32 : decode cX6_undo 32 = .ok (.iload_n 1, 1) := by decide +kernel
theorem dX6_undo_33 : decode cX6_undo 33 = .ok (.aload_n 0, 1) := by decide +kernel
theorem dX6_undo_34 : decode cX6_undo 34 = .ok (.getfield 16, 3) := by decide +kernel
theorem dX6_undo_37 : decode cX6_undo 37 = .ok (.bipush 116, 2) := by decide +kernel
theorem dX6_undo_39 : decode cX6_undo 39 = .ok (.aload_n 0, 1) := by decide +kernel
theorem dX6_undo_40 : decode cX6_undo 40 = .ok (.getfield 103, 3) := by decide +kernel
theorem dX6_undo_43 : decode cX6_undo 43 = .ok (.imul, 1) := by decide +kernel
theorem dX6_undo_44 : decode cX6_undo 44 = .ok (.iload_n 1, 1) := by decide +kernel
theorem dX6_undo_45 : decode cX6_undo 45 = .ok (.iadd, 1) := by decide +kernel
theorem dX6_undo_46 : decode cX6_undo 46 = .ok (.iaload, 1) := by decide +kernel
theorem dX6_undo_47 : decode cX6_undo 47 = .ok (.iastore, 1) := by decide +kernel
theorem dX6_undo_48 : decode cX6_undo 48 = .ok (.iinc 1 1, 3) := by decide +kernel
theorem dX6_undo_51 : decode cX6_undo 51 = .ok (.goto (-29), 3) := by decide +kernel
theorem dX6_undo_54 : decode cX6_undo 54 = .ok (.aload_n 0, 1) := by decide +kernel
theorem dX6_undo_55 : decode cX6_undo 55 = .ok (.getfield 103, 3) := by decide +kernel
theorem dX6_undo_58 : decode cX6_undo 58 = .ok (.ireturn, 1) := by decide +kernel
theorem dX6_keep_0 : decode cX6_keep 0 = .ok (.iconst 0, 1) := by decide +kernel
theorem dX6_keep_1 : decode cX6_keep 1 = .ok (.istore_n 1, 1) := by decide +kernel
theorem dX6_keep_2 : decode cX6_keep 2 = .ok (.iload_n 1, 1) := by decide +kernel
theorem dX6_keep_3 : decode cX6_keep 3 = .ok (.bipush 116, 2) := by decide +kernel
theorem dX6_keep_5 : decode cX6_keep 5 = .ok (.if_icmp .ge 21, 3) := by decide +kernel
theorem dX6_keep_8 : decode cX6_keep 8 = .ok (.aload_n 0, 1) := by decide +kernel
theorem dX6_keep_9 : decode cX6_keep 9 = .ok (.getfield 19, 3) := by decide +kernel
theorem dX6_keep_12 : decode cX6_keep 12 = .ok (.iload_n 1, 1) := by decide +kernel
theorem dX6_keep_13 : decode cX6_keep 13 = .ok (.aload_n 0, 1) := by decide +kernel
theorem dX6_keep_14 : decode cX6_keep 14 = .ok (.getfield 7, 3) := by decide +kernel
theorem dX6_keep_17 : decode cX6_keep 17 = .ok (.iload_n 1, 1) := by decide +kernel
theorem dX6_keep_18 : decode cX6_keep 18 = .ok (.iaload, 1) := by decide +kernel
theorem dX6_keep_19 : decode cX6_keep 19 = .ok (.iastore, 1) := by decide +kernel
theorem dX6_keep_20 : decode cX6_keep 20 = .ok (.iinc 1 1, 3) := by decide +kernel
theorem dX6_keep_23 : decode cX6_keep 23 = .ok (.goto (-21), 3) := by decide +kernel
theorem dX6_keep_26 : decode cX6_keep 26 = .ok (.aload_n 0, 1) := by decide +kernel
theorem dX6_keep_27 : decode cX6_keep 27 = .ok (.iconst 1, 1) := by decide +kernel
theorem dX6_keep_28 : decode cX6_keep 28 = .ok (.putfield 106, 3) := by decide +kernel
theorem dX6_keep_31 : decode cX6_keep 31 = .ok (.aload_n 0, 1) := by decide +kernel
theorem dX6_keep_32 : decode cX6_keep 32 = .ok (.getfield 7, 3) := by decide +kernel
theorem dX6_keep_35 : decode cX6_keep 35 = .ok (.iconst 0, 1) := by decide +kernel
theorem dX6_keep_36 : decode cX6_keep 36 = .ok (.iaload, 1) := by decide +kernel
theorem dX6_keep_37 : decode cX6_keep 37 = .ok (.ireturn, 1) := by decide +kernel
set_option maxRecDepth 20000 in
theorem ggX6_restore_X6_push : GoodIn wsX6_restore wsX6_push := goodIn_r _ [8, 9, 10, 11, 12, 13, 14, 15, 16, 17, 18, 19, 20, 21, 22, 23, 24, 25, 26, 27] (by decide +kernel) (by decide +kernel)
set_option maxRecDepth 20000 in
theorem gX6_restore_X6_push : GoodIn wsX6_restore (wsV RX6 110 RX6 yX6_push wsX6_push) := goodIn_app (goodIn_of _ (by decide +kernel)) ggX6_restore_X6_push
theorem dX6_restore_0 : decode cX6_restore 0 = .ok (.aload_n 0, 1) := by decide +kernel
theorem dX6_restore_1 : decode cX6_restore 1 = .ok (.getfield 106, 3) := by decide +kernel
theorem dX6_restore_4 : decode cX6_restore 4 = .ok (.ifCond .ne 6, 3) := by decide +kernel
theorem dX6_restore_7 : decode cX6_restore 7 = .ok (.bipush (-5), 2) := by decide +kernel
theorem dX6_restore_9 : decode cX6_restore 9 = .ok (.ireturn, 1) := by decide +kernel
theorem dX6_restore_10 : decode cX6_restore 10 = .ok (.aload_n 0, 1) := by decide +kernel
theorem dX6_restore_11 : decode cX6_restore 11 = .ok (.aload_n 0, 1) := by decide +kernel
theorem dX6_restore_12 : decode cX6_restore 12 = .ok (.getfield 7, 3) := by decide +kernel
theorem dX6_restore_15 : decode cX6_restore 15 = .ok (.invokevirtual 110, 3) := by decide +kernel
theorem dX6_restore_18 : decode cX6_restore 18 = .ok (.iconst 0, 1) := by decide +kernel
theorem dX6_restore_19 : decode cX6_restore 19 = .ok (.istore_n 1, 1) := by decide +kernel
theorem dX6_restore_20 : decode cX6_restore 20 = .ok (.iload_n 1, 1) := by decide +kernel
theorem dX6_restore_21 : decode cX6_restore 21 = .ok (.bipush 116, 2) := by decide +kernel
theorem dX6_restore_23 : decode cX6_restore 23 = .ok (.if_icmp .ge 21, 3) := by decide +kernel
theorem dX6_restore_26 : decode cX6_restore 26 = .ok (.aload_n 0, 1) := by decide +kernel
theorem dX6_restore_27 : decode cX6_restore 27 = .ok (.getfield 7, 3) := by decide +kernel
theorem dX6_restore_30 : decode cX6_restore 30 = .ok (.iload_n 1, 1) := by decide +kernel
theorem dX6_restore_31 : decode cX6_restore 31 = .ok (.aload_n 0, 1) := by decide +kernel
theorem dX6_restore_32 : decode cX6_restore 32 = .ok (.getfield 19, 3) := by decide +kernel
theorem dX6_restore_35 : decode cX6_restore 35 = .ok (.iload_n 1, 1) := by decide +kernel
theorem dX6_restore_36 : decode cX6_restore 36 = .ok (.iaload, 1) := by decide +kernel
theorem dX6_restore_37 : decode cX6_restore 37 = .ok (.iastore, 1) := by decide +kernel
theorem dX6_restore_38 : decode cX6_restore 38 = .ok (.iinc 1 1, 3) := by decide +kernel
theorem dX6_restore_41 : decode cX6_restore 41 = .ok (.goto (-21), 3) := by decide +kernel
theorem dX6_restore_44 : decode cX6_restore 44 = .ok (.aload_n 0, 1) := by decide +kernel
theorem dX6_restore_45 : decode cX6_restore 45 = .ok (.getfield 7, 3) := by decide +kernel
theorem dX6_restore_48 : decode cX6_restore 48 = .ok (.iconst 0, 1) := by decide +kernel
theorem dX6_restore_49 : decode cX6_restore 49 = .ok (.iaload, 1) := by decide +kernel
theorem dX6_restore_50 : decode cX6_restore 50 = .ok (.ireturn, 1) := by decide +kernel
set_option maxRecDepth 20000 in
theorem ggX6_tryBox_X6_in : GoodIn wsX6_tryBox wsX6_in := goodIn_r _ [5] (by decide +kernel) (by decide +kernel)
set_option maxRecDepth 20000 in
theorem gX6_tryBox_X6_in : GoodIn wsX6_tryBox (va_wsS RX6 53 yX6_in wsX6_in) := goodIn_app (goodIn_of _ (by decide +kernel)) ggX6_tryBox_X6_in
set_option maxRecDepth 20000 in
theorem ggX6_tryBox_X6_high : GoodIn wsX6_tryBox wsX6_high := goodIn_r _ [9, 10, 11, 12, 4, 13, 14, 15, 16, 17, 1, 18, 19, 20, 21, 22, 23, 24, 25, 26, 27, 28, 29, 30, 31, 32, 33, 34, 35, 36, 37, 38] (by decide +kernel) (by decide +kernel)
set_option maxRecDepth 20000 in
theorem gX6_tryBox_X6_high : GoodIn wsX6_tryBox (wsV RX6 57 RX6 yX6_high wsX6_high) := goodIn_app (goodIn_of _ (by decide +kernel)) ggX6_tryBox_X6_high
set_option maxRecDepth 20000 in
theorem ggX6_tryBox_X6_low : GoodIn wsX6_tryBox wsX6_low := goodIn_r _ [13, 14, 15, 16, 4, 17, 1, 22, 23, 24, 25, 26, 27, 28, 29, 30, 31, 32, 33, 34, 35, 36, 37, 38] (by decide +kernel) (by decide +kernel)
set_option maxRecDepth 20000 in
theorem gX6_tryBox_X6_low : GoodIn wsX6_tryBox (wsV RX6 47 RX6 yX6_low wsX6_low) := goodIn_app (goodIn_of _ (by decide +kernel)) ggX6_tryBox_X6_low
theorem dX6_tryBox_0 : decode cX6_tryBox 0 = .ok (.iload_n 1, 1) := by decide +kernel
theorem dX6_tryBox_1 : decode cX6_tryBox 1 = .ok (.i2l, 1) := by decide +kernel
theorem dX6_tryBox_2 : decode cX6_tryBox 2 = .ok (.iconst 0, 1) := by decide +kernel
theorem dX6_tryBox_3 : decode cX6_tryBox 3 = .ok (.bipush 31, 2) := by decide +kernel
theorem dX6_tryBox_5 : decode cX6_tryBox 5 = .ok (.invokestatic 53, 3) := by decide +kernel
theorem dX6_tryBox_8 : decode cX6_tryBox 8 = .ok (.ifCond .eq 29, 3) := by decide +kernel
theorem dX6_tryBox_11 : decode cX6_tryBox 11 = .ok (.iload_n 2, 1) := by decide +kernel
theorem dX6_tryBox_12 : decode cX6_tryBox 12 = .ok (.i2l, 1) := by decide +kernel
theorem dX6_tryBox_13 : decode cX6_tryBox 13 = .ok (.iconst 0, 1) := by decide +kernel
theorem dX6_tryBox_14 : decode cX6_tryBox 14 = .ok (.bipush 31, 2) := by decide +kernel
theorem dX6_tryBox_16 : decode cX6_tryBox 16 = .ok (.invokestatic 53, 3) := by decide +kernel
theorem dX6_tryBox_19 : decode cX6_tryBox 19 = .ok (.ifCond .eq 18, 3) := by decide +kernel
theorem dX6_tryBox_22 : decode cX6_tryBox 22 = .ok (.iload_n 3, 1) := by decide +kernel
theorem dX6_tryBox_23 : decode cX6_tryBox 23 = .ok (.i2l, 1) := by decide +kernel
theorem dX6_tryBox_24 : decode cX6_tryBox 24 = .ok (.iconst 0, 1) := by decide +kernel
theorem dX6_tryBox_25 : decode cX6_tryBox 25 = .ok (.bipush 31, 2) := by decide +kernel
theorem dX6_tryBox_27 : decode cX6_tryBox 27 = .ok (.invokestatic 53, 3) := by decide +kernel
theorem dX6_tryBox_30 : decode cX6_tryBox 30 = .ok (.ifCond .eq 7, 3) := by decide +kernel
theorem dX6_tryBox_33 : decode cX6_tryBox 33 = .ok (.iconst 1, 1) := by decide +kernel
theorem dX6_tryBox_34 : decode cX6_tryBox 34 = .ok (.goto 4, 3) := by decide +kernel
theorem dX6_tryBox_37 : decode cX6_tryBox 37 = .ok (.iconst 0, 1) := by decide +kernel
theorem dX6_tryBox_38 : decode cX6_tryBox 38 = .ok (.istore 7, 2) := by decide +kernel
theorem dX6_tryBox_40 : decode cX6_tryBox 40 = .ok (.iload 4, 2) := by decide +kernel
theorem dX6_tryBox_42 : decode cX6_tryBox 42 = .ok (.i2l, 1) := by decide +kernel
theorem dX6_tryBox_43 : decode cX6_tryBox 43 = .ok (.iconst 1, 1) := by decide +kernel
theorem dX6_tryBox_44 : decode cX6_tryBox 44 = .ok (.bipush 12, 2) := by decide +kernel
theorem dX6_tryBox_46 : decode cX6_tryBox 46 = .ok (.invokestatic 53, 3) := by decide +kernel
theorem dX6_tryBox_49 : decode cX6_tryBox 49 = .ok (.ifCond .eq 31, 3) := by decide +kernel
theorem dX6_tryBox_52 : decode cX6_tryBox 52 = .ok (.iload 5, 2) := by decide +kernel
theorem dX6_tryBox_54 : decode cX6_tryBox 54 = .ok (.i2l, 1) := by decide +kernel
theorem dX6_tryBox_55 : decode cX6_tryBox 55 = .ok (.iconst 1, 1) := by decide +kernel
theorem dX6_tryBox_56 : decode cX6_tryBox 56 = .ok (.bipush 12, 2) := by decide +kernel
theorem dX6_tryBox_58 : decode cX6_tryBox 58 = .ok (.invokestatic 53, 3) := by decide +kernel
theorem dX6_tryBox_61 : decode cX6_tryBox 61 = .ok (.ifCond .eq 19, 3) := by decide +kernel
theorem dX6_tryBox_64 : decode cX6_tryBox 64 = .ok (.iload 6, 2) := by decide +kernel
theorem dX6_tryBox_66 : decode cX6_tryBox 66 = .ok (.i2l, 1) := by decide +kernel
theorem dX6_tryBox_67 : decode cX6_tryBox 67 = .ok (.iconst 1, 1) := by decide +kernel
theorem dX6_tryBox_68 : decode cX6_tryBox 68 = .ok (.bipush 12, 2) := by decide +kernel
theorem dX6_tryBox_70 : decode cX6_tryBox 70 = .ok (.invokestatic 53, 3) := by decide +kernel
theorem dX6_tryBox_73 : decode cX6_tryBox 73 = .ok (.ifCond .eq 7, 3) := by decide +kernel
theorem dX6_tryBox_76 : decode cX6_tryBox 76 = .ok (.iconst 1, 1) := by decide +kernel
theorem dX6_tryBox_77 : decode cX6_tryBox 77 = .ok (.goto 4, 3) := by decide +kernel
theorem dX6_tryBox_80 : decode cX6_tryBox 80 = .ok (.iconst 0, 1) := by decide +kernel
theorem dX6_tryBox_81 : decode cX6_tryBox 81 = .ok (.istore 8, 2) := by decide +kernel
theorem dX6_tryBox_83 : decode cX6_tryBox 83 = .ok (.iload 7, 2) := by decide +kernel
theorem dX6_tryBox_85 : decode cX6_tryBox 85 = .ok (.ifCond .eq 35, 3) := by decide +kernel
theorem dX6_tryBox_88 : decode cX6_tryBox 88 = .ok (.iload 8, 2) := by decide +kernel
theorem dX6_tryBox_90 : decode cX6_tryBox 90 = .ok (.ifCond .eq 30, 3) := by decide +kernel
theorem dX6_tryBox_93 : decode cX6_tryBox 93 = .ok (.iload_n 1, 1) := by decide +kernel
theorem dX6_tryBox_94 : decode cX6_tryBox 94 = .ok (.iload 4, 2) := by decide +kernel
theorem dX6_tryBox_96 : decode cX6_tryBox 96 = .ok (.iadd, 1) := by decide +kernel
theorem dX6_tryBox_97 : decode cX6_tryBox 97 = .ok (.bipush 32, 2) := by decide +kernel
theorem dX6_tryBox_99 : decode cX6_tryBox 99 = .ok (.if_icmp .gt 21, 3) := by decide +kernel
theorem dX6_tryBox_102 : decode cX6_tryBox 102 = .ok (.iload_n 2, 1) := by decide +kernel
theorem dX6_tryBox_103 : decode cX6_tryBox 103 = .ok (.iload 5, 2) := by decide +kernel
theorem dX6_tryBox_105 : decode cX6_tryBox 105 = .ok (.iadd, 1) := by decide +kernel
theorem dX6_tryBox_106 : decode cX6_tryBox 106 = .ok (.bipush 32, 2) := by decide +kernel
theorem dX6_tryBox_108 : decode cX6_tryBox 108 = .ok (.if_icmp .gt 12, 3) := by decide +kernel
theorem dX6_tryBox_111 : decode cX6_tryBox 111 = .ok (.iload_n 3, 1) := by decide +kernel
theorem dX6_tryBox_112 : decode cX6_tryBox 112 = .ok (.iload 6, 2) := by decide +kernel
theorem dX6_tryBox_114 : decode cX6_tryBox 114 = .ok (.iadd, 1) := by decide +kernel
theorem dX6_tryBox_115 : decode cX6_tryBox 115 = .ok (.bipush 32, 2) := by decide +kernel
theorem dX6_tryBox_117 : decode cX6_tryBox 117 = .ok (.if_icmp .le 6, 3) := by decide +kernel
theorem dX6_tryBox_120 : decode cX6_tryBox 120 = .ok (.bipush (-2), 2) := by decide +kernel
theorem dX6_tryBox_122 : decode cX6_tryBox 122 = .ok (.ireturn, 1) := by decide +kernel
theorem dX6_tryBox_123 : decode cX6_tryBox 123 = .ok (.iconst 0, 1) := by decide +kernel
theorem dX6_tryBox_124 : decode cX6_tryBox 124 = .ok (.istore 9, 2) := by decide +kernel
theorem dX6_tryBox_126 : decode cX6_tryBox 126 = .ok (.iconst 0, 1) := by decide +kernel
theorem dX6_tryBox_127 : decode cX6_tryBox 127 = .ok (.istore 10, 2) := by decide +kernel
theorem dX6_tryBox_129 : decode cX6_tryBox 129 = .ok (.iload 10, 2) := by decide +kernel
theorem dX6_tryBox_131 : decode cX6_tryBox 131 = .ok (.aload_n 0, 1) := by decide +kernel
theorem dX6_tryBox_132 : decode cX6_tryBox 132 = .ok (.getfield 7, 3) := by decide +kernel
theorem dX6_tryBox_135 : decode cX6_tryBox 135 = .ok (.iconst 0, 1) := by decide +kernel
theorem dX6_tryBox_136 : decode cX6_tryBox 136 = .ok (.iaload, 1) := by decide +kernel
theorem dX6_tryBox_137 : decode cX6_tryBox 137 = .ok (.if_icmp .ge 96, 3) := by decide +kernel
theorem dX6_tryBox_140 : decode cX6_tryBox 140 = .ok (.iload 9, 2) := by decide +kernel
theorem dX6_tryBox_142 : decode cX6_tryBox 142 = .ok (.ifCond .ne 78, 3) := by decide +kernel
theorem dX6_tryBox_145 : decode cX6_tryBox 145 = .ok (.iload_n 1, 1) := by decide +kernel
theorem dX6_tryBox_146 : decode cX6_tryBox 146 = .ok (.aload_n 0, 1) := by decide +kernel
theorem dX6_tryBox_147 : decode cX6_tryBox 147 = .ok (.iload 10, 2) := by decide +kernel
theorem dX6_tryBox_149 : decode cX6_tryBox 149 = .ok (.iconst 0, 1) := by decide +kernel
theorem dX6_tryBox_150 : decode cX6_tryBox 150 = .ok (.invokevirtual 57, 3) := by decide +kernel
theorem dX6_tryBox_153 : decode cX6_tryBox 153 = .ok (.if_icmp .ge 71, 3) := by decide +kernel
theorem dX6_tryBox_156 : decode cX6_tryBox 156 = .ok (.aload_n 0, 1) := by decide +kernel
theorem dX6_tryBox_157 : decode cX6_tryBox 157 = .ok (.iload 10, 2) := by decide +kernel
theorem dX6_tryBox_159 : decode cX6_tryBox 159 = .ok (.iconst 0, 1) := by decide +kernel
theorem dX6_tryBox_160 : decode cX6_tryBox 160 = .ok (.invokevirtual 47, 3) := by decide +kernel
theorem dX6_tryBox_163 : decode cX6_tryBox 163 = .ok (.iload_n 1, 1) := by decide +kernel
theorem dX6_tryBox_164 : decode cX6_tryBox 164 = .ok (.iload 4, 2) := by decide +kernel
theorem dX6_tryBox_166 : decode cX6_tryBox 166 = .ok (.iadd, 1) := by decide +kernel
theorem dX6_tryBox_167 : decode cX6_tryBox 167 = .ok (.if_icmp .ge 57, 3) := by decide +kernel
theorem dX6_tryBox_170 : decode cX6_tryBox 170 = .ok (.iload_n 2, 1) := by decide +kernel
theorem dX6_tryBox_171 : decode cX6_tryBox 171 = .ok (.aload_n 0, 1) := by decide +kernel
theorem dX6_tryBox_172 : decode cX6_tryBox 172 = .ok (.iload 10, 2) := by decide +kernel
theorem dX6_tryBox_174 : decode cX6_tryBox 174 = .ok (.iconst 1, 1) := by decide +kernel
theorem dX6_tryBox_175 : decode cX6_tryBox 175 = .ok (.invokevirtual 57, 3) := by decide +kernel
theorem dX6_tryBox_178 : decode cX6_tryBox 178 = .ok (.if_icmp .ge 46, 3) := by decide +kernel
theorem dX6_tryBox_181 : decode cX6_tryBox 181 = .ok (.aload_n 0, 1) := by decide +kernel
theorem dX6_tryBox_182 : decode cX6_tryBox 182 = .ok (.iload 10, 2) := by decide +kernel
theorem dX6_tryBox_184 : decode cX6_tryBox 184 = .ok (.iconst 1, 1) := by decide +kernel
theorem dX6_tryBox_185 : decode cX6_tryBox 185 = .ok (.invokevirtual 47, 3) := by decide +kernel
theorem dX6_tryBox_188 : decode cX6_tryBox 188 = .ok (.iload_n 2, 1) := by decide +kernel
theorem dX6_tryBox_189 : decode cX6_tryBox 189 = .ok (.iload 5, 2) := by decide +kernel
theorem dX6_tryBox_191 : decode cX6_tryBox 191 = .ok (.iadd, 1) := by decide +kernel
theorem dX6_tryBox_192 : decode cX6_tryBox 192 = .ok (.if_icmp .ge 32, 3) := by decide +kernel
theorem dX6_tryBox_195 : decode cX6_tryBox 195 = .ok (.iload_n 3, 1) := by decide +kernel
theorem dX6_tryBox_196 : decode cX6_tryBox 196 = .ok (.aload_n 0, 1) := by decide +kernel
theorem dX6_tryBox_197 : decode cX6_tryBox 197 = .ok (.iload 10, 2) := by decide +kernel
theorem dX6_tryBox_199 : decode cX6_tryBox 199 = .ok (.iconst 2, 1) := by decide +kernel
theorem dX6_tryBox_200 : decode cX6_tryBox 200 = .ok (.invokevirtual 57, 3) := by decide +kernel
theorem dX6_tryBox_203 : decode cX6_tryBox 203 = .ok (.if_icmp .ge 21, 3) := by decide +kernel
theorem dX6_tryBox_206 : decode cX6_tryBox 206 = .ok (.aload_n 0, 1) := by decide +kernel
theorem dX6_tryBox_207 : decode cX6_tryBox 207 = .ok (.iload 10, 2) := by decide +kernel
theorem dX6_tryBox_209 : decode cX6_tryBox 209 = .ok (.iconst 2, 1) := by decide +kernel
theorem dX6_tryBox_210 : decode cX6_tryBox 210 = .ok (.invokevirtual 47, 3) := by decide +kernel
theorem dX6_tryBox_213 : decode cX6_tryBox 213 = .ok (.iload_n 3, 1) := by decide +kernel
theorem dX6_tryBox_214 : decode cX6_tryBox 214 = .ok (.iload 6, 2) := by decide +kernel
theorem dX6_tryBox_216 : decode cX6_tryBox 216 = .ok (.iadd, 1) := by decide +kernel
theorem dX6_tryBox_217 : decode cX6_tryBox 217 = .ok (.if_icmp .ge 7, 3) := by decide +kernel
theorem dX6_tryBox_220 : decode cX6_tryBox 220 = .ok (.iconst 1, 1) := by decide +kernel
theorem dX6_tryBox_221 : decode cX6_tryBox 221 = .ok (.goto 4, 3) := by decide +kernel
theorem dX6_tryBox_224 : decode cX6_tryBox 224 = .ok (.iconst 0, 1) := by decide +kernel
theorem dX6_tryBox_225 : decode cX6_tryBox 225 = .ok (.istore 9, 2) := by decide +kernel
theorem dX6_tryBox_227 : decode cX6_tryBox 227 = .ok (.iinc 10 1, 3) := by decide +kernel
theorem dX6_tryBox_230 : decode cX6_tryBox 230 = .ok (.goto (-101), 3) := by decide +kernel
theorem dX6_tryBox_233 : decode cX6_tryBox 233 = .ok (.iload 9, 2) := by decide +kernel
theorem dX6_tryBox_235 : decode cX6_tryBox 235 = .ok (.ifCond .eq 8, 3) := by decide +kernel
theorem dX6_tryBox_238 : decode cX6_tryBox 238 = .ok (.bipush (-4), 2) := by decide +kernel
theorem dX6_tryBox_240 : decode cX6_tryBox 240 = .ok (.goto 20, 3) := by decide +kernel
theorem dX6_tryBox_243 : decode cX6_tryBox 243 = .ok (.aload_n 0, 1) := by decide +kernel
theorem dX6_tryBox_244 : decode cX6_tryBox 244 = .ok (.getfield 7, 3) := by decide +kernel
theorem dX6_tryBox_247 : decode cX6_tryBox 247 = .ok (.iconst 0, 1) := by decide +kernel
theorem dX6_tryBox_248 : decode cX6_tryBox 248 = .ok (.iaload, 1) := by decide +kernel
theorem dX6_tryBox_249 : decode cX6_tryBox 249 = .ok (.bipush 16, 2) := by decide +kernel
theorem dX6_tryBox_251 : decode cX6_tryBox 251 = .ok (.if_icmp .ne 8, 3) := by decide +kernel
theorem dX6_tryBox_254 : decode cX6_tryBox 254 = .ok (.bipush (-3), 2) := by decide +kernel
theorem dX6_tryBox_256 : decode cX6_tryBox 256 = .ok (.goto 4, 3) := by decide +kernel
theorem dX6_tryBox_259 : decode cX6_tryBox 259 = .ok (.iconst 0, 1) := by decide +kernel
theorem dX6_tryBox_260 : decode cX6_tryBox 260 = .ok (.ireturn, 1) := by decide +kernel
set_option maxRecDepth 20000 in
theorem ggX6_putBox_X6_put : GoodIn wsX6_putBox wsX6_put := goodIn_r _ [6, 1, 7, 8, 9, 10, 11, 12, 13, 14, 15, 16, 17, 18, 19, 20, 21, 22, 23] (by decide +kernel) (by decide +kernel)
set_option maxRecDepth 20000 in
theorem gX6_putBox_X6_put : GoodIn wsX6_putBox (wsV RX6 114 RX6 yX6_put wsX6_put) := goodIn_app (goodIn_of _ (by decide +kernel)) ggX6_putBox_X6_put
theorem dX6_putBox_0 : decode cX6_putBox 0 = .ok (.aload_n 0, 1) := by decide +kernel
theorem dX6_putBox_1 : decode cX6_putBox 1 = .ok (.getfield 7, 3) := by decide +kernel
theorem dX6_putBox_4 : decode cX6_putBox 4 = .ok (.iconst 0, 1) := by decide +kernel
theorem dX6_putBox_5 : decode cX6_putBox 5 = .ok (.iaload, 1) := by decide +kernel
theorem dX6_putBox_6 : decode cX6_putBox 6 = .ok (.istore 7, 2) := by decide +kernel
theorem dX6_putBox_8 : decode cX6_putBox 8 = .ok (.aload_n 0, 1) := by decide +kernel
theorem dX6_putBox_9 : decode cX6_putBox 9 = .ok (.iload 7, 2) := by decide +kernel
theorem dX6_putBox_11 : decode cX6_putBox 11 = .ok (.iconst 0, 1) := by decide +kernel
theorem dX6_putBox_12 : decode cX6_putBox 12 = .ok (.aload_n 0, 1) := by decide +kernel
theorem dX6_putBox_13 : decode cX6_putBox 13 = .ok (.getfield 7, 3) := by decide +kernel
theorem dX6_putBox_16 : decode cX6_putBox 16 = .ok (.iconst 1, 1) := by decide +kernel
theorem dX6_putBox_17 : decode cX6_putBox 17 = .ok (.iaload, 1) := by decide +kernel
theorem dX6_putBox_18 : decode cX6_putBox 18 = .ok (.invokevirtual 114, 3) := by decide +kernel
theorem dX6_putBox_21 : decode cX6_putBox 21 = .ok (.aload_n 0, 1) := by decide +kernel
theorem dX6_putBox_22 : decode cX6_putBox 22 = .ok (.iload 7, 2) := by decide +kernel
theorem dX6_putBox_24 : decode cX6_putBox 24 = .ok (.iconst 1, 1) := by decide +kernel
theorem dX6_putBox_25 : decode cX6_putBox 25 = .ok (.iload_n 1, 1) := by decide +kernel
theorem dX6_putBox_26 : decode cX6_putBox 26 = .ok (.invokevirtual 114, 3) := by decide +kernel
theorem dX6_putBox_29 : decode cX6_putBox 29 = .ok (.aload_n 0, 1) := by decide +kernel
theorem dX6_putBox_30 : decode cX6_putBox 30 = .ok (.iload 7, 2) := by decide +kernel
theorem dX6_putBox_32 : decode cX6_putBox 32 = .ok (.iconst 2, 1) := by decide +kernel
theorem dX6_putBox_33 : decode cX6_putBox 33 = .ok (.iload_n 2, 1) := by decide +kernel
theorem dX6_putBox_34 : decode cX6_putBox 34 = .ok (.invokevirtual 114, 3) := by decide +kernel
theorem dX6_putBox_37 : decode cX6_putBox 37 = .ok (.aload_n 0, 1) := by decide +kernel
theorem dX6_putBox_38 : decode cX6_putBox 38 = .ok (.iload 7, 2) := by decide +kernel
theorem dX6_putBox_40 : decode cX6_putBox 40 = .ok (.iconst 3, 1) := by decide +kernel
theorem dX6_putBox_41 : decode cX6_putBox 41 = .ok (.iload_n 3, 1) := by decide +kernel
theorem dX6_putBox_42 : decode cX6_putBox 42 = .ok (.invokevirtual 114, 3) := by decide +kernel
theorem dX6_putBox_45 : decode cX6_putBox 45 = .ok (.aload_n 0, 1) := by decide +kernel
theorem dX6_putBox_46 : decode cX6_putBox 46 = .ok (.iload 7, 2) := by decide +kernel
theorem dX6_putBox_48 : decode cX6_putBox 48 = .ok (.iconst 4, 1) := by decide +kernel
theorem dX6_putBox_49 : decode cX6_putBox 49 = .ok (.iload 4, 2) := by decide +kernel
theorem dX6_putBox_51 : decode cX6_putBox 51 = .ok (.invokevirtual 114, 3) := by decide +kernel
theorem dX6_putBox_54 : decode cX6_putBox 54 = .ok (.aload_n 0, 1) := by decide +kernel
theorem dX6_putBox_55 : decode cX6_putBox 55 = .ok (.iload 7, 2) := by decide +kernel
theorem dX6_putBox_57 : decode cX6_putBox 57 = .ok (.iconst 5, 1) := by decide +kernel
theorem dX6_putBox_58 : decode cX6_putBox 58 = .ok (.iload 5, 2) := by decide +kernel
theorem dX6_putBox_60 : decode cX6_putBox 60 = .ok (.invokevirtual 114, 3) := by decide +kernel
theorem dX6_putBox_63 : decode cX6_putBox 63 = .ok (.aload_n 0, 1) := by decide +kernel
theorem dX6_putBox_64 : decode cX6_putBox 64 = .ok (.iload 7, 2) := by decide +kernel
theorem dX6_putBox_66 : decode cX6_putBox 66 = .ok (.bipush 6, 2) := by decide +kernel
theorem dX6_putBox_68 : decode cX6_putBox 68 = .ok (.iload 6, 2) := by decide +kernel
theorem dX6_putBox_70 : decode cX6_putBox 70 = .ok (.invokevirtual 114, 3) := by decide +kernel
theorem dX6_putBox_73 : decode cX6_putBox 73 = .ok (.aload_n 0, 1) := by decide +kernel
theorem dX6_putBox_74 : decode cX6_putBox 74 = .ok (.getfield 7, 3) := by decide +kernel
theorem dX6_putBox_77 : decode cX6_putBox 77 = .ok (.iconst 0, 1) := by decide +kernel
theorem dX6_putBox_78 : decode cX6_putBox 78 = .ok (.dup2, 1) := by decide +kernel
theorem dX6_putBox_79 : decode cX6_putBox 79 = .ok (.iaload, 1) := by decide +kernel
theorem dX6_putBox_80 : decode cX6_putBox 80 = .ok (.iconst 1, 1) := by decide +kernel
theorem dX6_putBox_81 : decode cX6_putBox 81 = .ok (.iadd, 1) := by decide +kernel
theorem dX6_putBox_82 : decode cX6_putBox 82 = .ok (.iastore, 1) := by decide +kernel
theorem dX6_putBox_83 : decode cX6_putBox 83 = .ok (.aload_n 0, 1) := by decide +kernel
theorem dX6_putBox_84 : decode cX6_putBox 84 = .ok (.getfield 7, 3) := by decide +kernel
theorem dX6_putBox_87 : decode cX6_putBox 87 = .ok (.iconst 1, 1) := by decide +kernel
theorem dX6_putBox_88 : decode cX6_putBox 88 = .ok (.dup2, 1) := by decide +kernel
theorem dX6_putBox_89 : decode cX6_putBox 89 = .ok (.iaload, 1) := by decide +kernel
theorem dX6_putBox_90 : decode cX6_putBox 90 = .ok (.iconst 1, 1) := by decide +kernel
theorem dX6_putBox_91 : decode cX6_putBox 91 = .ok (.iadd, 1) := by decide +kernel
theorem dX6_putBox_92 : decode cX6_putBox 92 = .ok (.iastore, 1) := by decide +kernel
theorem dX6_putBox_93 : decode cX6_putBox 93 = .ok (.aload_n 0, 1) := by decide +kernel
theorem dX6_putBox_94 : decode cX6_putBox 94 = .ok (.getfield 7, 3) := by decide +kernel
theorem dX6_putBox_97 : decode cX6_putBox 97 = .ok (.iconst 1, 1) := by decide +kernel
theorem dX6_putBox_98 : decode cX6_putBox 98 = .ok (.iaload, 1) := by decide +kernel
theorem dX6_putBox_99 : decode cX6_putBox 99 = .ok (.iconst 1, 1) := by decide +kernel
theorem dX6_putBox_100 : decode cX6_putBox 100 = .ok (.isub, 1) := by decide +kernel
theorem dX6_putBox_101 : decode cX6_putBox 101 = .ok (.ireturn, 1) := by decide +kernel
set_option maxRecDepth 20000 in
theorem ggX6_add_X6_tryBox : GoodIn wsX6_add wsX6_tryBox := goodIn_r _ [6, 1, 7, 8, 5, 9, 10, 11, 12, 13, 14, 15, 16, 17, 18, 19, 20, 21, 22, 23, 24, 25, 40, 41, 42, 43, 44, 45, 46, 47, 48, 49, 50, 51, 52, 53, 54, 55, 56] (by decide +kernel) (by decide +kernel)
set_option maxRecDepth 20000 in
theorem gX6_add_X6_tryBox : GoodIn wsX6_add (wsV RX6 118 RX6 yX6_tryBox wsX6_tryBox) := goodIn_app (goodIn_of _ (by decide +kernel)) ggX6_add_X6_tryBox
set_option maxRecDepth 20000 in
theorem ggX6_add_X6_push : GoodIn wsX6_add wsX6_push := goodIn_r _ [29, 30, 31, 40, 41, 42, 43, 44, 45, 46, 47, 48, 49, 50, 51, 52, 53, 54, 55, 56] (by decide +kernel) (by decide +kernel)
set_option maxRecDepth 20000 in
theorem gX6_add_X6_push : GoodIn wsX6_add (wsV RX6 110 RX6 yX6_push wsX6_push) := goodIn_app (goodIn_of _ (by decide +kernel)) ggX6_add_X6_push
set_option maxRecDepth 20000 in
theorem ggX6_add_X6_putBox : GoodIn wsX6_add wsX6_putBox := goodIn_r _ [35, 1, 36, 37, 38, 5, 39, 40, 41, 42, 43, 44, 45, 46, 47, 48, 49, 50, 51, 52, 53, 54, 55, 56] (by decide +kernel) (by decide +kernel)
set_option maxRecDepth 20000 in
theorem gX6_add_X6_putBox : GoodIn wsX6_add (wsV RX6 122 RX6 yX6_putBox wsX6_putBox) := goodIn_app (goodIn_of _ (by decide +kernel)) ggX6_add_X6_putBox
theorem dX6_add_0 : decode cX6_add 0 = .ok (.aload_n 0, 1) := by decide +kernel
theorem dX6_add_1 : decode cX6_add 1 = .ok (.iload_n 1, 1) := by decide +kernel
theorem dX6_add_2 : decode cX6_add 2 = .ok (.iload_n 2, 1) := by decide +kernel
theorem dX6_add_3 : decode cX6_add 3 = .ok (.iload_n 3, 1) := by decide +kernel
theorem dX6_add_4 : decode cX6_add 4 = .ok (.iload 4, 2) := by decide +kernel
theorem dX6_add_6 : decode cX6_add 6 = .ok (.iload 5, 2) := by decide +kernel
theorem dX6_add_8 : decode cX6_add 8 = .ok (.iload 6, 2) := by decide +kernel
theorem dX6_add_10 : decode cX6_add 10 = .ok (.invokevirtual 118, 3) := by decide +kernel
theorem dX6_add_13 : decode cX6_add 13 = .ok (.istore 7, 2) := by decide +kernel
theorem dX6_add_15 : decode cX6_add 15 = .ok (.iload 7, 2) := by decide +kernel
theorem dX6_add_17 : decode cX6_add 17 = .ok (.ifCond .ge 6, 3) := by decide +kernel
theorem dX6_add_20 : decode cX6_add 20 = .ok (.iload 7, 2) := by decide +kernel
theorem dX6_add_22 : decode cX6_add 22 = .ok (.ireturn, 1) := by decide +kernel
theorem dX6_add_23 : decode cX6_add 23 = .ok (.aload_n 0, 1) := by decide +kernel
theorem dX6_add_24 : decode cX6_add 24 = .ok (.aload_n 0, 1) := by decide +kernel
theorem dX6_add_25 : decode cX6_add 25 = .ok (.getfield 7, 3) := by decide +kernel
theorem dX6_add_28 : decode cX6_add 28 = .ok (.invokevirtual 110, 3) := by decide +kernel
theorem dX6_add_31 : decode cX6_add 31 = .ok (.aload_n 0, 1) := by decide +kernel
theorem dX6_add_32 : decode cX6_add 32 = .ok (.iload_n 1, 1) := by decide +kernel
theorem dX6_add_33 : decode cX6_add 33 = .ok (.iload_n 2, 1) := by decide +kernel
theorem dX6_add_34 : decode cX6_add 34 = .ok (.iload_n 3, 1) := by decide +kernel
theorem dX6_add_35 : decode cX6_add 35 = .ok (.iload 4, 2) := by decide +kernel
theorem dX6_add_37 : decode cX6_add 37 = .ok (.iload 5, 2) := by decide +kernel
theorem dX6_add_39 : decode cX6_add 39 = .ok (.iload 6, 2) := by decide +kernel
theorem dX6_add_41 : decode cX6_add 41 = .ok (.invokevirtual 122, 3) := by decide +kernel
theorem dX6_add_44 : decode cX6_add 44 = .ok (.ireturn, 1) := by decide +kernel
set_option maxRecDepth 20000 in
theorem ggX6_remove_X6_rankOf : GoodIn wsX6_remove wsX6_rankOf := goodIn_r _ [6, 1, 7, 8, 9, 5, 10, 25, 26, 27, 28, 29, 30, 31, 32, 33, 34, 35, 36, 37, 38, 39, 40, 41] (by decide +kernel) (by decide +kernel)
set_option maxRecDepth 20000 in
theorem gX6_remove_X6_rankOf : GoodIn wsX6_remove (wsV RX6 125 RX6 yX6_rankOf wsX6_rankOf) := goodIn_app (goodIn_of _ (by decide +kernel)) ggX6_remove_X6_rankOf
set_option maxRecDepth 20000 in
theorem ggX6_remove_X6_push : GoodIn wsX6_remove wsX6_push := goodIn_r _ [14, 15, 16, 25, 26, 27, 28, 29, 30, 31, 32, 33, 34, 35, 36, 37, 38, 39, 40, 41] (by decide +kernel) (by decide +kernel)
set_option maxRecDepth 20000 in
theorem gX6_remove_X6_push : GoodIn wsX6_remove (wsV RX6 110 RX6 yX6_push wsX6_push) := goodIn_app (goodIn_of _ (by decide +kernel)) ggX6_remove_X6_push
set_option maxRecDepth 20000 in
theorem ggX6_remove_X6_volume : GoodIn wsX6_remove wsX6_volume := goodIn_r _ [20, 21, 22, 23, 5, 24, 7, 8, 9, 10, 1, 25, 26, 27, 28, 29, 30, 31, 32, 33, 34, 35, 36, 37, 38, 39, 40, 41] (by decide +kernel) (by decide +kernel)
set_option maxRecDepth 20000 in
theorem gX6_remove_X6_volume : GoodIn wsX6_remove (wsV RX6 93 RX6 yX6_volume wsX6_volume) := goodIn_app (goodIn_of _ (by decide +kernel)) ggX6_remove_X6_volume
theorem dX6_remove_0 : decode cX6_remove 0 = .ok (.aload_n 0, 1) := by decide +kernel
theorem dX6_remove_1 : decode cX6_remove 1 = .ok (.iload_n 1, 1) := by decide +kernel
theorem dX6_remove_2 : decode cX6_remove 2 = .ok (.invokevirtual 125, 3) := by decide +kernel
theorem dX6_remove_5 : decode cX6_remove 5 = .ok (.istore_n 2, 1) := by decide +kernel
theorem dX6_remove_6 : decode cX6_remove 6 = .ok (.iload_n 2, 1) := by decide +kernel
theorem dX6_remove_7 : decode cX6_remove 7 = .ok (.ifCond .ge 5, 3) := by decide +kernel
theorem dX6_remove_10 : decode cX6_remove 10 = .ok (.iconst (-1), 1) := by decide +kernel
theorem dX6_remove_11 : decode cX6_remove 11 = .ok (.ireturn, 1) := by decide +kernel
theorem dX6_remove_12 : decode cX6_remove 12 = .ok (.aload_n 0, 1) := by decide +kernel
theorem dX6_remove_13 : decode cX6_remove 13 = .ok (.aload_n 0, 1) := by decide +kernel
theorem dX6_remove_14 : decode cX6_remove 14 = .ok (.getfield 7, 3) := by decide +kernel
theorem dX6_remove_17 : decode cX6_remove 17 = .ok (.invokevirtual 110, 3) := by decide +kernel
theorem dX6_remove_20 : decode cX6_remove 20 = .ok (.aload_n 0, 1) := by decide +kernel
theorem dX6_remove_21 : decode cX6_remove 21 = .ok (.iload_n 2, 1) := by decide +kernel
theorem dX6_remove_22 : decode cX6_remove 22 = .ok (.invokevirtual 93, 3) := by decide +kernel
theorem dX6_remove_25 : decode cX6_remove 25 = .ok (.istore_n 3, 1) := by decide +kernel
theorem dX6_remove_26 : decode cX6_remove 26 = .ok (.aload_n 0, 1) := by decide +kernel
theorem dX6_remove_27 : decode cX6_remove 27 = .ok (.getfield 7, 3) := by decide +kernel
theorem dX6_remove_30 : decode cX6_remove 30 = .ok (.iconst 0, 1) := by decide +kernel
theorem dX6_remove_31 : decode cX6_remove 31 = .ok (.dup2, 1) := by decide +kernel
theorem dX6_remove_32 : decode cX6_remove 32 = .ok (.iaload, 1) := by decide +kernel
theorem dX6_remove_33 : decode cX6_remove 33 = .ok (.iconst 1, 1) := by decide +kernel
theorem dX6_remove_34 : decode cX6_remove 34 = .ok (.isub, 1) := by decide +kernel
theorem dX6_remove_35 : decode cX6_remove 35 = .ok (.iastore, 1) := by decide +kernel
theorem dX6_remove_36 : decode cX6_remove 36 = .ok (.iconst 4, 1) := by decide +kernel
theorem dX6_remove_37 : decode cX6_remove 37 = .ok (.bipush 7, 2) := by decide +kernel
theorem dX6_remove_39 : decode cX6_remove 39 = .ok (.iload_n 2, 1) := by decide +kernel
theorem dX6_remove_40 : decode cX6_remove 40 = .ok (.imul, 1) := by decide +kernel
theorem dX6_remove_41 : decode cX6_remove 41 = .ok (.iadd, 1) := by decide +kernel
theorem dX6_remove_42 : decode cX6_remove 42 = .ok (.istore 4, 2) := by decide +kernel
theorem dX6_remove_44 : decode cX6_remove 44 = .ok (.iload 4, 2) := by decide +kernel
theorem dX6_remove_46 : decode cX6_remove 46 = .ok (.iconst 4, 1) := by decide +kernel
theorem dX6_remove_47 : decode cX6_remove 47 = .ok (.bipush 7, 2) := by decide +kernel
theorem dX6_remove_49 : decode cX6_remove 49 = .ok (.aload_n 0, 1) := by decide +kernel
theorem dX6_remove_50 : decode cX6_remove 50 = .ok (.getfield 7, 3) := by decide +kernel
theorem dX6_remove_53 : decode cX6_remove 53 = .ok (.iconst 0, 1) := by decide +kernel
theorem dX6_remove_54 : decode cX6_remove 54 = .ok (.iaload, 1) := by decide +kernel
theorem dX6_remove_55 : decode cX6_remove 55 = .ok (.imul, 1) := by decide +kernel
theorem dX6_remove_56 : decode cX6_remove 56 = .ok (.iadd, 1) := by decide +kernel
theorem dX6_remove_57 : decode cX6_remove 57 = .ok (.if_icmp .ge 26, 3) := by decide +kernel
theorem dX6_remove_60 : decode cX6_remove 60 = .ok (.aload_n 0, 1) := by decide +kernel
theorem dX6_remove_61 : decode cX6_remove 61 = .ok (.getfield 7, 3) := by decide +kernel
theorem dX6_remove_64 : decode cX6_remove 64 = .ok (.iload 4, 2) := by decide +kernel
theorem dX6_remove_66 : decode cX6_remove 66 = .ok (.aload_n 0, 1) := by decide +kernel
theorem dX6_remove_67 : decode cX6_remove 67 = .ok (.getfield 7, 3) := by decide +kernel
theorem dX6_remove_70 : decode cX6_remove 70 = .ok (.iload 4, 2) := by decide +kernel
theorem dX6_remove_72 : decode cX6_remove 72 = .ok (.bipush 7, 2) := by decide +kernel
theorem dX6_remove_74 : decode cX6_remove 74 = .ok (.iadd, 1) := by decide +kernel
theorem dX6_remove_75 : decode cX6_remove 75 = .ok (.iaload, 1) := by decide +kernel
theorem dX6_remove_76 : decode cX6_remove 76 = .ok (.iastore, 1) := by decide +kernel
theorem dX6_remove_77 : decode cX6_remove 77 = .ok (.iinc 4 1, 3) := by decide +kernel
theorem dX6_remove_80 : decode cX6_remove 80 = .ok (.goto (-36), 3) := by decide +kernel
theorem dX6_remove_83 : decode cX6_remove 83 = .ok (.iload_n 3, 1) := by decide +kernel
theorem dX6_remove_84 : decode cX6_remove 84 = .ok (.ireturn, 1) := by decide +kernel
set_option maxRecDepth 20000 in
theorem ggX6_move_X6_rankOf : GoodIn wsX6_move wsX6_rankOf := goodIn_r _ [6, 1, 7, 8, 9, 5, 10, 47, 48, 49, 50, 51, 52, 53, 54, 55, 56, 57, 58, 59, 60, 61, 62, 63] (by decide +kernel) (by decide +kernel)
set_option maxRecDepth 20000 in
theorem gX6_move_X6_rankOf : GoodIn wsX6_move (wsV RX6 125 RX6 yX6_rankOf wsX6_rankOf) := goodIn_app (goodIn_of _ (by decide +kernel)) ggX6_move_X6_rankOf
set_option maxRecDepth 20000 in
theorem ggX6_move_X6_isDirection : GoodIn wsX6_move wsX6_isDirection := goodIn_r _ [13, 14, 15, 5, 16] (by decide +kernel) (by decide +kernel)
set_option maxRecDepth 20000 in
theorem gX6_move_X6_isDirection : GoodIn wsX6_move (va_wsS RX6 128 yX6_isDirection wsX6_isDirection) := goodIn_app (goodIn_of _ (by decide +kernel)) ggX6_move_X6_isDirection
set_option maxRecDepth 20000 in
theorem ggX6_move_X6_low : GoodIn wsX6_move wsX6_low := goodIn_r _ [20, 7, 8, 9, 5, 10, 1, 47, 48, 49, 50, 51, 52, 53, 54, 55, 56, 57, 58, 59, 60, 61, 62, 63] (by decide +kernel) (by decide +kernel)
set_option maxRecDepth 20000 in
theorem gX6_move_X6_low : GoodIn wsX6_move (wsV RX6 47 RX6 yX6_low wsX6_low) := goodIn_app (goodIn_of _ (by decide +kernel)) ggX6_move_X6_low
set_option maxRecDepth 20000 in
theorem ggX6_move_X6_size : GoodIn wsX6_move wsX6_size := goodIn_r _ [24, 7, 8, 9, 5, 10, 1, 47, 48, 49, 50, 51, 52, 53, 54, 55, 56, 57, 58, 59, 60, 61, 62, 63] (by decide +kernel) (by decide +kernel)
set_option maxRecDepth 20000 in
theorem gX6_move_X6_size : GoodIn wsX6_move (wsV RX6 50 RX6 yX6_size wsX6_size) := goodIn_app (goodIn_of _ (by decide +kernel)) ggX6_move_X6_size
set_option maxRecDepth 20000 in
theorem ggX6_move_X6_in : GoodIn wsX6_move wsX6_in := goodIn_r _ [16] (by decide +kernel) (by decide +kernel)
set_option maxRecDepth 20000 in
theorem gX6_move_X6_in : GoodIn wsX6_move (va_wsS RX6 53 yX6_in wsX6_in) := goodIn_app (goodIn_of _ (by decide +kernel)) ggX6_move_X6_in
set_option maxRecDepth 20000 in
theorem ggX6_move_X6_put : GoodIn wsX6_move wsX6_put := goodIn_r _ [28, 1, 47, 48, 49, 50, 51, 52, 53, 54, 55, 56, 57, 58, 59, 60, 61, 62, 63] (by decide +kernel) (by decide +kernel)
set_option maxRecDepth 20000 in
theorem gX6_move_X6_put : GoodIn wsX6_move (wsV RX6 114 RX6 yX6_put wsX6_put) := goodIn_app (goodIn_of _ (by decide +kernel)) ggX6_move_X6_put
set_option maxRecDepth 20000 in
theorem ggX6_move_X6_cutsAny : GoodIn wsX6_move wsX6_cutsAny := goodIn_r _ [32, 33, 34, 35, 5, 36, 17, 18, 19, 20, 7, 8, 9, 10, 1, 37, 38, 39, 40, 21, 22, 23, 24, 47, 48, 49, 50, 51, 52, 53, 54, 55, 56, 57, 58, 59, 60, 61, 62, 63] (by decide +kernel) (by decide +kernel)
set_option maxRecDepth 20000 in
theorem gX6_move_X6_cutsAny : GoodIn wsX6_move (wsV RX6 131 RX6 yX6_cutsAny wsX6_cutsAny) := goodIn_app (goodIn_of _ (by decide +kernel)) ggX6_move_X6_cutsAny
set_option maxRecDepth 20000 in
theorem ggX6_move_X6_push : GoodIn wsX6_move wsX6_push := goodIn_r _ [44, 45, 46, 47, 48, 49, 50, 51, 52, 53, 54, 55, 56, 57, 58, 59, 60, 61, 62, 63] (by decide +kernel) (by decide +kernel)
set_option maxRecDepth 20000 in
theorem gX6_move_X6_push : GoodIn wsX6_move (wsV RX6 110 RX6 yX6_push wsX6_push) := goodIn_app (goodIn_of _ (by decide +kernel)) ggX6_move_X6_push
theorem dX6_move_0 : decode cX6_move 0 = .ok (.aload_n 0, 1) := by decide +kernel
theorem dX6_move_1 : decode cX6_move 1 = .ok (.iload_n 1, 1) := by decide +kernel
theorem dX6_move_2 : decode cX6_move 2 = .ok (.invokevirtual 125, 3) := by decide +kernel
theorem dX6_move_5 : decode cX6_move 5 = .ok (.istore 4, 2) := by decide +kernel
theorem dX6_move_7 : decode cX6_move 7 = .ok (.iload 4, 2) := by decide +kernel
theorem dX6_move_9 : decode cX6_move 9 = .ok (.ifCond .lt 10, 3) := by decide +kernel
theorem dX6_move_12 : decode cX6_move 12 = .ok (.iload_n 2, 1) := by decide +kernel
theorem dX6_move_13 : decode cX6_move 13 = .ok (.invokestatic 128, 3) := by decide +kernel
theorem dX6_move_16 : decode cX6_move 16 = .ok (.ifCond .ne 5, 3) := by decide +kernel
theorem dX6_move_19 : decode cX6_move 19 = .ok (.iconst (-1), 1) := by decide +kernel
theorem dX6_move_20 : decode cX6_move 20 = .ok (.ireturn, 1) := by decide +kernel
theorem dX6_move_21 : decode cX6_move 21 = .ok (.aload_n 0, 1) := by decide +kernel
theorem dX6_move_22 : decode cX6_move 22 = .ok (.iload 4, 2) := by decide +kernel
theorem dX6_move_24 : decode cX6_move 24 = .ok (.iload_n 2, 1) := by decide +kernel
theorem dX6_move_25 : decode cX6_move 25 = .ok (.invokevirtual 47, 3) := by decide +kernel
theorem dX6_move_28 : decode cX6_move 28 = .ok (.i2l, 1) := by decide +kernel
theorem dX6_move_29 : decode cX6_move 29 = .ok (.iload_n 3, 1) := by decide +kernel
theorem dX6_move_30 : decode cX6_move 30 = .ok (.i2l, 1) := by decide +kernel
theorem dX6_move_31 : decode cX6_move 31 = .ok (.ladd, 1) := by decide +kernel
theorem dX6_move_32 : decode cX6_move 32 = .ok (.lstore 5, 2) := by decide +kernel
theorem dX6_move_34 : decode cX6_move 34 = .ok (.lload 5, 2) := by decide +kernel
theorem dX6_move_36 : decode cX6_move 36 = .ok (.iconst 0, 1) := by decide +kernel
theorem dX6_move_37 : decode cX6_move 37 = .ok (.bipush 32, 2) := by decide +kernel
theorem dX6_move_39 : decode cX6_move 39 = .ok (.aload_n 0, 1) := by decide +kernel
theorem dX6_move_40 : decode cX6_move 40 = .ok (.iload 4, 2) := by decide +kernel
theorem dX6_move_42 : decode cX6_move 42 = .ok (.iload_n 2, 1) := by decide +kernel
theorem dX6_move_43 : decode cX6_move 43 = .ok (.invokevirtual 50, 3) := by decide +kernel
theorem dX6_move_46 : decode cX6_move 46 = .ok (.isub, 1) := by decide +kernel
theorem dX6_move_47 : decode cX6_move 47 = .ok (.invokestatic 53, 3) := by decide +kernel
theorem dX6_move_50 : decode cX6_move 50 = .ok (.ifCond .ne 6, 3) := by decide +kernel
theorem dX6_move_53 : decode cX6_move 53 = .ok (.bipush (-2), 2) := by decide +kernel
theorem dX6_move_55 : decode cX6_move 55 = .ok (.ireturn, 1) := by decide +kernel
theorem dX6_move_56 : decode cX6_move 56 = .ok (.iload_n 3, 1) := by decide +kernel
theorem dX6_move_57 : decode cX6_move 57 = .ok (.ifCond .ne 6, 3) := by decide +kernel
theorem dX6_move_60 : decode cX6_move 60 = .ok (.bipush (-5), 2) := by decide +kernel
theorem dX6_move_62 : decode cX6_move 62 = .ok (.ireturn, 1) := by decide +kernel
theorem dX6_move_63 : decode cX6_move 63 = .ok (.aload_n 0, 1) := by decide +kernel
theorem dX6_move_64 : decode cX6_move 64 = .ok (.iload 4, 2) := by decide +kernel
theorem dX6_move_66 : decode cX6_move 66 = .ok (.iload_n 2, 1) := by decide +kernel
theorem dX6_move_67 : decode cX6_move 67 = .ok (.invokevirtual 47, 3) := by decide +kernel
theorem dX6_move_70 : decode cX6_move 70 = .ok (.istore 7, 2) := by decide +kernel
theorem dX6_move_72 : decode cX6_move 72 = .ok (.aload_n 0, 1) := by decide +kernel
theorem dX6_move_73 : decode cX6_move 73 = .ok (.iload 4, 2) := by decide +kernel
theorem dX6_move_75 : decode cX6_move 75 = .ok (.iconst 1, 1) := by decide +kernel
theorem dX6_move_76 : decode cX6_move 76 = .ok (.iload_n 2, 1) := by decide +kernel
theorem dX6_move_77 : decode cX6_move 77 = .ok (.iadd, 1) := by decide +kernel
theorem dX6_move_78 : decode cX6_move 78 = .ok (.lload 5, 2) := by decide +kernel
theorem dX6_move_80 : decode cX6_move 80 = .ok (.l2i, 1) := by decide +kernel
theorem dX6_move_81 : decode cX6_move 81 = .ok (.invokevirtual 114, 3) := by decide +kernel
theorem dX6_move_84 : decode cX6_move 84 = .ok (.aload_n 0, 1) := by decide +kernel
theorem dX6_move_85 : decode cX6_move 85 = .ok (.iload 4, 2) := by decide +kernel
theorem dX6_move_87 : decode cX6_move 87 = .ok (.aload_n 0, 1) := by decide +kernel
theorem dX6_move_88 : decode cX6_move 88 = .ok (.getfield 7, 3) := by decide +kernel
theorem dX6_move_91 : decode cX6_move 91 = .ok (.iconst 0, 1) := by decide +kernel
theorem dX6_move_92 : decode cX6_move 92 = .ok (.iaload, 1) := by decide +kernel
theorem dX6_move_93 : decode cX6_move 93 = .ok (.invokevirtual 131, 3) := by decide +kernel
theorem dX6_move_96 : decode cX6_move 96 = .ok (.istore 8, 2) := by decide +kernel
theorem dX6_move_98 : decode cX6_move 98 = .ok (.aload_n 0, 1) := by decide +kernel
theorem dX6_move_99 : decode cX6_move 99 = .ok (.iload 4, 2) := by decide +kernel
theorem dX6_move_101 : decode cX6_move 101 = .ok (.iconst 1, 1) := by decide +kernel
theorem dX6_move_102 : decode cX6_move 102 = .ok (.iload_n 2, 1) := by decide +kernel
theorem dX6_move_103 : decode cX6_move 103 = .ok (.iadd, 1) := by decide +kernel
theorem dX6_move_104 : decode cX6_move 104 = .ok (.iload 7, 2) := by decide +kernel
theorem dX6_move_106 : decode cX6_move 106 = .ok (.invokevirtual 114, 3) := by decide +kernel
theorem dX6_move_109 : decode cX6_move 109 = .ok (.iload 8, 2) := by decide +kernel
theorem dX6_move_111 : decode cX6_move 111 = .ok (.ifCond .eq 6, 3) := by decide +kernel
theorem dX6_move_114 : decode cX6_move 114 = .ok (.bipush (-4), 2) := by decide +kernel
theorem dX6_move_116 : decode cX6_move 116 = .ok (.ireturn, 1) := by decide +kernel
theorem dX6_move_117 : decode cX6_move 117 = .ok (.aload_n 0, 1) := by decide +kernel
theorem dX6_move_118 : decode cX6_move 118 = .ok (.aload_n 0, 1) := by decide +kernel
theorem dX6_move_119 : decode cX6_move 119 = .ok (.getfield 7, 3) := by decide +kernel
theorem dX6_move_122 : decode cX6_move 122 = .ok (.invokevirtual 110, 3) := by decide +kernel
theorem dX6_move_125 : decode cX6_move 125 = .ok (.aload_n 0, 1) := by decide +kernel
theorem dX6_move_126 : decode cX6_move 126 = .ok (.iload 4, 2) := by decide +kernel
theorem dX6_move_128 : decode cX6_move 128 = .ok (.iconst 1, 1) := by decide +kernel
theorem dX6_move_129 : decode cX6_move 129 = .ok (.iload_n 2, 1) := by decide +kernel
theorem dX6_move_130 : decode cX6_move 130 = .ok (.iadd, 1) := by decide +kernel
theorem dX6_move_131 : decode cX6_move 131 = .ok (.lload 5, 2) := by decide +kernel
theorem dX6_move_133 : decode cX6_move 133 = .ok (.l2i, 1) := by decide +kernel
theorem dX6_move_134 : decode cX6_move 134 = .ok (.invokevirtual 114, 3) := by decide +kernel
theorem dX6_move_137 : decode cX6_move 137 = .ok (.lload 5, 2) := by decide +kernel
theorem dX6_move_139 : decode cX6_move 139 = .ok (.l2i, 1) := by decide +kernel
theorem dX6_move_140 : decode cX6_move 140 = .ok (.ireturn, 1) := by decide +kernel
set_option maxRecDepth 20000 in
theorem ggX6_isBelow_X6_cross : GoodIn wsX6_isBelow wsX6_cross := goodIn_r _ [5, 6, 7, 8, 4, 9, 10, 11, 12, 13, 14, 15, 16, 17, 18, 19, 20, 21, 22, 23, 24, 25, 26, 27, 28, 29, 30, 31, 32, 33, 34, 35, 36, 37, 38, 39] (by decide +kernel) (by decide +kernel)
set_option maxRecDepth 20000 in
theorem gX6_isBelow_X6_cross : GoodIn wsX6_isBelow (wsV RX6 60 RX6 yX6_cross wsX6_cross) := goodIn_app (goodIn_of _ (by decide +kernel)) ggX6_isBelow_X6_cross
set_option maxRecDepth 20000 in
theorem ggX6_isBelow_X6_high : GoodIn wsX6_isBelow wsX6_high := goodIn_r _ [18, 6, 7, 8, 4, 9, 10, 11, 12, 13, 14, 19, 20, 21, 22, 23, 24, 25, 26, 27, 28, 29, 30, 31, 32, 33, 34, 35, 36, 37, 38, 39] (by decide +kernel) (by decide +kernel)
set_option maxRecDepth 20000 in
theorem gX6_isBelow_X6_high : GoodIn wsX6_isBelow (wsV RX6 57 RX6 yX6_high wsX6_high) := goodIn_app (goodIn_of _ (by decide +kernel)) ggX6_isBelow_X6_high
set_option maxRecDepth 20000 in
theorem ggX6_isBelow_X6_low : GoodIn wsX6_isBelow wsX6_low := goodIn_r _ [9, 10, 11, 12, 4, 13, 14, 23, 24, 25, 26, 27, 28, 29, 30, 31, 32, 33, 34, 35, 36, 37, 38, 39] (by decide +kernel) (by decide +kernel)
set_option maxRecDepth 20000 in
theorem gX6_isBelow_X6_low : GoodIn wsX6_isBelow (wsV RX6 47 RX6 yX6_low wsX6_low) := goodIn_app (goodIn_of _ (by decide +kernel)) ggX6_isBelow_X6_low
theorem dX6_isBelow_0 : decode cX6_isBelow 0 = .ok (.iload_n 1, 1) := by decide +kernel
theorem dX6_isBelow_1 : decode cX6_isBelow 1 = .ok (.iload_n 2, 1) := by decide +kernel
theorem dX6_isBelow_2 : decode cX6_isBelow 2 = .ok (.if_icmp .eq 42, 3) := by decide +kernel
theorem dX6_isBelow_5 : decode cX6_isBelow 5 = .ok (.aload_n 0, 1) := by decide +kernel
theorem dX6_isBelow_6 : decode cX6_isBelow 6 = .ok (.iload_n 1, 1) := by decide +kernel
theorem dX6_isBelow_7 : decode cX6_isBelow 7 = .ok (.iload_n 2, 1) := by decide +kernel
theorem dX6_isBelow_8 : decode cX6_isBelow 8 = .ok (.iconst 0, 1) := by decide +kernel
theorem dX6_isBelow_9 : decode cX6_isBelow 9 = .ok (.invokevirtual 60, 3) := by decide +kernel
theorem dX6_isBelow_12 : decode cX6_isBelow 12 = .ok (.ifCond .eq 32, 3) := by decide +kernel
theorem dX6_isBelow_15 : decode cX6_isBelow 15 = .ok (.aload_n 0, 1) := by decide +kernel
theorem dX6_isBelow_16 : decode cX6_isBelow 16 = .ok (.iload_n 1, 1) := by decide +kernel
theorem dX6_isBelow_17 : decode cX6_isBelow 17 = .ok (.iload_n 2, 1) := by decide +kernel
theorem dX6_isBelow_18 : decode cX6_isBelow 18 = .ok (.iconst 1, 1) := by decide +kernel
theorem dX6_isBelow_19 : decode cX6_isBelow 19 = .ok (.invokevirtual 60, 3) := by decide +kernel
theorem dX6_isBelow_22 : decode cX6_isBelow 22 = .ok (.ifCond .eq 22, 3) := by decide +kernel
theorem dX6_isBelow_25 : decode cX6_isBelow 25 = .ok (.aload_n 0, 1) := by decide +kernel
theorem dX6_isBelow_26 : decode cX6_isBelow 26 = .ok (.iload_n 1, 1) := by decide +kernel
theorem dX6_isBelow_27 : decode cX6_isBelow 27 = .ok (.iconst 2, 1) := by decide +kernel
theorem dX6_isBelow_28 : decode cX6_isBelow 28 = .ok (.invokevirtual 57, 3) := by decide +kernel
theorem dX6_isBelow_31 : decode cX6_isBelow 31 = .ok (.aload_n 0, 1) := by decide +kernel
theorem dX6_isBelow_32 : decode cX6_isBelow 32 = .ok (.iload_n 2, 1) := by decide +kernel
theorem dX6_isBelow_33 : decode cX6_isBelow 33 = .ok (.iconst 2, 1) := by decide +kernel
theorem dX6_isBelow_34 : decode cX6_isBelow 34 = .ok (.invokevirtual 47, 3) := by decide +kernel
theorem dX6_isBelow_37 : decode cX6_isBelow 37 = .ok (.if_icmp .gt 7, 3) := by decide +kernel
theorem dX6_isBelow_40 : decode cX6_isBelow 40 = .ok (.iconst 1, 1) := by decide +kernel
theorem dX6_isBelow_41 : decode cX6_isBelow 41 = .ok (.goto 4, 3) := by decide +kernel
theorem dX6_isBelow_44 : decode cX6_isBelow 44 = .ok (.iconst 0, 1) := by decide +kernel
theorem dX6_isBelow_45 : decode cX6_isBelow 45 = .ok (.ireturn, 1) := by decide +kernel
set_option maxRecDepth 20000 in
theorem ggX6_fall_X6_rankOf : GoodIn wsX6_fall wsX6_rankOf := goodIn_r _ [6, 1, 7, 8, 9, 5, 10, 41, 42, 43, 44, 45, 46, 47, 48, 49, 50, 51, 52, 53, 54, 55, 56, 57] (by decide +kernel) (by decide +kernel)
set_option maxRecDepth 20000 in
theorem gX6_fall_X6_rankOf : GoodIn wsX6_fall (wsV RX6 125 RX6 yX6_rankOf wsX6_rankOf) := goodIn_app (goodIn_of _ (by decide +kernel)) ggX6_fall_X6_rankOf
set_option maxRecDepth 20000 in
theorem ggX6_fall_X6_isBelow : GoodIn wsX6_fall wsX6_isBelow := goodIn_r _ [14, 15, 16, 17, 5, 18, 19, 20, 21, 22, 7, 8, 9, 10, 1, 23, 24, 25, 26, 27, 28, 29, 30, 41, 42, 43, 44, 45, 46, 47, 48, 49, 50, 51, 52, 53, 54, 55, 56, 57] (by decide +kernel) (by decide +kernel)
set_option maxRecDepth 20000 in
theorem gX6_fall_X6_isBelow : GoodIn wsX6_fall (wsV RX6 134 RX6 yX6_isBelow wsX6_isBelow) := goodIn_app (goodIn_of _ (by decide +kernel)) ggX6_fall_X6_isBelow
set_option maxRecDepth 20000 in
theorem ggX6_fall_X6_high : GoodIn wsX6_fall wsX6_high := goodIn_r _ [26, 19, 20, 21, 5, 22, 7, 8, 9, 10, 1, 27, 28, 29, 30, 41, 42, 43, 44, 45, 46, 47, 48, 49, 50, 51, 52, 53, 54, 55, 56, 57] (by decide +kernel) (by decide +kernel)
set_option maxRecDepth 20000 in
theorem gX6_fall_X6_high : GoodIn wsX6_fall (wsV RX6 57 RX6 yX6_high wsX6_high) := goodIn_app (goodIn_of _ (by decide +kernel)) ggX6_fall_X6_high
set_option maxRecDepth 20000 in
theorem ggX6_fall_X6_low : GoodIn wsX6_fall wsX6_low := goodIn_r _ [22, 7, 8, 9, 5, 10, 1, 41, 42, 43, 44, 45, 46, 47, 48, 49, 50, 51, 52, 53, 54, 55, 56, 57] (by decide +kernel) (by decide +kernel)
set_option maxRecDepth 20000 in
theorem gX6_fall_X6_low : GoodIn wsX6_fall (wsV RX6 47 RX6 yX6_low wsX6_low) := goodIn_app (goodIn_of _ (by decide +kernel)) ggX6_fall_X6_low
set_option maxRecDepth 20000 in
theorem ggX6_fall_X6_push : GoodIn wsX6_fall wsX6_push := goodIn_r _ [34, 35, 36, 41, 42, 43, 44, 45, 46, 47, 48, 49, 50, 51, 52, 53, 54, 55, 56, 57] (by decide +kernel) (by decide +kernel)
set_option maxRecDepth 20000 in
theorem gX6_fall_X6_push : GoodIn wsX6_fall (wsV RX6 110 RX6 yX6_push wsX6_push) := goodIn_app (goodIn_of _ (by decide +kernel)) ggX6_fall_X6_push
set_option maxRecDepth 20000 in
theorem ggX6_fall_X6_put : GoodIn wsX6_fall wsX6_put := goodIn_r _ [40, 1, 41, 42, 43, 44, 45, 46, 47, 48, 49, 50, 51, 52, 53, 54, 55, 56, 57] (by decide +kernel) (by decide +kernel)
set_option maxRecDepth 20000 in
theorem gX6_fall_X6_put : GoodIn wsX6_fall (wsV RX6 114 RX6 yX6_put wsX6_put) := goodIn_app (goodIn_of _ (by decide +kernel)) ggX6_fall_X6_put
theorem dX6_fall_0 : decode cX6_fall 0 = .ok (.aload_n 0, 1) := by decide +kernel
theorem dX6_fall_1 : decode cX6_fall 1 = .ok (.iload_n 1, 1) := by decide +kernel
theorem dX6_fall_2 : decode cX6_fall 2 = .ok (.invokevirtual 125, 3) := by decide +kernel
theorem dX6_fall_5 : decode cX6_fall 5 = .ok (.istore_n 2, 1) := by decide +kernel
theorem dX6_fall_6 : decode cX6_fall 6 = .ok (.iload_n 2, 1) := by decide +kernel
theorem dX6_fall_7 : decode cX6_fall 7 = .ok (.ifCond .ge 5, 3) := by decide +kernel
theorem dX6_fall_10 : decode cX6_fall 10 = .ok (.iconst (-1), 1) := by decide +kernel
theorem dX6_fall_11 : decode cX6_fall 11 = .ok (.ireturn, 1) := by decide +kernel
theorem dX6_fall_12 : decode cX6_fall 12 = .ok (.iconst 0, 1) := by decide +kernel
theorem dX6_fall_13 : decode cX6_fall 13 = .ok (.istore_n 3, 1) := by decide +kernel
theorem dX6_fall_14 : decode cX6_fall 14 = .ok (.iconst 0, 1) := by decide +kernel
