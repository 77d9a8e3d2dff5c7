theorem dX5_turn_25 : decode cX5_turn 25 = .ok (.getfield 16, 3) := by decide +kernel
theorem dX5_turn_28 : decode cX5_turn 28 = .ok (.invokevirtual 122, 3) := by decide +kernel
theorem dX5_turn_31 : decode cX5_turn 31 = .ok (.aload_n 0, 1) := by decide +kernel
theorem dX5_turn_32 : decode cX5_turn 32 = .ok (.getfield 39, 3) := by decide +kernel
theorem dX5_turn_35 : decode cX5_turn 35 = .ok (.aload_n 0, 1) := by decide +kernel
theorem dX5_turn_36 : decode cX5_turn 36 = .ok (.getfield 10, 3) := by decide +kernel
theorem dX5_turn_39 : decode cX5_turn 39 = .ok (.invokevirtual 125, 3) := by decide +kernel
theorem dX5_turn_42 : decode cX5_turn 42 = .ok (.aload_n 0, 1) := by decide +kernel
theorem dX5_turn_43 : decode cX5_turn 43 = .ok (.getfield 43, 3) := by decide +kernel
theorem dX5_turn_46 : decode cX5_turn 46 = .ok (.aload_n 0, 1) := by decide +kernel
theorem dX5_turn_47 : decode cX5_turn 47 = .ok (.getfield 16, 3) := by decide +kernel
theorem dX5_turn_50 : decode cX5_turn 50 = .ok (.invokevirtual 125, 3) := by decide +kernel
theorem dX5_turn_53 : decode cX5_turn 53 = .ok (.aload_n 0, 1) := by decide +kernel
theorem dX5_turn_54 : decode cX5_turn 54 = .ok (.getfield 39, 3) := by decide +kernel
theorem dX5_turn_57 : decode cX5_turn 57 = .ok (.aload_n 0, 1) := by decide +kernel
theorem dX5_turn_58 : decode cX5_turn 58 = .ok (.getfield 43, 3) := by decide +kernel
theorem dX5_turn_61 : decode cX5_turn 61 = .ok (.invokevirtual 128, 3) := by decide +kernel
theorem dX5_turn_64 : decode cX5_turn 64 = .ok (.istore_n 1, 1) := by decide +kernel
theorem dX5_turn_65 : decode cX5_turn 65 = .ok (.aload_n 0, 1) := by decide +kernel
theorem dX5_turn_66 : decode cX5_turn 66 = .ok (.invokevirtual 65, 3) := by decide +kernel
theorem dX5_turn_69 : decode cX5_turn 69 = .ok (.iload_n 1, 1) := by decide +kernel
theorem dX5_turn_70 : decode cX5_turn 70 = .ok (.ireturn, 1) := by decide +kernel
set_option maxRecDepth 20000 in
theorem ggX5_set_X3_copyFrom : GoodIn wsX5_set wsX3_copyFrom := goodIn_r _ [8, 9, 10, 11, 12, 13, 14, 15, 16, 17, 18, 19, 20, 21, 22, 23, 24, 25, 53, 54, 55, 56, 57, 58, 59, 60] (by decide +kernel) (by decide +kernel)
set_option maxRecDepth 20000 in
theorem gX5_set_X3_copyFrom : GoodIn wsX5_set (wsV RX5 57 RX3 yX3_copyFrom wsX3_copyFrom) := goodIn_app (goodIn_of _ (by decide +kernel)) ggX5_set_X3_copyFrom
set_option maxRecDepth 20000 in
theorem ggX5_set_X5_adoptTrial : GoodIn wsX5_set wsX5_adoptTrial := goodIn_r _ [30, 31, 1, 3, 32, 33, 34, 35, 36, 37, 38, 39, 40, 41, 42, 43, 5, 6, 7, 8, 9, 10, 11, 12, 13, 14, 15, 16, 17, 18, 19, 20, 21, 22, 23, 24, 25, 4, 44, 45, 46, 47, 48, 49, 50, 51, 52, 61, 62, 53, 54, 55, 56, 57, 58, 59, 60] (by decide +kernel) (by decide +kernel)
set_option maxRecDepth 20000 in
theorem gX5_set_X5_adoptTrial : GoodIn wsX5_set (wsV RX5 65 RX5 yX5_adoptTrial wsX5_adoptTrial) := goodIn_app (goodIn_of _ (by decide +kernel)) ggX5_set_X5_adoptTrial
theorem dX5_set_0 : decode cX5_set 0 = .ok (.iload_n 1, 1) := by decide +kernel
theorem dX5_set_1 : decode cX5_set 1 = .ok (.ifCond .eq 5, 3) := by decide +kernel
theorem dX5_set_4 : decode cX5_set 4 = .ok (.iconst (-1), 1) := by decide +kernel
theorem dX5_set_5 : decode cX5_set 5 = .ok (.ireturn, 1) := by decide +kernel
theorem dX5_set_6 : decode cX5_set 6 = .ok (.iload_n 2, 1) := by decide +kernel
theorem dX5_set_7 : decode cX5_set 7 = .ok (.ifCond .lt 8, 3) := by decide +kernel
theorem dX5_set_10 : decode cX5_set 10 = .ok (.iload_n 2, 1) := by decide +kernel
theorem dX5_set_11 : decode cX5_set 11 = .ok (.iconst 2, 1) := by decide +kernel
theorem dX5_set_12 : decode cX5_set 12 = .ok (.if_icmp .le 6, 3) := by decide +kernel
theorem dX5_set_15 : decode cX5_set 15 = .ok (.bipush (-2), 2) := by decide +kernel
theorem dX5_set_17 : decode cX5_set 17 = .ok (.ireturn, 1) := by decide +kernel
theorem dX5_set_18 : decode cX5_set 18 = .ok (.aload_n 0, 1) := by decide +kernel
theorem dX5_set_19 : decode cX5_set 19 = .ok (.getfield 10, 3) := by decide +kernel
theorem dX5_set_22 : decode cX5_set 22 = .ok (.getfield 132, 3) := by decide +kernel
theorem dX5_set_25 : decode cX5_set 25 = .ok (.istore_n 3, 1) := by decide +kernel
theorem dX5_set_26 : decode cX5_set 26 = .ok (.iload_n 2, 1) := by decide +kernel
theorem dX5_set_27 : decode cX5_set 27 = .ok (.iload_n 3, 1) := by decide +kernel
theorem dX5_set_28 : decode cX5_set 28 = .ok (.if_icmp .ne 6, 3) := by decide +kernel
theorem dX5_set_31 : decode cX5_set 31 = .ok (.bipush (-5), 2) := by decide +kernel
theorem dX5_set_33 : decode cX5_set 33 = .ok (.ireturn, 1) := by decide +kernel
theorem dX5_set_34 : decode cX5_set 34 = .ok (.aload_n 0, 1) := by decide +kernel
theorem dX5_set_35 : decode cX5_set 35 = .ok (.getfield 16, 3) := by decide +kernel
theorem dX5_set_38 : decode cX5_set 38 = .ok (.aload_n 0, 1) := by decide +kernel
theorem dX5_set_39 : decode cX5_set 39 = .ok (.getfield 10, 3) := by decide +kernel
theorem dX5_set_42 : decode cX5_set 42 = .ok (.invokevirtual 57, 3) := by decide +kernel
theorem dX5_set_45 : decode cX5_set 45 = .ok (.aload_n 0, 1) := by decide +kernel
theorem dX5_set_46 : decode cX5_set 46 = .ok (.getfield 16, 3) := by decide +kernel
theorem dX5_set_49 : decode cX5_set 49 = .ok (.iload_n 2, 1) := by decide +kernel
theorem dX5_set_50 : decode cX5_set 50 = .ok (.putfield 132, 3) := by decide +kernel
theorem dX5_set_53 : decode cX5_set 53 = .ok (.aload_n 0, 1) := by decide +kernel
theorem dX5_set_54 : decode cX5_set 54 = .ok (.invokevirtual 65, 3) := by decide +kernel
theorem dX5_set_57 : decode cX5_set 57 = .ok (.iload_n 3, 1) := by decide +kernel
theorem dX5_set_58 : decode cX5_set 58 = .ok (.ireturn, 1) := by decide +kernel
theorem dX5_box_0 : decode cX5_box 0 = .ok (.iload_n 1, 1) := by decide +kernel
theorem dX5_box_1 : decode cX5_box 1 = .ok (.ifCond .ge 6, 3) := by decide +kernel
theorem dX5_box_4 : decode cX5_box 4 = .ok (.bipush (-2), 2) := by decide +kernel
theorem dX5_box_6 : decode cX5_box 6 = .ok (.ireturn, 1) := by decide +kernel
theorem dX5_box_7 : decode cX5_box 7 = .ok (.iload_n 1, 1) := by decide +kernel
theorem dX5_box_8 : decode cX5_box 8 = .ok (.aload_n 0, 1) := by decide +kernel
theorem dX5_box_9 : decode cX5_box 9 = .ok (.getfield 10, 3) := by decide +kernel
theorem dX5_box_12 : decode cX5_box 12 = .ok (.getfield 118, 3) := by decide +kernel
theorem dX5_box_15 : decode cX5_box 15 = .ok (.if_icmp .ge 18, 3) := by decide +kernel
theorem dX5_box_18 : decode cX5_box 18 = .ok (.aload_n 0, 1) := by decide +kernel
theorem dX5_box_19 : decode cX5_box 19 = .ok (.getfield 10, 3) := by decide +kernel
theorem dX5_box_22 : decode cX5_box 22 = .ok (.getfield 72, 3) := by decide +kernel
theorem dX5_box_25 : decode cX5_box 25 = .ok (.iload_n 1, 1) := by decide +kernel
theorem dX5_box_26 : decode cX5_box 26 = .ok (.aaload, 1) := by decide +kernel
theorem dX5_box_27 : decode cX5_box 27 = .ok (.getfield 156, 3) := by decide +kernel
theorem dX5_box_30 : decode cX5_box 30 = .ok (.goto 5, 3) := by decide +kernel
theorem dX5_box_33 : decode cX5_box 33 = .ok (.bipush (-5), 2) := by decide +kernel
theorem dX5_box_35 : decode cX5_box 35 = .ok (.ireturn, 1) := by decide +kernel
set_option maxRecDepth 20000 in
theorem ggX5_end_X3_slotOf : GoodIn wsX5_end wsX3_slotOf := goodIn_r _ [9, 10, 11, 12, 26, 27, 28, 29, 30, 31, 32, 33] (by decide +kernel) (by decide +kernel)
set_option maxRecDepth 20000 in
theorem gX5_end_X3_slotOf : GoodIn wsX5_end (wsV RX5 68 RX3 yX3_slotOf wsX3_slotOf) := goodIn_app (goodIn_of _ (by decide +kernel)) ggX5_end_X3_slotOf
set_option maxRecDepth 20000 in
theorem ggX5_end_X5_isDirection : GoodIn wsX5_end wsX5_isDirection := goodIn_r _ [16] (by decide +kernel) (by decide +kernel)
set_option maxRecDepth 20000 in
theorem gX5_end_X5_isDirection : GoodIn wsX5_end (va_wsS RX5 84 yX5_isDirection wsX5_isDirection) := goodIn_app (goodIn_of _ (by decide +kernel)) ggX5_end_X5_isDirection
theorem dX5_end_0 : decode cX5_end 0 = .ok (.aload_n 0, 1) := by decide +kernel
theorem dX5_end_1 : decode cX5_end 1 = .ok (.getfield 10, 3) := by decide +kernel
theorem dX5_end_4 : decode cX5_end 4 = .ok (.iload_n 1, 1) := by decide +kernel
theorem dX5_end_5 : decode cX5_end 5 = .ok (.invokevirtual 68, 3) := by decide +kernel
theorem dX5_end_8 : decode cX5_end 8 = .ok (.istore 4, 2) := by decide +kernel
theorem dX5_end_10 : decode cX5_end 10 = .ok (.iload 4, 2) := by decide +kernel
theorem dX5_end_12 : decode cX5_end 12 = .ok (.iconst (-1), 1) := by decide +kernel
theorem dX5_end_13 : decode cX5_end 13 = .ok (.if_icmp .eq 10, 3) := by decide +kernel
theorem dX5_end_16 : decode cX5_end 16 = .ok (.iload_n 2, 1) := by decide +kernel
theorem dX5_end_17 : decode cX5_end 17 = .ok (.invokestatic 84, 3) := by decide +kernel
theorem dX5_end_20 : decode cX5_end 20 = .ok (.ifCond .ne 5, 3) := by decide +kernel
theorem dX5_end_23 : decode cX5_end 23 = .ok (.iconst (-1), 1) := by decide +kernel
theorem dX5_end_24 : decode cX5_end 24 = .ok (.ireturn, 1) := by decide +kernel
theorem dX5_end_25 : decode cX5_end 25 = .ok (.aload_n 0, 1) := by decide +kernel
theorem dX5_end_26 : decode cX5_end 26 = .ok (.getfield 10, 3) := by decide +kernel
theorem dX5_end_29 : decode cX5_end 29 = .ok (.getfield 72, 3) := by decide +kernel
theorem dX5_end_32 : decode cX5_end 32 = .ok (.iload 4, 2) := by decide +kernel
theorem dX5_end_34 : decode cX5_end 34 = .ok (.aaload, 1) := by decide +kernel
theorem dX5_end_35 : decode cX5_end 35 = .ok (.astore 5, 2) := by decide +kernel
theorem dX5_end_37 : decode cX5_end 37 = .ok (.iload_n 3, 1) := by decide +kernel
theorem dX5_end_38 : decode cX5_end 38 = .ok (.ifCond .eq 13, 3) := by decide +kernel
theorem dX5_end_41 : decode cX5_end 41 = .ok (.aload 5, 2) := by decide +kernel
theorem dX5_end_43 : decode cX5_end 43 = .ok (.getfield 92, 3) := by decide +kernel
theorem dX5_end_46 : decode cX5_end 46 = .ok (.iload_n 2, 1) := by decide +kernel
theorem dX5_end_47 : decode cX5_end 47 = .ok (.iaload, 1) := by decide +kernel
theorem dX5_end_48 : decode cX5_end 48 = .ok (.goto 10, 3) := by decide +kernel
theorem dX5_end_51 : decode cX5_end 51 = .ok (.aload 5, 2) := by decide +kernel
theorem dX5_end_53 : decode cX5_end 53 = .ok (.getfield 88, 3) := by decide +kernel
theorem dX5_end_56 : decode cX5_end 56 = .ok (.iload_n 2, 1) := by decide +kernel
theorem dX5_end_57 : decode cX5_end 57 = .ok (.iaload, 1) := by decide +kernel
theorem dX5_end_58 : decode cX5_end 58 = .ok (.ireturn, 1) := by decide +kernel
set_option maxRecDepth 20000 in
theorem ggX5_ofBox_X3_slotOf : GoodIn wsX5_ofBox wsX3_slotOf := goodIn_r _ [9, 10, 11, 12, 163, 164, 165, 166, 167, 175, 176, 177] (by decide +kernel) (by decide +kernel)
set_option maxRecDepth 20000 in
theorem gX5_ofBox_X3_slotOf : GoodIn wsX5_ofBox (wsV RX5 68 RX3 yX3_slotOf wsX3_slotOf) := goodIn_app (goodIn_of _ (by decide +kernel)) ggX5_ofBox_X3_slotOf
set_option maxRecDepth 20000 in
theorem ggX5_ofBox_X0_volume : GoodIn wsX5_ofBox wsX0_volume := goodIn_r _ [17, 18, 19, 20, 16, 21, 22, 23, 175, 176, 177] (by decide +kernel) (by decide +kernel)
set_option maxRecDepth 20000 in
theorem gX5_ofBox_X0_volume : GoodIn wsX5_ofBox (wsV RX5 76 RX0 yX0_volume wsX0_volume) := goodIn_app (goodIn_of _ (by decide +kernel)) ggX5_ofBox_X0_volume
set_option maxRecDepth 20000 in
theorem ggX5_ofBox_X5_look : GoodIn wsX5_ofBox wsX5_look := goodIn_r _ [28, 29, 1, 30, 31, 32, 33, 34, 35, 36, 37, 38, 39, 40, 41, 42, 43, 44, 16, 45, 23, 22, 46, 47, 48, 49, 50, 51, 52, 53, 54, 55, 56, 57, 58, 59, 60, 61, 62, 63, 64, 65, 66, 67, 68, 69, 70, 71, 72, 73, 74, 75, 76, 77, 78, 79, 80, 81, 82, 83, 84, 8, 85, 86, 11, 87, 88, 89, 90, 91, 14, 15, 17, 18, 19, 20, 21, 92, 93, 94, 95, 96, 97, 98, 99, 154, 155, 156, 157, 158, 159, 160, 161, 162, 163, 164, 165, 166, 167, 168, 169, 170, 171, 172, 173, 174, 175, 176, 177] (by decide +kernel) (by decide +kernel)
set_option maxRecDepth 20000 in
theorem gX5_ofBox_X5_look : GoodIn wsX5_ofBox (wsV RX5 159 RX5 yX5_look wsX5_look) := goodIn_app (goodIn_of _ (by decide +kernel)) ggX5_ofBox_X5_look
set_option maxRecDepth 20000 in
theorem ggX5_ofBox_X2_hiddenBy : GoodIn wsX5_ofBox wsX2_hiddenBy := goodIn_r _ [103, 37, 104, 105, 106, 107, 108, 109, 110, 168, 169, 170, 171, 172, 173, 174] (by decide +kernel) (by decide +kernel)
set_option maxRecDepth 20000 in
theorem gX5_ofBox_X2_hiddenBy : GoodIn wsX5_ofBox (wsV RX5 162 RX2 yX2_hiddenBy wsX2_hiddenBy) := goodIn_app (goodIn_of _ (by decide +kernel)) ggX5_ofBox_X2_hiddenBy
set_option maxRecDepth 20000 in
theorem ggX5_ofBox_X2_hidersOf : GoodIn wsX5_ofBox wsX2_hidersOf := goodIn_r _ [114, 36, 37, 63, 64, 33, 65, 168, 169, 170, 171, 172, 173, 174] (by decide +kernel) (by decide +kernel)
set_option maxRecDepth 20000 in
theorem gX5_ofBox_X2_hidersOf : GoodIn wsX5_ofBox (wsV RX5 165 RX2 yX2_hidersOf wsX2_hidersOf) := goodIn_app (goodIn_of _ (by decide +kernel)) ggX5_ofBox_X2_hidersOf
set_option maxRecDepth 20000 in
theorem ggX5_ofBox_X2_shortestRingOf : GoodIn wsX5_ofBox wsX2_shortestRingOf := goodIn_r _ [118, 37, 36, 63, 64, 33, 65, 119, 120, 121, 122, 168, 169, 170, 171, 172, 173, 174] (by decide +kernel) (by decide +kernel)
set_option maxRecDepth 20000 in
theorem gX5_ofBox_X2_shortestRingOf : GoodIn wsX5_ofBox (wsV RX5 171 RX2 yX2_shortestRingOf wsX2_shortestRingOf) := goodIn_app (goodIn_of _ (by decide +kernel)) ggX5_ofBox_X2_shortestRingOf
set_option maxRecDepth 20000 in
theorem ggX5_ofBox_X3_supportsOf : GoodIn wsX5_ofBox wsX3_supportsOf := goodIn_r _ [126, 11, 10, 127, 128, 129, 130, 131, 16, 132, 22, 23, 133, 134, 135, 136, 163, 164, 165, 166, 167, 175, 176, 177] (by decide +kernel) (by decide +kernel)
set_option maxRecDepth 20000 in
theorem gX5_ofBox_X3_supportsOf : GoodIn wsX5_ofBox (wsV RX5 174 RX3 yX3_supportsOf wsX3_supportsOf) := goodIn_app (goodIn_of _ (by decide +kernel)) ggX5_ofBox_X3_supportsOf
set_option maxRecDepth 20000 in
theorem ggX5_ofBox_X3_boxesBelow : GoodIn wsX5_ofBox wsX3_boxesBelow := goodIn_r _ [140, 10, 11, 129, 130, 131, 16, 132, 22, 23, 133, 134, 135, 136, 163, 164, 165, 166, 167, 175, 176, 177] (by decide +kernel) (by decide +kernel)
set_option maxRecDepth 20000 in
theorem gX5_ofBox_X3_boxesBelow : GoodIn wsX5_ofBox (wsV RX5 177 RX3 yX3_boxesBelow wsX3_boxesBelow) := goodIn_app (goodIn_of _ (by decide +kernel)) ggX5_ofBox_X3_boxesBelow
set_option maxRecDepth 20000 in
theorem ggX5_ofBox_X3_shadowOn : GoodIn wsX5_ofBox wsX3_shadowOn := goodIn_r _ [144, 11, 128, 127, 10, 129, 130, 131, 16, 132, 22, 23, 133, 134, 135, 136, 145, 146, 147, 148, 149, 150, 151, 152, 18, 19, 20, 21, 153, 105, 106, 107, 108, 109, 110, 163, 164, 165, 166, 167, 175, 176, 177] (by decide +kernel) (by decide +kernel)
set_option maxRecDepth 20000 in
theorem gX5_ofBox_X3_shadowOn : GoodIn wsX5_ofBox (wsV RX5 180 RX3 yX3_shadowOn wsX3_shadowOn) := goodIn_app (goodIn_of _ (by decide +kernel)) ggX5_ofBox_X3_shadowOn
theorem dX5_ofBox_0 : decode cX5_ofBox 0 = .ok (.aload_n 0, 1) := by decide +kernel
theorem dX5_ofBox_1 : decode cX5_ofBox 1 = .ok (.getfield 10, 3) := by decide +kernel
theorem dX5_ofBox_4 : decode cX5_ofBox 4 = .ok (.iload_n 1, 1) := by decide +kernel
theorem dX5_ofBox_5 : decode cX5_ofBox 5 = .ok (.invokevirtual 68, 3) := by decide +kernel
theorem dX5_ofBox_8 : decode cX5_ofBox 8 = .ok (.istore_n 3, 1) := by decide +kernel
theorem dX5_ofBox_9 : decode cX5_ofBox 9 = .ok (.iload_n 3, 1) := by decide +kernel
theorem dX5_ofBox_10 : decode cX5_ofBox 10 = .ok (.iconst (-1), 1) := by decide +kernel
theorem dX5_ofBox_11 : decode cX5_ofBox 11 = .ok (.if_icmp .ne 5, 3) := by decide +kernel
theorem dX5_ofBox_14 : decode cX5_ofBox 14 = .ok (.iconst (-1), 1) := by decide +kernel
theorem dX5_ofBox_15 : decode cX5_ofBox 15 = .ok (.ireturn, 1) := by decide +kernel
theorem dX5_ofBox_16 : decode cX5_ofBox 16 = .ok (.iload_n 2, 1) := by decide +kernel
theorem dX5_ofBox_17 : decode cX5_ofBox 17 = .ok (.tableswitch 162 0 8 #[51, 64, 73, 82, 92, 101, 110, 119, 128], 51) := by decide +kernel
theorem dX5_ofBox_68 : decode cX5_ofBox 68 = .ok (.aload_n 0, 1) := by decide +kernel
theorem dX5_ofBox_69 : decode cX5_ofBox 69 = .ok (.getfield 10, 3) := by decide +kernel
theorem dX5_ofBox_72 : decode cX5_ofBox 72 = .ok (.getfield 72, 3) := by decide +kernel
theorem dX5_ofBox_75 : decode cX5_ofBox 75 = .ok (.iload_n 3, 1) := by decide +kernel
theorem dX5_ofBox_76 : decode cX5_ofBox 76 = .ok (.aaload, 1) := by decide +kernel
theorem dX5_ofBox_77 : decode cX5_ofBox 77 = .ok (.invokevirtual 76, 3) := by decide +kernel
theorem dX5_ofBox_80 : decode cX5_ofBox 80 = .ok (.ireturn, 1) := by decide +kernel
theorem dX5_ofBox_81 : decode cX5_ofBox 81 = .ok (.aload_n 0, 1) := by decide +kernel
theorem dX5_ofBox_82 : decode cX5_ofBox 82 = .ok (.invokevirtual 159, 3) := by decide +kernel
theorem dX5_ofBox_85 : decode cX5_ofBox 85 = .ok (.iload_n 3, 1) := by decide +kernel
theorem dX5_ofBox_86 : decode cX5_ofBox 86 = .ok (.invokevirtual 162, 3) := by decide +kernel
theorem dX5_ofBox_89 : decode cX5_ofBox 89 = .ok (.ireturn, 1) := by decide +kernel
theorem dX5_ofBox_90 : decode cX5_ofBox 90 = .ok (.aload_n 0, 1) := by decide +kernel
theorem dX5_ofBox_91 : decode cX5_ofBox 91 = .ok (.invokevirtual 159, 3) := by decide +kernel
theorem dX5_ofBox_94 : decode cX5_ofBox 94 = .ok (.iload_n 3, 1) := by decide +kernel
theorem dX5_ofBox_95 : decode cX5_ofBox 95 = .ok (.invokevirtual 165, 3) := by decide +kernel
theorem dX5_ofBox_98 : decode cX5_ofBox 98 = .ok (.ireturn, 1) := by decide +kernel
theorem dX5_ofBox_99 : decode cX5_ofBox 99 = .ok (.aload_n 0, 1) := by decide +kernel
theorem dX5_ofBox_100 : decode cX5_ofBox 100 = .ok (.invokevirtual 159, 3) := by decide +kernel
theorem dX5_ofBox_103 : decode cX5_ofBox 103 = .ok (.getfield 168, 3) := by decide +kernel
theorem dX5_ofBox_106 : decode cX5_ofBox 106 = .ok (.iload_n 3, 1) := by decide +kernel
theorem dX5_ofBox_107 : decode cX5_ofBox 107 = .ok (.iaload, 1) := by decide +kernel
theorem dX5_ofBox_108 : decode cX5_ofBox 108 = .ok (.ireturn, 1) := by decide +kernel
theorem dX5_ofBox_109 : decode cX5_ofBox 109 = .ok (.aload_n 0, 1) := by decide +kernel
theorem dX5_ofBox_110 : decode cX5_ofBox 110 = .ok (.invokevirtual 159, 3) := by decide +kernel
theorem dX5_ofBox_113 : decode cX5_ofBox 113 = .ok (.iload_n 3, 1) := by decide +kernel
theorem dX5_ofBox_114 : decode cX5_ofBox 114 = .ok (.invokevirtual 171, 3) := by decide +kernel
theorem dX5_ofBox_117 : decode cX5_ofBox 117 = .ok (.ireturn, 1) := by decide +kernel
theorem dX5_ofBox_118 : decode cX5_ofBox 118 = .ok (.aload_n 0, 1) := by decide +kernel
theorem dX5_ofBox_119 : decode cX5_ofBox 119 = .ok (.getfield 10, 3) := by decide +kernel
theorem dX5_ofBox_122 : decode cX5_ofBox 122 = .ok (.iload_n 3, 1) := by decide +kernel
theorem dX5_ofBox_123 : decode cX5_ofBox 123 = .ok (.invokevirtual 174, 3) := by decide +kernel
theorem dX5_ofBox_126 : decode cX5_ofBox 126 = .ok (.ireturn, 1) := by decide +kernel
theorem dX5_ofBox_127 : decode cX5_ofBox 127 = .ok (.aload_n 0, 1) := by decide +kernel
theorem dX5_ofBox_128 : decode cX5_ofBox 128 = .ok (.getfield 10, 3) := by decide +kernel
theorem dX5_ofBox_131 : decode cX5_ofBox 131 = .ok (.iload_n 3, 1) := by decide +kernel
theorem dX5_ofBox_132 : decode cX5_ofBox 132 = .ok (.invokevirtual 177, 3) := by decide +kernel
theorem dX5_ofBox_135 : decode cX5_ofBox 135 = .ok (.ireturn, 1) := by decide +kernel
theorem dX5_ofBox_136 : decode cX5_ofBox 136 = .ok (.aload_n 0, 1) := by decide +kernel
theorem dX5_ofBox_137 : decode cX5_ofBox 137 = .ok (.getfield 10, 3) := by decide +kernel
theorem dX5_ofBox_140 : decode cX5_ofBox 140 = .ok (.iload_n 3, 1) := by decide +kernel
theorem dX5_ofBox_141 : decode cX5_ofBox 141 = .ok (.invokevirtual 180, 3) := by decide +kernel
theorem dX5_ofBox_144 : decode cX5_ofBox 144 = .ok (.ireturn, 1) := by decide +kernel
theorem dX5_ofBox_145 : decode cX5_ofBox 145 = .ok (.aload_n 0, 1) := by decide +kernel
theorem dX5_ofBox_146 : decode cX5_ofBox 146 = .ok (.getfield 10, 3) := by decide +kernel
theorem dX5_ofBox_149 : decode cX5_ofBox 149 = .ok (.getfield 72, 3) := by decide +kernel
theorem dX5_ofBox_152 : decode cX5_ofBox 152 = .ok (.iload_n 3, 1) := by decide +kernel
theorem dX5_ofBox_153 : decode cX5_ofBox 153 = .ok (.aaload, 1) := by decide +kernel
theorem dX5_ofBox_154 : decode cX5_ofBox 154 = .ok (.getfield 88, 3) := by decide +kernel
theorem dX5_ofBox_157 : decode cX5_ofBox 157 = .ok (.iconst 2, 1) := by decide +kernel
theorem dX5_ofBox_158 : decode cX5_ofBox 158 = .ok (.iaload, 1) := by decide +kernel
theorem dX5_ofBox_159 : decode cX5_ofBox 159 = .ok (.ifCond .eq 14, 3) := by decide +kernel
theorem dX5_ofBox_162 : decode cX5_ofBox 162 = .ok (.aload_n 0, 1) := by decide +kernel
theorem dX5_ofBox_163 : decode cX5_ofBox 163 = .ok (.getfield 10, 3) := by decide +kernel
theorem dX5_ofBox_166 : decode cX5_ofBox 166 = .ok (.iload_n 3, 1) := by decide +kernel
theorem dX5_ofBox_167 : decode cX5_ofBox 167 = .ok (.invokevirtual 174, 3) := by decide +kernel
theorem dX5_ofBox_170 : decode cX5_ofBox 170 = .ok (.ifCond .le 7, 3) := by decide +kernel
theorem dX5_ofBox_173 : decode cX5_ofBox 173 = .ok (.iconst 1, 1) := by decide +kernel
theorem dX5_ofBox_174 : decode cX5_ofBox 174 = .ok (.goto 4, 3) := by decide +kernel
theorem dX5_ofBox_177 : decode cX5_ofBox 177 = .ok (.iconst 0, 1) := by decide +kernel
theorem dX5_ofBox_178 : decode cX5_ofBox 178 = .ok (.ireturn, 1) := by decide +kernel
theorem dX5_ofBox_179 : decode cX5_ofBox 179 = .ok (.bipush (-2), 2) := by decide +kernel
theorem dX5_ofBox_181 : decode cX5_ofBox 181 = .ok (.ireturn, 1) := by decide +kernel
set_option maxRecDepth 20000 in
theorem ggX5_pair_X3_slotOf : GoodIn wsX5_pair wsX3_slotOf := goodIn_r _ [7, 8, 9, 10, 35, 36, 37, 38, 39, 40, 41, 42] (by decide +kernel) (by decide +kernel)
set_option maxRecDepth 20000 in
theorem gX5_pair_X3_slotOf : GoodIn wsX5_pair (wsV RX5 68 RX3 yX3_slotOf wsX3_slotOf) := goodIn_app (goodIn_of _ (by decide +kernel)) ggX5_pair_X3_slotOf
set_option maxRecDepth 20000 in
theorem ggX5_pair_X0_directionOfHiding : GoodIn wsX5_pair wsX0_directionOfHiding := goodIn_r _ [15, 16, 17, 18, 19, 20, 14, 21, 22, 23, 24, 25, 40, 41, 42] (by decide +kernel) (by decide +kernel)
set_option maxRecDepth 20000 in
theorem gX5_pair_X0_directionOfHiding : GoodIn wsX5_pair (wsV RX5 183 RX0 yX0_directionOfHiding wsX0_directionOfHiding) := goodIn_app (goodIn_of _ (by decide +kernel)) ggX5_pair_X0_directionOfHiding
theorem dX5_pair_0 : decode cX5_pair 0 = .ok (.aload_n 0, 1) := by decide +kernel
theorem dX5_pair_1 : decode cX5_pair 1 = .ok (.getfield 10, 3) := by decide +kernel
theorem dX5_pair_4 : decode cX5_pair 4 = .ok (.iload_n 1, 1) := by decide +kernel
theorem dX5_pair_5 : decode cX5_pair 5 = .ok (.invokevirtual 68, 3) := by decide +kernel
theorem dX5_pair_8 : decode cX5_pair 8 = .ok (.istore_n 3, 1) := by decide +kernel
theorem dX5_pair_9 : decode cX5_pair 9 = .ok (.aload_n 0, 1) := by decide +kernel
theorem dX5_pair_10 : decode cX5_pair 10 = .ok (.getfield 10, 3) := by decide +kernel
theorem dX5_pair_13 : decode cX5_pair 13 = .ok (.iload_n 2, 1) := by decide +kernel
theorem dX5_pair_14 : decode cX5_pair 14 = .ok (.invokevirtual 68, 3) := by decide +kernel
theorem dX5_pair_17 : decode cX5_pair 17 = .ok (.istore 4, 2) := by decide +kernel
theorem dX5_pair_19 : decode cX5_pair 19 = .ok (.iload_n 3, 1) := by decide +kernel
theorem dX5_pair_20 : decode cX5_pair 20 = .ok (.iconst (-1), 1) := by decide +kernel
theorem dX5_pair_21 : decode cX5_pair 21 = .ok (.if_icmp .eq 9, 3) := by decide +kernel
theorem dX5_pair_24 : decode cX5_pair 24 = .ok (.iload 4, 2) := by decide +kernel
theorem dX5_pair_26 : decode cX5_pair 26 = .ok (.iconst (-1), 1) := by decide +kernel
theorem dX5_pair_27 : decode cX5_pair 27 = .ok (.if_icmp .ne 5, 3) := by decide +kernel
theorem dX5_pair_30 : decode cX5_pair 30 = .ok (.iconst (-1), 1) := by decide +kernel
theorem dX5_pair_31 : decode cX5_pair 31 = .ok (.ireturn, 1) := by decide +kernel
theorem dX5_pair_32 : decode cX5_pair 32 = .ok (.iload_n 3, 1) := by decide +kernel
theorem dX5_pair_33 : decode cX5_pair 33 = .ok (.iload 4, 2) := by decide +kernel
theorem dX5_pair_35 : decode cX5_pair 35 = .ok (.if_icmp .ne 6, 3) := by decide +kernel
theorem dX5_pair_38 : decode cX5_pair 38 = .ok (.bipush (-2), 2) := by decide +kernel
theorem dX5_pair_40 : decode cX5_pair 40 = .ok (.ireturn, 1) := by decide +kernel
theorem dX5_pair_41 : decode cX5_pair 41 = .ok (.aload_n 0, 1) := by decide +kernel
theorem dX5_pair_42 : decode cX5_pair 42 = .ok (.getfield 10, 3) := by decide +kernel
theorem dX5_pair_45 : decode cX5_pair 45 = .ok (.getfield 72, 3) := by decide +kernel
theorem dX5_pair_48 : decode cX5_pair 48 = .ok (.iload_n 3, 1) := by decide +kernel
theorem dX5_pair_49 : decode cX5_pair 49 = .ok (.aaload, 1) := by decide +kernel
theorem dX5_pair_50 : decode cX5_pair 50 = .ok (.aload_n 0, 1) := by decide +kernel
theorem dX5_pair_51 : decode cX5_pair 51 = .ok (.getfield 10, 3) := by decide +kernel
theorem dX5_pair_54 : decode cX5_pair 54 = .ok (.getfield 72, 3) := by decide +kernel
theorem dX5_pair_57 : decode cX5_pair 57 = .ok (.iload 4, 2) := by decide +kernel
theorem dX5_pair_59 : decode cX5_pair 59 = .ok (.aaload, 1) := by decide +kernel
theorem dX5_pair_60 : decode cX5_pair 60 = .ok (.invokevirtual 183, 3) := by decide +kernel
theorem dX5_pair_63 : decode cX5_pair 63 = .ok (.istore 5, 2) := by decide +kernel
theorem dX5_pair_65 : decode cX5_pair 65 = .ok (.iload 5, 2) := by decide +kernel
theorem dX5_pair_67 : decode cX5_pair 67 = .ok (.iconst (-1), 1) := by decide +kernel
theorem dX5_pair_68 : decode cX5_pair 68 = .ok (.if_icmp .eq 8, 3) := by decide +kernel
theorem dX5_pair_71 : decode cX5_pair 71 = .ok (.iconst 1, 1) := by decide +kernel
theorem dX5_pair_72 : decode cX5_pair 72 = .ok (.iload 5, 2) := by decide +kernel
theorem dX5_pair_74 : decode cX5_pair 74 = .ok (.iadd, 1) := by decide +kernel
theorem dX5_pair_75 : decode cX5_pair 75 = .ok (.ireturn, 1) := by decide +kernel
theorem dX5_pair_76 : decode cX5_pair 76 = .ok (.aload_n 0, 1) := by decide +kernel
theorem dX5_pair_77 : decode cX5_pair 77 = .ok (.getfield 10, 3) := by decide +kernel
theorem dX5_pair_80 : decode cX5_pair 80 = .ok (.getfield 72, 3) := by decide +kernel
theorem dX5_pair_83 : decode cX5_pair 83 = .ok (.iload 4, 2) := by decide +kernel
theorem dX5_pair_85 : decode cX5_pair 85 = .ok (.aaload, 1) := by decide +kernel
theorem dX5_pair_86 : decode cX5_pair 86 = .ok (.aload_n 0, 1) := by decide +kernel
theorem dX5_pair_87 : decode cX5_pair 87 = .ok (.getfield 10, 3) := by decide +kernel
theorem dX5_pair_90 : decode cX5_pair 90 = .ok (.getfield 72, 3) := by decide +kernel
theorem dX5_pair_93 : decode cX5_pair 93 = .ok (.iload_n 3, 1) := by decide +kernel
theorem dX5_pair_94 : decode cX5_pair 94 = .ok (.aaload, 1) := by decide +kernel
theorem dX5_pair_95 : decode cX5_pair 95 = .ok (.invokevirtual 183, 3) := by decide +kernel
theorem dX5_pair_98 : decode cX5_pair 98 = .ok (.istore 6, 2) := by decide +kernel
theorem dX5_pair_100 : decode cX5_pair 100 = .ok (.iload 6, 2) := by decide +kernel
theorem dX5_pair_102 : decode cX5_pair 102 = .ok (.iconst (-1), 1) := by decide +kernel
theorem dX5_pair_103 : decode cX5_pair 103 = .ok (.if_icmp .eq 10, 3) := by decide +kernel
theorem dX5_pair_106 : decode cX5_pair 106 = .ok (.iconst 4, 1) := by decide +kernel
theorem dX5_pair_107 : decode cX5_pair 107 = .ok (.iload 6, 2) := by decide +kernel
theorem dX5_pair_109 : decode cX5_pair 109 = .ok (.iadd, 1) := by decide +kernel
theorem dX5_pair_110 : decode cX5_pair 110 = .ok (.goto 4, 3) := by decide +kernel
theorem dX5_pair_113 : decode cX5_pair 113 = .ok (.iconst 0, 1) := by decide +kernel
theorem dX5_pair_114 : decode cX5_pair 114 = .ok (.ireturn, 1) := by decide +kernel
set_option maxRecDepth 20000 in
theorem ggX5_drawn_X5_look : GoodIn wsX5_drawn wsX5_look := goodIn_r _ [8, 9, 1, 10, 11, 12, 13, 14, 15, 16, 17, 18, 19, 20, 21, 22, 23, 24, 25, 26, 27, 28, 29, 30, 31, 32, 33, 34, 35, 36, 37, 38, 39, 40, 41, 42, 43, 44, 45, 46, 47, 48, 49, 50, 51, 52, 53, 54, 55, 56, 57, 58, 59, 60, 61, 62, 63, 64, 65, 66, 67, 68, 69, 70, 71, 72, 73, 74, 75, 76, 77, 78, 79, 80, 81, 82, 83, 84, 85, 86, 87, 88, 89, 90, 91, 96, 97, 98, 99, 100, 101, 102, 103, 104, 105, 106, 107, 108, 109, 113, 114, 115, 116, 117, 118, 119, 110, 111, 112] (by decide +kernel) (by decide +kernel)
set_option maxRecDepth 20000 in
theorem gX5_drawn_X5_look : GoodIn wsX5_drawn (wsV RX5 159 RX5 yX5_look wsX5_look) := goodIn_app (goodIn_of _ (by decide +kernel)) ggX5_drawn_X5_look
set_option maxRecDepth 20000 in
theorem ggX5_drawn_X2_slotDrawn : GoodIn wsX5_drawn wsX2_slotDrawn := goodIn_r _ [95, 55, 56, 113, 114, 115, 116, 117, 118, 119] (by decide +kernel) (by decide +kernel)
set_option maxRecDepth 20000 in
theorem gX5_drawn_X2_slotDrawn : GoodIn wsX5_drawn (wsV RX5 187 RX2 yX2_slotDrawn wsX2_slotDrawn) := goodIn_app (goodIn_of _ (by decide +kernel)) ggX5_drawn_X2_slotDrawn
theorem dX5_drawn_0 : decode cX5_drawn 0 = .ok (.iload_n 1, 1) := by decide +kernel
theorem dX5_drawn_1 : decode cX5_drawn 1 = .ok (.ifCond .ge 6, 3) := by decide +kernel
theorem dX5_drawn_4 : decode cX5_drawn 4 = .ok (.bipush (-2), 2) := by decide +kernel
theorem dX5_drawn_6 : decode cX5_drawn 6 = .ok (.ireturn, 1) := by decide +kernel
theorem dX5_drawn_7 : decode cX5_drawn 7 = .ok (.aload_n 0, 1) := by decide +kernel
theorem dX5_drawn_8 : decode cX5_drawn 8 = .ok (.invokevirtual 159, 3) := by decide +kernel
theorem dX5_drawn_11 : decode cX5_drawn 11 = .ok (.iload_n 1, 1) := by decide +kernel
theorem dX5_drawn_12 : decode cX5_drawn 12 = .ok (.invokevirtual 187, 3) := by decide +kernel
theorem dX5_drawn_15 : decode cX5_drawn 15 = .ok (.istore_n 2, 1) := by decide +kernel
theorem dX5_drawn_16 : decode cX5_drawn 16 = .ok (.iload_n 2, 1) := by decide +kernel
theorem dX5_drawn_17 : decode cX5_drawn 17 = .ok (.iconst (-1), 1) := by decide +kernel
theorem dX5_drawn_18 : decode cX5_drawn 18 = .ok (.if_icmp .ne 8, 3) := by decide +kernel
theorem dX5_drawn_21 : decode cX5_drawn 21 = .ok (.bipush (-5), 2) := by decide +kernel
theorem dX5_drawn_23 : decode cX5_drawn 23 = .ok (.goto 15, 3) := by decide +kernel
theorem dX5_drawn_26 : decode cX5_drawn 26 = .ok (.aload_n 0, 1) := by decide +kernel
theorem dX5_drawn_27 : decode cX5_drawn 27 = .ok (.getfield 10, 3) := by decide +kernel
theorem dX5_drawn_30 : decode cX5_drawn 30 = .ok (.getfield 72, 3) := by decide +kernel
theorem dX5_drawn_33 : decode cX5_drawn 33 = .ok (.iload_n 2, 1) := by decide +kernel
theorem dX5_drawn_34 : decode cX5_drawn 34 = .ok (.aaload, 1) := by decide +kernel
theorem dX5_drawn_35 : decode cX5_drawn 35 = .ok (.getfield 156, 3) := by decide +kernel
theorem dX5_drawn_38 : decode cX5_drawn 38 = .ok (.ireturn, 1) := by decide +kernel
set_option maxRecDepth 20000 in
theorem ggX5_total_X5_look : GoodIn wsX5_total wsX5_look := goodIn_r _ [15, 16, 1, 17, 18, 19, 20, 21, 22, 23, 24, 25, 26, 27, 28, 29, 30, 31, 32, 33, 34, 35, 36, 37, 38, 39, 40, 41, 42, 43, 44, 45, 46, 47, 48, 49, 50, 51, 52, 53, 54, 55, 56, 57, 58, 59, 60, 61, 62, 63, 64, 65, 66, 67, 68, 69, 70, 71, 72, 73, 74, 75, 76, 77, 78, 79, 80, 81, 82, 83, 84, 85, 86, 87, 88, 89, 90, 91, 92, 93, 94, 95, 96, 97, 98, 170, 171, 172, 173, 174, 175, 176, 177, 178, 179, 180, 181, 182, 183, 184, 185, 186, 187, 188, 189, 190, 197, 198, 199] (by decide +kernel) (by decide +kernel)
set_option maxRecDepth 20000 in
theorem gX5_total_X5_look : GoodIn wsX5_total (wsV RX5 159 RX5 yX5_look wsX5_look) := goodIn_app (goodIn_of _ (by decide +kernel)) ggX5_total_X5_look
set_option maxRecDepth 20000 in
theorem ggX5_total_X2_hidings : GoodIn wsX5_total wsX2_hidings := goodIn_r _ [102, 23, 103, 104, 105, 20, 106, 24, 107, 108, 109, 110, 111, 112, 113, 184, 185, 186, 187, 188, 189, 190] (by decide +kernel) (by decide +kernel)
set_option maxRecDepth 20000 in
theorem gX5_total_X2_hidings : GoodIn wsX5_total (wsV RX5 193 RX2 yX2_hidings wsX2_hidings) := goodIn_app (goodIn_of _ (by decide +kernel)) ggX5_total_X2_hidings
set_option maxRecDepth 20000 in
theorem ggX5_total_X2_boxesInRings : GoodIn wsX5_total wsX2_boxesInRings := goodIn_r _ [117, 23, 118, 119, 120, 20, 121, 48, 53, 54, 55, 184, 185, 186, 187, 188, 189, 190] (by decide +kernel) (by decide +kernel)
set_option maxRecDepth 20000 in
theorem gX5_total_X2_boxesInRings : GoodIn wsX5_total (wsV RX5 199 RX2 yX2_boxesInRings wsX2_boxesInRings) := goodIn_app (goodIn_of _ (by decide +kernel)) ggX5_total_X2_boxesInRings
set_option maxRecDepth 20000 in
theorem ggX5_total_X2_shortestRing : GoodIn wsX5_total wsX2_shortestRing := goodIn_r _ [125, 23, 126, 127, 128, 20, 129, 24, 53, 54, 55, 130, 131, 132, 133, 184, 185, 186, 187, 188, 189, 190] (by decide +kernel) (by decide +kernel)
set_option maxRecDepth 20000 in
theorem gX5_total_X2_shortestRing : GoodIn wsX5_total (wsV RX5 202 RX2 yX2_shortestRing wsX2_shortestRing) := goodIn_app (goodIn_of _ (by decide +kernel)) ggX5_total_X2_shortestRing
set_option maxRecDepth 20000 in
theorem ggX5_total_X2_greatestLayer : GoodIn wsX5_total wsX2_greatestLayer := goodIn_r _ [137, 23, 60, 95, 96, 97, 98, 184, 185, 186, 187, 188, 189, 190] (by decide +kernel) (by decide +kernel)
set_option maxRecDepth 20000 in
theorem gX5_total_X2_greatestLayer : GoodIn wsX5_total (wsV RX5 205 RX2 yX2_greatestLayer wsX2_greatestLayer) := goodIn_app (goodIn_of _ (by decide +kernel)) ggX5_total_X2_greatestLayer
set_option maxRecDepth 20000 in
theorem ggX5_total_X3_volume : GoodIn wsX5_total wsX3_volume := goodIn_r _ [141, 142, 78, 83, 84, 85, 32, 86, 87, 88, 89, 90, 35, 34, 179, 180, 181, 182, 183, 197, 198, 199] (by decide +kernel) (by decide +kernel)
set_option maxRecDepth 20000 in
theorem gX5_total_X3_volume : GoodIn wsX5_total (wsV RX5 211 RX3 yX3_volume wsX3_volume) := goodIn_app (goodIn_of _ (by decide +kernel)) ggX5_total_X3_volume
set_option maxRecDepth 20000 in
theorem ggX5_total_X3_shadow : GoodIn wsX5_total wsX3_shadow := goodIn_r _ [146, 142, 147, 148, 149, 75, 150, 78, 151, 152, 153, 154, 155, 32, 156, 35, 34, 157, 158, 159, 160, 161, 162, 163, 164, 165, 166, 167, 168, 87, 88, 89, 90, 169, 108, 109, 110, 111, 112, 113, 179, 180, 181, 182, 183, 197, 198, 199] (by decide +kernel) (by decide +kernel)
set_option maxRecDepth 20000 in
theorem gX5_total_X3_shadow : GoodIn wsX5_total (wsV RX5 212 RX3 yX3_shadow wsX3_shadow) := goodIn_app (goodIn_of _ (by decide +kernel)) ggX5_total_X3_shadow
theorem dX5_total_0 : decode cX5_total 0 = .ok (.iload_n 1, 1) := by decide +kernel
theorem dX5_total_1 : decode cX5_total 1 = .ok (.tableswitch 171 0 12 #[67, 75, 83, 91, 99, 107, 115, 123, 131, 139, 147, 155, 163], 67) := by decide +kernel
theorem dX5_total_68 : decode cX5_total 68 = .ok (.aload_n 0, 1) := by decide +kernel
theorem dX5_total_69 : decode cX5_total 69 = .ok (.getfield 10, 3) := by decide +kernel
theorem dX5_total_72 : decode cX5_total 72 = .ok (.getfield 118, 3) := by decide +kernel
theorem dX5_total_75 : decode cX5_total 75 = .ok (.ireturn, 1) := by decide +kernel
theorem dX5_total_76 : decode cX5_total 76 = .ok (.aload_n 0, 1) := by decide +kernel
theorem dX5_total_77 : decode cX5_total 77 = .ok (.getfield 10, 3) := by decide +kernel
theorem dX5_total_80 : decode cX5_total 80 = .ok (.getfield 190, 3) := by decide +kernel
theorem dX5_total_83 : decode cX5_total 83 = .ok (.ireturn, 1) := by decide +kernel
theorem dX5_total_84 : decode cX5_total 84 = .ok (.aload_n 0, 1) := by decide +kernel
theorem dX5_total_85 : decode cX5_total 85 = .ok (.invokevirtual 159, 3) := by decide +kernel
theorem dX5_total_88 : decode cX5_total 88 = .ok (.invokevirtual 193, 3) := by decide +kernel
theorem dX5_total_91 : decode cX5_total 91 = .ok (.ireturn, 1) := by decide +kernel
theorem dX5_total_92 : decode cX5_total 92 = .ok (.aload_n 0, 1) := by decide +kernel
theorem dX5_total_93 : decode cX5_total 93 = .ok (.invokevirtual 159, 3) := by decide +kernel
theorem dX5_total_96 : decode cX5_total 96 = .ok (.getfield 196, 3) := by decide +kernel
theorem dX5_total_99 : decode cX5_total 99 = .ok (.ireturn, 1) := by decide +kernel
theorem dX5_total_100 : decode cX5_total 100 = .ok (.aload_n 0, 1) := by decide +kernel
theorem dX5_total_101 : decode cX5_total 101 = .ok (.invokevirtual 159, 3) := by decide +kernel
theorem dX5_total_104 : decode cX5_total 104 = .ok (.invokevirtual 199, 3) := by decide +kernel
theorem dX5_total_107 : decode cX5_total 107 = .ok (.ireturn, 1) := by decide +kernel
theorem dX5_total_108 : decode cX5_total 108 = .ok (.aload_n 0, 1) := by decide +kernel
theorem dX5_total_109 : decode cX5_total 109 = .ok (.invokevirtual 159, 3) := by decide +kernel
theorem dX5_total_112 : decode cX5_total 112 = .ok (.invokevirtual 202, 3) := by decide +kernel
theorem dX5_total_115 : decode cX5_total 115 = .ok (.ireturn, 1) := by decide +kernel
theorem dX5_total_116 : decode cX5_total 116 = .ok (.aload_n 0, 1) := by decide +kernel
theorem dX5_total_117 : decode cX5_total 117 = .ok (.invokevirtual 159, 3) := by decide +kernel
theorem dX5_total_120 : decode cX5_total 120 = .ok (.invokevirtual 205, 3) := by decide +kernel
theorem dX5_total_123 : decode cX5_total 123 = .ok (.ireturn, 1) := by decide +kernel
theorem dX5_total_124 : decode cX5_total 124 = .ok (.aload_n 0, 1) := by decide +kernel
theorem dX5_total_125 : decode cX5_total 125 = .ok (.getfield 10, 3) := by decide +kernel
theorem dX5_total_128 : decode cX5_total 128 = .ok (.getfield 208, 3) := by decide +kernel
theorem dX5_total_131 : decode cX5_total 131 = .ok (.ireturn, 1) := by decide +kernel
theorem dX5_total_132 : decode cX5_total 132 = .ok (.aload_n 0, 1) := by decide +kernel
theorem dX5_total_133 : decode cX5_total 133 = .ok (.getfield 10, 3) := by decide +kernel
theorem dX5_total_136 : decode cX5_total 136 = .ok (.invokevirtual 211, 3) := by decide +kernel
theorem dX5_total_139 : decode cX5_total 139 = .ok (.ireturn, 1) := by decide +kernel
theorem dX5_total_140 : decode cX5_total 140 = .ok (.aload_n 0, 1) := by decide +kernel
theorem dX5_total_141 : decode cX5_total 141 = .ok (.getfield 10, 3) := by decide +kernel
theorem dX5_total_144 : decode cX5_total 144 = .ok (.invokevirtual 212, 3) := by decide +kernel
theorem dX5_total_147 : decode cX5_total 147 = .ok (.ireturn, 1) := by decide +kernel
theorem dX5_total_148 : decode cX5_total 148 = .ok (.aload_n 0, 1) := by decide +kernel
theorem dX5_total_149 : decode cX5_total 149 = .ok (.getfield 10, 3) := by decide +kernel
theorem dX5_total_152 : decode cX5_total 152 = .ok (.getfield 132, 3) := by decide +kernel
theorem dX5_total_155 : decode cX5_total 155 = .ok (.ireturn, 1) := by decide +kernel
theorem dX5_total_156 : decode cX5_total 156 = .ok (.aload_n 0, 1) := by decide +kernel
theorem dX5_total_157 : decode cX5_total 157 = .ok (.getfield 25, 3) := by decide +kernel
theorem dX5_total_160 : decode cX5_total 160 = .ok (.getfield 152, 3) := by decide +kernel
theorem dX5_total_163 : decode cX5_total 163 = .ok (.ireturn, 1) := by decide +kernel
theorem dX5_total_164 : decode cX5_total 164 = .ok (.aload_n 0, 1) := by decide +kernel
theorem dX5_total_165 : decode cX5_total 165 = .ok (.getfield 32, 3) := by decide +kernel
theorem dX5_total_168 : decode cX5_total 168 = .ok (.getfield 139, 3) := by decide +kernel
theorem dX5_total_171 : decode cX5_total 171 = .ok (.ireturn, 1) := by decide +kernel
theorem dX5_total_172 : decode cX5_total 172 = .ok (.bipush (-2), 2) := by decide +kernel
theorem dX5_total_174 : decode cX5_total 174 = .ok (.ireturn, 1) := by decide +kernel
set_option maxRecDepth 20000 in
theorem ggX5_waitsFor_X3_slotOf : GoodIn wsX5_waitsFor wsX3_slotOf := goodIn_r _ [8, 9, 10, 11, 111, 112, 113, 114, 115, 116, 117, 118] (by decide +kernel) (by decide +kernel)
set_option maxRecDepth 20000 in
theorem gX5_waitsFor_X3_slotOf : GoodIn wsX5_waitsFor (wsV RX5 68 RX3 yX3_slotOf wsX3_slotOf) := goodIn_app (goodIn_of _ (by decide +kernel)) ggX5_waitsFor_X3_slotOf
set_option maxRecDepth 20000 in
theorem ggX5_waitsFor_X5_look : GoodIn wsX5_waitsFor wsX5_look := goodIn_r _ [16, 17, 1, 18, 19, 20, 21, 22, 23, 24, 25, 26, 27, 28, 29, 30, 31, 32, 33, 34, 35, 36, 37, 38, 39, 40, 41, 42, 43, 44, 45, 46, 47, 48, 49, 50, 51, 52, 53, 54, 55, 56, 57, 58, 59, 60, 61, 62, 63, 64, 65, 66, 67, 68, 69, 70, 71, 72, 73, 74, 75, 7, 76, 77, 10, 78, 79, 80, 81, 82, 83, 84, 85, 86, 87, 88, 89, 90, 91, 92, 93, 94, 95, 96, 97, 102, 103, 104, 105, 106, 107, 108, 109, 110, 111, 112, 113, 114, 115, 119, 120, 121, 122, 123, 124, 125, 116, 117, 118] (by decide +kernel) (by decide +kernel)
set_option maxRecDepth 20000 in
theorem gX5_waitsFor_X5_look : GoodIn wsX5_waitsFor (wsV RX5 159 RX5 yX5_look wsX5_look) := goodIn_app (goodIn_of _ (by decide +kernel)) ggX5_waitsFor_X5_look
set_option maxRecDepth 20000 in
theorem ggX5_waitsFor_X2_firstNotDrawnUnder : GoodIn wsX5_waitsFor wsX2_firstNotDrawnUnder := goodIn_r _ [101, 24, 25, 62, 54, 55, 21, 56, 119, 120, 121, 122, 123, 124, 125] (by decide +kernel) (by decide +kernel)
set_option maxRecDepth 20000 in
theorem gX5_waitsFor_X2_firstNotDrawnUnder : GoodIn wsX5_waitsFor (wsV RX5 215 RX2 yX2_firstNotDrawnUnder wsX2_firstNotDrawnUnder) := goodIn_app (goodIn_of _ (by decide +kernel)) ggX5_waitsFor_X2_firstNotDrawnUnder
theorem dX5_waitsFor_0 : decode cX5_waitsFor 0 = .ok (.aload_n 0, 1) := by decide +kernel
theorem dX5_waitsFor_1 : decode cX5_waitsFor 1 = .ok (.getfield 10, 3) := by decide +kernel
theorem dX5_waitsFor_4 : decode cX5_waitsFor 4 = .ok (.iload_n 1, 1) := by decide +kernel
theorem dX5_waitsFor_5 : decode cX5_waitsFor 5 = .ok (.invokevirtual 68, 3) := by decide +kernel
theorem dX5_waitsFor_8 : decode cX5_waitsFor 8 = .ok (.istore_n 2, 1) := by decide +kernel
theorem dX5_waitsFor_9 : decode cX5_waitsFor 9 = .ok (.iload_n 2, 1) := by decide +kernel
theorem dX5_waitsFor_10 : decode cX5_waitsFor 10 = .ok (.iconst (-1), 1) := by decide +kernel
theorem dX5_waitsFor_11 : decode cX5_waitsFor 11 = .ok (.if_icmp .ne 5, 3) := by decide +kernel
theorem dX5_waitsFor_14 : decode cX5_waitsFor 14 = .ok (.iconst (-1), 1) := by decide +kernel
theorem dX5_waitsFor_15 : decode cX5_waitsFor 15 = .ok (.ireturn, 1) := by decide +kernel
theorem dX5_waitsFor_16 : decode cX5_waitsFor 16 = .ok (.aload_n 0, 1) := by decide +kernel
theorem dX5_waitsFor_17 : decode cX5_waitsFor 17 = .ok (.invokevirtual 159, 3) := by decide +kernel
theorem dX5_waitsFor_20 : decode cX5_waitsFor 20 = .ok (.iload_n 2, 1) := by decide +kernel
theorem dX5_waitsFor_21 : decode cX5_waitsFor 21 = .ok (.invokevirtual 215, 3) := by decide +kernel
theorem dX5_waitsFor_24 : decode cX5_waitsFor 24 = .ok (.istore_n 3, 1) := by decide +kernel
theorem dX5_waitsFor_25 : decode cX5_waitsFor 25 = .ok (.iload_n 3, 1) := by decide +kernel
theorem dX5_waitsFor_26 : decode cX5_waitsFor 26 = .ok (.iconst (-1), 1) := by decide +kernel
theorem dX5_waitsFor_27 : decode cX5_waitsFor 27 = .ok (.if_icmp .ne 8, 3) := by decide +kernel
theorem dX5_waitsFor_30 : decode cX5_waitsFor 30 = .ok (.bipush (-5), 2) := by decide +kernel
theorem dX5_waitsFor_32 : decode cX5_waitsFor 32 = .ok (.goto 15, 3) := by decide +kernel
theorem dX5_waitsFor_35 : decode cX5_waitsFor 35 = .ok (.aload_n 0, 1) := by decide +kernel
theorem dX5_waitsFor_36 : decode cX5_waitsFor 36 = .ok (.getfield 10, 3) := by decide +kernel
theorem dX5_waitsFor_39 : decode cX5_waitsFor 39 = .ok (.getfield 72, 3) := by decide +kernel
theorem dX5_waitsFor_42 : decode cX5_waitsFor 42 = .ok (.iload_n 3, 1) := by decide +kernel
theorem dX5_waitsFor_43 : decode cX5_waitsFor 43 = .ok (.aaload, 1) := by decide +kernel
theorem dX5_waitsFor_44 : decode cX5_waitsFor 44 = .ok (.getfield 156, 3) := by decide +kernel
theorem dX5_waitsFor_47 : decode cX5_waitsFor 47 = .ok (.ireturn, 1) := by decide +kernel
set_option maxRecDepth 20000 in
theorem ggX5_breaks_X3_copyFrom : GoodIn wsX5_breaks wsX3_copyFrom := goodIn_r _ [7, 8, 9, 10, 11, 12, 13, 14, 15, 16, 17, 18, 19, 20, 21, 22, 23, 24, 145, 146, 147, 148, 149, 150, 151, 152] (by decide +kernel) (by decide +kernel)
set_option maxRecDepth 20000 in
theorem gX5_breaks_X3_copyFrom : GoodIn wsX5_breaks (wsV RX5 57 RX3 yX3_copyFrom wsX3_copyFrom) := goodIn_app (goodIn_of _ (by decide +kernel)) ggX5_breaks_X3_copyFrom
set_option maxRecDepth 20000 in
theorem ggX5_breaks_X5_breakOne : GoodIn wsX5_breaks wsX5_breakOne := goodIn_r _ [29, 30, 31, 32, 33, 34, 35, 36, 37, 38, 39, 40, 41, 42, 43, 44, 45, 46, 47, 16, 48, 19, 24, 49, 50, 51, 52, 53, 54, 55, 56, 57, 58, 59, 60, 61, 62, 21, 22, 23, 63, 64, 65, 66, 67, 68, 69, 70, 71, 72, 73, 74, 75, 76, 77, 78, 79, 80, 81, 82, 83, 84, 6, 85, 11, 12, 86, 87, 88, 89, 90, 91, 92, 93, 94, 95, 96, 97, 98, 99, 100, 101, 102, 103, 104, 105, 106, 107, 108, 109, 110, 111, 112, 113, 114, 115, 116, 117, 118, 119, 120, 121, 122, 123, 8, 124, 125, 126, 127, 128, 129, 10, 130, 131, 132, 133, 9, 134, 135, 13, 14, 15, 17, 18, 20, 136, 137, 138, 139, 140, 141, 142, 143, 144, 145, 146, 147, 148, 149, 150, 151, 152, 153, 154, 155, 156, 157, 158, 159] (by decide +kernel) (by decide +kernel)
set_option maxRecDepth 20000 in
theorem gX5_breaks_X5_breakOne : GoodIn wsX5_breaks (wsV RX5 114 RX5 yX5_breakOne wsX5_breakOne) := goodIn_app (goodIn_of _ (by decide +kernel)) ggX5_breaks_X5_breakOne
theorem dX5_breaks_0 : decode cX5_breaks 0 = .ok (.aload_n 0, 1) := by decide +kernel
theorem dX5_breaks_1 : decode cX5_breaks 1 = .ok (.getfield 16, 3) := by decide +kernel
theorem dX5_breaks_4 : decode cX5_breaks 4 = .ok (.aload_n 0, 1) := by decide +kernel
theorem dX5_breaks_5 : decode cX5_breaks 5 = .ok (.getfield 10, 3) := by decide +kernel
theorem dX5_breaks_8 : decode cX5_breaks 8 = .ok (.invokevirtual 57, 3) := by decide +kernel
theorem dX5_breaks_11 : decode cX5_breaks 11 = .ok (.iconst 0, 1) := by decide +kernel
theorem dX5_breaks_12 : decode cX5_breaks 12 = .ok (.istore_n 1, 1) := by decide +kernel
theorem dX5_breaks_13 : decode cX5_breaks 13 = .ok (.iload_n 1, 1) := by decide +kernel
theorem dX5_breaks_14 : decode cX5_breaks 14 = .ok (.bipush 16, 2) := by decide +kernel
theorem dX5_breaks_16 : decode cX5_breaks 16 = .ok (.if_icmp .gt 32, 3) := by decide +kernel
theorem dX5_breaks_19 : decode cX5_breaks 19 = .ok (.aload_n 0, 1) := by decide +kernel
theorem dX5_breaks_20 : decode cX5_breaks 20 = .ok (.aload_n 0, 1) := by decide +kernel
theorem dX5_breaks_21 : decode cX5_breaks 21 = .ok (.getfield 16, 3) := by decide +kernel
theorem dX5_breaks_24 : decode cX5_breaks 24 = .ok (.invokevirtual 114, 3) := by decide +kernel
theorem dX5_breaks_27 : decode cX5_breaks 27 = .ok (.istore_n 2, 1) := by decide +kernel
theorem dX5_breaks_28 : decode cX5_breaks 28 = .ok (.iload_n 2, 1) := by decide +kernel
theorem dX5_breaks_29 : decode cX5_breaks 29 = .ok (.bipush (-5), 2) := by decide +kernel
theorem dX5_breaks_31 : decode cX5_breaks 31 = .ok (.if_icmp .ne 5, 3) := by decide +kernel
theorem dX5_breaks_34 : decode cX5_breaks 34 = .ok (.iload_n 1, 1) := by decide +kernel
theorem dX5_breaks_35 : decode cX5_breaks 35 = .ok (.ireturn, 1) := by decide +kernel
theorem dX5_breaks_36 : decode cX5_breaks 36 = .ok (.iload_n 2, 1) := by decide +kernel
theorem dX5_breaks_37 : decode cX5_breaks 37 = .ok (.ifCond .ge 5, 3) := by decide +kernel
theorem dX5_breaks_40 : decode cX5_breaks 40 = .ok (.iload_n 2, 1) := by decide +kernel
theorem dX5_breaks_41 : decode cX5_breaks 41 = .ok (.ireturn, 1) := by decide +kernel
theorem dX5_breaks_42 : decode cX5_breaks 42 = .ok (.iinc 1 1, 3) := by decide +kernel
theorem dX5_breaks_45 : decode cX5_breaks 45 = .ok (.goto (-32), 3) := by decide +kernel
theorem dX5_breaks_48 : decode cX5_breaks 48 = .ok (.bipush (-3), 2) := by decide +kernel
theorem dX5_breaks_50 : decode cX5_breaks 50 = .ok (.ireturn, 1) := by decide +kernel
set_option maxRecDepth 20000 in
theorem ggX5_drawnWithout_X3_slotOf : GoodIn wsX5_drawnWithout wsX3_slotOf := goodIn_r _ [9, 10, 11, 12, 125, 126, 127, 128, 129, 130, 131, 132] (by decide +kernel) (by decide +kernel)
set_option maxRecDepth 20000 in
theorem gX5_drawnWithout_X3_slotOf : GoodIn wsX5_drawnWithout (wsV RX5 68 RX3 yX3_slotOf wsX3_slotOf) := goodIn_app (goodIn_of _ (by decide +kernel)) ggX5_drawnWithout_X3_slotOf
set_option maxRecDepth 20000 in
theorem ggX5_drawnWithout_X3_copyFrom : GoodIn wsX5_drawnWithout wsX3_copyFrom := goodIn_r _ [16, 10, 17, 18, 19, 11, 20, 21, 22, 23, 24, 25, 26, 27, 28, 29, 30, 31, 125, 126, 127, 128, 129, 130, 131, 132] (by decide +kernel) (by decide +kernel)
set_option maxRecDepth 20000 in
theorem gX5_drawnWithout_X3_copyFrom : GoodIn wsX5_drawnWithout (wsV RX5 57 RX3 yX3_copyFrom wsX3_copyFrom) := goodIn_app (goodIn_of _ (by decide +kernel)) ggX5_drawnWithout_X3_copyFrom
set_option maxRecDepth 20000 in
theorem ggX5_drawnWithout_X3_takeOut : GoodIn wsX5_drawnWithout wsX3_takeOut := goodIn_r _ [35, 10, 11, 20, 21, 22, 23, 24, 25, 26, 27, 28, 29, 30, 31, 125, 126, 127, 128, 129, 130, 131, 132] (by decide +kernel) (by decide +kernel)
set_option maxRecDepth 20000 in
theorem gX5_drawnWithout_X3_takeOut : GoodIn wsX5_drawnWithout (wsV RX5 80 RX3 yX3_takeOut wsX3_takeOut) := goodIn_app (goodIn_of _ (by decide +kernel)) ggX5_drawnWithout_X3_takeOut
set_option maxRecDepth 20000 in
theorem ggX5_drawnWithout_X2_look : GoodIn wsX5_drawnWithout wsX2_look := goodIn_r _ [40, 41, 42, 43, 44, 45, 39, 46, 47, 48, 49, 50, 23, 51, 26, 31, 52, 53, 54, 55, 56, 57, 58, 59, 60, 61, 62, 63, 64, 65, 28, 29, 30, 66, 67, 68, 69, 70, 71, 72, 73, 74, 75, 76, 77, 78, 79, 80, 81, 82, 83, 84, 85, 86, 87, 8, 88, 19, 11, 89, 90, 91, 92, 93, 94, 95, 96, 97, 98, 99, 100, 101, 102, 103, 104, 105, 106, 107, 108, 125, 126, 127, 128, 129, 118, 119, 120, 121, 122, 123, 124, 130, 131, 132] (by decide +kernel) (by decide +kernel)
set_option maxRecDepth 20000 in
theorem gX5_drawnWithout_X2_look : GoodIn wsX5_drawnWithout (wsV RX5 125 RX2 yX2_look wsX2_look) := goodIn_app (goodIn_of _ (by decide +kernel)) ggX5_drawnWithout_X2_look
theorem dX5_drawnWithout_0 : decode cX5_drawnWithout 0 = .ok (.aload_n 0, 1) := by decide +kernel
theorem dX5_drawnWithout_1 : decode cX5_drawnWithout 1 = .ok (.getfield 10, 3) := by decide +kernel
theorem dX5_drawnWithout_4 : decode cX5_drawnWithout 4 = .ok (.iload_n 1, 1) := by decide +kernel
theorem dX5_drawnWithout_5 : decode cX5_drawnWithout 5 = .ok (.invokevirtual 68, 3) := by decide +kernel
theorem dX5_drawnWithout_8 : decode cX5_drawnWithout 8 = .ok (.istore_n 2, 1) := by decide +kernel
theorem dX5_drawnWithout_9 : decode cX5_drawnWithout 9 = .ok (.iload_n 2, 1) := by decide +kernel
theorem dX5_drawnWithout_10 : decode cX5_drawnWithout 10 = .ok (.iconst (-1), 1) := by decide +kernel
theorem dX5_drawnWithout_11 : decode cX5_drawnWithout 11 = .ok (.if_icmp .ne 5, 3) := by decide +kernel
theorem dX5_drawnWithout_14 : decode cX5_drawnWithout 14 = .ok (.iconst (-1), 1) := by decide +kernel
theorem dX5_drawnWithout_15 : decode cX5_drawnWithout 15 = .ok (.ireturn, 1) := by decide +kernel
theorem dX5_drawnWithout_16 : decode cX5_drawnWithout 16 = .ok (.aload_n 0, 1) := by decide +kernel
theorem dX5_drawnWithout_17 : decode cX5_drawnWithout 17 = .ok (.getfield 16, 3) := by decide +kernel
theorem dX5_drawnWithout_20 : decode cX5_drawnWithout 20 = .ok (.aload_n 0, 1) := by decide +kernel
theorem dX5_drawnWithout_21 : decode cX5_drawnWithout 21 = .ok (.getfield 10, 3) := by decide +kernel
theorem dX5_drawnWithout_24 : decode cX5_drawnWithout 24 = .ok (.invokevirtual 57, 3) := by decide +kernel
theorem dX5_drawnWithout_27 : decode cX5_drawnWithout 27 = .ok (.aload_n 0, 1) := by decide +kernel
theorem dX5_drawnWithout_28 : decode cX5_drawnWithout 28 = .ok (.getfield 16, 3) := by decide +kernel
theorem dX5_drawnWithout_31 : decode cX5_drawnWithout 31 = .ok (.iload_n 2, 1) := by decide +kernel
theorem dX5_drawnWithout_32 : decode cX5_drawnWithout 32 = .ok (.invokevirtual 80, 3) := by decide +kernel
theorem dX5_drawnWithout_35 : decode cX5_drawnWithout 35 = .ok (.aload_n 0, 1) := by decide +kernel
theorem dX5_drawnWithout_36 : decode cX5_drawnWithout 36 = .ok (.getfield 39, 3) := by decide +kernel
theorem dX5_drawnWithout_39 : decode cX5_drawnWithout 39 = .ok (.aload_n 0, 1) := by decide +kernel
theorem dX5_drawnWithout_40 : decode cX5_drawnWithout 40 = .ok (.getfield 16, 3) := by decide +kernel
theorem dX5_drawnWithout_43 : decode cX5_drawnWithout 43 = .ok (.invokevirtual 125, 3) := by decide +kernel
theorem dX5_drawnWithout_46 : decode cX5_drawnWithout 46 = .ok (.aload_n 0, 1) := by decide +kernel
theorem dX5_drawnWithout_47 : decode cX5_drawnWithout 47 = .ok (.getfield 39, 3) := by decide +kernel
theorem dX5_drawnWithout_50 : decode cX5_drawnWithout 50 = .ok (.getfield 196, 3) := by decide +kernel
theorem dX5_drawnWithout_53 : decode cX5_drawnWithout 53 = .ok (.ireturn, 1) := by decide +kernel
theorem dX5_isDirection_0 : decode cX5_isDirection 0 = .ok (.iload_n 0, 1) := by decide +kernel
theorem dX5_isDirection_1 : decode cX5_isDirection 1 = .ok (.ifCond .lt 12, 3) := by decide +kernel
theorem dX5_isDirection_4 : decode cX5_isDirection 4 = .ok (.iload_n 0, 1) := by decide +kernel
theorem dX5_isDirection_5 : decode cX5_isDirection 5 = .ok (.iconst 3, 1) := by decide +kernel
theorem dX5_isDirection_6 : decode cX5_isDirection 6 = .ok (.if_icmp .ge 7, 3) := by decide +kernel
theorem dX5_isDirection_9 : decode cX5_isDirection 9 = .ok (.iconst 1, 1) := by decide +kernel
theorem dX5_isDirection_10 : decode cX5_isDirection 10 = .ok (.goto 4, 3) := by decide +kernel
theorem dX5_isDirection_13 : decode cX5_isDirection 13 = .ok (.iconst 0, 1) := by decide +kernel
theorem dX5_isDirection_14 : decode cX5_isDirection 14 = .ok (.ireturn, 1) := by decide +kernel
set_option maxRecDepth 20000 in
theorem ggX5_look_X2_look : GoodIn wsX5_look wsX2_look := goodIn_r _ [7, 8, 9, 10, 11, 12, 6, 13, 14, 15, 16, 17, 18, 19, 20, 21, 22, 23, 24, 25, 26, 27, 28, 29, 30, 31, 32, 33, 34, 35, 36, 37, 38, 39, 40, 41, 42, 43, 44, 45, 46, 47, 48, 49, 50, 51, 52, 53, 54, 55, 56, 57, 58, 59, 60, 61, 62, 63, 64, 65, 66, 67, 68, 69, 70, 71, 72, 73, 74, 75, 76, 77, 78, 79, 80, 81, 82, 83, 84, 94, 95, 96, 97, 98, 99, 100, 101, 102, 103, 104, 105, 106, 107, 108] (by decide +kernel) (by decide +kernel)
set_option maxRecDepth 20000 in
theorem gX5_look_X2_look : GoodIn wsX5_look (wsV RX5 125 RX2 yX2_look wsX2_look) := goodIn_app (goodIn_of _ (by decide +kernel)) ggX5_look_X2_look
theorem dX5_look_0 : decode cX5_look 0 = .ok (.aload_n 0, 1) := by decide +kernel
theorem dX5_look_1 : decode cX5_look 1 = .ok (.getfield 39, 3) := by decide +kernel
theorem dX5_look_4 : decode cX5_look 4 = .ok (.aload_n 0, 1) := by decide +kernel
theorem dX5_look_5 : decode cX5_look 5 = .ok (.getfield 10, 3) := by decide +kernel
theorem dX5_look_8 : decode cX5_look 8 = .ok (.invokevirtual 125, 3) := by decide +kernel
theorem dX5_look_11 : decode cX5_look 11 = .ok (.aload_n 0, 1) := by decide +kernel
theorem dX5_look_12 : decode cX5_look 12 = .ok (.getfield 39, 3) := by decide +kernel
theorem dX5_look_15 : decode cX5_look 15 = .ok (.areturn, 1) := by decide +kernel
set_option maxRecDepth 20000 in
theorem ggX5_adoptTrial_X1_remember : GoodIn wsX5_adoptTrial wsX1_remember := goodIn_r _ [8, 9, 10, 11, 12, 13, 7, 14, 15, 16, 17, 18, 19, 20, 21, 22, 23, 24, 25, 26, 27, 28, 29, 30, 31, 32, 33, 34, 35, 36, 47, 48, 49, 50, 51, 52, 53, 54, 55, 56] (by decide +kernel) (by decide +kernel)
set_option maxRecDepth 20000 in
theorem gX5_adoptTrial_X1_remember : GoodIn wsX5_adoptTrial (wsV RX5 218 RX1 yX1_remember wsX1_remember) := goodIn_app (goodIn_of _ (by decide +kernel)) ggX5_adoptTrial_X1_remember
set_option maxRecDepth 20000 in
theorem ggX5_adoptTrial_X3_copyFrom : GoodIn wsX5_adoptTrial wsX3_copyFrom := goodIn_r _ [19, 20, 21, 22, 23, 24, 25, 26, 27, 28, 29, 30, 31, 32, 33, 34, 35, 36, 49, 50, 51, 52, 53, 54, 55, 56] (by decide +kernel) (by decide +kernel)
set_option maxRecDepth 20000 in
theorem gX5_adoptTrial_X3_copyFrom : GoodIn wsX5_adoptTrial (wsV RX5 57 RX3 yX3_copyFrom wsX3_copyFrom) := goodIn_app (goodIn_of _ (by decide +kernel)) ggX5_adoptTrial_X3_copyFrom
theorem dX5_adoptTrial_0 : decode cX5_adoptTrial 0 = .ok (.aload_n 0, 1) := by decide +kernel
theorem dX5_adoptTrial_1 : decode cX5_adoptTrial 1 = .ok (.getfield 25, 3) := by decide +kernel
theorem dX5_adoptTrial_4 : decode cX5_adoptTrial 4 = .ok (.aload_n 0, 1) := by decide +kernel
theorem dX5_adoptTrial_5 : decode cX5_adoptTrial 5 = .ok (.getfield 10, 3) := by decide +kernel
theorem dX5_adoptTrial_8 : decode cX5_adoptTrial 8 = .ok (.invokevirtual 218, 3) := by decide +kernel
theorem dX5_adoptTrial_11 : decode cX5_adoptTrial 11 = .ok (.aload_n 0, 1) := by decide +kernel
theorem dX5_adoptTrial_12 : decode cX5_adoptTrial 12 = .ok (.getfield 10, 3) := by decide +kernel
theorem dX5_adoptTrial_15 : decode cX5_adoptTrial 15 = .ok (.aload_n 0, 1) := by decide +kernel
theorem dX5_adoptTrial_16 : decode cX5_adoptTrial 16 = .ok (.getfield 16, 3) := by decide +kernel
theorem dX5_adoptTrial_19 : decode cX5_adoptTrial 19 = .ok (.invokevirtual 57, 3) := by decide +kernel
theorem dX5_adoptTrial_22 : decode cX5_adoptTrial 22 = .ok (.return_, 1) := by decide +kernel
set_option maxRecDepth 20000 in
theorem ggX5_enter_X0_lay : GoodIn wsX5_enter wsX0_lay := goodIn_r _ [6, 7, 8, 53, 54, 55] (by decide +kernel) (by decide +kernel)
set_option maxRecDepth 20000 in
theorem gX5_enter_X0_lay : GoodIn wsX5_enter (wsV RX5 221 RX0 yX0_lay wsX0_lay) := goodIn_app (goodIn_of _ (by decide +kernel)) ggX5_enter_X0_lay
set_option maxRecDepth 20000 in
theorem ggX5_enter_X3_isCutBy : GoodIn wsX5_enter wsX3_isCutBy := goodIn_r _ [13, 14, 15, 16, 17, 18, 5, 19, 20, 21, 22, 23, 7, 8, 56, 57, 58, 59, 60, 53, 54, 55] (by decide +kernel) (by decide +kernel)
set_option maxRecDepth 20000 in
theorem gX5_enter_X3_isCutBy : GoodIn wsX5_enter (wsV RX5 99 RX3 yX3_isCutBy wsX3_isCutBy) := goodIn_app (goodIn_of _ (by decide +kernel)) ggX5_enter_X3_isCutBy
set_option maxRecDepth 20000 in
theorem ggX5_enter_X3_isFull : GoodIn wsX5_enter wsX3_isFull := goodIn_r _ [27, 14, 56, 57, 58, 59, 60] (by decide +kernel) (by decide +kernel)
set_option maxRecDepth 20000 in
theorem gX5_enter_X3_isFull : GoodIn wsX5_enter (wsV RX5 106 RX3 yX3_isFull wsX3_isFull) := goodIn_app (goodIn_of _ (by decide +kernel)) ggX5_enter_X3_isFull
set_option maxRecDepth 20000 in
theorem ggX5_enter_X3_append : GoodIn wsX5_enter wsX3_append := goodIn_r _ [31, 15, 14, 32, 33, 34, 25, 26, 12, 27, 35, 36, 37, 5, 38, 39, 7, 40, 41, 42, 43, 8, 56, 57, 58, 59, 60, 53, 54, 55] (by decide +kernel) (by decide +kernel)
set_option maxRecDepth 20000 in
theorem gX5_enter_X3_append : GoodIn wsX5_enter (wsV RX5 225 RX3 yX3_append wsX3_append) := goodIn_app (goodIn_of _ (by decide +kernel)) ggX5_enter_X3_append
theorem dX5_enter_0 : decode cX5_enter 0 = .ok (.aload_n 0, 1) := by decide +kernel
theorem dX5_enter_1 : decode cX5_enter 1 = .ok (.getfield 49, 3) := by decide +kernel
theorem dX5_enter_4 : decode cX5_enter 4 = .ok (.iconst 0, 1) := by decide +kernel
theorem dX5_enter_5 : decode cX5_enter 5 = .ok (.iload_n 2, 1) := by decide +kernel
theorem dX5_enter_6 : decode cX5_enter 6 = .ok (.iload 5, 2) := by decide +kernel
theorem dX5_enter_8 : decode cX5_enter 8 = .ok (.invokevirtual 221, 3) := by decide +kernel
theorem dX5_enter_11 : decode cX5_enter 11 = .ok (.ifCond .eq 36, 3) := by decide +kernel
theorem dX5_enter_14 : decode cX5_enter 14 = .ok (.aload_n 0, 1) := by decide +kernel
theorem dX5_enter_15 : decode cX5_enter 15 = .ok (.getfield 49, 3) := by decide +kernel
theorem dX5_enter_18 : decode cX5_enter 18 = .ok (.iconst 1, 1) := by decide +kernel
theorem dX5_enter_19 : decode cX5_enter 19 = .ok (.iload_n 3, 1) := by decide +kernel
theorem dX5_enter_20 : decode cX5_enter 20 = .ok (.iload 6, 2) := by decide +kernel
theorem dX5_enter_22 : decode cX5_enter 22 = .ok (.invokevirtual 221, 3) := by decide +kernel
theorem dX5_enter_25 : decode cX5_enter 25 = .ok (.ifCond .eq 22, 3) := by decide +kernel
theorem dX5_enter_28 : decode cX5_enter 28 = .ok (.aload_n 0, 1) := by decide +kernel
theorem dX5_enter_29 : decode cX5_enter 29 = .ok (.getfield 49, 3) := by decide +kernel
theorem dX5_enter_32 : decode cX5_enter 32 = .ok (.iconst 2, 1) := by decide +kernel
theorem dX5_enter_33 : decode cX5_enter 33 = .ok (.iload 4, 2) := by decide +kernel
theorem dX5_enter_35 : decode cX5_enter 35 = .ok (.iload 7, 2) := by decide +kernel
theorem dX5_enter_37 : decode cX5_enter 37 = .ok (.invokevirtual 221, 3) := by decide +kernel
theorem dX5_enter_40 : decode cX5_enter 40 = .ok (.ifCond .eq 7, 3) := by decide +kernel
theorem dX5_enter_43 : decode cX5_enter 43 = .ok (.iconst 1, 1) := by decide +kernel
theorem dX5_enter_44 : decode cX5_enter 44 = .ok (.goto 4, 3) := by decide +kernel
theorem dX5_enter_47 : decode cX5_enter 47 = .ok (.iconst 0, 1) := by decide +kernel
theorem dX5_enter_48 : decode cX5_enter 48 = .ok (.istore 8, 2) := by decide +kernel
theorem dX5_enter_50 : decode cX5_enter 50 = .ok (.iload 8, 2) := by decide +kernel
theorem dX5_enter_52 : decode cX5_enter 52 = .ok (.ifCond .ne 6, 3) := by decide +kernel
theorem dX5_enter_55 : decode cX5_enter 55 = .ok (.bipush (-2), 2) := by decide +kernel
theorem dX5_enter_57 : decode cX5_enter 57 = .ok (.ireturn, 1) := by decide +kernel
theorem dX5_enter_58 : decode cX5_enter 58 = .ok (.aload_n 1, 1) := by decide +kernel
theorem dX5_enter_59 : decode cX5_enter 59 = .ok (.aload_n 0, 1) := by decide +kernel
theorem dX5_enter_60 : decode cX5_enter 60 = .ok (.getfield 49, 3) := by decide +kernel
theorem dX5_enter_63 : decode cX5_enter 63 = .ok (.iconst (-1), 1) := by decide +kernel
theorem dX5_enter_64 : decode cX5_enter 64 = .ok (.invokevirtual 99, 3) := by decide +kernel
theorem dX5_enter_67 : decode cX5_enter 67 = .ok (.ifCond .eq 6, 3) := by decide +kernel
theorem dX5_enter_70 : decode cX5_enter 70 = .ok (.bipush (-4), 2) := by decide +kernel
theorem dX5_enter_72 : decode cX5_enter 72 = .ok (.ireturn, 1) := by decide +kernel
theorem dX5_enter_73 : decode cX5_enter 73 = .ok (.aload_n 1, 1) := by decide +kernel
theorem dX5_enter_74 : decode cX5_enter 74 = .ok (.invokevirtual 106, 3) := by decide +kernel
theorem dX5_enter_77 : decode cX5_enter 77 = .ok (.ifCond .eq 8, 3) := by decide +kernel
theorem dX5_enter_80 : decode cX5_enter 80 = .ok (.bipush (-3), 2) := by decide +kernel
theorem dX5_enter_82 : decode cX5_enter 82 = .ok (.goto 11, 3) := by decide +kernel
theorem dX5_enter_85 : decode cX5_enter 85 = .ok (.aload_n 1, 1) := by decide +kernel
theorem dX5_enter_86 : decode cX5_enter 86 = .ok (.aload_n 0, 1) := by decide +kernel
theorem dX5_enter_87 : decode cX5_enter 87 = .ok (.getfield 49, 3) := by decide +kernel
theorem dX5_enter_90 : decode cX5_enter 90 = .ok (.invokevirtual 225, 3) := by decide +kernel
theorem dX5_enter_93 : decode cX5_enter 93 = .ok (.ireturn, 1) := by decide +kernel
set_option maxRecDepth 20000 in
theorem ggX5_breakOne_X2_look : GoodIn wsX5_breakOne wsX2_look := goodIn_r _ [8, 9, 10, 11, 12, 13, 7, 14, 15, 16, 17, 18, 19, 20, 21, 22, 23, 24, 25, 26, 27, 28, 29, 30, 31, 32, 33, 34, 35, 36, 37, 38, 39, 40, 41, 42, 43, 44, 45, 46, 47, 48, 49, 50, 51, 52, 53, 54, 55, 56, 57, 58, 59, 60, 61, 62, 63, 64, 65, 66, 67, 68, 69, 70, 71, 72, 73, 74, 75, 76, 77, 78, 79, 80, 81, 82, 83, 84, 85, 134, 135, 136, 137, 138, 142, 143, 144, 145, 146, 147, 148, 139, 140, 141] (by decide +kernel) (by decide +kernel)
set_option maxRecDepth 20000 in
theorem gX5_breakOne_X2_look : GoodIn wsX5_breakOne (wsV RX5 125 RX2 yX2_look wsX2_look) := goodIn_app (goodIn_of _ (by decide +kernel)) ggX5_breakOne_X2_look
set_option maxRecDepth 20000 in
theorem ggX5_breakOne_X2_greatestInRings : GoodIn wsX5_breakOne wsX2_greatestInRings := goodIn_r _ [89, 10, 15, 90, 91, 92, 7, 93, 35, 40, 41, 42, 94, 71, 72, 19, 73, 74, 75, 76, 77, 22, 21, 142, 143, 144, 145, 146, 147, 148, 134, 135, 136, 137, 138, 139, 140, 141] (by decide +kernel) (by decide +kernel)
set_option maxRecDepth 20000 in
theorem gX5_breakOne_X2_greatestInRings : GoodIn wsX5_breakOne (wsV RX5 227 RX2 yX2_greatestInRings wsX2_greatestInRings) := goodIn_app (goodIn_of _ (by decide +kernel)) ggX5_breakOne_X2_greatestInRings
set_option maxRecDepth 20000 in
theorem ggX5_breakOne_X0_longestDirection : GoodIn wsX5_breakOne wsX0_longestDirection := goodIn_r _ [98, 74, 75, 76, 19, 77, 22, 21, 139, 140, 141] (by decide +kernel) (by decide +kernel)
set_option maxRecDepth 20000 in
theorem gX5_breakOne_X0_longestDirection : GoodIn wsX5_breakOne (wsV RX5 230 RX0 yX0_longestDirection wsX0_longestDirection) := goodIn_app (goodIn_of _ (by decide +kernel)) ggX5_breakOne_X0_longestDirection
set_option maxRecDepth 20000 in
theorem ggX5_breakOne_X0_size : GoodIn wsX5_breakOne wsX0_size := goodIn_r _ [77, 22, 21, 139, 140, 141] (by decide +kernel) (by decide +kernel)
set_option maxRecDepth 20000 in
theorem gX5_breakOne_X0_size : GoodIn wsX5_breakOne (wsV RX5 233 RX0 yX0_size wsX0_size) := goodIn_app (goodIn_of _ (by decide +kernel)) ggX5_breakOne_X0_size
set_option maxRecDepth 20000 in
theorem ggX5_breakOne_X3_isFull : GoodIn wsX5_breakOne wsX3_isFull := goodIn_r _ [103, 104, 134, 135, 136, 137, 138] (by decide +kernel) (by decide +kernel)
set_option maxRecDepth 20000 in
theorem gX5_breakOne_X3_isFull : GoodIn wsX5_breakOne (wsV RX5 106 RX3 yX3_isFull wsX3_isFull) := goodIn_app (goodIn_of _ (by decide +kernel)) ggX5_breakOne_X3_isFull
set_option maxRecDepth 20000 in
theorem ggX5_breakOne_X3_cutInTwo : GoodIn wsX5_breakOne wsX3_cutInTwo := goodIn_r _ [108, 65, 104, 109, 110, 111, 112, 113, 114, 62, 115, 116, 117, 118, 101, 102, 103, 119, 120, 121, 19, 122, 123, 21, 124, 37, 38, 39, 22, 134, 135, 136, 137, 138, 139, 140, 141] (by decide +kernel) (by decide +kernel)
set_option maxRecDepth 20000 in
theorem gX5_breakOne_X3_cutInTwo : GoodIn wsX5_breakOne (wsV RX5 110 RX3 yX3_cutInTwo wsX3_cutInTwo) := goodIn_app (goodIn_of _ (by decide +kernel)) ggX5_breakOne_X3_cutInTwo
theorem dX5_breakOne_0 : decode cX5_breakOne 0 = .ok (.aload_n 0, 1) := by decide +kernel
theorem dX5_breakOne_1 : decode cX5_breakOne 1 = .ok (.getfield 39, 3) := by decide +kernel
theorem dX5_breakOne_4 : decode cX5_breakOne 4 = .ok (.aload_n 1, 1) := by decide +kernel
theorem dX5_breakOne_5 : decode cX5_breakOne 5 = .ok (.invokevirtual 125, 3) := by decide +kernel
theorem dX5_breakOne_8 : decode cX5_breakOne 8 = .ok (.aload_n 0, 1) := by decide +kernel
theorem dX5_breakOne_9 : decode cX5_breakOne 9 = .ok (.getfield 39, 3) := by decide +kernel
theorem dX5_breakOne_12 : decode cX5_breakOne 12 = .ok (.aload_n 1, 1) := by decide +kernel
theorem dX5_breakOne_13 : decode cX5_breakOne 13 = .ok (.invokevirtual 227, 3) := by decide +kernel
theorem dX5_breakOne_16 : decode cX5_breakOne 16 = .ok (.istore_n 2, 1) := by decide +kernel
theorem dX5_breakOne_17 : decode cX5_breakOne 17 = .ok (.iload_n 2, 1) := by decide +kernel
theorem dX5_breakOne_18 : decode cX5_breakOne 18 = .ok (.iconst (-1), 1) := by decide +kernel
theorem dX5_breakOne_19 : decode cX5_breakOne 19 = .ok (.if_icmp .ne 6, 3) := by decide +kernel
theorem dX5_breakOne_22 : decode cX5_breakOne 22 = .ok (.bipush (-5), 2) := by decide +kernel
theorem dX5_breakOne_24 : decode cX5_breakOne 24 = .ok (.ireturn, 1) := by decide +kernel
theorem dX5_breakOne_25 : decode cX5_breakOne 25 = .ok (.aload_n 1, 1) := by decide +kernel
theorem dX5_breakOne_26 : decode cX5_breakOne 26 = .ok (.getfield 72, 3) := by decide +kernel
theorem dX5_breakOne_29 : decode cX5_breakOne 29 = .ok (.iload_n 2, 1) := by decide +kernel
theorem dX5_breakOne_30 : decode cX5_breakOne 30 = .ok (.aaload, 1) := by decide +kernel
theorem dX5_breakOne_31 : decode cX5_breakOne 31 = .ok (.astore_n 3, 1) := by decide +kernel
theorem dX5_breakOne_32 : decode cX5_breakOne 32 = .ok (.aload_n 3, 1) := by decide +kernel
theorem dX5_breakOne_33 : decode cX5_breakOne 33 = .ok (.invokevirtual 230, 3) := by decide +kernel
theorem dX5_breakOne_36 : decode cX5_breakOne 36 = .ok (.istore 4, 2) := by decide +kernel
theorem dX5_breakOne_38 : decode cX5_breakOne 38 = .ok (.aload_n 3, 1) := by decide +kernel
theorem dX5_breakOne_39 : decode cX5_breakOne 39 = .ok (.iload 4, 2) := by decide +kernel
theorem dX5_breakOne_41 : decode cX5_breakOne 41 = .ok (.invokevirtual 233, 3) := by decide +kernel
theorem dX5_breakOne_44 : decode cX5_breakOne 44 = .ok (.istore 5, 2) := by decide +kernel
theorem dX5_breakOne_46 : decode cX5_breakOne 46 = .ok (.iload 5, 2) := by decide +kernel
theorem dX5_breakOne_48 : decode cX5_breakOne 48 = .ok (.iconst 1, 1) := by decide +kernel
theorem dX5_breakOne_49 : decode cX5_breakOne 49 = .ok (.if_icmp .gt 6, 3) := by decide +kernel
theorem dX5_breakOne_52 : decode cX5_breakOne 52 = .ok (.bipush (-4), 2) := by decide +kernel
theorem dX5_breakOne_54 : decode cX5_breakOne 54 = .ok (.ireturn, 1) := by decide +kernel
theorem dX5_breakOne_55 : decode cX5_breakOne 55 = .ok (.aload_n 1, 1) := by decide +kernel
theorem dX5_breakOne_56 : decode cX5_breakOne 56 = .ok (.invokevirtual 106, 3) := by decide +kernel
theorem dX5_breakOne_59 : decode cX5_breakOne 59 = .ok (.ifCond .eq 6, 3) := by decide +kernel
theorem dX5_breakOne_62 : decode cX5_breakOne 62 = .ok (.bipush (-3), 2) := by decide +kernel
theorem dX5_breakOne_64 : decode cX5_breakOne 64 = .ok (.ireturn, 1) := by decide +kernel
theorem dX5_breakOne_65 : decode cX5_breakOne 65 = .ok (.aload_n 1, 1) := by decide +kernel
theorem dX5_breakOne_66 : decode cX5_breakOne 66 = .ok (.iload_n 2, 1) := by decide +kernel
theorem dX5_breakOne_67 : decode cX5_breakOne 67 = .ok (.iload 4, 2) := by decide +kernel
theorem dX5_breakOne_69 : decode cX5_breakOne 69 = .ok (.aload_n 3, 1) := by decide +kernel
theorem dX5_breakOne_70 : decode cX5_breakOne 70 = .ok (.getfield 88, 3) := by decide +kernel
theorem dX5_breakOne_73 : decode cX5_breakOne 73 = .ok (.iload 4, 2) := by decide +kernel
theorem dX5_breakOne_75 : decode cX5_breakOne 75 = .ok (.iaload, 1) := by decide +kernel
theorem dX5_breakOne_76 : decode cX5_breakOne 76 = .ok (.iload 5, 2) := by decide +kernel
theorem dX5_breakOne_78 : decode cX5_breakOne 78 = .ok (.iconst 2, 1) := by decide +kernel
theorem dX5_breakOne_79 : decode cX5_breakOne 79 = .ok (.idiv, 1) := by decide +kernel
theorem dX5_breakOne_80 : decode cX5_breakOne 80 = .ok (.iadd, 1) := by decide +kernel
theorem dX5_breakOne_81 : decode cX5_breakOne 81 = .ok (.invokevirtual 110, 3) := by decide +kernel
theorem dX5_breakOne_84 : decode cX5_breakOne 84 = .ok (.ireturn, 1) := by decide +kernel
theorem dJ6_bitCount_0f7a4_0 : decode cJ6_bitCount_0f7a4 0 = .ok (.iload_n 0, 1) := by decide +kernel
theorem dJ6_bitCount_0f7a4_1 : decode cJ6_bitCount_0f7a4 1 = .ok (.iload_n 0, 1) := by decide +kernel
theorem dJ6_bitCount_0f7a4_2 : decode cJ6_bitCount_0f7a4 2 = .ok (.iconst 1, 1) := by decide +kernel
theorem dJ6_bitCount_0f7a4_3 : decode cJ6_bitCount_0f7a4 3 = .ok (.iushr, 1) := by decide +kernel
theorem dJ6_bitCount_0f7a4_4 : decode cJ6_bitCount_0f7a4 4 = .ok (.ldc_w 265, 3) := by decide +kernel
theorem dJ6_bitCount_0f7a4_7 : decode cJ6_bitCount_0f7a4 7 = .ok (.iand, 1) := by decide +kernel
theorem dJ6_bitCount_0f7a4_8 : decode cJ6_bitCount_0f7a4 8 = .ok (.isub, 1) := by decide +kernel
theorem dJ6_bitCount_0f7a4_9 : decode cJ6_bitCount_0f7a4 9 = .ok (.istore_n 0, 1) := by decide +kernel
theorem dJ6_bitCount_0f7a4_10 : decode cJ6_bitCount_0f7a4 10 = .ok (.iload_n 0, 1) := by decide +kernel
theorem dJ6_bitCount_0f7a4_11 : decode cJ6_bitCount_0f7a4 11 = .ok (.ldc_w 266, 3) := by decide +kernel
theorem dJ6_bitCount_0f7a4_14 : decode cJ6_bitCount_0f7a4 14 = .ok (.iand, 1) := by decide +kernel
theorem dJ6_bitCount_0f7a4_15 : decode cJ6_bitCount_0f7a4 15 = .ok (.iload_n 0, 1) := by decide +kernel
theorem dJ6_bitCount_0f7a4_16 : decode cJ6_bitCount_0f7a4 16 = .ok (.iconst 2, 1) := by decide +kernel
theorem dJ6_bitCount_0f7a4_17 : decode cJ6_bitCount_0f7a4 17 = .ok (.iushr, 1) := by decide +kernel
theorem dJ6_bitCount_0f7a4_18 : decode cJ6_bitCount_0f7a4 18 = .ok (.ldc_w 266, 3) := by decide +kernel
theorem dJ6_bitCount_0f7a4_21 : decode cJ6_bitCount_0f7a4 21 = .ok (.iand, 1) := by decide +kernel
theorem dJ6_bitCount_0f7a4_22 : decode cJ6_bitCount_0f7a4 22 = .ok (.iadd, 1) := by decide +kernel
theorem dJ6_bitCount_0f7a4_23 : decode cJ6_bitCount_0f7a4 23 = .ok (.istore_n 0, 1) := by decide +kernel
theorem dJ6_bitCount_0f7a4_24 : decode cJ6_bitCount_0f7a4 24 = .ok (.iload_n 0, 1) := by decide +kernel
theorem dJ6_bitCount_0f7a4_25 : decode cJ6_bitCount_0f7a4 25 = .ok (.iload_n 0, 1) := by decide +kernel
theorem dJ6_bitCount_0f7a4_26 : decode cJ6_bitCount_0f7a4 26 = .ok (.iconst 4, 1) := by decide +kernel
theorem dJ6_bitCount_0f7a4_27 : decode cJ6_bitCount_0f7a4 27 = .ok (.iushr, 1) := by decide +kernel
theorem dJ6_bitCount_0f7a4_28 : decode cJ6_bitCount_0f7a4 28 = .ok (.iadd, 1) := by decide +kernel
theorem dJ6_bitCount_0f7a4_29 : decode cJ6_bitCount_0f7a4 29 = .ok (.ldc_w 267, 3) := by decide +kernel
theorem dJ6_bitCount_0f7a4_32 : decode cJ6_bitCount_0f7a4 32 = .ok (.iand, 1) := by decide +kernel
theorem dJ6_bitCount_0f7a4_33 : decode cJ6_bitCount_0f7a4 33 = .ok (.istore_n 0, 1) := by decide +kernel
theorem dJ6_bitCount_0f7a4_34 : decode cJ6_bitCount_0f7a4 34 = .ok (.iload_n 0, 1) := by decide +kernel
theorem dJ6_bitCount_0f7a4_35 : decode cJ6_bitCount_0f7a4 35 = .ok (.iload_n 0, 1) := by decide +kernel
theorem dJ6_bitCount_0f7a4_36 : decode cJ6_bitCount_0f7a4 36 = .ok (.bipush 8, 2) := by decide +kernel
theorem dJ6_bitCount_0f7a4_38 : decode cJ6_bitCount_0f7a4 38 = .ok (.iushr, 1) := by decide +kernel
theorem dJ6_bitCount_0f7a4_39 : decode cJ6_bitCount_0f7a4 39 = .ok (.iadd, 1) := by decide +kernel
theorem dJ6_bitCount_0f7a4_40 : decode cJ6_bitCount_0f7a4 40 = .ok (.istore_n 0, 1) := by decide +kernel
theorem dJ6_bitCount_0f7a4_41 : decode cJ6_bitCount_0f7a4 41 = .ok (.iload_n 0, 1) := by decide +kernel
theorem dJ6_bitCount_0f7a4_42 : decode cJ6_bitCount_0f7a4 42 = .ok (.iload_n 0, 1) := by decide +kernel
theorem dJ6_bitCount_0f7a4_43 : decode cJ6_bitCount_0f7a4 43 = .ok (.bipush 16, 2) := by decide +kernel
theorem dJ6_bitCount_0f7a4_45 : decode cJ6_bitCount_0f7a4 45 = .ok (.iushr, 1) := by decide +kernel
theorem dJ6_bitCount_0f7a4_46 : decode cJ6_bitCount_0f7a4 46 = .ok (.iadd, 1) := by decide +kernel
theorem dJ6_bitCount_0f7a4_47 : decode cJ6_bitCount_0f7a4 47 = .ok (.istore_n 0, 1) := by decide +kernel
theorem dJ6_bitCount_0f7a4_48 : decode cJ6_bitCount_0f7a4 48 = .ok (.iload_n 0, 1) := by decide +kernel
theorem dJ6_bitCount_0f7a4_49 : decode cJ6_bitCount_0f7a4 49 = .ok (.bipush 63, 2) := by decide +kernel
theorem dJ6_bitCount_0f7a4_51 : decode cJ6_bitCount_0f7a4 51 = .ok (.iand, 1) := by decide +kernel
theorem dJ6_bitCount_0f7a4_52 : decode cJ6_bitCount_0f7a4 52 = .ok (.ireturn, 1) := by decide +kernel
theorem dJ9_max_7cf53_0 : decode cJ9_max_7cf53 0 = .ok (.iload_n 0, 1) := by decide +kernel
theorem dJ9_max_7cf53_1 : decode cJ9_max_7cf53 1 = .ok (.iload_n 1, 1) := by decide +kernel
theorem dJ9_max_7cf53_2 : decode cJ9_max_7cf53 2 = .ok (.if_icmp .lt 7, 3) := by decide +kernel
theorem dJ9_max_7cf53_5 : decode cJ9_max_7cf53 5 = .ok (.iload_n 0, 1) := by decide +kernel
theorem dJ9_max_7cf53_6 : decode cJ9_max_7cf53 6 = .ok (.goto 4, 3) := by decide +kernel
theorem dJ9_max_7cf53_9 : decode cJ9_max_7cf53 9 = .ok (.iload_n 1, 1) := by decide +kernel
theorem dJ9_max_7cf53_10 : decode cJ9_max_7cf53 10 = .ok (.ireturn, 1) := by decide +kernel
theorem dJ7_fill_53178_0 : decode cJ7_fill_53178 0 = .ok (.iconst 0, 1) := by decide +kernel
theorem dJ7_fill_53178_1 : decode cJ7_fill_53178 1 = .ok (.istore_n 2, 1) := by decide +kernel
theorem dJ7_fill_53178_2 : decode cJ7_fill_53178 2 = .ok (.aload_n 0, 1) := by decide +kernel
theorem dJ7_fill_53178_3 : decode cJ7_fill_53178 3 = .ok (.arraylength, 1) := by decide +kernel
theorem dJ7_fill_53178_4 : decode cJ7_fill_53178 4 = .ok (.istore_n 3, 1) := by decide +kernel
theorem dJ7_fill_53178_5 : decode cJ7_fill_53178 5 = .ok (.iload_n 2, 1) := by decide +kernel
theorem dJ7_fill_53178_6 : decode cJ7_fill_53178 6 = .ok (.iload_n 3, 1) := by decide +kernel
theorem dJ7_fill_53178_7 : decode cJ7_fill_53178 7 = .ok (.if_icmp .ge 13, 3) := by decide +kernel
theorem dJ7_fill_53178_10 : decode cJ7_fill_53178 10 = .ok (.aload_n 0, 1) := by decide +kernel
theorem dJ7_fill_53178_11 : decode cJ7_fill_53178 11 = .ok (.iload_n 2, 1) := by decide +kernel
theorem dJ7_fill_53178_12 : decode cJ7_fill_53178 12 = .ok (.iload_n 1, 1) := by decide +kernel
theorem dJ7_fill_53178_13 : decode cJ7_fill_53178 13 = .ok (.iastore, 1) := by decide +kernel
theorem dJ7_fill_53178_14 : decode cJ7_fill_53178 14 = .ok (.iinc 2 1, 3) := by decide +kernel
theorem dJ7_fill_53178_17 : decode cJ7_fill_53178 17 = .ok (.goto (-12), 3) := by decide +kernel
theorem dJ7_fill_53178_20 : decode cJ7_fill_53178 20 = .ok (.return_, 1) := by decide +kernel
