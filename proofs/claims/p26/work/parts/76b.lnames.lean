theorem dL_volume_15 : decode cL_volume 15 = .ok (.aload_n 0, 1) := by decide +kernel
theorem dL_volume_16 : decode cL_volume 16 = .ok (.bipush 6, 2) := by decide +kernel
theorem dL_volume_18 : decode cL_volume 18 = .ok (.iload_n 1, 1) := by decide +kernel
theorem dL_volume_19 : decode cL_volume 19 = .ok (.imul, 1) := by decide +kernel
theorem dL_volume_20 : decode cL_volume 20 = .ok (.iconst 4, 1) := by decide +kernel
theorem dL_volume_21 : decode cL_volume 21 = .ok (.iadd, 1) := by decide +kernel
theorem dL_volume_22 : decode cL_volume 22 = .ok (.iaload, 1) := by decide +kernel
theorem dL_volume_23 : decode cL_volume 23 = .ok (.aload_n 0, 1) := by decide +kernel
theorem dL_volume_24 : decode cL_volume 24 = .ok (.bipush 6, 2) := by decide +kernel
theorem dL_volume_26 : decode cL_volume 26 = .ok (.iload_n 1, 1) := by decide +kernel
theorem dL_volume_27 : decode cL_volume 27 = .ok (.imul, 1) := by decide +kernel
theorem dL_volume_28 : decode cL_volume 28 = .ok (.iconst 1, 1) := by decide +kernel
theorem dL_volume_29 : decode cL_volume 29 = .ok (.iadd, 1) := by decide +kernel
theorem dL_volume_30 : decode cL_volume 30 = .ok (.iaload, 1) := by decide +kernel
theorem dL_volume_31 : decode cL_volume 31 = .ok (.isub, 1) := by decide +kernel
theorem dL_volume_32 : decode cL_volume 32 = .ok (.imul, 1) := by decide +kernel
theorem dL_volume_33 : decode cL_volume 33 = .ok (.aload_n 0, 1) := by decide +kernel
theorem dL_volume_34 : decode cL_volume 34 = .ok (.bipush 6, 2) := by decide +kernel
theorem dL_volume_36 : decode cL_volume 36 = .ok (.iload_n 1, 1) := by decide +kernel
theorem dL_volume_37 : decode cL_volume 37 = .ok (.imul, 1) := by decide +kernel
theorem dL_volume_38 : decode cL_volume 38 = .ok (.iconst 5, 1) := by decide +kernel
theorem dL_volume_39 : decode cL_volume 39 = .ok (.iadd, 1) := by decide +kernel
theorem dL_volume_40 : decode cL_volume 40 = .ok (.iaload, 1) := by decide +kernel
theorem dL_volume_41 : decode cL_volume 41 = .ok (.aload_n 0, 1) := by decide +kernel
theorem dL_volume_42 : decode cL_volume 42 = .ok (.bipush 6, 2) := by decide +kernel
theorem dL_volume_44 : decode cL_volume 44 = .ok (.iload_n 1, 1) := by decide +kernel
theorem dL_volume_45 : decode cL_volume 45 = .ok (.imul, 1) := by decide +kernel
theorem dL_volume_46 : decode cL_volume 46 = .ok (.iconst 2, 1) := by decide +kernel
theorem dL_volume_47 : decode cL_volume 47 = .ok (.iadd, 1) := by decide +kernel
theorem dL_volume_48 : decode cL_volume 48 = .ok (.iaload, 1) := by decide +kernel
theorem dL_volume_49 : decode cL_volume 49 = .ok (.isub, 1) := by decide +kernel
theorem dL_volume_50 : decode cL_volume 50 = .ok (.imul, 1) := by decide +kernel
theorem dL_volume_51 : decode cL_volume 51 = .ok (.ireturn, 1) := by decide +kernel
set_option maxRecDepth 20000 in
theorem ggL_isBelow_L_isAcross : GoodIn wsL_isBelow wsL_isAcross := goodIn_r _ [4] (by decide +kernel) (by decide +kernel)
set_option maxRecDepth 20000 in
theorem gL_isBelow_L_isAcross : GoodIn wsL_isBelow (va_wsS RL 28 yL_isAcross wsL_isAcross) := goodIn_app (goodIn_of _ (by decide +kernel)) ggL_isBelow_L_isAcross
theorem dL_isBelow_0 : decode cL_isBelow 0 = .ok (.iload_n 1, 1) := by decide +kernel
theorem dL_isBelow_1 : decode cL_isBelow 1 = .ok (.iload_n 2, 1) := by decide +kernel
theorem dL_isBelow_2 : decode cL_isBelow 2 = .ok (.if_icmp .eq 46, 3) := by decide +kernel
theorem dL_isBelow_5 : decode cL_isBelow 5 = .ok (.aload_n 0, 1) := by decide +kernel
theorem dL_isBelow_6 : decode cL_isBelow 6 = .ok (.iload_n 1, 1) := by decide +kernel
theorem dL_isBelow_7 : decode cL_isBelow 7 = .ok (.iload_n 2, 1) := by decide +kernel
theorem dL_isBelow_8 : decode cL_isBelow 8 = .ok (.iconst 0, 1) := by decide +kernel
theorem dL_isBelow_9 : decode cL_isBelow 9 = .ok (.invokestatic 28, 3) := by decide +kernel
theorem dL_isBelow_12 : decode cL_isBelow 12 = .ok (.ifCond .eq 36, 3) := by decide +kernel
theorem dL_isBelow_15 : decode cL_isBelow 15 = .ok (.aload_n 0, 1) := by decide +kernel
theorem dL_isBelow_16 : decode cL_isBelow 16 = .ok (.iload_n 1, 1) := by decide +kernel
theorem dL_isBelow_17 : decode cL_isBelow 17 = .ok (.iload_n 2, 1) := by decide +kernel
theorem dL_isBelow_18 : decode cL_isBelow 18 = .ok (.iconst 1, 1) := by decide +kernel
theorem dL_isBelow_19 : decode cL_isBelow 19 = .ok (.invokestatic 28, 3) := by decide +kernel
theorem dL_isBelow_22 : decode cL_isBelow 22 = .ok (.ifCond .eq 26, 3) := by decide +kernel
theorem dL_isBelow_25 : decode cL_isBelow 25 = .ok (.aload_n 0, 1) := by decide +kernel
theorem dL_isBelow_26 : decode cL_isBelow 26 = .ok (.bipush 6, 2) := by decide +kernel
theorem dL_isBelow_28 : decode cL_isBelow 28 = .ok (.iload_n 1, 1) := by decide +kernel
theorem dL_isBelow_29 : decode cL_isBelow 29 = .ok (.imul, 1) := by decide +kernel
theorem dL_isBelow_30 : decode cL_isBelow 30 = .ok (.iconst 5, 1) := by decide +kernel
theorem dL_isBelow_31 : decode cL_isBelow 31 = .ok (.iadd, 1) := by decide +kernel
theorem dL_isBelow_32 : decode cL_isBelow 32 = .ok (.iaload, 1) := by decide +kernel
theorem dL_isBelow_33 : decode cL_isBelow 33 = .ok (.aload_n 0, 1) := by decide +kernel
theorem dL_isBelow_34 : decode cL_isBelow 34 = .ok (.bipush 6, 2) := by decide +kernel
theorem dL_isBelow_36 : decode cL_isBelow 36 = .ok (.iload_n 2, 1) := by decide +kernel
theorem dL_isBelow_37 : decode cL_isBelow 37 = .ok (.imul, 1) := by decide +kernel
theorem dL_isBelow_38 : decode cL_isBelow 38 = .ok (.iconst 2, 1) := by decide +kernel
theorem dL_isBelow_39 : decode cL_isBelow 39 = .ok (.iadd, 1) := by decide +kernel
theorem dL_isBelow_40 : decode cL_isBelow 40 = .ok (.iaload, 1) := by decide +kernel
theorem dL_isBelow_41 : decode cL_isBelow 41 = .ok (.if_icmp .gt 7, 3) := by decide +kernel
theorem dL_isBelow_44 : decode cL_isBelow 44 = .ok (.iconst 1, 1) := by decide +kernel
theorem dL_isBelow_45 : decode cL_isBelow 45 = .ok (.goto 4, 3) := by decide +kernel
theorem dL_isBelow_48 : decode cL_isBelow 48 = .ok (.iconst 0, 1) := by decide +kernel
theorem dL_isBelow_49 : decode cL_isBelow 49 = .ok (.ireturn, 1) := by decide +kernel
theorem dL_ring_0 : decode cL_ring 0 = .ok (.aload_n 0, 1) := by decide +kernel
theorem dL_ring_1 : decode cL_ring 1 = .ok (.iload_n 2, 1) := by decide +kernel
theorem dL_ring_2 : decode cL_ring 2 = .ok (.iaload, 1) := by decide +kernel
theorem dL_ring_3 : decode cL_ring 3 = .ok (.istore_n 3, 1) := by decide +kernel
theorem dL_ring_4 : decode cL_ring 4 = .ok (.iconst 1, 1) := by decide +kernel
theorem dL_ring_5 : decode cL_ring 5 = .ok (.istore 4, 2) := by decide +kernel
theorem dL_ring_7 : decode cL_ring 7 = .ok (.iload 4, 2) := by decide +kernel
theorem dL_ring_9 : decode cL_ring 9 = .ok (.iload_n 1, 1) := by decide +kernel
theorem dL_ring_10 : decode cL_ring 10 = .ok (.if_icmp .gt 65, 3) := by decide +kernel
theorem dL_ring_13 : decode cL_ring 13 = .ok (.iload_n 3, 1) := by decide +kernel
theorem dL_ring_14 : decode cL_ring 14 = .ok (.iload_n 2, 1) := by decide +kernel
theorem dL_ring_15 : decode cL_ring 15 = .ok (.ishr, 1) := by decide +kernel
theorem dL_ring_16 : decode cL_ring 16 = .ok (.iconst 1, 1) := by decide +kernel
theorem dL_ring_17 : decode cL_ring 17 = .ok (.iand, 1) := by decide +kernel
theorem dL_ring_18 : decode cL_ring 18 = .ok (.iconst 1, 1) := by decide +kernel
theorem dL_ring_19 : decode cL_ring 19 = .ok (.if_icmp .ne 6, 3) := by decide +kernel
theorem dL_ring_22 : decode cL_ring 22 = .ok (.iload 4, 2) := by decide +kernel
theorem dL_ring_24 : decode cL_ring 24 = .ok (.ireturn, 1) := by decide +kernel
theorem dL_ring_25 : decode cL_ring 25 = .ok (.iconst 0, 1) := by decide +kernel
theorem dL_ring_26 : decode cL_ring 26 = .ok (.istore 5, 2) := by decide +kernel
theorem dL_ring_28 : decode cL_ring 28 = .ok (.iconst 0, 1) := by decide +kernel
theorem dL_ring_29 : decode cL_ring 29 = .ok (.istore 6, 2) := by decide +kernel
theorem dL_ring_31 : decode cL_ring 31 = .ok (.iload 6, 2) := by decide +kernel
theorem dL_ring_33 : decode cL_ring 33 = .ok (.iload_n 1, 1) := by decide +kernel
theorem dL_ring_34 : decode cL_ring 34 = .ok (.if_icmp .ge 32, 3) := by decide +kernel
theorem dL_ring_37 : decode cL_ring 37 = .ok (.iload 5, 2) := by decide +kernel
theorem dL_ring_39 : decode cL_ring 39 = .ok (.iload_n 3, 1) := by decide +kernel
theorem dL_ring_40 : decode cL_ring 40 = .ok (.iload 6, 2) := by decide +kernel
theorem dL_ring_42 : decode cL_ring 42 = .ok (.ishr, 1) := by decide +kernel
theorem dL_ring_43 : decode cL_ring 43 = .ok (.iconst 1, 1) := by decide +kernel
theorem dL_ring_44 : decode cL_ring 44 = .ok (.iand, 1) := by decide +kernel
theorem dL_ring_45 : decode cL_ring 45 = .ok (.iconst 1, 1) := by decide +kernel
theorem dL_ring_46 : decode cL_ring 46 = .ok (.if_icmp .ne 10, 3) := by decide +kernel
theorem dL_ring_49 : decode cL_ring 49 = .ok (.aload_n 0, 1) := by decide +kernel
theorem dL_ring_50 : decode cL_ring 50 = .ok (.iload 6, 2) := by decide +kernel
theorem dL_ring_52 : decode cL_ring 52 = .ok (.iaload, 1) := by decide +kernel
theorem dL_ring_53 : decode cL_ring 53 = .ok (.goto 4, 3) := by decide +kernel
theorem dL_ring_56 : decode cL_ring 56 = .ok (.iconst 0, 1) := by decide +kernel
theorem dL_ring_57 : decode cL_ring 57 = .ok (.ior, 1) := by decide +kernel
theorem dL_ring_58 : decode cL_ring 58 = .ok (.istore 5, 2) := by decide +kernel
theorem dL_ring_60 : decode cL_ring 60 = .ok (.iinc 6 1, 3) := by decide +kernel
theorem dL_ring_63 : decode cL_ring 63 = .ok (.goto (-32), 3) := by decide +kernel
theorem dL_ring_66 : decode cL_ring 66 = .ok (.iload 5, 2) := by decide +kernel
theorem dL_ring_68 : decode cL_ring 68 = .ok (.istore_n 3, 1) := by decide +kernel
theorem dL_ring_69 : decode cL_ring 69 = .ok (.iinc 4 1, 3) := by decide +kernel
theorem dL_ring_72 : decode cL_ring 72 = .ok (.goto (-65), 3) := by decide +kernel
theorem dL_ring_75 : decode cL_ring 75 = .ok (.iconst (-1), 1) := by decide +kernel
theorem dL_ring_76 : decode cL_ring 76 = .ok (.ireturn, 1) := by decide +kernel
set_option maxRecDepth 20000 in
theorem ggL_drawn_X5_total : GoodIn wsL_drawn wsX5_total := goodIn_r _ [5, 6, 7, 8, 9, 10, 11, 12, 13, 14, 15, 16, 17, 18, 4, 19, 20, 21, 22, 23, 24, 25, 26, 27, 28, 29, 30, 31, 32, 33, 34, 35, 36, 37, 38, 39, 40, 41, 42, 43, 44, 45, 46, 47, 48, 49, 50, 51, 52, 53, 54, 55, 56, 57, 58, 59, 60, 61, 62, 63, 64, 65, 66, 67, 68, 69, 70, 71, 72, 73, 74, 75, 76, 77, 78, 79, 80, 81, 82, 83, 84, 85, 86, 87, 88, 89, 90, 91, 92, 93, 94, 95, 96, 97, 98, 99, 100, 101, 102, 103, 104, 105, 106, 107, 108, 109, 110, 111, 112, 113, 114, 115, 116, 117, 118, 119, 120, 121, 122, 123, 124, 125, 126, 127, 128, 129, 130, 131, 132, 133, 134, 135, 136, 137, 138, 139, 140, 141, 142, 143, 144, 145, 146, 147, 148, 149, 150, 151, 152, 153, 154, 155, 156, 157, 158, 159, 160, 161, 162, 163, 164, 165, 166, 167, 168, 169, 170, 171, 172, 173, 192, 193, 194, 195, 196, 197, 198, 199, 200, 201, 202, 203, 204, 205, 206, 207, 208, 209, 210, 211, 212, 213, 214, 215, 216, 217, 218, 219, 220, 221] (by decide +kernel) (by decide +kernel)
set_option maxRecDepth 20000 in
theorem gL_drawn_X5_total : GoodIn wsL_drawn (wsV RL 9 RX5 yX5_total wsX5_total) := goodIn_app (goodIn_of _ (by decide +kernel)) ggL_drawn_X5_total
set_option maxRecDepth 20000 in
theorem ggL_drawn_L_volume : GoodIn wsL_drawn wsL_volume := goodIn_r _ [177] (by decide +kernel) (by decide +kernel)
set_option maxRecDepth 20000 in
theorem gL_drawn_L_volume : GoodIn wsL_drawn (va_wsS RL 32 yL_volume wsL_volume) := goodIn_app (goodIn_of _ (by decide +kernel)) ggL_drawn_L_volume
set_option maxRecDepth 20000 in
theorem ggL_drawn_X5_drawn : GoodIn wsL_drawn wsX5_drawn := goodIn_r _ [181, 6, 182, 183, 16, 17, 18, 4, 19, 20, 21, 22, 23, 24, 25, 26, 27, 28, 29, 30, 31, 32, 33, 34, 35, 36, 37, 38, 39, 40, 41, 42, 43, 44, 45, 46, 47, 48, 49, 50, 51, 52, 53, 54, 55, 56, 57, 58, 59, 60, 61, 62, 63, 64, 65, 66, 67, 68, 69, 70, 71, 72, 73, 74, 75, 76, 77, 78, 79, 80, 81, 82, 83, 84, 85, 86, 87, 88, 89, 90, 91, 92, 93, 94, 95, 96, 97, 98, 99, 100, 101, 102, 184, 185, 186, 187, 192, 193, 194, 195, 196, 197, 198, 199, 200, 201, 202, 203, 204, 205, 219, 220, 221, 206, 207, 208, 209, 210, 211, 212] (by decide +kernel) (by decide +kernel)
set_option maxRecDepth 20000 in
theorem gL_drawn_X5_drawn : GoodIn wsL_drawn (wsV RL 36 RX5 yX5_drawn wsX5_drawn) := goodIn_app (goodIn_of _ (by decide +kernel)) ggL_drawn_X5_drawn
set_option maxRecDepth 20000 in
theorem ggL_drawn_X5_box : GoodIn wsL_drawn wsX5_box := goodIn_r _ [191, 6, 7, 182, 183, 192, 193, 194, 195, 196, 197, 198, 199, 200, 201, 202, 203, 204, 205, 219, 220, 221] (by decide +kernel) (by decide +kernel)
set_option maxRecDepth 20000 in
theorem gL_drawn_X5_box : GoodIn wsL_drawn (wsV RL 15 RX5 yX5_box wsX5_box) := goodIn_app (goodIn_of _ (by decide +kernel)) ggL_drawn_X5_box
theorem dL_drawn_0 : decode cL_drawn 0 = .ok (.aload_n 0, 1) := by decide +kernel
theorem dL_drawn_1 : decode cL_drawn 1 = .ok (.bipush 10, 2) := by decide +kernel
theorem dL_drawn_3 : decode cL_drawn 3 = .ok (.invokevirtual 9, 3) := by decide +kernel
theorem dL_drawn_6 : decode cL_drawn 6 = .ok (.istore 6, 2) := by decide +kernel
theorem dL_drawn_8 : decode cL_drawn 8 = .ok (.iload 4, 2) := by decide +kernel
theorem dL_drawn_10 : decode cL_drawn 10 = .ok (.istore 7, 2) := by decide +kernel
theorem dL_drawn_12 : decode cL_drawn 12 = .ok (.iconst 0, 1) := by decide +kernel
theorem dL_drawn_13 : decode cL_drawn 13 = .ok (.istore 8, 2) := by decide +kernel
theorem dL_drawn_15 : decode cL_drawn 15 = .ok (.iconst (-1), 1) := by decide +kernel
theorem dL_drawn_16 : decode cL_drawn 16 = .ok (.istore 9, 2) := by decide +kernel
theorem dL_drawn_18 : decode cL_drawn 18 = .ok (.iconst 0, 1) := by decide +kernel
theorem dL_drawn_19 : decode cL_drawn 19 = .ok (.istore 10, 2) := by decide +kernel
theorem dL_drawn_21 : decode cL_drawn 21 = .ok (.iconst 0, 1) := by decide +kernel
theorem dL_drawn_22 : decode cL_drawn 22 = .ok (.istore 11, 2) := by decide +kernel
theorem dL_drawn_24 : decode cL_drawn 24 = .ok (.iload 11, 2) := by decide +kernel
theorem dL_drawn_26 : decode cL_drawn 26 = .ok (.iload_n 3, 1) := by decide +kernel
theorem dL_drawn_27 : decode cL_drawn 27 = .ok (.if_icmp .ge 109, 3) := by decide +kernel
theorem dL_drawn_30 : decode cL_drawn 30 = .ok (.iload 7, 2) := by decide +kernel
theorem dL_drawn_32 : decode cL_drawn 32 = .ok (.iload 11, 2) := by decide +kernel
theorem dL_drawn_34 : decode cL_drawn 34 = .ok (.ishr, 1) := by decide +kernel
theorem dL_drawn_35 : decode cL_drawn 35 = .ok (.iconst 1, 1) := by decide +kernel
theorem dL_drawn_36 : decode cL_drawn 36 = .ok (.iand, 1) := by decide +kernel
theorem dL_drawn_37 : decode cL_drawn 37 = .ok (.iconst 1, 1) := by decide +kernel
theorem dL_drawn_38 : decode cL_drawn 38 = .ok (.if_icmp .eq 92, 3) := by decide +kernel
theorem dL_drawn_41 : decode cL_drawn 41 = .ok (.aload_n 2, 1) := by decide +kernel
theorem dL_drawn_42 : decode cL_drawn 42 = .ok (.iload 11, 2) := by decide +kernel
theorem dL_drawn_44 : decode cL_drawn 44 = .ok (.iaload, 1) := by decide +kernel
theorem dL_drawn_45 : decode cL_drawn 45 = .ok (.iload 7, 2) := by decide +kernel
theorem dL_drawn_47 : decode cL_drawn 47 = .ok (.iconst (-1), 1) := by decide +kernel
theorem dL_drawn_48 : decode cL_drawn 48 = .ok (.ixor, 1) := by decide +kernel
theorem dL_drawn_49 : decode cL_drawn 49 = .ok (.iand, 1) := by decide +kernel
theorem dL_drawn_50 : decode cL_drawn 50 = .ok (.ifCond .eq 6, 3) := by decide +kernel
theorem dL_drawn_53 : decode cL_drawn 53 = .ok (.goto 77, 3) := by decide +kernel
theorem dL_drawn_56 : decode cL_drawn 56 = .ok (.iload 6, 2) := by decide +kernel
theorem dL_drawn_58 : decode cL_drawn 58 = .ok (.ifCond .ne 8, 3) := by decide +kernel
theorem dL_drawn_61 : decode cL_drawn 61 = .ok (.iload 11, 2) := by decide +kernel
theorem dL_drawn_63 : decode cL_drawn 63 = .ok (.goto 45, 3) := by decide +kernel
theorem dL_drawn_66 : decode cL_drawn 66 = .ok (.iload 6, 2) := by decide +kernel
theorem dL_drawn_68 : decode cL_drawn 68 = .ok (.iconst 1, 1) := by decide +kernel
theorem dL_drawn_69 : decode cL_drawn 69 = .ok (.if_icmp .ne 33, 3) := by decide +kernel
theorem dL_drawn_72 : decode cL_drawn 72 = .ok (.aload_n 1, 1) := by decide +kernel
theorem dL_drawn_73 : decode cL_drawn 73 = .ok (.bipush 6, 2) := by decide +kernel
theorem dL_drawn_75 : decode cL_drawn 75 = .ok (.iload 11, 2) := by decide +kernel
theorem dL_drawn_77 : decode cL_drawn 77 = .ok (.imul, 1) := by decide +kernel
theorem dL_drawn_78 : decode cL_drawn 78 = .ok (.iaload, 1) := by decide +kernel
theorem dL_drawn_79 : decode cL_drawn 79 = .ok (.aload_n 1, 1) := by decide +kernel
theorem dL_drawn_80 : decode cL_drawn 80 = .ok (.bipush 6, 2) := by decide +kernel
theorem dL_drawn_82 : decode cL_drawn 82 = .ok (.iload 11, 2) := by decide +kernel
theorem dL_drawn_84 : decode cL_drawn 84 = .ok (.imul, 1) := by decide +kernel
theorem dL_drawn_85 : decode cL_drawn 85 = .ok (.iconst 1, 1) := by decide +kernel
theorem dL_drawn_86 : decode cL_drawn 86 = .ok (.iadd, 1) := by decide +kernel
theorem dL_drawn_87 : decode cL_drawn 87 = .ok (.iaload, 1) := by decide +kernel
theorem dL_drawn_88 : decode cL_drawn 88 = .ok (.iadd, 1) := by decide +kernel
theorem dL_drawn_89 : decode cL_drawn 89 = .ok (.aload_n 1, 1) := by decide +kernel
theorem dL_drawn_90 : decode cL_drawn 90 = .ok (.bipush 6, 2) := by decide +kernel
theorem dL_drawn_92 : decode cL_drawn 92 = .ok (.iload 11, 2) := by decide +kernel
theorem dL_drawn_94 : decode cL_drawn 94 = .ok (.imul, 1) := by decide +kernel
theorem dL_drawn_95 : decode cL_drawn 95 = .ok (.iconst 2, 1) := by decide +kernel
theorem dL_drawn_96 : decode cL_drawn 96 = .ok (.iadd, 1) := by decide +kernel
theorem dL_drawn_97 : decode cL_drawn 97 = .ok (.iaload, 1) := by decide +kernel
theorem dL_drawn_98 : decode cL_drawn 98 = .ok (.iadd, 1) := by decide +kernel
theorem dL_drawn_99 : decode cL_drawn 99 = .ok (.goto 9, 3) := by decide +kernel
theorem dL_drawn_102 : decode cL_drawn 102 = .ok (.aload_n 1, 1) := by decide +kernel
theorem dL_drawn_103 : decode cL_drawn 103 = .ok (.iload 11, 2) := by decide +kernel
theorem dL_drawn_105 : decode cL_drawn 105 = .ok (.invokestatic 32, 3) := by decide +kernel
theorem dL_drawn_108 : decode cL_drawn 108 = .ok (.istore 12, 2) := by decide +kernel
theorem dL_drawn_110 : decode cL_drawn 110 = .ok (.iload 9, 2) := by decide +kernel
theorem dL_drawn_112 : decode cL_drawn 112 = .ok (.ifCond .lt 10, 3) := by decide +kernel
theorem dL_drawn_115 : decode cL_drawn 115 = .ok (.iload 12, 2) := by decide +kernel
theorem dL_drawn_117 : decode cL_drawn 117 = .ok (.iload 10, 2) := by decide +kernel
theorem dL_drawn_119 : decode cL_drawn 119 = .ok (.if_icmp .ge 11, 3) := by decide +kernel
theorem dL_drawn_122 : decode cL_drawn 122 = .ok (.iload 11, 2) := by decide +kernel
theorem dL_drawn_124 : decode cL_drawn 124 = .ok (.istore 9, 2) := by decide +kernel
theorem dL_drawn_126 : decode cL_drawn 126 = .ok (.iload 12, 2) := by decide +kernel
theorem dL_drawn_128 : decode cL_drawn 128 = .ok (.istore 10, 2) := by decide +kernel
theorem dL_drawn_130 : decode cL_drawn 130 = .ok (.iinc 11 1, 3) := by decide +kernel
theorem dL_drawn_133 : decode cL_drawn 133 = .ok (.goto (-109), 3) := by decide +kernel
theorem dL_drawn_136 : decode cL_drawn 136 = .ok (.iload 9, 2) := by decide +kernel
theorem dL_drawn_138 : decode cL_drawn 138 = .ok (.ifCond .ge 31, 3) := by decide +kernel
theorem dL_drawn_141 : decode cL_drawn 141 = .ok (.iload 5, 2) := by decide +kernel
theorem dL_drawn_143 : decode cL_drawn 143 = .ok (.ifCond .eq 18, 3) := by decide +kernel
theorem dL_drawn_146 : decode cL_drawn 146 = .ok (.aload_n 0, 1) := by decide +kernel
theorem dL_drawn_147 : decode cL_drawn 147 = .ok (.iload 8, 2) := by decide +kernel
theorem dL_drawn_149 : decode cL_drawn 149 = .ok (.invokevirtual 36, 3) := by decide +kernel
theorem dL_drawn_152 : decode cL_drawn 152 = .ok (.bipush (-5), 2) := by decide +kernel
theorem dL_drawn_154 : decode cL_drawn 154 = .ok (.if_icmp .eq 7, 3) := by decide +kernel
theorem dL_drawn_157 : decode cL_drawn 157 = .ok (.iconst (-1), 1) := by decide +kernel
theorem dL_drawn_158 : decode cL_drawn 158 = .ok (.goto 10, 3) := by decide +kernel
theorem dL_drawn_161 : decode cL_drawn 161 = .ok (.iload 7, 2) := by decide +kernel
theorem dL_drawn_163 : decode cL_drawn 163 = .ok (.iload 4, 2) := by decide +kernel
theorem dL_drawn_165 : decode cL_drawn 165 = .ok (.iconst (-1), 1) := by decide +kernel
theorem dL_drawn_166 : decode cL_drawn 166 = .ok (.ixor, 1) := by decide +kernel
theorem dL_drawn_167 : decode cL_drawn 167 = .ok (.iand, 1) := by decide +kernel
theorem dL_drawn_168 : decode cL_drawn 168 = .ok (.ireturn, 1) := by decide +kernel
theorem dL_drawn_169 : decode cL_drawn 169 = .ok (.iload 5, 2) := by decide +kernel
theorem dL_drawn_171 : decode cL_drawn 171 = .ok (.ifCond .eq 20, 3) := by decide +kernel
theorem dL_drawn_174 : decode cL_drawn 174 = .ok (.aload_n 0, 1) := by decide +kernel
theorem dL_drawn_175 : decode cL_drawn 175 = .ok (.iload 8, 2) := by decide +kernel
theorem dL_drawn_177 : decode cL_drawn 177 = .ok (.invokevirtual 36, 3) := by decide +kernel
theorem dL_drawn_180 : decode cL_drawn 180 = .ok (.aload_n 0, 1) := by decide +kernel
theorem dL_drawn_181 : decode cL_drawn 181 = .ok (.iload 9, 2) := by decide +kernel
theorem dL_drawn_183 : decode cL_drawn 183 = .ok (.invokevirtual 15, 3) := by decide +kernel
theorem dL_drawn_186 : decode cL_drawn 186 = .ok (.if_icmp .eq 5, 3) := by decide +kernel
theorem dL_drawn_189 : decode cL_drawn 189 = .ok (.iconst (-1), 1) := by decide +kernel
theorem dL_drawn_190 : decode cL_drawn 190 = .ok (.ireturn, 1) := by decide +kernel
theorem dL_drawn_191 : decode cL_drawn 191 = .ok (.iload 7, 2) := by decide +kernel
theorem dL_drawn_193 : decode cL_drawn 193 = .ok (.iconst 1, 1) := by decide +kernel
theorem dL_drawn_194 : decode cL_drawn 194 = .ok (.iload 9, 2) := by decide +kernel
theorem dL_drawn_196 : decode cL_drawn 196 = .ok (.ishl, 1) := by decide +kernel
theorem dL_drawn_197 : decode cL_drawn 197 = .ok (.ior, 1) := by decide +kernel
theorem dL_drawn_198 : decode cL_drawn 198 = .ok (.istore 7, 2) := by decide +kernel
theorem dL_drawn_200 : decode cL_drawn 200 = .ok (.iinc 8 1, 3) := by decide +kernel
theorem dL_drawn_203 : decode cL_drawn 203 = .ok (.goto (-188), 3) := by decide +kernel
set_option maxRecDepth 20000 in
theorem ggL_isBox_X5_box : GoodIn wsL_isBox wsX5_box := goodIn_r _ [5, 6, 7, 8, 9, 191, 192, 193, 194, 195, 196, 197, 198, 199, 200, 201, 202, 203, 204, 205, 206, 207] (by decide +kernel) (by decide +kernel)
set_option maxRecDepth 20000 in
theorem gL_isBox_X5_box : GoodIn wsL_isBox (wsV RL 15 RX5 yX5_box wsX5_box) := goodIn_app (goodIn_of _ (by decide +kernel)) ggL_isBox_X5_box
set_option maxRecDepth 20000 in
theorem ggL_isBox_L_isBelow : GoodIn wsL_isBox wsL_isBelow := goodIn_r _ [13, 14, 15, 12, 16] (by decide +kernel) (by decide +kernel)
set_option maxRecDepth 20000 in
theorem gL_isBox_L_isBelow : GoodIn wsL_isBox (va_wsS RL 39 yL_isBelow wsL_isBelow) := goodIn_app (goodIn_of _ (by decide +kernel)) ggL_isBox_L_isBelow
set_option maxRecDepth 20000 in
theorem ggL_isBox_X5_pair : GoodIn wsL_isBox wsX5_pair := goodIn_r _ [20, 6, 8, 21, 22, 23, 24, 25, 26, 27, 28, 29, 30, 31, 32, 33, 34, 35, 36, 37, 38, 39, 40, 41, 42, 43, 191, 192, 193, 194, 195, 196, 197, 198, 199, 200, 201, 202, 203, 204, 205, 206, 207] (by decide +kernel) (by decide +kernel)
set_option maxRecDepth 20000 in
theorem gL_isBox_X5_pair : GoodIn wsL_isBox (wsV RL 42 RX5 yX5_pair wsX5_pair) := goodIn_app (goodIn_of _ (by decide +kernel)) ggL_isBox_X5_pair
set_option maxRecDepth 20000 in
theorem ggL_isBox_L_by : GoodIn wsL_isBox wsL_by := goodIn_r _ [46, 47, 48, 12, 49] (by decide +kernel) (by decide +kernel)
set_option maxRecDepth 20000 in
theorem gL_isBox_L_by : GoodIn wsL_isBox (va_wsS RL 46 yL_by wsL_by) := goodIn_app (goodIn_of _ (by decide +kernel)) ggL_isBox_L_by
set_option maxRecDepth 20000 in
theorem ggL_isBox_L_ring : GoodIn wsL_isBox wsL_ring := goodIn_r _ [52] (by decide +kernel) (by decide +kernel)
set_option maxRecDepth 20000 in
theorem gL_isBox_L_ring : GoodIn wsL_isBox (va_wsS RL 50 yL_ring wsL_ring) := goodIn_app (goodIn_of _ (by decide +kernel)) ggL_isBox_L_ring
set_option maxRecDepth 20000 in
theorem ggL_isBox_X5_ofBox : GoodIn wsL_isBox wsX5_ofBox := goodIn_r _ [56, 6, 8, 57, 58, 21, 22, 23, 24, 25, 26, 27, 28, 59, 60, 61, 32, 62, 63, 64, 65, 66, 35, 34, 67, 68, 69, 4, 70, 71, 72, 73, 74, 75, 76, 77, 78, 79, 80, 81, 82, 83, 84, 30, 31, 33, 36, 37, 38, 39, 40, 41, 42, 43, 85, 86, 87, 88, 89, 90, 91, 92, 93, 94, 95, 96, 97, 98, 99, 100, 101, 102, 103, 104, 105, 106, 107, 108, 109, 110, 111, 112, 113, 114, 115, 116, 117, 118, 119, 120, 121, 122, 123, 124, 125, 126, 127, 128, 129, 130, 131, 132, 133, 134, 135, 136, 137, 138, 139, 140, 141, 142, 143, 144, 145, 146, 147, 148, 149, 150, 151, 152, 153, 154, 155, 156, 157, 158, 159, 160, 161, 162, 163, 164, 165, 166, 167, 168, 169, 170, 171, 172, 173, 174, 175, 176, 177, 178, 179, 180, 181, 182, 183, 184, 191, 192, 193, 194, 195, 196, 197, 198, 199, 200, 201, 202, 203, 204, 208, 209, 210, 211, 212, 213, 214, 205, 206, 207] (by decide +kernel) (by decide +kernel)
set_option maxRecDepth 20000 in
theorem gL_isBox_X5_ofBox : GoodIn wsL_isBox (wsV RL 53 RX5 yX5_ofBox wsX5_ofBox) := goodIn_app (goodIn_of _ (by decide +kernel)) ggL_isBox_X5_ofBox
set_option maxRecDepth 20000 in
theorem ggL_isBox_L_volume : GoodIn wsL_isBox wsL_volume := goodIn_r _ [187] (by decide +kernel) (by decide +kernel)
set_option maxRecDepth 20000 in
theorem gL_isBox_L_volume : GoodIn wsL_isBox (va_wsS RL 32 yL_volume wsL_volume) := goodIn_app (goodIn_of _ (by decide +kernel)) ggL_isBox_L_volume
set_option maxRecDepth 20000 in
theorem ggL_isBox_L_ones : GoodIn wsL_isBox wsL_ones := goodIn_r _ [190] (by decide +kernel) (by decide +kernel)
set_option maxRecDepth 20000 in
theorem gL_isBox_L_ones : GoodIn wsL_isBox (va_wsS RL 56 yL_ones wsL_ones) := goodIn_app (goodIn_of _ (by decide +kernel)) ggL_isBox_L_ones
theorem dL_isBox_0 : decode cL_isBox 0 = .ok (.aload_n 0, 1) := by decide +kernel
theorem dL_isBox_1 : decode cL_isBox 1 = .ok (.iload 4, 2) := by decide +kernel
theorem dL_isBox_3 : decode cL_isBox 3 = .ok (.invokevirtual 15, 3) := by decide +kernel
theorem dL_isBox_6 : decode cL_isBox 6 = .ok (.istore 5, 2) := by decide +kernel
theorem dL_isBox_8 : decode cL_isBox 8 = .ok (.iconst 0, 1) := by decide +kernel
theorem dL_isBox_9 : decode cL_isBox 9 = .ok (.istore 6, 2) := by decide +kernel
theorem dL_isBox_11 : decode cL_isBox 11 = .ok (.iconst 0, 1) := by decide +kernel
theorem dL_isBox_12 : decode cL_isBox 12 = .ok (.istore 7, 2) := by decide +kernel
theorem dL_isBox_14 : decode cL_isBox 14 = .ok (.iconst 0, 1) := by decide +kernel
theorem dL_isBox_15 : decode cL_isBox 15 = .ok (.istore 8, 2) := by decide +kernel
theorem dL_isBox_17 : decode cL_isBox 17 = .ok (.iconst 0, 1) := by decide +kernel
theorem dL_isBox_18 : decode cL_isBox 18 = .ok (.istore 9, 2) := by decide +kernel
theorem dL_isBox_20 : decode cL_isBox 20 = .ok (.iconst 0, 1) := by decide +kernel
theorem dL_isBox_21 : decode cL_isBox 21 = .ok (.istore 10, 2) := by decide +kernel
theorem dL_isBox_23 : decode cL_isBox 23 = .ok (.iload 10, 2) := by decide +kernel
theorem dL_isBox_25 : decode cL_isBox 25 = .ok (.iload_n 3, 1) := by decide +kernel
theorem dL_isBox_26 : decode cL_isBox 26 = .ok (.if_icmp .ge 142, 3) := by decide +kernel
theorem dL_isBox_29 : decode cL_isBox 29 = .ok (.iload 6, 2) := by decide +kernel
theorem dL_isBox_31 : decode cL_isBox 31 = .ok (.aload_n 2, 1) := by decide +kernel
theorem dL_isBox_32 : decode cL_isBox 32 = .ok (.iload 10, 2) := by decide +kernel
theorem dL_isBox_34 : decode cL_isBox 34 = .ok (.iaload, 1) := by decide +kernel
theorem dL_isBox_35 : decode cL_isBox 35 = .ok (.iload 4, 2) := by decide +kernel
theorem dL_isBox_37 : decode cL_isBox 37 = .ok (.ishr, 1) := by decide +kernel
theorem dL_isBox_38 : decode cL_isBox 38 = .ok (.iconst 1, 1) := by decide +kernel
theorem dL_isBox_39 : decode cL_isBox 39 = .ok (.iand, 1) := by decide +kernel
theorem dL_isBox_40 : decode cL_isBox 40 = .ok (.iadd, 1) := by decide +kernel
theorem dL_isBox_41 : decode cL_isBox 41 = .ok (.istore 6, 2) := by decide +kernel
theorem dL_isBox_43 : decode cL_isBox 43 = .ok (.iload 7, 2) := by decide +kernel
theorem dL_isBox_45 : decode cL_isBox 45 = .ok (.aload_n 1, 1) := by decide +kernel
theorem dL_isBox_46 : decode cL_isBox 46 = .ok (.iload 10, 2) := by decide +kernel
theorem dL_isBox_48 : decode cL_isBox 48 = .ok (.iload 4, 2) := by decide +kernel
theorem dL_isBox_50 : decode cL_isBox 50 = .ok (.invokestatic 39, 3) := by decide +kernel
theorem dL_isBox_53 : decode cL_isBox 53 = .ok (.ifCond .eq 7, 3) := by decide +kernel
theorem dL_isBox_56 : decode cL_isBox 56 = .ok (.iconst 1, 1) := by decide +kernel
theorem dL_isBox_57 : decode cL_isBox 57 = .ok (.goto 4, 3) := by decide +kernel
theorem dL_isBox_60 : decode cL_isBox 60 = .ok (.iconst 0, 1) := by decide +kernel
theorem dL_isBox_61 : decode cL_isBox 61 = .ok (.iadd, 1) := by decide +kernel
theorem dL_isBox_62 : decode cL_isBox 62 = .ok (.istore 7, 2) := by decide +kernel
theorem dL_isBox_64 : decode cL_isBox 64 = .ok (.iload 8, 2) := by decide +kernel
theorem dL_isBox_66 : decode cL_isBox 66 = .ok (.aload_n 1, 1) := by decide +kernel
theorem dL_isBox_67 : decode cL_isBox 67 = .ok (.iload 10, 2) := by decide +kernel
theorem dL_isBox_69 : decode cL_isBox 69 = .ok (.iload 4, 2) := by decide +kernel
theorem dL_isBox_71 : decode cL_isBox 71 = .ok (.invokestatic 39, 3) := by decide +kernel
theorem dL_isBox_74 : decode cL_isBox 74 = .ok (.ifCond .eq 28, 3) := by decide +kernel
theorem dL_isBox_77 : decode cL_isBox 77 = .ok (.aload_n 1, 1) := by decide +kernel
theorem dL_isBox_78 : decode cL_isBox 78 = .ok (.bipush 6, 2) := by decide +kernel
theorem dL_isBox_80 : decode cL_isBox 80 = .ok (.iload 10, 2) := by decide +kernel
theorem dL_isBox_82 : decode cL_isBox 82 = .ok (.imul, 1) := by decide +kernel
theorem dL_isBox_83 : decode cL_isBox 83 = .ok (.iconst 5, 1) := by decide +kernel
theorem dL_isBox_84 : decode cL_isBox 84 = .ok (.iadd, 1) := by decide +kernel
theorem dL_isBox_85 : decode cL_isBox 85 = .ok (.iaload, 1) := by decide +kernel
theorem dL_isBox_86 : decode cL_isBox 86 = .ok (.aload_n 1, 1) := by decide +kernel
theorem dL_isBox_87 : decode cL_isBox 87 = .ok (.bipush 6, 2) := by decide +kernel
theorem dL_isBox_89 : decode cL_isBox 89 = .ok (.iload 4, 2) := by decide +kernel
theorem dL_isBox_91 : decode cL_isBox 91 = .ok (.imul, 1) := by decide +kernel
theorem dL_isBox_92 : decode cL_isBox 92 = .ok (.iconst 2, 1) := by decide +kernel
theorem dL_isBox_93 : decode cL_isBox 93 = .ok (.iadd, 1) := by decide +kernel
theorem dL_isBox_94 : decode cL_isBox 94 = .ok (.iaload, 1) := by decide +kernel
theorem dL_isBox_95 : decode cL_isBox 95 = .ok (.if_icmp .ne 7, 3) := by decide +kernel
theorem dL_isBox_98 : decode cL_isBox 98 = .ok (.iconst 1, 1) := by decide +kernel
theorem dL_isBox_99 : decode cL_isBox 99 = .ok (.goto 4, 3) := by decide +kernel
theorem dL_isBox_102 : decode cL_isBox 102 = .ok (.iconst 0, 1) := by decide +kernel
theorem dL_isBox_103 : decode cL_isBox 103 = .ok (.iadd, 1) := by decide +kernel
theorem dL_isBox_104 : decode cL_isBox 104 = .ok (.istore 8, 2) := by decide +kernel
theorem dL_isBox_106 : decode cL_isBox 106 = .ok (.iload 10, 2) := by decide +kernel
theorem dL_isBox_108 : decode cL_isBox 108 = .ok (.iload 4, 2) := by decide +kernel
theorem dL_isBox_110 : decode cL_isBox 110 = .ok (.if_icmp .eq 52, 3) := by decide +kernel
theorem dL_isBox_113 : decode cL_isBox 113 = .ok (.aload_n 0, 1) := by decide +kernel
theorem dL_isBox_114 : decode cL_isBox 114 = .ok (.iload 5, 2) := by decide +kernel
theorem dL_isBox_116 : decode cL_isBox 116 = .ok (.aload_n 0, 1) := by decide +kernel
theorem dL_isBox_117 : decode cL_isBox 117 = .ok (.iload 10, 2) := by decide +kernel
theorem dL_isBox_119 : decode cL_isBox 119 = .ok (.invokevirtual 15, 3) := by decide +kernel
theorem dL_isBox_122 : decode cL_isBox 122 = .ok (.invokevirtual 42, 3) := by decide +kernel
theorem dL_isBox_125 : decode cL_isBox 125 = .ok (.aload_n 1, 1) := by decide +kernel
theorem dL_isBox_126 : decode cL_isBox 126 = .ok (.iload 10, 2) := by decide +kernel
theorem dL_isBox_128 : decode cL_isBox 128 = .ok (.iload 4, 2) := by decide +kernel
theorem dL_isBox_130 : decode cL_isBox 130 = .ok (.invokestatic 46, 3) := by decide +kernel
theorem dL_isBox_133 : decode cL_isBox 133 = .ok (.ifCond .le 16, 3) := by decide +kernel
theorem dL_isBox_136 : decode cL_isBox 136 = .ok (.iconst 3, 1) := by decide +kernel
theorem dL_isBox_137 : decode cL_isBox 137 = .ok (.aload_n 1, 1) := by decide +kernel
theorem dL_isBox_138 : decode cL_isBox 138 = .ok (.iload 10, 2) := by decide +kernel
theorem dL_isBox_140 : decode cL_isBox 140 = .ok (.iload 4, 2) := by decide +kernel
theorem dL_isBox_142 : decode cL_isBox 142 = .ok (.invokestatic 46, 3) := by decide +kernel
theorem dL_isBox_145 : decode cL_isBox 145 = .ok (.iadd, 1) := by decide +kernel
theorem dL_isBox_146 : decode cL_isBox 146 = .ok (.goto 11, 3) := by decide +kernel
theorem dL_isBox_149 : decode cL_isBox 149 = .ok (.aload_n 1, 1) := by decide +kernel
theorem dL_isBox_150 : decode cL_isBox 150 = .ok (.iload 4, 2) := by decide +kernel
theorem dL_isBox_152 : decode cL_isBox 152 = .ok (.iload 10, 2) := by decide +kernel
theorem dL_isBox_154 : decode cL_isBox 154 = .ok (.invokestatic 46, 3) := by decide +kernel
theorem dL_isBox_157 : decode cL_isBox 157 = .ok (.if_icmp .eq 5, 3) := by decide +kernel
theorem dL_isBox_160 : decode cL_isBox 160 = .ok (.iconst 0, 1) := by decide +kernel
theorem dL_isBox_161 : decode cL_isBox 161 = .ok (.ireturn, 1) := by decide +kernel
theorem dL_isBox_162 : decode cL_isBox 162 = .ok (.iinc 10 1, 3) := by decide +kernel
theorem dL_isBox_165 : decode cL_isBox 165 = .ok (.goto (-142), 3) := by decide +kernel
theorem dL_isBox_168 : decode cL_isBox 168 = .ok (.aload_n 1, 1) := by decide +kernel
theorem dL_isBox_169 : decode cL_isBox 169 = .ok (.bipush 6, 2) := by decide +kernel
theorem dL_isBox_171 : decode cL_isBox 171 = .ok (.iload 4, 2) := by decide +kernel
theorem dL_isBox_173 : decode cL_isBox 173 = .ok (.imul, 1) := by decide +kernel
theorem dL_isBox_174 : decode cL_isBox 174 = .ok (.iaload, 1) := by decide +kernel
theorem dL_isBox_175 : decode cL_isBox 175 = .ok (.istore 10, 2) := by decide +kernel
theorem dL_isBox_177 : decode cL_isBox 177 = .ok (.iload 10, 2) := by decide +kernel
theorem dL_isBox_179 : decode cL_isBox 179 = .ok (.aload_n 1, 1) := by decide +kernel
theorem dL_isBox_180 : decode cL_isBox 180 = .ok (.bipush 6, 2) := by decide +kernel
theorem dL_isBox_182 : decode cL_isBox 182 = .ok (.iload 4, 2) := by decide +kernel
theorem dL_isBox_184 : decode cL_isBox 184 = .ok (.imul, 1) := by decide +kernel
theorem dL_isBox_185 : decode cL_isBox 185 = .ok (.iconst 3, 1) := by decide +kernel
theorem dL_isBox_186 : decode cL_isBox 186 = .ok (.iadd, 1) := by decide +kernel
theorem dL_isBox_187 : decode cL_isBox 187 = .ok (.iaload, 1) := by decide +kernel
theorem dL_isBox_188 : decode cL_isBox 188 = .ok (.if_icmp .ge 167, 3) := by decide +kernel
theorem dL_isBox_191 : decode cL_isBox 191 = .ok (.aload_n 1, 1) := by decide +kernel
theorem dL_isBox_192 : decode cL_isBox 192 = .ok (.bipush 6, 2) := by decide +kernel
theorem dL_isBox_194 : decode cL_isBox 194 = .ok (.iload 4, 2) := by decide +kernel
theorem dL_isBox_196 : decode cL_isBox 196 = .ok (.imul, 1) := by decide +kernel
theorem dL_isBox_197 : decode cL_isBox 197 = .ok (.iconst 1, 1) := by decide +kernel
