theorem dX2_bitsHiddenBy_49 : decode cX2_bitsHiddenBy 49 = .ok (.ireturn, 1) := by decide +kernel
theorem dX2_hasBit_0 : decode cX2_hasBit 0 = .ok (.iload_n 0, 1) := by decide +kernel
theorem dX2_hasBit_1 : decode cX2_hasBit 1 = .ok (.iload_n 1, 1) := by decide +kernel
theorem dX2_hasBit_2 : decode cX2_hasBit 2 = .ok (.ishr, 1) := by decide +kernel
theorem dX2_hasBit_3 : decode cX2_hasBit 3 = .ok (.iconst 1, 1) := by decide +kernel
theorem dX2_hasBit_4 : decode cX2_hasBit 4 = .ok (.iand, 1) := by decide +kernel
theorem dX2_hasBit_5 : decode cX2_hasBit 5 = .ok (.ifCond .eq 7, 3) := by decide +kernel
theorem dX2_hasBit_8 : decode cX2_hasBit 8 = .ok (.iconst 1, 1) := by decide +kernel
theorem dX2_hasBit_9 : decode cX2_hasBit 9 = .ok (.goto 4, 3) := by decide +kernel
theorem dX2_hasBit_12 : decode cX2_hasBit 12 = .ok (.iconst 0, 1) := by decide +kernel
theorem dX2_hasBit_13 : decode cX2_hasBit 13 = .ok (.ireturn, 1) := by decide +kernel
set_option maxRecDepth 20000 in
theorem ggX2_followChains_X2_hasBit : GoodIn wsX2_followChains wsX2_hasBit := goodIn_r _ [11] (by decide +kernel) (by decide +kernel)
set_option maxRecDepth 20000 in
theorem gX2_followChains_X2_hasBit : GoodIn wsX2_followChains (va_wsS RX2 58 yX2_hasBit wsX2_hasBit) := goodIn_app (goodIn_of _ (by decide +kernel)) ggX2_followChains_X2_hasBit
theorem dX2_followChains_0 : decode cX2_followChains 0 = .ok (.aload_n 0, 1) := by decide +kernel
theorem dX2_followChains_1 : decode cX2_followChains 1 = .ok (.getfield 9, 3) := by decide +kernel
theorem dX2_followChains_4 : decode cX2_followChains 4 = .ok (.iconst 0, 1) := by decide +kernel
theorem dX2_followChains_5 : decode cX2_followChains 5 = .ok (.aload_n 0, 1) := by decide +kernel
theorem dX2_followChains_6 : decode cX2_followChains 6 = .ok (.getfield 15, 3) := by decide +kernel
theorem dX2_followChains_9 : decode cX2_followChains 9 = .ok (.iconst 0, 1) := by decide +kernel
theorem dX2_followChains_10 : decode cX2_followChains 10 = .ok (.bipush 16, 2) := by decide +kernel
theorem dX2_followChains_12 : decode cX2_followChains 12 = .ok (.invokestatic 52, 3) := by decide +kernel
theorem dX2_followChains_15 : decode cX2_followChains 15 = .ok (.iconst 0, 1) := by decide +kernel
theorem dX2_followChains_16 : decode cX2_followChains 16 = .ok (.istore_n 1, 1) := by decide +kernel
theorem dX2_followChains_17 : decode cX2_followChains 17 = .ok (.iload_n 1, 1) := by decide +kernel
theorem dX2_followChains_18 : decode cX2_followChains 18 = .ok (.aload_n 0, 1) := by decide +kernel
theorem dX2_followChains_19 : decode cX2_followChains 19 = .ok (.getfield 30, 3) := by decide +kernel
theorem dX2_followChains_22 : decode cX2_followChains 22 = .ok (.if_icmp .ge 53, 3) := by decide +kernel
theorem dX2_followChains_25 : decode cX2_followChains 25 = .ok (.iconst 0, 1) := by decide +kernel
theorem dX2_followChains_26 : decode cX2_followChains 26 = .ok (.istore_n 2, 1) := by decide +kernel
theorem dX2_followChains_27 : decode cX2_followChains 27 = .ok (.iload_n 2, 1) := by decide +kernel
theorem dX2_followChains_28 : decode cX2_followChains 28 = .ok (.aload_n 0, 1) := by decide +kernel
theorem dX2_followChains_29 : decode cX2_followChains 29 = .ok (.getfield 30, 3) := by decide +kernel
theorem dX2_followChains_32 : decode cX2_followChains 32 = .ok (.if_icmp .ge 37, 3) := by decide +kernel
theorem dX2_followChains_35 : decode cX2_followChains 35 = .ok (.aload_n 0, 1) := by decide +kernel
theorem dX2_followChains_36 : decode cX2_followChains 36 = .ok (.getfield 15, 3) := by decide +kernel
theorem dX2_followChains_39 : decode cX2_followChains 39 = .ok (.iload_n 2, 1) := by decide +kernel
theorem dX2_followChains_40 : decode cX2_followChains 40 = .ok (.iaload, 1) := by decide +kernel
theorem dX2_followChains_41 : decode cX2_followChains 41 = .ok (.iload_n 1, 1) := by decide +kernel
theorem dX2_followChains_42 : decode cX2_followChains 42 = .ok (.invokestatic 58, 3) := by decide +kernel
theorem dX2_followChains_45 : decode cX2_followChains 45 = .ok (.ifCond .eq 18, 3) := by decide +kernel
theorem dX2_followChains_48 : decode cX2_followChains 48 = .ok (.aload_n 0, 1) := by decide +kernel
theorem dX2_followChains_49 : decode cX2_followChains 49 = .ok (.getfield 15, 3) := by decide +kernel
theorem dX2_followChains_52 : decode cX2_followChains 52 = .ok (.iload_n 2, 1) := by decide +kernel
theorem dX2_followChains_53 : decode cX2_followChains 53 = .ok (.dup2, 1) := by decide +kernel
theorem dX2_followChains_54 : decode cX2_followChains 54 = .ok (.iaload, 1) := by decide +kernel
theorem dX2_followChains_55 : decode cX2_followChains 55 = .ok (.aload_n 0, 1) := by decide +kernel
theorem dX2_followChains_56 : decode cX2_followChains 56 = .ok (.getfield 15, 3) := by decide +kernel
theorem dX2_followChains_59 : decode cX2_followChains 59 = .ok (.iload_n 1, 1) := by decide +kernel
theorem dX2_followChains_60 : decode cX2_followChains 60 = .ok (.iaload, 1) := by decide +kernel
theorem dX2_followChains_61 : decode cX2_followChains 61 = .ok (.ior, 1) := by decide +kernel
theorem dX2_followChains_62 : decode cX2_followChains 62 = .ok (.iastore, 1) := by decide +kernel
theorem dX2_followChains_63 : decode cX2_followChains 63 = .ok (.iinc 2 1, 3) := by decide +kernel
theorem dX2_followChains_66 : decode cX2_followChains 66 = .ok (.goto (-39), 3) := by decide +kernel
theorem dX2_followChains_69 : decode cX2_followChains 69 = .ok (.iinc 1 1, 3) := by decide +kernel
theorem dX2_followChains_72 : decode cX2_followChains 72 = .ok (.goto (-55), 3) := by decide +kernel
theorem dX2_followChains_75 : decode cX2_followChains 75 = .ok (.return_, 1) := by decide +kernel
set_option maxRecDepth 20000 in
theorem ggX2_draw_J7_fill_53178 : GoodIn wsX2_draw wsJ7_fill_53178 := goodIn_r _ [10] (by decide +kernel) (by decide +kernel)
set_option maxRecDepth 20000 in
theorem gX2_draw_J7_fill_53178 : GoodIn wsX2_draw (va_wsS RX2 62 yJ7_fill_53178 wsJ7_fill_53178) := goodIn_app (goodIn_of _ (by decide +kernel)) ggX2_draw_J7_fill_53178
set_option maxRecDepth 20000 in
theorem ggX2_draw_X2_nextToDraw : GoodIn wsX2_draw wsX2_nextToDraw := goodIn_r _ [15, 4, 2, 6, 16, 17, 14, 18, 19, 20, 21, 22, 23, 24, 25, 26, 27, 28, 29, 30, 31, 32, 33, 34, 35, 36, 37, 38, 39, 40, 49, 50, 51, 52, 53, 54, 55, 56, 57, 58, 59, 60, 61, 62, 63] (by decide +kernel) (by decide +kernel)
set_option maxRecDepth 20000 in
theorem gX2_draw_X2_nextToDraw : GoodIn wsX2_draw (wsV RX2 74 RX2 yX2_nextToDraw wsX2_nextToDraw) := goodIn_app (goodIn_of _ (by decide +kernel)) ggX2_draw_X2_nextToDraw
set_option maxRecDepth 20000 in
theorem ggX2_draw_X2_layerAbove : GoodIn wsX2_draw wsX2_layerAbove := goodIn_r _ [44, 4, 1, 45, 46, 47, 48, 16, 17, 14, 18, 49, 50, 51, 52, 53, 54, 55] (by decide +kernel) (by decide +kernel)
set_option maxRecDepth 20000 in
theorem gX2_draw_X2_layerAbove : GoodIn wsX2_draw (wsV RX2 78 RX2 yX2_layerAbove wsX2_layerAbove) := goodIn_app (goodIn_of _ (by decide +kernel)) ggX2_draw_X2_layerAbove
theorem dX2_draw_0 : decode cX2_draw 0 = .ok (.aload_n 0, 1) := by decide +kernel
theorem dX2_draw_1 : decode cX2_draw 1 = .ok (.getfield 21, 3) := by decide +kernel
theorem dX2_draw_4 : decode cX2_draw 4 = .ok (.bipush (-5), 2) := by decide +kernel
theorem dX2_draw_6 : decode cX2_draw 6 = .ok (.invokestatic 62, 3) := by decide +kernel
theorem dX2_draw_9 : decode cX2_draw 9 = .ok (.aload_n 0, 1) := by decide +kernel
theorem dX2_draw_10 : decode cX2_draw 10 = .ok (.iconst 0, 1) := by decide +kernel
theorem dX2_draw_11 : decode cX2_draw 11 = .ok (.putfield 68, 3) := by decide +kernel
theorem dX2_draw_14 : decode cX2_draw 14 = .ok (.aload_n 0, 1) := by decide +kernel
theorem dX2_draw_15 : decode cX2_draw 15 = .ok (.iconst 0, 1) := by decide +kernel
theorem dX2_draw_16 : decode cX2_draw 16 = .ok (.putfield 71, 3) := by decide +kernel
theorem dX2_draw_19 : decode cX2_draw 19 = .ok (.iconst 0, 1) := by decide +kernel
theorem dX2_draw_20 : decode cX2_draw 20 = .ok (.istore_n 2, 1) := by decide +kernel
theorem dX2_draw_21 : decode cX2_draw 21 = .ok (.iload_n 2, 1) := by decide +kernel
theorem dX2_draw_22 : decode cX2_draw 22 = .ok (.aload_n 0, 1) := by decide +kernel
theorem dX2_draw_23 : decode cX2_draw 23 = .ok (.getfield 30, 3) := by decide +kernel
theorem dX2_draw_26 : decode cX2_draw 26 = .ok (.if_icmp .ge 66, 3) := by decide +kernel
theorem dX2_draw_29 : decode cX2_draw 29 = .ok (.aload_n 0, 1) := by decide +kernel
theorem dX2_draw_30 : decode cX2_draw 30 = .ok (.aload_n 1, 1) := by decide +kernel
theorem dX2_draw_31 : decode cX2_draw 31 = .ok (.invokevirtual 74, 3) := by decide +kernel
theorem dX2_draw_34 : decode cX2_draw 34 = .ok (.istore_n 3, 1) := by decide +kernel
theorem dX2_draw_35 : decode cX2_draw 35 = .ok (.iload_n 3, 1) := by decide +kernel
theorem dX2_draw_36 : decode cX2_draw 36 = .ok (.iconst (-1), 1) := by decide +kernel
theorem dX2_draw_37 : decode cX2_draw 37 = .ok (.if_icmp .ne 4, 3) := by decide +kernel
theorem dX2_draw_40 : decode cX2_draw 40 = .ok (.return_, 1) := by decide +kernel
theorem dX2_draw_41 : decode cX2_draw 41 = .ok (.aload_n 0, 1) := by decide +kernel
theorem dX2_draw_42 : decode cX2_draw 42 = .ok (.getfield 18, 3) := by decide +kernel
theorem dX2_draw_45 : decode cX2_draw 45 = .ok (.iload_n 2, 1) := by decide +kernel
theorem dX2_draw_46 : decode cX2_draw 46 = .ok (.iload_n 3, 1) := by decide +kernel
theorem dX2_draw_47 : decode cX2_draw 47 = .ok (.iastore, 1) := by decide +kernel
theorem dX2_draw_48 : decode cX2_draw 48 = .ok (.aload_n 0, 1) := by decide +kernel
theorem dX2_draw_49 : decode cX2_draw 49 = .ok (.getfield 21, 3) := by decide +kernel
theorem dX2_draw_52 : decode cX2_draw 52 = .ok (.iload_n 3, 1) := by decide +kernel
theorem dX2_draw_53 : decode cX2_draw 53 = .ok (.aload_n 0, 1) := by decide +kernel
theorem dX2_draw_54 : decode cX2_draw 54 = .ok (.aload_n 0, 1) := by decide +kernel
theorem dX2_draw_55 : decode cX2_draw 55 = .ok (.getfield 9, 3) := by decide +kernel
theorem dX2_draw_58 : decode cX2_draw 58 = .ok (.iload_n 3, 1) := by decide +kernel
theorem dX2_draw_59 : decode cX2_draw 59 = .ok (.iaload, 1) := by decide +kernel
theorem dX2_draw_60 : decode cX2_draw 60 = .ok (.invokevirtual 78, 3) := by decide +kernel
theorem dX2_draw_63 : decode cX2_draw 63 = .ok (.iastore, 1) := by decide +kernel
theorem dX2_draw_64 : decode cX2_draw 64 = .ok (.aload_n 0, 1) := by decide +kernel
theorem dX2_draw_65 : decode cX2_draw 65 = .ok (.dup, 1) := by decide +kernel
theorem dX2_draw_66 : decode cX2_draw 66 = .ok (.getfield 68, 3) := by decide +kernel
theorem dX2_draw_69 : decode cX2_draw 69 = .ok (.iconst 1, 1) := by decide +kernel
theorem dX2_draw_70 : decode cX2_draw 70 = .ok (.iload_n 3, 1) := by decide +kernel
theorem dX2_draw_71 : decode cX2_draw 71 = .ok (.ishl, 1) := by decide +kernel
theorem dX2_draw_72 : decode cX2_draw 72 = .ok (.ior, 1) := by decide +kernel
theorem dX2_draw_73 : decode cX2_draw 73 = .ok (.putfield 68, 3) := by decide +kernel
theorem dX2_draw_76 : decode cX2_draw 76 = .ok (.aload_n 0, 1) := by decide +kernel
theorem dX2_draw_77 : decode cX2_draw 77 = .ok (.dup, 1) := by decide +kernel
theorem dX2_draw_78 : decode cX2_draw 78 = .ok (.getfield 71, 3) := by decide +kernel
theorem dX2_draw_81 : decode cX2_draw 81 = .ok (.iconst 1, 1) := by decide +kernel
theorem dX2_draw_82 : decode cX2_draw 82 = .ok (.iadd, 1) := by decide +kernel
theorem dX2_draw_83 : decode cX2_draw 83 = .ok (.putfield 71, 3) := by decide +kernel
theorem dX2_draw_86 : decode cX2_draw 86 = .ok (.iinc 2 1, 3) := by decide +kernel
theorem dX2_draw_89 : decode cX2_draw 89 = .ok (.goto (-68), 3) := by decide +kernel
theorem dX2_draw_92 : decode cX2_draw 92 = .ok (.return_, 1) := by decide +kernel
set_option maxRecDepth 20000 in
theorem ggX2_nextToDraw_X2_hasBit : GoodIn wsX2_nextToDraw wsX2_hasBit := goodIn_r _ [7] (by decide +kernel) (by decide +kernel)
set_option maxRecDepth 20000 in
theorem gX2_nextToDraw_X2_hasBit : GoodIn wsX2_nextToDraw (va_wsS RX2 58 yX2_hasBit wsX2_hasBit) := goodIn_app (goodIn_of _ (by decide +kernel)) ggX2_nextToDraw_X2_hasBit
set_option maxRecDepth 20000 in
theorem ggX2_nextToDraw_X3_weightInDrawing : GoodIn wsX2_nextToDraw wsX3_weightInDrawing := goodIn_r _ [12, 13, 14, 15, 16, 17, 18, 19, 20, 21, 22, 23, 24, 25, 26, 27, 28, 29, 37, 38, 39, 40, 41, 42, 43, 44] (by decide +kernel) (by decide +kernel)
set_option maxRecDepth 20000 in
theorem gX2_nextToDraw_X3_weightInDrawing : GoodIn wsX2_nextToDraw (wsV RX2 82 RX3 yX3_weightInDrawing wsX3_weightInDrawing) := goodIn_app (goodIn_of _ (by decide +kernel)) ggX2_nextToDraw_X3_weightInDrawing
theorem dX2_nextToDraw_0 : decode cX2_nextToDraw 0 = .ok (.iconst (-1), 1) := by decide +kernel
theorem dX2_nextToDraw_1 : decode cX2_nextToDraw 1 = .ok (.istore_n 2, 1) := by decide +kernel
theorem dX2_nextToDraw_2 : decode cX2_nextToDraw 2 = .ok (.iconst 0, 1) := by decide +kernel
theorem dX2_nextToDraw_3 : decode cX2_nextToDraw 3 = .ok (.istore_n 3, 1) := by decide +kernel
theorem dX2_nextToDraw_4 : decode cX2_nextToDraw 4 = .ok (.iload_n 3, 1) := by decide +kernel
theorem dX2_nextToDraw_5 : decode cX2_nextToDraw 5 = .ok (.aload_n 0, 1) := by decide +kernel
theorem dX2_nextToDraw_6 : decode cX2_nextToDraw 6 = .ok (.getfield 30, 3) := by decide +kernel
theorem dX2_nextToDraw_9 : decode cX2_nextToDraw 9 = .ok (.if_icmp .ge 68, 3) := by decide +kernel
theorem dX2_nextToDraw_12 : decode cX2_nextToDraw 12 = .ok (.aload_n 0, 1) := by decide +kernel
theorem dX2_nextToDraw_13 : decode cX2_nextToDraw 13 = .ok (.getfield 68, 3) := by decide +kernel
theorem dX2_nextToDraw_16 : decode cX2_nextToDraw 16 = .ok (.iload_n 3, 1) := by decide +kernel
theorem dX2_nextToDraw_17 : decode cX2_nextToDraw 17 = .ok (.invokestatic 58, 3) := by decide +kernel
theorem dX2_nextToDraw_20 : decode cX2_nextToDraw 20 = .ok (.ifCond .ne 23, 3) := by decide +kernel
theorem dX2_nextToDraw_23 : decode cX2_nextToDraw 23 = .ok (.aload_n 0, 1) := by decide +kernel
theorem dX2_nextToDraw_24 : decode cX2_nextToDraw 24 = .ok (.getfield 9, 3) := by decide +kernel
theorem dX2_nextToDraw_27 : decode cX2_nextToDraw 27 = .ok (.iload_n 3, 1) := by decide +kernel
theorem dX2_nextToDraw_28 : decode cX2_nextToDraw 28 = .ok (.iaload, 1) := by decide +kernel
theorem dX2_nextToDraw_29 : decode cX2_nextToDraw 29 = .ok (.aload_n 0, 1) := by decide +kernel
theorem dX2_nextToDraw_30 : decode cX2_nextToDraw 30 = .ok (.getfield 68, 3) := by decide +kernel
theorem dX2_nextToDraw_33 : decode cX2_nextToDraw 33 = .ok (.iconst (-1), 1) := by decide +kernel
theorem dX2_nextToDraw_34 : decode cX2_nextToDraw 34 = .ok (.ixor, 1) := by decide +kernel
theorem dX2_nextToDraw_35 : decode cX2_nextToDraw 35 = .ok (.iand, 1) := by decide +kernel
theorem dX2_nextToDraw_36 : decode cX2_nextToDraw 36 = .ok (.ifCond .ne 7, 3) := by decide +kernel
theorem dX2_nextToDraw_39 : decode cX2_nextToDraw 39 = .ok (.iconst 1, 1) := by decide +kernel
theorem dX2_nextToDraw_40 : decode cX2_nextToDraw 40 = .ok (.goto 4, 3) := by decide +kernel
theorem dX2_nextToDraw_43 : decode cX2_nextToDraw 43 = .ok (.iconst 0, 1) := by decide +kernel
theorem dX2_nextToDraw_44 : decode cX2_nextToDraw 44 = .ok (.istore 4, 2) := by decide +kernel
theorem dX2_nextToDraw_46 : decode cX2_nextToDraw 46 = .ok (.iload 4, 2) := by decide +kernel
theorem dX2_nextToDraw_48 : decode cX2_nextToDraw 48 = .ok (.ifCond .eq 23, 3) := by decide +kernel
theorem dX2_nextToDraw_51 : decode cX2_nextToDraw 51 = .ok (.iload_n 2, 1) := by decide +kernel
theorem dX2_nextToDraw_52 : decode cX2_nextToDraw 52 = .ok (.iconst (-1), 1) := by decide +kernel
theorem dX2_nextToDraw_53 : decode cX2_nextToDraw 53 = .ok (.if_icmp .eq 16, 3) := by decide +kernel
theorem dX2_nextToDraw_56 : decode cX2_nextToDraw 56 = .ok (.aload_n 1, 1) := by decide +kernel
theorem dX2_nextToDraw_57 : decode cX2_nextToDraw 57 = .ok (.iload_n 3, 1) := by decide +kernel
theorem dX2_nextToDraw_58 : decode cX2_nextToDraw 58 = .ok (.invokevirtual 82, 3) := by decide +kernel
theorem dX2_nextToDraw_61 : decode cX2_nextToDraw 61 = .ok (.aload_n 1, 1) := by decide +kernel
theorem dX2_nextToDraw_62 : decode cX2_nextToDraw 62 = .ok (.iload_n 2, 1) := by decide +kernel
theorem dX2_nextToDraw_63 : decode cX2_nextToDraw 63 = .ok (.invokevirtual 82, 3) := by decide +kernel
theorem dX2_nextToDraw_66 : decode cX2_nextToDraw 66 = .ok (.if_icmp .ge 5, 3) := by decide +kernel
theorem dX2_nextToDraw_69 : decode cX2_nextToDraw 69 = .ok (.iload_n 3, 1) := by decide +kernel
theorem dX2_nextToDraw_70 : decode cX2_nextToDraw 70 = .ok (.istore_n 2, 1) := by decide +kernel
theorem dX2_nextToDraw_71 : decode cX2_nextToDraw 71 = .ok (.iinc 3 1, 3) := by decide +kernel
theorem dX2_nextToDraw_74 : decode cX2_nextToDraw 74 = .ok (.goto (-70), 3) := by decide +kernel
theorem dX2_nextToDraw_77 : decode cX2_nextToDraw 77 = .ok (.iload_n 2, 1) := by decide +kernel
theorem dX2_nextToDraw_78 : decode cX2_nextToDraw 78 = .ok (.ireturn, 1) := by decide +kernel
set_option maxRecDepth 20000 in
theorem ggX2_layerAbove_X2_hasBit : GoodIn wsX2_layerAbove wsX2_hasBit := goodIn_r _ [10] (by decide +kernel) (by decide +kernel)
set_option maxRecDepth 20000 in
theorem gX2_layerAbove_X2_hasBit : GoodIn wsX2_layerAbove (va_wsS RX2 58 yX2_hasBit wsX2_hasBit) := goodIn_app (goodIn_of _ (by decide +kernel)) ggX2_layerAbove_X2_hasBit
theorem dX2_layerAbove_0 : decode cX2_layerAbove 0 = .ok (.iconst 0, 1) := by decide +kernel
theorem dX2_layerAbove_1 : decode cX2_layerAbove 1 = .ok (.istore_n 2, 1) := by decide +kernel
theorem dX2_layerAbove_2 : decode cX2_layerAbove 2 = .ok (.iconst 0, 1) := by decide +kernel
theorem dX2_layerAbove_3 : decode cX2_layerAbove 3 = .ok (.istore_n 3, 1) := by decide +kernel
theorem dX2_layerAbove_4 : decode cX2_layerAbove 4 = .ok (.iload_n 3, 1) := by decide +kernel
theorem dX2_layerAbove_5 : decode cX2_layerAbove 5 = .ok (.aload_n 0, 1) := by decide +kernel
theorem dX2_layerAbove_6 : decode cX2_layerAbove 6 = .ok (.getfield 30, 3) := by decide +kernel
theorem dX2_layerAbove_9 : decode cX2_layerAbove 9 = .ok (.if_icmp .ge 30, 3) := by decide +kernel
theorem dX2_layerAbove_12 : decode cX2_layerAbove 12 = .ok (.iload_n 1, 1) := by decide +kernel
theorem dX2_layerAbove_13 : decode cX2_layerAbove 13 = .ok (.iload_n 3, 1) := by decide +kernel
theorem dX2_layerAbove_14 : decode cX2_layerAbove 14 = .ok (.invokestatic 58, 3) := by decide +kernel
theorem dX2_layerAbove_17 : decode cX2_layerAbove 17 = .ok (.ifCond .eq 16, 3) := by decide +kernel
theorem dX2_layerAbove_20 : decode cX2_layerAbove 20 = .ok (.iload_n 2, 1) := by decide +kernel
theorem dX2_layerAbove_21 : decode cX2_layerAbove 21 = .ok (.aload_n 0, 1) := by decide +kernel
theorem dX2_layerAbove_22 : decode cX2_layerAbove 22 = .ok (.getfield 21, 3) := by decide +kernel
theorem dX2_layerAbove_25 : decode cX2_layerAbove 25 = .ok (.iload_n 3, 1) := by decide +kernel
theorem dX2_layerAbove_26 : decode cX2_layerAbove 26 = .ok (.iaload, 1) := by decide +kernel
theorem dX2_layerAbove_27 : decode cX2_layerAbove 27 = .ok (.iconst 1, 1) := by decide +kernel
theorem dX2_layerAbove_28 : decode cX2_layerAbove 28 = .ok (.iadd, 1) := by decide +kernel
theorem dX2_layerAbove_29 : decode cX2_layerAbove 29 = .ok (.invokestatic 85, 3) := by decide +kernel
theorem dX2_layerAbove_32 : decode cX2_layerAbove 32 = .ok (.istore_n 2, 1) := by decide +kernel
theorem dX2_layerAbove_33 : decode cX2_layerAbove 33 = .ok (.iinc 3 1, 3) := by decide +kernel
theorem dX2_layerAbove_36 : decode cX2_layerAbove 36 = .ok (.goto (-32), 3) := by decide +kernel
theorem dX2_layerAbove_39 : decode cX2_layerAbove 39 = .ok (.iload_n 2, 1) := by decide +kernel
theorem dX2_layerAbove_40 : decode cX2_layerAbove 40 = .ok (.ireturn, 1) := by decide +kernel
set_option maxRecDepth 20000 in
theorem ggX2_hiddenBy_J6_bitCount_0f7a4 : GoodIn wsX2_hiddenBy wsJ6_bitCount_0f7a4 := goodIn_r _ [5, 6, 7, 8] (by decide +kernel) (by decide +kernel)
set_option maxRecDepth 20000 in
theorem gX2_hiddenBy_J6_bitCount_0f7a4 : GoodIn wsX2_hiddenBy (va_wsS RX2 91 yJ6_bitCount_0f7a4 wsJ6_bitCount_0f7a4) := goodIn_app (goodIn_of _ (by decide +kernel)) ggX2_hiddenBy_J6_bitCount_0f7a4
theorem dX2_hiddenBy_0 : decode cX2_hiddenBy 0 = .ok (.aload_n 0, 1) := by decide +kernel
theorem dX2_hiddenBy_1 : decode cX2_hiddenBy 1 = .ok (.getfield 9, 3) := by decide +kernel
theorem dX2_hiddenBy_4 : decode cX2_hiddenBy 4 = .ok (.iload_n 1, 1) := by decide +kernel
theorem dX2_hiddenBy_5 : decode cX2_hiddenBy 5 = .ok (.iaload, 1) := by decide +kernel
theorem dX2_hiddenBy_6 : decode cX2_hiddenBy 6 = .ok (.invokestatic 91, 3) := by decide +kernel
theorem dX2_hiddenBy_9 : decode cX2_hiddenBy 9 = .ok (.ireturn, 1) := by decide +kernel
set_option maxRecDepth 20000 in
theorem ggX2_hidersOf_X2_hasBit : GoodIn wsX2_hidersOf wsX2_hasBit := goodIn_r _ [6] (by decide +kernel) (by decide +kernel)
set_option maxRecDepth 20000 in
theorem gX2_hidersOf_X2_hasBit : GoodIn wsX2_hidersOf (va_wsS RX2 58 yX2_hasBit wsX2_hasBit) := goodIn_app (goodIn_of _ (by decide +kernel)) ggX2_hidersOf_X2_hasBit
theorem dX2_hidersOf_0 : decode cX2_hidersOf 0 = .ok (.iconst 0, 1) := by decide +kernel
theorem dX2_hidersOf_1 : decode cX2_hidersOf 1 = .ok (.istore_n 2, 1) := by decide +kernel
theorem dX2_hidersOf_2 : decode cX2_hidersOf 2 = .ok (.iconst 0, 1) := by decide +kernel
theorem dX2_hidersOf_3 : decode cX2_hidersOf 3 = .ok (.istore_n 3, 1) := by decide +kernel
theorem dX2_hidersOf_4 : decode cX2_hidersOf 4 = .ok (.iload_n 3, 1) := by decide +kernel
theorem dX2_hidersOf_5 : decode cX2_hidersOf 5 = .ok (.aload_n 0, 1) := by decide +kernel
theorem dX2_hidersOf_6 : decode cX2_hidersOf 6 = .ok (.getfield 30, 3) := by decide +kernel
theorem dX2_hidersOf_9 : decode cX2_hidersOf 9 = .ok (.if_icmp .ge 25, 3) := by decide +kernel
theorem dX2_hidersOf_12 : decode cX2_hidersOf 12 = .ok (.aload_n 0, 1) := by decide +kernel
theorem dX2_hidersOf_13 : decode cX2_hidersOf 13 = .ok (.getfield 9, 3) := by decide +kernel
theorem dX2_hidersOf_16 : decode cX2_hidersOf 16 = .ok (.iload_n 3, 1) := by decide +kernel
theorem dX2_hidersOf_17 : decode cX2_hidersOf 17 = .ok (.iaload, 1) := by decide +kernel
theorem dX2_hidersOf_18 : decode cX2_hidersOf 18 = .ok (.iload_n 1, 1) := by decide +kernel
theorem dX2_hidersOf_19 : decode cX2_hidersOf 19 = .ok (.invokestatic 58, 3) := by decide +kernel
theorem dX2_hidersOf_22 : decode cX2_hidersOf 22 = .ok (.ifCond .eq 6, 3) := by decide +kernel
theorem dX2_hidersOf_25 : decode cX2_hidersOf 25 = .ok (.iinc 2 1, 3) := by decide +kernel
theorem dX2_hidersOf_28 : decode cX2_hidersOf 28 = .ok (.iinc 3 1, 3) := by decide +kernel
theorem dX2_hidersOf_31 : decode cX2_hidersOf 31 = .ok (.goto (-27), 3) := by decide +kernel
theorem dX2_hidersOf_34 : decode cX2_hidersOf 34 = .ok (.iload_n 2, 1) := by decide +kernel
theorem dX2_hidersOf_35 : decode cX2_hidersOf 35 = .ok (.ireturn, 1) := by decide +kernel
set_option maxRecDepth 20000 in
theorem ggX2_hidings_X2_hiddenBy : GoodIn wsX2_hidings wsX2_hiddenBy := goodIn_r _ [6, 7, 8, 9, 10, 11, 12, 13, 14, 15, 16, 17, 18, 19, 20, 21] (by decide +kernel) (by decide +kernel)
set_option maxRecDepth 20000 in
theorem gX2_hidings_X2_hiddenBy : GoodIn wsX2_hidings (wsV RX2 96 RX2 yX2_hiddenBy wsX2_hiddenBy) := goodIn_app (goodIn_of _ (by decide +kernel)) ggX2_hidings_X2_hiddenBy
theorem dX2_hidings_0 : decode cX2_hidings 0 = .ok (.iconst 0, 1) := by decide +kernel
theorem dX2_hidings_1 : decode cX2_hidings 1 = .ok (.istore_n 1, 1) := by decide +kernel
theorem dX2_hidings_2 : decode cX2_hidings 2 = .ok (.iconst 0, 1) := by decide +kernel
theorem dX2_hidings_3 : decode cX2_hidings 3 = .ok (.istore_n 2, 1) := by decide +kernel
theorem dX2_hidings_4 : decode cX2_hidings 4 = .ok (.iload_n 2, 1) := by decide +kernel
theorem dX2_hidings_5 : decode cX2_hidings 5 = .ok (.aload_n 0, 1) := by decide +kernel
theorem dX2_hidings_6 : decode cX2_hidings 6 = .ok (.getfield 30, 3) := by decide +kernel
theorem dX2_hidings_9 : decode cX2_hidings 9 = .ok (.if_icmp .ge 17, 3) := by decide +kernel
theorem dX2_hidings_12 : decode cX2_hidings 12 = .ok (.iload_n 1, 1) := by decide +kernel
theorem dX2_hidings_13 : decode cX2_hidings 13 = .ok (.aload_n 0, 1) := by decide +kernel
theorem dX2_hidings_14 : decode cX2_hidings 14 = .ok (.iload_n 2, 1) := by decide +kernel
theorem dX2_hidings_15 : decode cX2_hidings 15 = .ok (.invokevirtual 96, 3) := by decide +kernel
theorem dX2_hidings_18 : decode cX2_hidings 18 = .ok (.iadd, 1) := by decide +kernel
theorem dX2_hidings_19 : decode cX2_hidings 19 = .ok (.istore_n 1, 1) := by decide +kernel
theorem dX2_hidings_20 : decode cX2_hidings 20 = .ok (.iinc 2 1, 3) := by decide +kernel
theorem dX2_hidings_23 : decode cX2_hidings 23 = .ok (.goto (-19), 3) := by decide +kernel
theorem dX2_hidings_26 : decode cX2_hidings 26 = .ok (.iload_n 1, 1) := by decide +kernel
theorem dX2_hidings_27 : decode cX2_hidings 27 = .ok (.ireturn, 1) := by decide +kernel
set_option maxRecDepth 20000 in
theorem ggX2_hidingsNotIn_J6_bitCount_0f7a4 : GoodIn wsX2_hidingsNotIn wsJ6_bitCount_0f7a4 := goodIn_r _ [6, 7, 8, 9] (by decide +kernel) (by decide +kernel)
set_option maxRecDepth 20000 in
theorem gX2_hidingsNotIn_J6_bitCount_0f7a4 : GoodIn wsX2_hidingsNotIn (va_wsS RX2 91 yJ6_bitCount_0f7a4 wsJ6_bitCount_0f7a4) := goodIn_app (goodIn_of _ (by decide +kernel)) ggX2_hidingsNotIn_J6_bitCount_0f7a4
theorem dX2_hidingsNotIn_0 : decode cX2_hidingsNotIn 0 = .ok (.iconst 0, 1) := by decide +kernel
theorem dX2_hidingsNotIn_1 : decode cX2_hidingsNotIn 1 = .ok (.istore_n 2, 1) := by decide +kernel
theorem dX2_hidingsNotIn_2 : decode cX2_hidingsNotIn 2 = .ok (.iconst 0, 1) := by decide +kernel
theorem dX2_hidingsNotIn_3 : decode cX2_hidingsNotIn 3 = .ok (.istore_n 3, 1) := by decide +kernel
theorem dX2_hidingsNotIn_4 : decode cX2_hidingsNotIn 4 = .ok (.iload_n 3, 1) := by decide +kernel
theorem dX2_hidingsNotIn_5 : decode cX2_hidingsNotIn 5 = .ok (.aload_n 0, 1) := by decide +kernel
theorem dX2_hidingsNotIn_6 : decode cX2_hidingsNotIn 6 = .ok (.getfield 30, 3) := by decide +kernel
theorem dX2_hidingsNotIn_9 : decode cX2_hidingsNotIn 9 = .ok (.if_icmp .ge 30, 3) := by decide +kernel
theorem dX2_hidingsNotIn_12 : decode cX2_hidingsNotIn 12 = .ok (.iload_n 2, 1) := by decide +kernel
theorem dX2_hidingsNotIn_13 : decode cX2_hidingsNotIn 13 = .ok (.aload_n 0, 1) := by decide +kernel
theorem dX2_hidingsNotIn_14 : decode cX2_hidingsNotIn 14 = .ok (.getfield 9, 3) := by decide +kernel
theorem dX2_hidingsNotIn_17 : decode cX2_hidingsNotIn 17 = .ok (.iload_n 3, 1) := by decide +kernel
theorem dX2_hidingsNotIn_18 : decode cX2_hidingsNotIn 18 = .ok (.iaload, 1) := by decide +kernel
theorem dX2_hidingsNotIn_19 : decode cX2_hidingsNotIn 19 = .ok (.aload_n 1, 1) := by decide +kernel
theorem dX2_hidingsNotIn_20 : decode cX2_hidingsNotIn 20 = .ok (.getfield 9, 3) := by decide +kernel
theorem dX2_hidingsNotIn_23 : decode cX2_hidingsNotIn 23 = .ok (.iload_n 3, 1) := by decide +kernel
theorem dX2_hidingsNotIn_24 : decode cX2_hidingsNotIn 24 = .ok (.iaload, 1) := by decide +kernel
theorem dX2_hidingsNotIn_25 : decode cX2_hidingsNotIn 25 = .ok (.iconst (-1), 1) := by decide +kernel
theorem dX2_hidingsNotIn_26 : decode cX2_hidingsNotIn 26 = .ok (.ixor, 1) := by decide +kernel
theorem dX2_hidingsNotIn_27 : decode cX2_hidingsNotIn 27 = .ok (.iand, 1) := by decide +kernel
theorem dX2_hidingsNotIn_28 : decode cX2_hidingsNotIn 28 = .ok (.invokestatic 91, 3) := by decide +kernel
theorem dX2_hidingsNotIn_31 : decode cX2_hidingsNotIn 31 = .ok (.iadd, 1) := by decide +kernel
theorem dX2_hidingsNotIn_32 : decode cX2_hidingsNotIn 32 = .ok (.istore_n 2, 1) := by decide +kernel
theorem dX2_hidingsNotIn_33 : decode cX2_hidingsNotIn 33 = .ok (.iinc 3 1, 3) := by decide +kernel
theorem dX2_hidingsNotIn_36 : decode cX2_hidingsNotIn 36 = .ok (.goto (-32), 3) := by decide +kernel
theorem dX2_hidingsNotIn_39 : decode cX2_hidingsNotIn 39 = .ok (.iload_n 2, 1) := by decide +kernel
theorem dX2_hidingsNotIn_40 : decode cX2_hidingsNotIn 40 = .ok (.ireturn, 1) := by decide +kernel
theorem dX2_slotDrawn_0 : decode cX2_slotDrawn 0 = .ok (.iload_n 1, 1) := by decide +kernel
theorem dX2_slotDrawn_1 : decode cX2_slotDrawn 1 = .ok (.ifCond .lt 20, 3) := by decide +kernel
theorem dX2_slotDrawn_4 : decode cX2_slotDrawn 4 = .ok (.iload_n 1, 1) := by decide +kernel
theorem dX2_slotDrawn_5 : decode cX2_slotDrawn 5 = .ok (.aload_n 0, 1) := by decide +kernel
theorem dX2_slotDrawn_6 : decode cX2_slotDrawn 6 = .ok (.getfield 71, 3) := by decide +kernel
theorem dX2_slotDrawn_9 : decode cX2_slotDrawn 9 = .ok (.if_icmp .ge 12, 3) := by decide +kernel
theorem dX2_slotDrawn_12 : decode cX2_slotDrawn 12 = .ok (.aload_n 0, 1) := by decide +kernel
theorem dX2_slotDrawn_13 : decode cX2_slotDrawn 13 = .ok (.getfield 18, 3) := by decide +kernel
theorem dX2_slotDrawn_16 : decode cX2_slotDrawn 16 = .ok (.iload_n 1, 1) := by decide +kernel
theorem dX2_slotDrawn_17 : decode cX2_slotDrawn 17 = .ok (.iaload, 1) := by decide +kernel
theorem dX2_slotDrawn_18 : decode cX2_slotDrawn 18 = .ok (.goto 4, 3) := by decide +kernel
theorem dX2_slotDrawn_21 : decode cX2_slotDrawn 21 = .ok (.iconst (-1), 1) := by decide +kernel
theorem dX2_slotDrawn_22 : decode cX2_slotDrawn 22 = .ok (.ireturn, 1) := by decide +kernel
theorem dX2_greatestLayer_0 : decode cX2_greatestLayer 0 = .ok (.bipush (-5), 2) := by decide +kernel
theorem dX2_greatestLayer_2 : decode cX2_greatestLayer 2 = .ok (.istore_n 1, 1) := by decide +kernel
theorem dX2_greatestLayer_3 : decode cX2_greatestLayer 3 = .ok (.iconst 0, 1) := by decide +kernel
theorem dX2_greatestLayer_4 : decode cX2_greatestLayer 4 = .ok (.istore_n 2, 1) := by decide +kernel
theorem dX2_greatestLayer_5 : decode cX2_greatestLayer 5 = .ok (.iload_n 2, 1) := by decide +kernel
theorem dX2_greatestLayer_6 : decode cX2_greatestLayer 6 = .ok (.aload_n 0, 1) := by decide +kernel
theorem dX2_greatestLayer_7 : decode cX2_greatestLayer 7 = .ok (.getfield 30, 3) := by decide +kernel
theorem dX2_greatestLayer_10 : decode cX2_greatestLayer 10 = .ok (.if_icmp .ge 20, 3) := by decide +kernel
theorem dX2_greatestLayer_13 : decode cX2_greatestLayer 13 = .ok (.iload_n 1, 1) := by decide +kernel
theorem dX2_greatestLayer_14 : decode cX2_greatestLayer 14 = .ok (.aload_n 0, 1) := by decide +kernel
theorem dX2_greatestLayer_15 : decode cX2_greatestLayer 15 = .ok (.getfield 21, 3) := by decide +kernel
theorem dX2_greatestLayer_18 : decode cX2_greatestLayer 18 = .ok (.iload_n 2, 1) := by decide +kernel
theorem dX2_greatestLayer_19 : decode cX2_greatestLayer 19 = .ok (.iaload, 1) := by decide +kernel
theorem dX2_greatestLayer_20 : decode cX2_greatestLayer 20 = .ok (.invokestatic 85, 3) := by decide +kernel
theorem dX2_greatestLayer_23 : decode cX2_greatestLayer 23 = .ok (.istore_n 1, 1) := by decide +kernel
theorem dX2_greatestLayer_24 : decode cX2_greatestLayer 24 = .ok (.iinc 2 1, 3) := by decide +kernel
theorem dX2_greatestLayer_27 : decode cX2_greatestLayer 27 = .ok (.goto (-22), 3) := by decide +kernel
theorem dX2_greatestLayer_30 : decode cX2_greatestLayer 30 = .ok (.iload_n 1, 1) := by decide +kernel
theorem dX2_greatestLayer_31 : decode cX2_greatestLayer 31 = .ok (.ireturn, 1) := by decide +kernel
set_option maxRecDepth 20000 in
theorem ggX2_firstNotDrawnUnder_X2_hasBit : GoodIn wsX2_firstNotDrawnUnder wsX2_hasBit := goodIn_r _ [7] (by decide +kernel) (by decide +kernel)
set_option maxRecDepth 20000 in
theorem gX2_firstNotDrawnUnder_X2_hasBit : GoodIn wsX2_firstNotDrawnUnder (va_wsS RX2 58 yX2_hasBit wsX2_hasBit) := goodIn_app (goodIn_of _ (by decide +kernel)) ggX2_firstNotDrawnUnder_X2_hasBit
theorem dX2_firstNotDrawnUnder_0 : decode cX2_firstNotDrawnUnder 0 = .ok (.iconst 0, 1) := by decide +kernel
theorem dX2_firstNotDrawnUnder_1 : decode cX2_firstNotDrawnUnder 1 = .ok (.istore_n 2, 1) := by decide +kernel
theorem dX2_firstNotDrawnUnder_2 : decode cX2_firstNotDrawnUnder 2 = .ok (.iload_n 2, 1) := by decide +kernel
theorem dX2_firstNotDrawnUnder_3 : decode cX2_firstNotDrawnUnder 3 = .ok (.aload_n 0, 1) := by decide +kernel
theorem dX2_firstNotDrawnUnder_4 : decode cX2_firstNotDrawnUnder 4 = .ok (.getfield 30, 3) := by decide +kernel
theorem dX2_firstNotDrawnUnder_7 : decode cX2_firstNotDrawnUnder 7 = .ok (.if_icmp .ge 35, 3) := by decide +kernel
theorem dX2_firstNotDrawnUnder_10 : decode cX2_firstNotDrawnUnder 10 = .ok (.aload_n 0, 1) := by decide +kernel
theorem dX2_firstNotDrawnUnder_11 : decode cX2_firstNotDrawnUnder 11 = .ok (.getfield 9, 3) := by decide +kernel
theorem dX2_firstNotDrawnUnder_14 : decode cX2_firstNotDrawnUnder 14 = .ok (.iload_n 1, 1) := by decide +kernel
theorem dX2_firstNotDrawnUnder_15 : decode cX2_firstNotDrawnUnder 15 = .ok (.iaload, 1) := by decide +kernel
theorem dX2_firstNotDrawnUnder_16 : decode cX2_firstNotDrawnUnder 16 = .ok (.iload_n 2, 1) := by decide +kernel
theorem dX2_firstNotDrawnUnder_17 : decode cX2_firstNotDrawnUnder 17 = .ok (.invokestatic 58, 3) := by decide +kernel
theorem dX2_firstNotDrawnUnder_20 : decode cX2_firstNotDrawnUnder 20 = .ok (.ifCond .eq 16, 3) := by decide +kernel
theorem dX2_firstNotDrawnUnder_23 : decode cX2_firstNotDrawnUnder 23 = .ok (.aload_n 0, 1) := by decide +kernel
theorem dX2_firstNotDrawnUnder_24 : decode cX2_firstNotDrawnUnder 24 = .ok (.getfield 68, 3) := by decide +kernel
theorem dX2_firstNotDrawnUnder_27 : decode cX2_firstNotDrawnUnder 27 = .ok (.iload_n 2, 1) := by decide +kernel
theorem dX2_firstNotDrawnUnder_28 : decode cX2_firstNotDrawnUnder 28 = .ok (.invokestatic 58, 3) := by decide +kernel
theorem dX2_firstNotDrawnUnder_31 : decode cX2_firstNotDrawnUnder 31 = .ok (.ifCond .ne 5, 3) := by decide +kernel
theorem dX2_firstNotDrawnUnder_34 : decode cX2_firstNotDrawnUnder 34 = .ok (.iload_n 2, 1) := by decide +kernel
theorem dX2_firstNotDrawnUnder_35 : decode cX2_firstNotDrawnUnder 35 = .ok (.ireturn, 1) := by decide +kernel
theorem dX2_firstNotDrawnUnder_36 : decode cX2_firstNotDrawnUnder 36 = .ok (.iinc 2 1, 3) := by decide +kernel
theorem dX2_firstNotDrawnUnder_39 : decode cX2_firstNotDrawnUnder 39 = .ok (.goto (-37), 3) := by decide +kernel
theorem dX2_firstNotDrawnUnder_42 : decode cX2_firstNotDrawnUnder 42 = .ok (.iconst (-1), 1) := by decide +kernel
theorem dX2_firstNotDrawnUnder_43 : decode cX2_firstNotDrawnUnder 43 = .ok (.ireturn, 1) := by decide +kernel
set_option maxRecDepth 20000 in
theorem ggX2_isInRing_X2_hasBit : GoodIn wsX2_isInRing wsX2_hasBit := goodIn_r _ [5] (by decide +kernel) (by decide +kernel)
set_option maxRecDepth 20000 in
theorem gX2_isInRing_X2_hasBit : GoodIn wsX2_isInRing (va_wsS RX2 58 yX2_hasBit wsX2_hasBit) := goodIn_app (goodIn_of _ (by decide +kernel)) ggX2_isInRing_X2_hasBit
theorem dX2_isInRing_0 : decode cX2_isInRing 0 = .ok (.aload_n 0, 1) := by decide +kernel
theorem dX2_isInRing_1 : decode cX2_isInRing 1 = .ok (.getfield 15, 3) := by decide +kernel
theorem dX2_isInRing_4 : decode cX2_isInRing 4 = .ok (.iload_n 1, 1) := by decide +kernel
theorem dX2_isInRing_5 : decode cX2_isInRing 5 = .ok (.iaload, 1) := by decide +kernel
theorem dX2_isInRing_6 : decode cX2_isInRing 6 = .ok (.iload_n 1, 1) := by decide +kernel
theorem dX2_isInRing_7 : decode cX2_isInRing 7 = .ok (.invokestatic 58, 3) := by decide +kernel
theorem dX2_isInRing_10 : decode cX2_isInRing 10 = .ok (.ireturn, 1) := by decide +kernel
set_option maxRecDepth 20000 in
theorem ggX2_boxesInRings_X2_isInRing : GoodIn wsX2_boxesInRings wsX2_isInRing := goodIn_r _ [6, 7, 8, 9, 5, 10, 11, 12, 13, 14, 15, 16, 17] (by decide +kernel) (by decide +kernel)
set_option maxRecDepth 20000 in
theorem gX2_boxesInRings_X2_isInRing : GoodIn wsX2_boxesInRings (wsV RX2 99 RX2 yX2_isInRing wsX2_isInRing) := goodIn_app (goodIn_of _ (by decide +kernel)) ggX2_boxesInRings_X2_isInRing
theorem dX2_boxesInRings_0 : decode cX2_boxesInRings 0 = .ok (.iconst 0, 1) := by decide +kernel
theorem dX2_boxesInRings_1 : decode cX2_boxesInRings 1 = .ok (.istore_n 1, 1) := by decide +kernel
theorem dX2_boxesInRings_2 : decode cX2_boxesInRings 2 = .ok (.iconst 0, 1) := by decide +kernel
theorem dX2_boxesInRings_3 : decode cX2_boxesInRings 3 = .ok (.istore_n 2, 1) := by decide +kernel
theorem dX2_boxesInRings_4 : decode cX2_boxesInRings 4 = .ok (.iload_n 2, 1) := by decide +kernel
theorem dX2_boxesInRings_5 : decode cX2_boxesInRings 5 = .ok (.aload_n 0, 1) := by decide +kernel
theorem dX2_boxesInRings_6 : decode cX2_boxesInRings 6 = .ok (.getfield 30, 3) := by decide +kernel
theorem dX2_boxesInRings_9 : decode cX2_boxesInRings 9 = .ok (.if_icmp .ge 20, 3) := by decide +kernel
theorem dX2_boxesInRings_12 : decode cX2_boxesInRings 12 = .ok (.aload_n 0, 1) := by decide +kernel
theorem dX2_boxesInRings_13 : decode cX2_boxesInRings 13 = .ok (.iload_n 2, 1) := by decide +kernel
theorem dX2_boxesInRings_14 : decode cX2_boxesInRings 14 = .ok (.invokevirtual 99, 3) := by decide +kernel
theorem dX2_boxesInRings_17 : decode cX2_boxesInRings 17 = .ok (.ifCond .eq 6, 3) := by decide +kernel
theorem dX2_boxesInRings_20 : decode cX2_boxesInRings 20 = .ok (.iinc 1 1, 3) := by decide +kernel
theorem dX2_boxesInRings_23 : decode cX2_boxesInRings 23 = .ok (.iinc 2 1, 3) := by decide +kernel
theorem dX2_boxesInRings_26 : decode cX2_boxesInRings 26 = .ok (.goto (-22), 3) := by decide +kernel
theorem dX2_boxesInRings_29 : decode cX2_boxesInRings 29 = .ok (.iload_n 1, 1) := by decide +kernel
theorem dX2_boxesInRings_30 : decode cX2_boxesInRings 30 = .ok (.ireturn, 1) := by decide +kernel
set_option maxRecDepth 20000 in
theorem ggX2_shortestRing_X2_shortestRingOf : GoodIn wsX2_shortestRing wsX2_shortestRingOf := goodIn_r _ [6, 7, 1, 8, 9, 5, 10, 11, 12, 13, 14, 15, 16, 17, 18, 19, 20, 21] (by decide +kernel) (by decide +kernel)
set_option maxRecDepth 20000 in
theorem gX2_shortestRing_X2_shortestRingOf : GoodIn wsX2_shortestRing (wsV RX2 103 RX2 yX2_shortestRingOf wsX2_shortestRingOf) := goodIn_app (goodIn_of _ (by decide +kernel)) ggX2_shortestRing_X2_shortestRingOf
theorem dX2_shortestRing_0 : decode cX2_shortestRing 0 = .ok (.bipush (-5), 2) := by decide +kernel
theorem dX2_shortestRing_2 : decode cX2_shortestRing 2 = .ok (.istore_n 1, 1) := by decide +kernel
theorem dX2_shortestRing_3 : decode cX2_shortestRing 3 = .ok (.iconst 0, 1) := by decide +kernel
theorem dX2_shortestRing_4 : decode cX2_shortestRing 4 = .ok (.istore_n 2, 1) := by decide +kernel
theorem dX2_shortestRing_5 : decode cX2_shortestRing 5 = .ok (.iload_n 2, 1) := by decide +kernel
theorem dX2_shortestRing_6 : decode cX2_shortestRing 6 = .ok (.aload_n 0, 1) := by decide +kernel
theorem dX2_shortestRing_7 : decode cX2_shortestRing 7 = .ok (.getfield 30, 3) := by decide +kernel
theorem dX2_shortestRing_10 : decode cX2_shortestRing 10 = .ok (.if_icmp .ge 34, 3) := by decide +kernel
theorem dX2_shortestRing_13 : decode cX2_shortestRing 13 = .ok (.aload_n 0, 1) := by decide +kernel
theorem dX2_shortestRing_14 : decode cX2_shortestRing 14 = .ok (.iload_n 2, 1) := by decide +kernel
theorem dX2_shortestRing_15 : decode cX2_shortestRing 15 = .ok (.invokevirtual 103, 3) := by decide +kernel
theorem dX2_shortestRing_18 : decode cX2_shortestRing 18 = .ok (.istore_n 3, 1) := by decide +kernel
theorem dX2_shortestRing_19 : decode cX2_shortestRing 19 = .ok (.iload_n 3, 1) := by decide +kernel
theorem dX2_shortestRing_20 : decode cX2_shortestRing 20 = .ok (.bipush (-5), 2) := by decide +kernel
theorem dX2_shortestRing_22 : decode cX2_shortestRing 22 = .ok (.if_icmp .eq 16, 3) := by decide +kernel
theorem dX2_shortestRing_25 : decode cX2_shortestRing 25 = .ok (.iload_n 1, 1) := by decide +kernel
theorem dX2_shortestRing_26 : decode cX2_shortestRing 26 = .ok (.bipush (-5), 2) := by decide +kernel
theorem dX2_shortestRing_28 : decode cX2_shortestRing 28 = .ok (.if_icmp .eq 8, 3) := by decide +kernel
theorem dX2_shortestRing_31 : decode cX2_shortestRing 31 = .ok (.iload_n 3, 1) := by decide +kernel
theorem dX2_shortestRing_32 : decode cX2_shortestRing 32 = .ok (.iload_n 1, 1) := by decide +kernel
theorem dX2_shortestRing_33 : decode cX2_shortestRing 33 = .ok (.if_icmp .ge 5, 3) := by decide +kernel
theorem dX2_shortestRing_36 : decode cX2_shortestRing 36 = .ok (.iload_n 3, 1) := by decide +kernel
theorem dX2_shortestRing_37 : decode cX2_shortestRing 37 = .ok (.istore_n 1, 1) := by decide +kernel
theorem dX2_shortestRing_38 : decode cX2_shortestRing 38 = .ok (.iinc 2 1, 3) := by decide +kernel
theorem dX2_shortestRing_41 : decode cX2_shortestRing 41 = .ok (.goto (-36), 3) := by decide +kernel
theorem dX2_shortestRing_44 : decode cX2_shortestRing 44 = .ok (.iload_n 1, 1) := by decide +kernel
theorem dX2_shortestRing_45 : decode cX2_shortestRing 45 = .ok (.ireturn, 1) := by decide +kernel
set_option maxRecDepth 20000 in
theorem ggX2_shortestRingOf_X2_hasBit : GoodIn wsX2_shortestRingOf wsX2_hasBit := goodIn_r _ [6] (by decide +kernel) (by decide +kernel)
set_option maxRecDepth 20000 in
theorem gX2_shortestRingOf_X2_hasBit : GoodIn wsX2_shortestRingOf (va_wsS RX2 58 yX2_hasBit wsX2_hasBit) := goodIn_app (goodIn_of _ (by decide +kernel)) ggX2_shortestRingOf_X2_hasBit
set_option maxRecDepth 20000 in
theorem ggX2_shortestRingOf_X2_bitsHiddenByAll : GoodIn wsX2_shortestRingOf wsX2_bitsHiddenByAll := goodIn_r _ [10, 2, 1, 3, 4, 5, 6, 11, 12, 13, 14, 15, 16, 17] (by decide +kernel) (by decide +kernel)
set_option maxRecDepth 20000 in
theorem gX2_shortestRingOf_X2_bitsHiddenByAll : GoodIn wsX2_shortestRingOf (wsV RX2 106 RX2 yX2_bitsHiddenByAll wsX2_bitsHiddenByAll) := goodIn_app (goodIn_of _ (by decide +kernel)) ggX2_shortestRingOf_X2_bitsHiddenByAll
theorem dX2_shortestRingOf_0 : decode cX2_shortestRingOf 0 = .ok (.aload_n 0, 1) := by decide +kernel
theorem dX2_shortestRingOf_1 : decode cX2_shortestRingOf 1 = .ok (.getfield 9, 3) := by decide +kernel
theorem dX2_shortestRingOf_4 : decode cX2_shortestRingOf 4 = .ok (.iload_n 1, 1) := by decide +kernel
theorem dX2_shortestRingOf_5 : decode cX2_shortestRingOf 5 = .ok (.iaload, 1) := by decide +kernel
theorem dX2_shortestRingOf_6 : decode cX2_shortestRingOf 6 = .ok (.istore_n 2, 1) := by decide +kernel
theorem dX2_shortestRingOf_7 : decode cX2_shortestRingOf 7 = .ok (.iconst 1, 1) := by decide +kernel
theorem dX2_shortestRingOf_8 : decode cX2_shortestRingOf 8 = .ok (.istore_n 3, 1) := by decide +kernel
theorem dX2_shortestRingOf_9 : decode cX2_shortestRingOf 9 = .ok (.iload_n 3, 1) := by decide +kernel
theorem dX2_shortestRingOf_10 : decode cX2_shortestRingOf 10 = .ok (.aload_n 0, 1) := by decide +kernel
theorem dX2_shortestRingOf_11 : decode cX2_shortestRingOf 11 = .ok (.getfield 30, 3) := by decide +kernel
theorem dX2_shortestRingOf_14 : decode cX2_shortestRingOf 14 = .ok (.if_icmp .gt 27, 3) := by decide +kernel
theorem dX2_shortestRingOf_17 : decode cX2_shortestRingOf 17 = .ok (.iload_n 2, 1) := by decide +kernel
theorem dX2_shortestRingOf_18 : decode cX2_shortestRingOf 18 = .ok (.iload_n 1, 1) := by decide +kernel
theorem dX2_shortestRingOf_19 : decode cX2_shortestRingOf 19 = .ok (.invokestatic 58, 3) := by decide +kernel
theorem dX2_shortestRingOf_22 : decode cX2_shortestRingOf 22 = .ok (.ifCond .eq 5, 3) := by decide +kernel
theorem dX2_shortestRingOf_25 : decode cX2_shortestRingOf 25 = .ok (.iload_n 3, 1) := by decide +kernel
theorem dX2_shortestRingOf_26 : decode cX2_shortestRingOf 26 = .ok (.ireturn, 1) := by decide +kernel
theorem dX2_shortestRingOf_27 : decode cX2_shortestRingOf 27 = .ok (.iload_n 2, 1) := by decide +kernel
theorem dX2_shortestRingOf_28 : decode cX2_shortestRingOf 28 = .ok (.aload_n 0, 1) := by decide +kernel
theorem dX2_shortestRingOf_29 : decode cX2_shortestRingOf 29 = .ok (.iload_n 2, 1) := by decide +kernel
theorem dX2_shortestRingOf_30 : decode cX2_shortestRingOf 30 = .ok (.invokevirtual 106, 3) := by decide +kernel
theorem dX2_shortestRingOf_33 : decode cX2_shortestRingOf 33 = .ok (.ior, 1) := by decide +kernel
theorem dX2_shortestRingOf_34 : decode cX2_shortestRingOf 34 = .ok (.istore_n 2, 1) := by decide +kernel
theorem dX2_shortestRingOf_35 : decode cX2_shortestRingOf 35 = .ok (.iinc 3 1, 3) := by decide +kernel
theorem dX2_shortestRingOf_38 : decode cX2_shortestRingOf 38 = .ok (.goto (-29), 3) := by decide +kernel
theorem dX2_shortestRingOf_41 : decode cX2_shortestRingOf 41 = .ok (.bipush (-5), 2) := by decide +kernel
theorem dX2_shortestRingOf_43 : decode cX2_shortestRingOf 43 = .ok (.ireturn, 1) := by decide +kernel
set_option maxRecDepth 20000 in
theorem ggX2_bitsHiddenByAll_X2_hasBit : GoodIn wsX2_bitsHiddenByAll wsX2_hasBit := goodIn_r _ [6] (by decide +kernel) (by decide +kernel)
set_option maxRecDepth 20000 in
theorem gX2_bitsHiddenByAll_X2_hasBit : GoodIn wsX2_bitsHiddenByAll (va_wsS RX2 58 yX2_hasBit wsX2_hasBit) := goodIn_app (goodIn_of _ (by decide +kernel)) ggX2_bitsHiddenByAll_X2_hasBit
theorem dX2_bitsHiddenByAll_0 : decode cX2_bitsHiddenByAll 0 = .ok (.iconst 0, 1) := by decide +kernel
theorem dX2_bitsHiddenByAll_1 : decode cX2_bitsHiddenByAll 1 = .ok (.istore_n 2, 1) := by decide +kernel
theorem dX2_bitsHiddenByAll_2 : decode cX2_bitsHiddenByAll 2 = .ok (.iconst 0, 1) := by decide +kernel
theorem dX2_bitsHiddenByAll_3 : decode cX2_bitsHiddenByAll 3 = .ok (.istore_n 3, 1) := by decide +kernel
theorem dX2_bitsHiddenByAll_4 : decode cX2_bitsHiddenByAll 4 = .ok (.iload_n 3, 1) := by decide +kernel
theorem dX2_bitsHiddenByAll_5 : decode cX2_bitsHiddenByAll 5 = .ok (.aload_n 0, 1) := by decide +kernel
theorem dX2_bitsHiddenByAll_6 : decode cX2_bitsHiddenByAll 6 = .ok (.getfield 30, 3) := by decide +kernel
theorem dX2_bitsHiddenByAll_9 : decode cX2_bitsHiddenByAll 9 = .ok (.if_icmp .ge 26, 3) := by decide +kernel
theorem dX2_bitsHiddenByAll_12 : decode cX2_bitsHiddenByAll 12 = .ok (.iload_n 1, 1) := by decide +kernel
theorem dX2_bitsHiddenByAll_13 : decode cX2_bitsHiddenByAll 13 = .ok (.iload_n 3, 1) := by decide +kernel
theorem dX2_bitsHiddenByAll_14 : decode cX2_bitsHiddenByAll 14 = .ok (.invokestatic 58, 3) := by decide +kernel
theorem dX2_bitsHiddenByAll_17 : decode cX2_bitsHiddenByAll 17 = .ok (.ifCond .eq 12, 3) := by decide +kernel
theorem dX2_bitsHiddenByAll_20 : decode cX2_bitsHiddenByAll 20 = .ok (.iload_n 2, 1) := by decide +kernel
theorem dX2_bitsHiddenByAll_21 : decode cX2_bitsHiddenByAll 21 = .ok (.aload_n 0, 1) := by decide +kernel
theorem dX2_bitsHiddenByAll_22 : decode cX2_bitsHiddenByAll 22 = .ok (.getfield 9, 3) := by decide +kernel
theorem dX2_bitsHiddenByAll_25 : decode cX2_bitsHiddenByAll 25 = .ok (.iload_n 3, 1) := by decide +kernel
theorem dX2_bitsHiddenByAll_26 : decode cX2_bitsHiddenByAll 26 = .ok (.iaload, 1) := by decide +kernel
theorem dX2_bitsHiddenByAll_27 : decode cX2_bitsHiddenByAll 27 = .ok (.ior, 1) := by decide +kernel
theorem dX2_bitsHiddenByAll_28 : decode cX2_bitsHiddenByAll 28 = .ok (.istore_n 2, 1) := by decide +kernel
theorem dX2_bitsHiddenByAll_29 : decode cX2_bitsHiddenByAll 29 = .ok (.iinc 3 1, 3) := by decide +kernel
theorem dX2_bitsHiddenByAll_32 : decode cX2_bitsHiddenByAll 32 = .ok (.goto (-28), 3) := by decide +kernel
theorem dX2_bitsHiddenByAll_35 : decode cX2_bitsHiddenByAll 35 = .ok (.iload_n 2, 1) := by decide +kernel
theorem dX2_bitsHiddenByAll_36 : decode cX2_bitsHiddenByAll 36 = .ok (.ireturn, 1) := by decide +kernel
set_option maxRecDepth 20000 in
theorem ggX2_greatestInRings_X2_isInRing : GoodIn wsX2_greatestInRings wsX2_isInRing := goodIn_r _ [7, 8, 9, 10, 6, 11, 23, 24, 25, 26, 27, 28, 29] (by decide +kernel) (by decide +kernel)
set_option maxRecDepth 20000 in
theorem gX2_greatestInRings_X2_isInRing : GoodIn wsX2_greatestInRings (wsV RX2 99 RX2 yX2_isInRing wsX2_isInRing) := goodIn_app (goodIn_of _ (by decide +kernel)) ggX2_greatestInRings_X2_isInRing
set_option maxRecDepth 20000 in
theorem ggX2_greatestInRings_X0_volume : GoodIn wsX2_greatestInRings wsX0_volume := goodIn_r _ [16, 17, 18, 19, 15, 20, 21, 22, 35, 36, 37] (by decide +kernel) (by decide +kernel)
set_option maxRecDepth 20000 in
theorem gX2_greatestInRings_X0_volume : GoodIn wsX2_greatestInRings (wsV RX2 109 RX0 yX0_volume wsX0_volume) := goodIn_app (goodIn_of _ (by decide +kernel)) ggX2_greatestInRings_X0_volume
theorem dX2_greatestInRings_0 : decode cX2_greatestInRings 0 = .ok (.iconst (-1), 1) := by decide +kernel
theorem dX2_greatestInRings_1 : decode cX2_greatestInRings 1 = .ok (.istore_n 2, 1) := by decide +kernel
theorem dX2_greatestInRings_2 : decode cX2_greatestInRings 2 = .ok (.iconst 0, 1) := by decide +kernel
theorem dX2_greatestInRings_3 : decode cX2_greatestInRings 3 = .ok (.istore_n 3, 1) := by decide +kernel
theorem dX2_greatestInRings_4 : decode cX2_greatestInRings 4 = .ok (.iload_n 3, 1) := by decide +kernel
theorem dX2_greatestInRings_5 : decode cX2_greatestInRings 5 = .ok (.aload_n 0, 1) := by decide +kernel
theorem dX2_greatestInRings_6 : decode cX2_greatestInRings 6 = .ok (.getfield 30, 3) := by decide +kernel
theorem dX2_greatestInRings_9 : decode cX2_greatestInRings 9 = .ok (.if_icmp .ge 45, 3) := by decide +kernel
theorem dX2_greatestInRings_12 : decode cX2_greatestInRings 12 = .ok (.aload_n 0, 1) := by decide +kernel
theorem dX2_greatestInRings_13 : decode cX2_greatestInRings 13 = .ok (.iload_n 3, 1) := by decide +kernel
theorem dX2_greatestInRings_14 : decode cX2_greatestInRings 14 = .ok (.invokevirtual 99, 3) := by decide +kernel
theorem dX2_greatestInRings_17 : decode cX2_greatestInRings 17 = .ok (.ifCond .eq 31, 3) := by decide +kernel
theorem dX2_greatestInRings_20 : decode cX2_greatestInRings 20 = .ok (.iload_n 2, 1) := by decide +kernel
theorem dX2_greatestInRings_21 : decode cX2_greatestInRings 21 = .ok (.iconst (-1), 1) := by decide +kernel
theorem dX2_greatestInRings_22 : decode cX2_greatestInRings 22 = .ok (.if_icmp .eq 24, 3) := by decide +kernel
theorem dX2_greatestInRings_25 : decode cX2_greatestInRings 25 = .ok (.aload_n 1, 1) := by decide +kernel
theorem dX2_greatestInRings_26 : decode cX2_greatestInRings 26 = .ok (.getfield 42, 3) := by decide +kernel
theorem dX2_greatestInRings_29 : decode cX2_greatestInRings 29 = .ok (.iload_n 3, 1) := by decide +kernel
theorem dX2_greatestInRings_30 : decode cX2_greatestInRings 30 = .ok (.aaload, 1) := by decide +kernel
theorem dX2_greatestInRings_31 : decode cX2_greatestInRings 31 = .ok (.invokevirtual 109, 3) := by decide +kernel
theorem dX2_greatestInRings_34 : decode cX2_greatestInRings 34 = .ok (.aload_n 1, 1) := by decide +kernel
theorem dX2_greatestInRings_35 : decode cX2_greatestInRings 35 = .ok (.getfield 42, 3) := by decide +kernel
theorem dX2_greatestInRings_38 : decode cX2_greatestInRings 38 = .ok (.iload_n 2, 1) := by decide +kernel
theorem dX2_greatestInRings_39 : decode cX2_greatestInRings 39 = .ok (.aaload, 1) := by decide +kernel
theorem dX2_greatestInRings_40 : decode cX2_greatestInRings 40 = .ok (.invokevirtual 109, 3) := by decide +kernel
theorem dX2_greatestInRings_43 : decode cX2_greatestInRings 43 = .ok (.if_icmp .le 5, 3) := by decide +kernel
theorem dX2_greatestInRings_46 : decode cX2_greatestInRings 46 = .ok (.iload_n 3, 1) := by decide +kernel
theorem dX2_greatestInRings_47 : decode cX2_greatestInRings 47 = .ok (.istore_n 2, 1) := by decide +kernel
theorem dX2_greatestInRings_48 : decode cX2_greatestInRings 48 = .ok (.iinc 3 1, 3) := by decide +kernel
theorem dX2_greatestInRings_51 : decode cX2_greatestInRings 51 = .ok (.goto (-47), 3) := by decide +kernel
theorem dX2_greatestInRings_54 : decode cX2_greatestInRings 54 = .ok (.iload_n 2, 1) := by decide +kernel
theorem dX2_greatestInRings_55 : decode cX2_greatestInRings 55 = .ok (.ireturn, 1) := by decide +kernel
set_option maxRecDepth 20000 in
theorem ggX3_init_X0_init : GoodIn wsX3_init wsX0_init := goodIn_r _ [9, 10, 2, 3, 11, 12, 13, 19, 20, 21] (by decide +kernel) (by decide +kernel)
set_option maxRecDepth 20000 in
theorem gX3_init_X0_init_n17 : GoodIn wsX3_init (wsX0_init) := ggX3_init_X0_init
theorem dX3_init_0 : decode cX3_init 0 = .ok (.aload_n 0, 1) := by decide +kernel
theorem dX3_init_1 : decode cX3_init 1 = .ok (.invokespecial 3, 3) := by decide +kernel
theorem dX3_init_4 : decode cX3_init 4 = .ok (.aload_n 0, 1) := by decide +kernel
theorem dX3_init_5 : decode cX3_init 5 = .ok (.bipush 16, 2) := by decide +kernel
theorem dX3_init_7 : decode cX3_init 7 = .ok (.anewarray 9, 3) := by decide +kernel
theorem dX3_init_10 : decode cX3_init 10 = .ok (.putfield 11, 3) := by decide +kernel
theorem dX3_init_13 : decode cX3_init 13 = .ok (.iconst 0, 1) := by decide +kernel
theorem dX3_init_14 : decode cX3_init 14 = .ok (.istore_n 1, 1) := by decide +kernel
theorem dX3_init_15 : decode cX3_init 15 = .ok (.iload_n 1, 1) := by decide +kernel
theorem dX3_init_16 : decode cX3_init 16 = .ok (.bipush 16, 2) := by decide +kernel
theorem dX3_init_18 : decode cX3_init 18 = .ok (.if_icmp .ge 22, 3) := by decide +kernel
theorem dX3_init_21 : decode cX3_init 21 = .ok (.aload_n 0, 1) := by decide +kernel
theorem dX3_init_22 : decode cX3_init 22 = .ok (.getfield 11, 3) := by decide +kernel
theorem dX3_init_25 : decode cX3_init 25 = .ok (.iload_n 1, 1) := by decide +kernel
theorem dX3_init_26 : decode cX3_init 26 = .ok (.new 9, 3) := by decide +kernel
theorem dX3_init_29 : decode cX3_init 29 = .ok (.dup, 1) := by decide +kernel
theorem dX3_init_30 : decode cX3_init 30 = .ok (.invokespecial 17, 3) := by decide +kernel
theorem dX3_init_33 : decode cX3_init 33 = .ok (.aastore, 1) := by decide +kernel
theorem dX3_init_34 : decode cX3_init 34 = .ok (.iinc 1 1, 3) := by decide +kernel
theorem dX3_init_37 : decode cX3_init 37 = .ok (.goto (-22), 3) := by decide +kernel
theorem dX3_init_40 : decode cX3_init 40 = .ok (.return_, 1) := by decide +kernel
set_option maxRecDepth 20000 in
theorem ggX3_copyFrom_X0_copyFrom : GoodIn wsX3_copyFrom wsX0_copyFrom := goodIn_r _ [10, 11, 12, 13, 14, 15, 16, 17, 23, 24, 25] (by decide +kernel) (by decide +kernel)
set_option maxRecDepth 20000 in
theorem gX3_copyFrom_X0_copyFrom : GoodIn wsX3_copyFrom (wsV RX3 31 RX0 yX0_copyFrom wsX0_copyFrom) := goodIn_app (goodIn_of _ (by decide +kernel)) ggX3_copyFrom_X0_copyFrom
theorem dX3_copyFrom_0 : decode cX3_copyFrom 0 = .ok (.aload_n 0, 1) := by decide +kernel
theorem dX3_copyFrom_1 : decode cX3_copyFrom 1 = .ok (.aload_n 1, 1) := by decide +kernel
theorem dX3_copyFrom_2 : decode cX3_copyFrom 2 = .ok (.getfield 18, 3) := by decide +kernel
theorem dX3_copyFrom_5 : decode cX3_copyFrom 5 = .ok (.putfield 18, 3) := by decide +kernel
theorem dX3_copyFrom_8 : decode cX3_copyFrom 8 = .ok (.aload_n 0, 1) := by decide +kernel
theorem dX3_copyFrom_9 : decode cX3_copyFrom 9 = .ok (.aload_n 1, 1) := by decide +kernel
theorem dX3_copyFrom_10 : decode cX3_copyFrom 10 = .ok (.getfield 22, 3) := by decide +kernel
theorem dX3_copyFrom_13 : decode cX3_copyFrom 13 = .ok (.putfield 22, 3) := by decide +kernel
theorem dX3_copyFrom_16 : decode cX3_copyFrom 16 = .ok (.aload_n 0, 1) := by decide +kernel
theorem dX3_copyFrom_17 : decode cX3_copyFrom 17 = .ok (.aload_n 1, 1) := by decide +kernel
theorem dX3_copyFrom_18 : decode cX3_copyFrom 18 = .ok (.getfield 25, 3) := by decide +kernel
theorem dX3_copyFrom_21 : decode cX3_copyFrom 21 = .ok (.putfield 25, 3) := by decide +kernel
theorem dX3_copyFrom_24 : decode cX3_copyFrom 24 = .ok (.aload_n 0, 1) := by decide +kernel
theorem dX3_copyFrom_25 : decode cX3_copyFrom 25 = .ok (.aload_n 1, 1) := by decide +kernel
theorem dX3_copyFrom_26 : decode cX3_copyFrom 26 = .ok (.getfield 28, 3) := by decide +kernel
theorem dX3_copyFrom_29 : decode cX3_copyFrom 29 = .ok (.putfield 28, 3) := by decide +kernel
theorem dX3_copyFrom_32 : decode cX3_copyFrom 32 = .ok (.iconst 0, 1) := by decide +kernel
theorem dX3_copyFrom_33 : decode cX3_copyFrom 33 = .ok (.istore_n 2, 1) := by decide +kernel
theorem dX3_copyFrom_34 : decode cX3_copyFrom 34 = .ok (.iload_n 2, 1) := by decide +kernel
theorem dX3_copyFrom_35 : decode cX3_copyFrom 35 = .ok (.aload_n 0, 1) := by decide +kernel
theorem dX3_copyFrom_36 : decode cX3_copyFrom 36 = .ok (.getfield 18, 3) := by decide +kernel
theorem dX3_copyFrom_39 : decode cX3_copyFrom 39 = .ok (.if_icmp .ge 24, 3) := by decide +kernel
theorem dX3_copyFrom_42 : decode cX3_copyFrom 42 = .ok (.aload_n 0, 1) := by decide +kernel
theorem dX3_copyFrom_43 : decode cX3_copyFrom 43 = .ok (.getfield 11, 3) := by decide +kernel
theorem dX3_copyFrom_46 : decode cX3_copyFrom 46 = .ok (.iload_n 2, 1) := by decide +kernel
theorem dX3_copyFrom_47 : decode cX3_copyFrom 47 = .ok (.aaload, 1) := by decide +kernel
theorem dX3_copyFrom_48 : decode cX3_copyFrom 48 = .ok (.aload_n 1, 1) := by decide +kernel
theorem dX3_copyFrom_49 : decode cX3_copyFrom 49 = .ok (.getfield 11, 3) := by decide +kernel
theorem dX3_copyFrom_52 : decode cX3_copyFrom 52 = .ok (.iload_n 2, 1) := by decide +kernel
theorem dX3_copyFrom_53 : decode cX3_copyFrom 53 = .ok (.aaload, 1) := by decide +kernel
theorem dX3_copyFrom_54 : decode cX3_copyFrom 54 = .ok (.invokevirtual 31, 3) := by decide +kernel
theorem dX3_copyFrom_57 : decode cX3_copyFrom 57 = .ok (.iinc 2 1, 3) := by decide +kernel
theorem dX3_copyFrom_60 : decode cX3_copyFrom 60 = .ok (.goto (-26), 3) := by decide +kernel
theorem dX3_copyFrom_63 : decode cX3_copyFrom 63 = .ok (.return_, 1) := by decide +kernel
theorem dX3_isFull_0 : decode cX3_isFull 0 = .ok (.aload_n 0, 1) := by decide +kernel
theorem dX3_isFull_1 : decode cX3_isFull 1 = .ok (.getfield 18, 3) := by decide +kernel
theorem dX3_isFull_4 : decode cX3_isFull 4 = .ok (.bipush 16, 2) := by decide +kernel
theorem dX3_isFull_6 : decode cX3_isFull 6 = .ok (.if_icmp .lt 7, 3) := by decide +kernel
theorem dX3_isFull_9 : decode cX3_isFull 9 = .ok (.iconst 1, 1) := by decide +kernel
theorem dX3_isFull_10 : decode cX3_isFull 10 = .ok (.goto 4, 3) := by decide +kernel
theorem dX3_isFull_13 : decode cX3_isFull 13 = .ok (.iconst 0, 1) := by decide +kernel
theorem dX3_isFull_14 : decode cX3_isFull 14 = .ok (.ireturn, 1) := by decide +kernel
theorem dX3_slotOf_0 : decode cX3_slotOf 0 = .ok (.iconst 0, 1) := by decide +kernel
theorem dX3_slotOf_1 : decode cX3_slotOf 1 = .ok (.istore_n 2, 1) := by decide +kernel
theorem dX3_slotOf_2 : decode cX3_slotOf 2 = .ok (.iload_n 2, 1) := by decide +kernel
theorem dX3_slotOf_3 : decode cX3_slotOf 3 = .ok (.aload_n 0, 1) := by decide +kernel
theorem dX3_slotOf_4 : decode cX3_slotOf 4 = .ok (.getfield 18, 3) := by decide +kernel
theorem dX3_slotOf_7 : decode cX3_slotOf 7 = .ok (.if_icmp .ge 24, 3) := by decide +kernel
theorem dX3_slotOf_10 : decode cX3_slotOf 10 = .ok (.aload_n 0, 1) := by decide +kernel
theorem dX3_slotOf_11 : decode cX3_slotOf 11 = .ok (.getfield 11, 3) := by decide +kernel
theorem dX3_slotOf_14 : decode cX3_slotOf 14 = .ok (.iload_n 2, 1) := by decide +kernel
theorem dX3_slotOf_15 : decode cX3_slotOf 15 = .ok (.aaload, 1) := by decide +kernel
theorem dX3_slotOf_16 : decode cX3_slotOf 16 = .ok (.getfield 35, 3) := by decide +kernel
theorem dX3_slotOf_19 : decode cX3_slotOf 19 = .ok (.iload_n 1, 1) := by decide +kernel
theorem dX3_slotOf_20 : decode cX3_slotOf 20 = .ok (.if_icmp .ne 5, 3) := by decide +kernel
theorem dX3_slotOf_23 : decode cX3_slotOf 23 = .ok (.iload_n 2, 1) := by decide +kernel
theorem dX3_slotOf_24 : decode cX3_slotOf 24 = .ok (.ireturn, 1) := by decide +kernel
theorem dX3_slotOf_25 : decode cX3_slotOf 25 = .ok (.iinc 2 1, 3) := by decide +kernel
theorem dX3_slotOf_28 : decode cX3_slotOf 28 = .ok (.goto (-26), 3) := by decide +kernel
theorem dX3_slotOf_31 : decode cX3_slotOf 31 = .ok (.iconst (-1), 1) := by decide +kernel
theorem dX3_slotOf_32 : decode cX3_slotOf 32 = .ok (.ireturn, 1) := by decide +kernel
set_option maxRecDepth 20000 in
theorem ggX3_isCutBy_X0_cuts : GoodIn wsX3_isCutBy wsX0_cuts := goodIn_r _ [7, 8, 9, 10, 6, 11, 12, 13, 19, 20, 21] (by decide +kernel) (by decide +kernel)
set_option maxRecDepth 20000 in
theorem gX3_isCutBy_X0_cuts : GoodIn wsX3_isCutBy (wsV RX3 38 RX0 yX0_cuts wsX0_cuts) := goodIn_app (goodIn_of _ (by decide +kernel)) ggX3_isCutBy_X0_cuts
theorem dX3_isCutBy_0 : decode cX3_isCutBy 0 = .ok (.iconst 0, 1) := by decide +kernel
theorem dX3_isCutBy_1 : decode cX3_isCutBy 1 = .ok (.istore_n 3, 1) := by decide +kernel
theorem dX3_isCutBy_2 : decode cX3_isCutBy 2 = .ok (.iload_n 3, 1) := by decide +kernel
theorem dX3_isCutBy_3 : decode cX3_isCutBy 3 = .ok (.aload_n 0, 1) := by decide +kernel
theorem dX3_isCutBy_4 : decode cX3_isCutBy 4 = .ok (.getfield 18, 3) := by decide +kernel
theorem dX3_isCutBy_7 : decode cX3_isCutBy 7 = .ok (.if_icmp .ge 29, 3) := by decide +kernel
theorem dX3_isCutBy_10 : decode cX3_isCutBy 10 = .ok (.iload_n 3, 1) := by decide +kernel
theorem dX3_isCutBy_11 : decode cX3_isCutBy 11 = .ok (.iload_n 2, 1) := by decide +kernel
theorem dX3_isCutBy_12 : decode cX3_isCutBy 12 = .ok (.if_icmp .eq 18, 3) := by decide +kernel
theorem dX3_isCutBy_15 : decode cX3_isCutBy 15 = .ok (.aload_n 0, 1) := by decide +kernel
theorem dX3_isCutBy_16 : decode cX3_isCutBy 16 = .ok (.getfield 11, 3) := by decide +kernel
theorem dX3_isCutBy_19 : decode cX3_isCutBy 19 = .ok (.iload_n 3, 1) := by decide +kernel
theorem dX3_isCutBy_20 : decode cX3_isCutBy 20 = .ok (.aaload, 1) := by decide +kernel
theorem dX3_isCutBy_21 : decode cX3_isCutBy 21 = .ok (.aload_n 1, 1) := by decide +kernel
theorem dX3_isCutBy_22 : decode cX3_isCutBy 22 = .ok (.invokevirtual 38, 3) := by decide +kernel
theorem dX3_isCutBy_25 : decode cX3_isCutBy 25 = .ok (.ifCond .eq 5, 3) := by decide +kernel
theorem dX3_isCutBy_28 : decode cX3_isCutBy 28 = .ok (.iconst 1, 1) := by decide +kernel
theorem dX3_isCutBy_29 : decode cX3_isCutBy 29 = .ok (.ireturn, 1) := by decide +kernel
theorem dX3_isCutBy_30 : decode cX3_isCutBy 30 = .ok (.iinc 3 1, 3) := by decide +kernel
theorem dX3_isCutBy_33 : decode cX3_isCutBy 33 = .ok (.goto (-31), 3) := by decide +kernel
theorem dX3_isCutBy_36 : decode cX3_isCutBy 36 = .ok (.iconst 0, 1) := by decide +kernel
theorem dX3_isCutBy_37 : decode cX3_isCutBy 37 = .ok (.ireturn, 1) := by decide +kernel
set_option maxRecDepth 20000 in
theorem ggX3_append_X3_isFull : GoodIn wsX3_append wsX3_isFull := goodIn_r _ [9, 2, 22, 23, 24, 25, 26] (by decide +kernel) (by decide +kernel)
set_option maxRecDepth 20000 in
theorem gX3_append_X3_isFull : GoodIn wsX3_append (wsV RX3 42 RX3 yX3_isFull wsX3_isFull) := goodIn_app (goodIn_of _ (by decide +kernel)) ggX3_append_X3_isFull
set_option maxRecDepth 20000 in
theorem ggX3_append_X0_copyFrom : GoodIn wsX3_append wsX0_copyFrom := goodIn_r _ [14, 15, 16, 17, 18, 19, 20, 21, 27, 28, 29] (by decide +kernel) (by decide +kernel)
set_option maxRecDepth 20000 in
theorem gX3_append_X0_copyFrom : GoodIn wsX3_append (wsV RX3 31 RX0 yX0_copyFrom wsX0_copyFrom) := goodIn_app (goodIn_of _ (by decide +kernel)) ggX3_append_X0_copyFrom
theorem dX3_append_0 : decode cX3_append 0 = .ok (.aload_n 0, 1) := by decide +kernel
theorem dX3_append_1 : decode cX3_append 1 = .ok (.invokevirtual 42, 3) := by decide +kernel
theorem dX3_append_4 : decode cX3_append 4 = .ok (.ifCond .eq 6, 3) := by decide +kernel
theorem dX3_append_7 : decode cX3_append 7 = .ok (.bipush (-3), 2) := by decide +kernel
theorem dX3_append_9 : decode cX3_append 9 = .ok (.ireturn, 1) := by decide +kernel
theorem dX3_append_10 : decode cX3_append 10 = .ok (.aload_n 0, 1) := by decide +kernel
theorem dX3_append_11 : decode cX3_append 11 = .ok (.getfield 11, 3) := by decide +kernel
theorem dX3_append_14 : decode cX3_append 14 = .ok (.aload_n 0, 1) := by decide +kernel
theorem dX3_append_15 : decode cX3_append 15 = .ok (.getfield 18, 3) := by decide +kernel
theorem dX3_append_18 : decode cX3_append 18 = .ok (.aaload, 1) := by decide +kernel
theorem dX3_append_19 : decode cX3_append 19 = .ok (.astore_n 2, 1) := by decide +kernel
theorem dX3_append_20 : decode cX3_append 20 = .ok (.aload_n 2, 1) := by decide +kernel
theorem dX3_append_21 : decode cX3_append 21 = .ok (.aload_n 1, 1) := by decide +kernel
theorem dX3_append_22 : decode cX3_append 22 = .ok (.invokevirtual 31, 3) := by decide +kernel
theorem dX3_append_25 : decode cX3_append 25 = .ok (.aload_n 2, 1) := by decide +kernel
theorem dX3_append_26 : decode cX3_append 26 = .ok (.aload_n 0, 1) := by decide +kernel
theorem dX3_append_27 : decode cX3_append 27 = .ok (.getfield 22, 3) := by decide +kernel
theorem dX3_append_30 : decode cX3_append 30 = .ok (.putfield 35, 3) := by decide +kernel
theorem dX3_append_33 : decode cX3_append 33 = .ok (.aload_n 0, 1) := by decide +kernel
theorem dX3_append_34 : decode cX3_append 34 = .ok (.dup, 1) := by decide +kernel
theorem dX3_append_35 : decode cX3_append 35 = .ok (.getfield 18, 3) := by decide +kernel
theorem dX3_append_38 : decode cX3_append 38 = .ok (.iconst 1, 1) := by decide +kernel
theorem dX3_append_39 : decode cX3_append 39 = .ok (.iadd, 1) := by decide +kernel
theorem dX3_append_40 : decode cX3_append 40 = .ok (.putfield 18, 3) := by decide +kernel
theorem dX3_append_43 : decode cX3_append 43 = .ok (.aload_n 0, 1) := by decide +kernel
theorem dX3_append_44 : decode cX3_append 44 = .ok (.dup, 1) := by decide +kernel
theorem dX3_append_45 : decode cX3_append 45 = .ok (.getfield 22, 3) := by decide +kernel
theorem dX3_append_48 : decode cX3_append 48 = .ok (.iconst 1, 1) := by decide +kernel
theorem dX3_append_49 : decode cX3_append 49 = .ok (.iadd, 1) := by decide +kernel
theorem dX3_append_50 : decode cX3_append 50 = .ok (.putfield 22, 3) := by decide +kernel
theorem dX3_append_53 : decode cX3_append 53 = .ok (.aload_n 2, 1) := by decide +kernel
theorem dX3_append_54 : decode cX3_append 54 = .ok (.getfield 35, 3) := by decide +kernel
theorem dX3_append_57 : decode cX3_append 57 = .ok (.ireturn, 1) := by decide +kernel
set_option maxRecDepth 20000 in
theorem ggX3_takeOut_X0_copyFrom : GoodIn wsX3_takeOut wsX0_copyFrom := goodIn_r _ [7, 8, 9, 10, 11, 12, 13, 14, 20, 21, 22] (by decide +kernel) (by decide +kernel)
set_option maxRecDepth 20000 in
theorem gX3_takeOut_X0_copyFrom : GoodIn wsX3_takeOut (wsV RX3 31 RX0 yX0_copyFrom wsX0_copyFrom) := goodIn_app (goodIn_of _ (by decide +kernel)) ggX3_takeOut_X0_copyFrom
theorem dX3_takeOut_0 : decode cX3_takeOut 0 = .ok (.iload_n 1, 1) := by decide +kernel
theorem dX3_takeOut_1 : decode cX3_takeOut 1 = .ok (.istore_n 2, 1) := by decide +kernel
theorem dX3_takeOut_2 : decode cX3_takeOut 2 = .ok (.iload_n 2, 1) := by decide +kernel
theorem dX3_takeOut_3 : decode cX3_takeOut 3 = .ok (.iconst 1, 1) := by decide +kernel
theorem dX3_takeOut_4 : decode cX3_takeOut 4 = .ok (.iadd, 1) := by decide +kernel
theorem dX3_takeOut_5 : decode cX3_takeOut 5 = .ok (.aload_n 0, 1) := by decide +kernel
theorem dX3_takeOut_6 : decode cX3_takeOut 6 = .ok (.getfield 18, 3) := by decide +kernel
theorem dX3_takeOut_9 : decode cX3_takeOut 9 = .ok (.if_icmp .ge 26, 3) := by decide +kernel
theorem dX3_takeOut_12 : decode cX3_takeOut 12 = .ok (.aload_n 0, 1) := by decide +kernel
theorem dX3_takeOut_13 : decode cX3_takeOut 13 = .ok (.getfield 11, 3) := by decide +kernel
theorem dX3_takeOut_16 : decode cX3_takeOut 16 = .ok (.iload_n 2, 1) := by decide +kernel
theorem dX3_takeOut_17 : decode cX3_takeOut 17 = .ok (.aaload, 1) := by decide +kernel
theorem dX3_takeOut_18 : decode cX3_takeOut 18 = .ok (.aload_n 0, 1) := by decide +kernel
theorem dX3_takeOut_19 : decode cX3_takeOut 19 = .ok (.getfield 11, 3) := by decide +kernel
theorem dX3_takeOut_22 : decode cX3_takeOut 22 = .ok (.iload_n 2, 1) := by decide +kernel
theorem dX3_takeOut_23 : decode cX3_takeOut 23 = .ok (.iconst 1, 1) := by decide +kernel
theorem dX3_takeOut_24 : decode cX3_takeOut 24 = .ok (.iadd, 1) := by decide +kernel
theorem dX3_takeOut_25 : decode cX3_takeOut 25 = .ok (.aaload, 1) := by decide +kernel
theorem dX3_takeOut_26 : decode cX3_takeOut 26 = .ok (.invokevirtual 31, 3) := by decide +kernel
theorem dX3_takeOut_29 : decode cX3_takeOut 29 = .ok (.iinc 2 1, 3) := by decide +kernel
theorem dX3_takeOut_32 : decode cX3_takeOut 32 = .ok (.goto (-30), 3) := by decide +kernel
theorem dX3_takeOut_35 : decode cX3_takeOut 35 = .ok (.aload_n 0, 1) := by decide +kernel
theorem dX3_takeOut_36 : decode cX3_takeOut 36 = .ok (.dup, 1) := by decide +kernel
theorem dX3_takeOut_37 : decode cX3_takeOut 37 = .ok (.getfield 18, 3) := by decide +kernel
theorem dX3_takeOut_40 : decode cX3_takeOut 40 = .ok (.iconst 1, 1) := by decide +kernel
theorem dX3_takeOut_41 : decode cX3_takeOut 41 = .ok (.isub, 1) := by decide +kernel
theorem dX3_takeOut_42 : decode cX3_takeOut 42 = .ok (.putfield 18, 3) := by decide +kernel
theorem dX3_takeOut_45 : decode cX3_takeOut 45 = .ok (.return_, 1) := by decide +kernel
set_option maxRecDepth 20000 in
theorem ggX3_cutInTwo_X3_append : GoodIn wsX3_cutInTwo wsX3_append := goodIn_r _ [10, 1, 2, 11, 12, 13, 14, 15, 9, 16, 17, 18, 19, 20, 21, 22, 23, 24, 25, 26, 27, 28, 29, 30, 31, 32, 33, 34, 35, 36] (by decide +kernel) (by decide +kernel)
set_option maxRecDepth 20000 in
theorem gX3_cutInTwo_X3_append : GoodIn wsX3_cutInTwo (wsV RX3 46 RX3 yX3_append wsX3_append) := goodIn_app (goodIn_of _ (by decide +kernel)) ggX3_cutInTwo_X3_append
theorem dX3_cutInTwo_0 : decode cX3_cutInTwo 0 = .ok (.aload_n 0, 1) := by decide +kernel
theorem dX3_cutInTwo_1 : decode cX3_cutInTwo 1 = .ok (.aload_n 0, 1) := by decide +kernel
theorem dX3_cutInTwo_2 : decode cX3_cutInTwo 2 = .ok (.getfield 11, 3) := by decide +kernel
theorem dX3_cutInTwo_5 : decode cX3_cutInTwo 5 = .ok (.iload_n 1, 1) := by decide +kernel
theorem dX3_cutInTwo_6 : decode cX3_cutInTwo 6 = .ok (.aaload, 1) := by decide +kernel
theorem dX3_cutInTwo_7 : decode cX3_cutInTwo 7 = .ok (.invokevirtual 46, 3) := by decide +kernel
theorem dX3_cutInTwo_10 : decode cX3_cutInTwo 10 = .ok (.istore 4, 2) := by decide +kernel
theorem dX3_cutInTwo_12 : decode cX3_cutInTwo 12 = .ok (.iload 4, 2) := by decide +kernel
theorem dX3_cutInTwo_14 : decode cX3_cutInTwo 14 = .ok (.ifCond .ge 6, 3) := by decide +kernel
theorem dX3_cutInTwo_17 : decode cX3_cutInTwo 17 = .ok (.iload 4, 2) := by decide +kernel
theorem dX3_cutInTwo_19 : decode cX3_cutInTwo 19 = .ok (.ireturn, 1) := by decide +kernel
theorem dX3_cutInTwo_20 : decode cX3_cutInTwo 20 = .ok (.aload_n 0, 1) := by decide +kernel
theorem dX3_cutInTwo_21 : decode cX3_cutInTwo 21 = .ok (.getfield 11, 3) := by decide +kernel
theorem dX3_cutInTwo_24 : decode cX3_cutInTwo 24 = .ok (.aload_n 0, 1) := by decide +kernel
theorem dX3_cutInTwo_25 : decode cX3_cutInTwo 25 = .ok (.getfield 18, 3) := by decide +kernel
theorem dX3_cutInTwo_28 : decode cX3_cutInTwo 28 = .ok (.iconst 1, 1) := by decide +kernel
theorem dX3_cutInTwo_29 : decode cX3_cutInTwo 29 = .ok (.isub, 1) := by decide +kernel
theorem dX3_cutInTwo_30 : decode cX3_cutInTwo 30 = .ok (.aaload, 1) := by decide +kernel
theorem dX3_cutInTwo_31 : decode cX3_cutInTwo 31 = .ok (.getfield 50, 3) := by decide +kernel
theorem dX3_cutInTwo_34 : decode cX3_cutInTwo 34 = .ok (.iload_n 2, 1) := by decide +kernel
theorem dX3_cutInTwo_35 : decode cX3_cutInTwo 35 = .ok (.iload_n 3, 1) := by decide +kernel
theorem dX3_cutInTwo_36 : decode cX3_cutInTwo 36 = .ok (.iastore, 1) := by decide +kernel
theorem dX3_cutInTwo_37 : decode cX3_cutInTwo 37 = .ok (.aload_n 0, 1) := by decide +kernel
