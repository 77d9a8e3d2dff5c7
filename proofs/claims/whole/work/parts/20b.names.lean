theorem dX3_quarterTurn_2 : decode cX3_quarterTurn 2 = .ok (.iload_n 1, 1) := by decide +kernel
theorem dX3_quarterTurn_3 : decode cX3_quarterTurn 3 = .ok (.aload_n 0, 1) := by decide +kernel
theorem dX3_quarterTurn_4 : decode cX3_quarterTurn 4 = .ok (.getfield 18, 3) := by decide +kernel
theorem dX3_quarterTurn_7 : decode cX3_quarterTurn 7 = .ok (.if_icmp .ge 76, 3) := by decide +kernel
theorem dX3_quarterTurn_10 : decode cX3_quarterTurn 10 = .ok (.aload_n 0, 1) := by decide +kernel
theorem dX3_quarterTurn_11 : decode cX3_quarterTurn 11 = .ok (.getfield 11, 3) := by decide +kernel
theorem dX3_quarterTurn_14 : decode cX3_quarterTurn 14 = .ok (.iload_n 1, 1) := by decide +kernel
theorem dX3_quarterTurn_15 : decode cX3_quarterTurn 15 = .ok (.aaload, 1) := by decide +kernel
theorem dX3_quarterTurn_16 : decode cX3_quarterTurn 16 = .ok (.astore_n 2, 1) := by decide +kernel
theorem dX3_quarterTurn_17 : decode cX3_quarterTurn 17 = .ok (.aload_n 2, 1) := by decide +kernel
theorem dX3_quarterTurn_18 : decode cX3_quarterTurn 18 = .ok (.getfield 50, 3) := by decide +kernel
theorem dX3_quarterTurn_21 : decode cX3_quarterTurn 21 = .ok (.iconst 0, 1) := by decide +kernel
theorem dX3_quarterTurn_22 : decode cX3_quarterTurn 22 = .ok (.iaload, 1) := by decide +kernel
theorem dX3_quarterTurn_23 : decode cX3_quarterTurn 23 = .ok (.istore_n 3, 1) := by decide +kernel
theorem dX3_quarterTurn_24 : decode cX3_quarterTurn 24 = .ok (.aload_n 2, 1) := by decide +kernel
theorem dX3_quarterTurn_25 : decode cX3_quarterTurn 25 = .ok (.getfield 54, 3) := by decide +kernel
theorem dX3_quarterTurn_28 : decode cX3_quarterTurn 28 = .ok (.iconst 0, 1) := by decide +kernel
theorem dX3_quarterTurn_29 : decode cX3_quarterTurn 29 = .ok (.iaload, 1) := by decide +kernel
theorem dX3_quarterTurn_30 : decode cX3_quarterTurn 30 = .ok (.istore 4, 2) := by decide +kernel
theorem dX3_quarterTurn_32 : decode cX3_quarterTurn 32 = .ok (.aload_n 2, 1) := by decide +kernel
theorem dX3_quarterTurn_33 : decode cX3_quarterTurn 33 = .ok (.getfield 50, 3) := by decide +kernel
theorem dX3_quarterTurn_36 : decode cX3_quarterTurn 36 = .ok (.iconst 0, 1) := by decide +kernel
theorem dX3_quarterTurn_37 : decode cX3_quarterTurn 37 = .ok (.bipush 32, 2) := by decide +kernel
theorem dX3_quarterTurn_39 : decode cX3_quarterTurn 39 = .ok (.aload_n 2, 1) := by decide +kernel
theorem dX3_quarterTurn_40 : decode cX3_quarterTurn 40 = .ok (.getfield 54, 3) := by decide +kernel
theorem dX3_quarterTurn_43 : decode cX3_quarterTurn 43 = .ok (.iconst 1, 1) := by decide +kernel
theorem dX3_quarterTurn_44 : decode cX3_quarterTurn 44 = .ok (.iaload, 1) := by decide +kernel
theorem dX3_quarterTurn_45 : decode cX3_quarterTurn 45 = .ok (.isub, 1) := by decide +kernel
theorem dX3_quarterTurn_46 : decode cX3_quarterTurn 46 = .ok (.iastore, 1) := by decide +kernel
theorem dX3_quarterTurn_47 : decode cX3_quarterTurn 47 = .ok (.aload_n 2, 1) := by decide +kernel
theorem dX3_quarterTurn_48 : decode cX3_quarterTurn 48 = .ok (.getfield 54, 3) := by decide +kernel
theorem dX3_quarterTurn_51 : decode cX3_quarterTurn 51 = .ok (.iconst 0, 1) := by decide +kernel
theorem dX3_quarterTurn_52 : decode cX3_quarterTurn 52 = .ok (.bipush 32, 2) := by decide +kernel
theorem dX3_quarterTurn_54 : decode cX3_quarterTurn 54 = .ok (.aload_n 2, 1) := by decide +kernel
theorem dX3_quarterTurn_55 : decode cX3_quarterTurn 55 = .ok (.getfield 50, 3) := by decide +kernel
theorem dX3_quarterTurn_58 : decode cX3_quarterTurn 58 = .ok (.iconst 1, 1) := by decide +kernel
theorem dX3_quarterTurn_59 : decode cX3_quarterTurn 59 = .ok (.iaload, 1) := by decide +kernel
theorem dX3_quarterTurn_60 : decode cX3_quarterTurn 60 = .ok (.isub, 1) := by decide +kernel
theorem dX3_quarterTurn_61 : decode cX3_quarterTurn 61 = .ok (.iastore, 1) := by decide +kernel
theorem dX3_quarterTurn_62 : decode cX3_quarterTurn 62 = .ok (.aload_n 2, 1) := by decide +kernel
theorem dX3_quarterTurn_63 : decode cX3_quarterTurn 63 = .ok (.getfield 50, 3) := by decide +kernel
theorem dX3_quarterTurn_66 : decode cX3_quarterTurn 66 = .ok (.iconst 1, 1) := by decide +kernel
theorem dX3_quarterTurn_67 : decode cX3_quarterTurn 67 = .ok (.iload_n 3, 1) := by decide +kernel
theorem dX3_quarterTurn_68 : decode cX3_quarterTurn 68 = .ok (.iastore, 1) := by decide +kernel
theorem dX3_quarterTurn_69 : decode cX3_quarterTurn 69 = .ok (.aload_n 2, 1) := by decide +kernel
theorem dX3_quarterTurn_70 : decode cX3_quarterTurn 70 = .ok (.getfield 54, 3) := by decide +kernel
theorem dX3_quarterTurn_73 : decode cX3_quarterTurn 73 = .ok (.iconst 1, 1) := by decide +kernel
theorem dX3_quarterTurn_74 : decode cX3_quarterTurn 74 = .ok (.iload 4, 2) := by decide +kernel
theorem dX3_quarterTurn_76 : decode cX3_quarterTurn 76 = .ok (.iastore, 1) := by decide +kernel
theorem dX3_quarterTurn_77 : decode cX3_quarterTurn 77 = .ok (.iinc 1 1, 3) := by decide +kernel
theorem dX3_quarterTurn_80 : decode cX3_quarterTurn 80 = .ok (.goto (-78), 3) := by decide +kernel
theorem dX3_quarterTurn_83 : decode cX3_quarterTurn 83 = .ok (.return_, 1) := by decide +kernel
set_option maxRecDepth 20000 in
theorem ggX3_weightInDrawing_X0_sumOfCorner : GoodIn wsX3_weightInDrawing wsX0_sumOfCorner := goodIn_r _ [7, 8, 23, 24, 25] (by decide +kernel) (by decide +kernel)
set_option maxRecDepth 20000 in
theorem gX3_weightInDrawing_X0_sumOfCorner : GoodIn wsX3_weightInDrawing (wsV RX3 57 RX0 yX0_sumOfCorner wsX0_sumOfCorner) := goodIn_app (goodIn_of _ (by decide +kernel)) ggX3_weightInDrawing_X0_sumOfCorner
set_option maxRecDepth 20000 in
theorem ggX3_weightInDrawing_X0_volume : GoodIn wsX3_weightInDrawing wsX0_volume := goodIn_r _ [12, 13, 14, 15, 6, 16, 17, 8, 23, 24, 25] (by decide +kernel) (by decide +kernel)
set_option maxRecDepth 20000 in
theorem gX3_weightInDrawing_X0_volume : GoodIn wsX3_weightInDrawing (wsV RX3 61 RX0 yX0_volume wsX0_volume) := goodIn_app (goodIn_of _ (by decide +kernel)) ggX3_weightInDrawing_X0_volume
theorem dX3_weightInDrawing_0 : decode cX3_weightInDrawing 0 = .ok (.aload_n 0, 1) := by decide +kernel
theorem dX3_weightInDrawing_1 : decode cX3_weightInDrawing 1 = .ok (.getfield 28, 3) := by decide +kernel
theorem dX3_weightInDrawing_4 : decode cX3_weightInDrawing 4 = .ok (.lookupswitch 48 #[(1, 28), (2, 38)], 28) := by decide +kernel
theorem dX3_weightInDrawing_32 : decode cX3_weightInDrawing 32 = .ok (.aload_n 0, 1) := by decide +kernel
theorem dX3_weightInDrawing_33 : decode cX3_weightInDrawing 33 = .ok (.getfield 11, 3) := by decide +kernel
theorem dX3_weightInDrawing_36 : decode cX3_weightInDrawing 36 = .ok (.iload_n 1, 1) := by decide +kernel
theorem dX3_weightInDrawing_37 : decode cX3_weightInDrawing 37 = .ok (.aaload, 1) := by decide +kernel
theorem dX3_weightInDrawing_38 : decode cX3_weightInDrawing 38 = .ok (.invokevirtual 57, 3) := by decide +kernel
theorem dX3_weightInDrawing_41 : decode cX3_weightInDrawing 41 = .ok (.ireturn, 1) := by decide +kernel
theorem dX3_weightInDrawing_42 : decode cX3_weightInDrawing 42 = .ok (.aload_n 0, 1) := by decide +kernel
theorem dX3_weightInDrawing_43 : decode cX3_weightInDrawing 43 = .ok (.getfield 11, 3) := by decide +kernel
theorem dX3_weightInDrawing_46 : decode cX3_weightInDrawing 46 = .ok (.iload_n 1, 1) := by decide +kernel
theorem dX3_weightInDrawing_47 : decode cX3_weightInDrawing 47 = .ok (.aaload, 1) := by decide +kernel
theorem dX3_weightInDrawing_48 : decode cX3_weightInDrawing 48 = .ok (.invokevirtual 61, 3) := by decide +kernel
theorem dX3_weightInDrawing_51 : decode cX3_weightInDrawing 51 = .ok (.ireturn, 1) := by decide +kernel
theorem dX3_weightInDrawing_52 : decode cX3_weightInDrawing 52 = .ok (.iconst 0, 1) := by decide +kernel
theorem dX3_weightInDrawing_53 : decode cX3_weightInDrawing 53 = .ok (.ireturn, 1) := by decide +kernel
set_option maxRecDepth 20000 in
theorem ggX3_volume_X0_volume : GoodIn wsX3_volume wsX0_volume := goodIn_r _ [7, 8, 9, 10, 6, 11, 12, 13, 19, 20, 21] (by decide +kernel) (by decide +kernel)
set_option maxRecDepth 20000 in
theorem gX3_volume_X0_volume : GoodIn wsX3_volume (wsV RX3 61 RX0 yX0_volume wsX0_volume) := goodIn_app (goodIn_of _ (by decide +kernel)) ggX3_volume_X0_volume
theorem dX3_volume_0 : decode cX3_volume 0 = .ok (.iconst 0, 1) := by decide +kernel
theorem dX3_volume_1 : decode cX3_volume 1 = .ok (.istore_n 1, 1) := by decide +kernel
theorem dX3_volume_2 : decode cX3_volume 2 = .ok (.iconst 0, 1) := by decide +kernel
theorem dX3_volume_3 : decode cX3_volume 3 = .ok (.istore_n 2, 1) := by decide +kernel
theorem dX3_volume_4 : decode cX3_volume 4 = .ok (.iload_n 2, 1) := by decide +kernel
theorem dX3_volume_5 : decode cX3_volume 5 = .ok (.aload_n 0, 1) := by decide +kernel
theorem dX3_volume_6 : decode cX3_volume 6 = .ok (.getfield 18, 3) := by decide +kernel
theorem dX3_volume_9 : decode cX3_volume 9 = .ok (.if_icmp .ge 21, 3) := by decide +kernel
theorem dX3_volume_12 : decode cX3_volume 12 = .ok (.iload_n 1, 1) := by decide +kernel
theorem dX3_volume_13 : decode cX3_volume 13 = .ok (.aload_n 0, 1) := by decide +kernel
theorem dX3_volume_14 : decode cX3_volume 14 = .ok (.getfield 11, 3) := by decide +kernel
theorem dX3_volume_17 : decode cX3_volume 17 = .ok (.iload_n 2, 1) := by decide +kernel
theorem dX3_volume_18 : decode cX3_volume 18 = .ok (.aaload, 1) := by decide +kernel
theorem dX3_volume_19 : decode cX3_volume 19 = .ok (.invokevirtual 61, 3) := by decide +kernel
theorem dX3_volume_22 : decode cX3_volume 22 = .ok (.iadd, 1) := by decide +kernel
theorem dX3_volume_23 : decode cX3_volume 23 = .ok (.istore_n 1, 1) := by decide +kernel
theorem dX3_volume_24 : decode cX3_volume 24 = .ok (.iinc 2 1, 3) := by decide +kernel
theorem dX3_volume_27 : decode cX3_volume 27 = .ok (.goto (-23), 3) := by decide +kernel
theorem dX3_volume_30 : decode cX3_volume 30 = .ok (.iload_n 1, 1) := by decide +kernel
theorem dX3_volume_31 : decode cX3_volume 31 = .ok (.ireturn, 1) := by decide +kernel
set_option maxRecDepth 20000 in
theorem ggX3_groundUnder_X0_isBelow : GoodIn wsX3_groundUnder wsX0_isBelow := goodIn_r _ [12, 13, 14, 15, 16, 17, 11, 18, 24, 25, 26] (by decide +kernel) (by decide +kernel)
set_option maxRecDepth 20000 in
theorem gX3_groundUnder_X0_isBelow : GoodIn wsX3_groundUnder (wsV RX3 64 RX0 yX0_isBelow wsX0_isBelow) := goodIn_app (goodIn_of _ (by decide +kernel)) ggX3_groundUnder_X0_isBelow
theorem dX3_groundUnder_0 : decode cX3_groundUnder 0 = .ok (.iconst 0, 1) := by decide +kernel
theorem dX3_groundUnder_1 : decode cX3_groundUnder 1 = .ok (.istore_n 2, 1) := by decide +kernel
theorem dX3_groundUnder_2 : decode cX3_groundUnder 2 = .ok (.iconst 0, 1) := by decide +kernel
theorem dX3_groundUnder_3 : decode cX3_groundUnder 3 = .ok (.istore_n 3, 1) := by decide +kernel
theorem dX3_groundUnder_4 : decode cX3_groundUnder 4 = .ok (.iload_n 3, 1) := by decide +kernel
theorem dX3_groundUnder_5 : decode cX3_groundUnder 5 = .ok (.aload_n 0, 1) := by decide +kernel
theorem dX3_groundUnder_6 : decode cX3_groundUnder 6 = .ok (.getfield 18, 3) := by decide +kernel
theorem dX3_groundUnder_9 : decode cX3_groundUnder 9 = .ok (.if_icmp .ge 43, 3) := by decide +kernel
theorem dX3_groundUnder_12 : decode cX3_groundUnder 12 = .ok (.aload_n 0, 1) := by decide +kernel
theorem dX3_groundUnder_13 : decode cX3_groundUnder 13 = .ok (.getfield 11, 3) := by decide +kernel
theorem dX3_groundUnder_16 : decode cX3_groundUnder 16 = .ok (.iload_n 3, 1) := by decide +kernel
theorem dX3_groundUnder_17 : decode cX3_groundUnder 17 = .ok (.aaload, 1) := by decide +kernel
theorem dX3_groundUnder_18 : decode cX3_groundUnder 18 = .ok (.aload_n 0, 1) := by decide +kernel
theorem dX3_groundUnder_19 : decode cX3_groundUnder 19 = .ok (.getfield 11, 3) := by decide +kernel
theorem dX3_groundUnder_22 : decode cX3_groundUnder 22 = .ok (.iload_n 1, 1) := by decide +kernel
theorem dX3_groundUnder_23 : decode cX3_groundUnder 23 = .ok (.aaload, 1) := by decide +kernel
theorem dX3_groundUnder_24 : decode cX3_groundUnder 24 = .ok (.invokevirtual 64, 3) := by decide +kernel
theorem dX3_groundUnder_27 : decode cX3_groundUnder 27 = .ok (.ifCond .eq 19, 3) := by decide +kernel
theorem dX3_groundUnder_30 : decode cX3_groundUnder 30 = .ok (.iload_n 2, 1) := by decide +kernel
theorem dX3_groundUnder_31 : decode cX3_groundUnder 31 = .ok (.aload_n 0, 1) := by decide +kernel
theorem dX3_groundUnder_32 : decode cX3_groundUnder 32 = .ok (.getfield 11, 3) := by decide +kernel
theorem dX3_groundUnder_35 : decode cX3_groundUnder 35 = .ok (.iload_n 3, 1) := by decide +kernel
theorem dX3_groundUnder_36 : decode cX3_groundUnder 36 = .ok (.aaload, 1) := by decide +kernel
theorem dX3_groundUnder_37 : decode cX3_groundUnder 37 = .ok (.getfield 54, 3) := by decide +kernel
theorem dX3_groundUnder_40 : decode cX3_groundUnder 40 = .ok (.iconst 2, 1) := by decide +kernel
theorem dX3_groundUnder_41 : decode cX3_groundUnder 41 = .ok (.iaload, 1) := by decide +kernel
theorem dX3_groundUnder_42 : decode cX3_groundUnder 42 = .ok (.invokestatic 67, 3) := by decide +kernel
theorem dX3_groundUnder_45 : decode cX3_groundUnder 45 = .ok (.istore_n 2, 1) := by decide +kernel
theorem dX3_groundUnder_46 : decode cX3_groundUnder 46 = .ok (.iinc 3 1, 3) := by decide +kernel
theorem dX3_groundUnder_49 : decode cX3_groundUnder 49 = .ok (.goto (-45), 3) := by decide +kernel
theorem dX3_groundUnder_52 : decode cX3_groundUnder 52 = .ok (.iload_n 2, 1) := by decide +kernel
theorem dX3_groundUnder_53 : decode cX3_groundUnder 53 = .ok (.ireturn, 1) := by decide +kernel
set_option maxRecDepth 20000 in
theorem ggX3_boxesBelow_X0_isBelow : GoodIn wsX3_boxesBelow wsX0_isBelow := goodIn_r _ [7, 8, 9, 10, 11, 12, 6, 13, 19, 20, 21] (by decide +kernel) (by decide +kernel)
set_option maxRecDepth 20000 in
theorem gX3_boxesBelow_X0_isBelow : GoodIn wsX3_boxesBelow (wsV RX3 64 RX0 yX0_isBelow wsX0_isBelow) := goodIn_app (goodIn_of _ (by decide +kernel)) ggX3_boxesBelow_X0_isBelow
theorem dX3_boxesBelow_0 : decode cX3_boxesBelow 0 = .ok (.iconst 0, 1) := by decide +kernel
theorem dX3_boxesBelow_1 : decode cX3_boxesBelow 1 = .ok (.istore_n 2, 1) := by decide +kernel
theorem dX3_boxesBelow_2 : decode cX3_boxesBelow 2 = .ok (.iconst 0, 1) := by decide +kernel
theorem dX3_boxesBelow_3 : decode cX3_boxesBelow 3 = .ok (.istore_n 3, 1) := by decide +kernel
theorem dX3_boxesBelow_4 : decode cX3_boxesBelow 4 = .ok (.iload_n 3, 1) := by decide +kernel
theorem dX3_boxesBelow_5 : decode cX3_boxesBelow 5 = .ok (.aload_n 0, 1) := by decide +kernel
theorem dX3_boxesBelow_6 : decode cX3_boxesBelow 6 = .ok (.getfield 18, 3) := by decide +kernel
theorem dX3_boxesBelow_9 : decode cX3_boxesBelow 9 = .ok (.if_icmp .ge 30, 3) := by decide +kernel
theorem dX3_boxesBelow_12 : decode cX3_boxesBelow 12 = .ok (.aload_n 0, 1) := by decide +kernel
theorem dX3_boxesBelow_13 : decode cX3_boxesBelow 13 = .ok (.getfield 11, 3) := by decide +kernel
theorem dX3_boxesBelow_16 : decode cX3_boxesBelow 16 = .ok (.iload_n 3, 1) := by decide +kernel
theorem dX3_boxesBelow_17 : decode cX3_boxesBelow 17 = .ok (.aaload, 1) := by decide +kernel
theorem dX3_boxesBelow_18 : decode cX3_boxesBelow 18 = .ok (.aload_n 0, 1) := by decide +kernel
theorem dX3_boxesBelow_19 : decode cX3_boxesBelow 19 = .ok (.getfield 11, 3) := by decide +kernel
theorem dX3_boxesBelow_22 : decode cX3_boxesBelow 22 = .ok (.iload_n 1, 1) := by decide +kernel
theorem dX3_boxesBelow_23 : decode cX3_boxesBelow 23 = .ok (.aaload, 1) := by decide +kernel
theorem dX3_boxesBelow_24 : decode cX3_boxesBelow 24 = .ok (.invokevirtual 64, 3) := by decide +kernel
theorem dX3_boxesBelow_27 : decode cX3_boxesBelow 27 = .ok (.ifCond .eq 6, 3) := by decide +kernel
theorem dX3_boxesBelow_30 : decode cX3_boxesBelow 30 = .ok (.iinc 2 1, 3) := by decide +kernel
theorem dX3_boxesBelow_33 : decode cX3_boxesBelow 33 = .ok (.iinc 3 1, 3) := by decide +kernel
theorem dX3_boxesBelow_36 : decode cX3_boxesBelow 36 = .ok (.goto (-32), 3) := by decide +kernel
theorem dX3_boxesBelow_39 : decode cX3_boxesBelow 39 = .ok (.iload_n 2, 1) := by decide +kernel
theorem dX3_boxesBelow_40 : decode cX3_boxesBelow 40 = .ok (.ireturn, 1) := by decide +kernel
set_option maxRecDepth 20000 in
theorem ggX3_supportsOf_X0_isBelow : GoodIn wsX3_supportsOf wsX0_isBelow := goodIn_r _ [9, 10, 11, 12, 13, 14, 8, 15, 21, 22, 23] (by decide +kernel) (by decide +kernel)
set_option maxRecDepth 20000 in
theorem gX3_supportsOf_X0_isBelow : GoodIn wsX3_supportsOf (wsV RX3 64 RX0 yX0_isBelow wsX0_isBelow) := goodIn_app (goodIn_of _ (by decide +kernel)) ggX3_supportsOf_X0_isBelow
theorem dX3_supportsOf_0 : decode cX3_supportsOf 0 = .ok (.aload_n 0, 1) := by decide +kernel
theorem dX3_supportsOf_1 : decode cX3_supportsOf 1 = .ok (.getfield 11, 3) := by decide +kernel
theorem dX3_supportsOf_4 : decode cX3_supportsOf 4 = .ok (.iload_n 1, 1) := by decide +kernel
theorem dX3_supportsOf_5 : decode cX3_supportsOf 5 = .ok (.aaload, 1) := by decide +kernel
theorem dX3_supportsOf_6 : decode cX3_supportsOf 6 = .ok (.astore_n 2, 1) := by decide +kernel
theorem dX3_supportsOf_7 : decode cX3_supportsOf 7 = .ok (.iconst 0, 1) := by decide +kernel
theorem dX3_supportsOf_8 : decode cX3_supportsOf 8 = .ok (.istore_n 3, 1) := by decide +kernel
theorem dX3_supportsOf_9 : decode cX3_supportsOf 9 = .ok (.iconst 0, 1) := by decide +kernel
theorem dX3_supportsOf_10 : decode cX3_supportsOf 10 = .ok (.istore 4, 2) := by decide +kernel
theorem dX3_supportsOf_12 : decode cX3_supportsOf 12 = .ok (.iload 4, 2) := by decide +kernel
theorem dX3_supportsOf_14 : decode cX3_supportsOf 14 = .ok (.aload_n 0, 1) := by decide +kernel
theorem dX3_supportsOf_15 : decode cX3_supportsOf 15 = .ok (.getfield 18, 3) := by decide +kernel
theorem dX3_supportsOf_18 : decode cX3_supportsOf 18 = .ok (.if_icmp .ge 47, 3) := by decide +kernel
theorem dX3_supportsOf_21 : decode cX3_supportsOf 21 = .ok (.aload_n 0, 1) := by decide +kernel
theorem dX3_supportsOf_22 : decode cX3_supportsOf 22 = .ok (.getfield 11, 3) := by decide +kernel
theorem dX3_supportsOf_25 : decode cX3_supportsOf 25 = .ok (.iload 4, 2) := by decide +kernel
theorem dX3_supportsOf_27 : decode cX3_supportsOf 27 = .ok (.aaload, 1) := by decide +kernel
theorem dX3_supportsOf_28 : decode cX3_supportsOf 28 = .ok (.aload_n 2, 1) := by decide +kernel
theorem dX3_supportsOf_29 : decode cX3_supportsOf 29 = .ok (.invokevirtual 64, 3) := by decide +kernel
theorem dX3_supportsOf_32 : decode cX3_supportsOf 32 = .ok (.ifCond .eq 27, 3) := by decide +kernel
theorem dX3_supportsOf_35 : decode cX3_supportsOf 35 = .ok (.aload_n 0, 1) := by decide +kernel
theorem dX3_supportsOf_36 : decode cX3_supportsOf 36 = .ok (.getfield 11, 3) := by decide +kernel
theorem dX3_supportsOf_39 : decode cX3_supportsOf 39 = .ok (.iload 4, 2) := by decide +kernel
theorem dX3_supportsOf_41 : decode cX3_supportsOf 41 = .ok (.aaload, 1) := by decide +kernel
theorem dX3_supportsOf_42 : decode cX3_supportsOf 42 = .ok (.getfield 54, 3) := by decide +kernel
theorem dX3_supportsOf_45 : decode cX3_supportsOf 45 = .ok (.iconst 2, 1) := by decide +kernel
theorem dX3_supportsOf_46 : decode cX3_supportsOf 46 = .ok (.iaload, 1) := by decide +kernel
theorem dX3_supportsOf_47 : decode cX3_supportsOf 47 = .ok (.aload_n 2, 1) := by decide +kernel
theorem dX3_supportsOf_48 : decode cX3_supportsOf 48 = .ok (.getfield 50, 3) := by decide +kernel
theorem dX3_supportsOf_51 : decode cX3_supportsOf 51 = .ok (.iconst 2, 1) := by decide +kernel
theorem dX3_supportsOf_52 : decode cX3_supportsOf 52 = .ok (.iaload, 1) := by decide +kernel
theorem dX3_supportsOf_53 : decode cX3_supportsOf 53 = .ok (.if_icmp .ne 6, 3) := by decide +kernel
theorem dX3_supportsOf_56 : decode cX3_supportsOf 56 = .ok (.iinc 3 1, 3) := by decide +kernel
theorem dX3_supportsOf_59 : decode cX3_supportsOf 59 = .ok (.iinc 4 1, 3) := by decide +kernel
theorem dX3_supportsOf_62 : decode cX3_supportsOf 62 = .ok (.goto (-50), 3) := by decide +kernel
theorem dX3_supportsOf_65 : decode cX3_supportsOf 65 = .ok (.iload_n 3, 1) := by decide +kernel
theorem dX3_supportsOf_66 : decode cX3_supportsOf 66 = .ok (.ireturn, 1) := by decide +kernel
set_option maxRecDepth 20000 in
theorem ggX3_shadowOn_X0_isBelow : GoodIn wsX3_shadowOn wsX0_isBelow := goodIn_r _ [9, 10, 11, 12, 13, 14, 8, 15, 40, 41, 42] (by decide +kernel) (by decide +kernel)
set_option maxRecDepth 20000 in
theorem gX3_shadowOn_X0_isBelow : GoodIn wsX3_shadowOn (wsV RX3 64 RX0 yX0_isBelow wsX0_isBelow) := goodIn_app (goodIn_of _ (by decide +kernel)) ggX3_shadowOn_X0_isBelow
set_option maxRecDepth 20000 in
theorem ggX3_shadowOn_X0_coversRow : GoodIn wsX3_shadowOn wsX0_coversRow := goodIn_r _ [19, 11, 10, 40, 41, 42] (by decide +kernel) (by decide +kernel)
set_option maxRecDepth 20000 in
theorem gX3_shadowOn_X0_coversRow : GoodIn wsX3_shadowOn (wsV RX3 73 RX0 yX0_coversRow wsX0_coversRow) := goodIn_app (goodIn_of _ (by decide +kernel)) ggX3_shadowOn_X0_coversRow
set_option maxRecDepth 20000 in
theorem ggX3_shadowOn_X0_rowOfCells : GoodIn wsX3_shadowOn wsX0_rowOfCells := goodIn_r _ [23, 11, 24, 25, 26, 8, 27, 10, 40, 41, 42] (by decide +kernel) (by decide +kernel)
set_option maxRecDepth 20000 in
theorem gX3_shadowOn_X0_rowOfCells : GoodIn wsX3_shadowOn (wsV RX3 77 RX0 yX0_rowOfCells wsX0_rowOfCells) := goodIn_app (goodIn_of _ (by decide +kernel)) ggX3_shadowOn_X0_rowOfCells
set_option maxRecDepth 20000 in
theorem ggX3_shadowOn_J6_bitCount_0f7a4 : GoodIn wsX3_shadowOn wsJ6_bitCount_0f7a4 := goodIn_r _ [31, 32, 33, 34] (by decide +kernel) (by decide +kernel)
set_option maxRecDepth 20000 in
theorem gX3_shadowOn_J6_bitCount_0f7a4 : GoodIn wsX3_shadowOn (va_wsS RX3 80 yJ6_bitCount_0f7a4 wsJ6_bitCount_0f7a4) := goodIn_app (goodIn_of _ (by decide +kernel)) ggX3_shadowOn_J6_bitCount_0f7a4
theorem dX3_shadowOn_0 : decode cX3_shadowOn 0 = .ok (.aload_n 0, 1) := by decide +kernel
theorem dX3_shadowOn_1 : decode cX3_shadowOn 1 = .ok (.getfield 11, 3) := by decide +kernel
theorem dX3_shadowOn_4 : decode cX3_shadowOn 4 = .ok (.iload_n 1, 1) := by decide +kernel
theorem dX3_shadowOn_5 : decode cX3_shadowOn 5 = .ok (.aaload, 1) := by decide +kernel
theorem dX3_shadowOn_6 : decode cX3_shadowOn 6 = .ok (.astore_n 2, 1) := by decide +kernel
theorem dX3_shadowOn_7 : decode cX3_shadowOn 7 = .ok (.iconst 0, 1) := by decide +kernel
theorem dX3_shadowOn_8 : decode cX3_shadowOn 8 = .ok (.istore_n 3, 1) := by decide +kernel
theorem dX3_shadowOn_9 : decode cX3_shadowOn 9 = .ok (.aload_n 2, 1) := by decide +kernel
theorem dX3_shadowOn_10 : decode cX3_shadowOn 10 = .ok (.getfield 50, 3) := by decide +kernel
theorem dX3_shadowOn_13 : decode cX3_shadowOn 13 = .ok (.iconst 1, 1) := by decide +kernel
theorem dX3_shadowOn_14 : decode cX3_shadowOn 14 = .ok (.iaload, 1) := by decide +kernel
theorem dX3_shadowOn_15 : decode cX3_shadowOn 15 = .ok (.istore 4, 2) := by decide +kernel
theorem dX3_shadowOn_17 : decode cX3_shadowOn 17 = .ok (.iload 4, 2) := by decide +kernel
theorem dX3_shadowOn_19 : decode cX3_shadowOn 19 = .ok (.aload_n 2, 1) := by decide +kernel
theorem dX3_shadowOn_20 : decode cX3_shadowOn 20 = .ok (.getfield 54, 3) := by decide +kernel
theorem dX3_shadowOn_23 : decode cX3_shadowOn 23 = .ok (.iconst 1, 1) := by decide +kernel
theorem dX3_shadowOn_24 : decode cX3_shadowOn 24 = .ok (.iaload, 1) := by decide +kernel
theorem dX3_shadowOn_25 : decode cX3_shadowOn 25 = .ok (.if_icmp .ge 87, 3) := by decide +kernel
theorem dX3_shadowOn_28 : decode cX3_shadowOn 28 = .ok (.iconst 0, 1) := by decide +kernel
theorem dX3_shadowOn_29 : decode cX3_shadowOn 29 = .ok (.istore 5, 2) := by decide +kernel
theorem dX3_shadowOn_31 : decode cX3_shadowOn 31 = .ok (.iconst 0, 1) := by decide +kernel
theorem dX3_shadowOn_32 : decode cX3_shadowOn 32 = .ok (.istore 6, 2) := by decide +kernel
theorem dX3_shadowOn_34 : decode cX3_shadowOn 34 = .ok (.iload 6, 2) := by decide +kernel
theorem dX3_shadowOn_36 : decode cX3_shadowOn 36 = .ok (.aload_n 0, 1) := by decide +kernel
theorem dX3_shadowOn_37 : decode cX3_shadowOn 37 = .ok (.getfield 18, 3) := by decide +kernel
theorem dX3_shadowOn_40 : decode cX3_shadowOn 40 = .ok (.if_icmp .ge 53, 3) := by decide +kernel
theorem dX3_shadowOn_43 : decode cX3_shadowOn 43 = .ok (.aload_n 2, 1) := by decide +kernel
theorem dX3_shadowOn_44 : decode cX3_shadowOn 44 = .ok (.aload_n 0, 1) := by decide +kernel
theorem dX3_shadowOn_45 : decode cX3_shadowOn 45 = .ok (.getfield 11, 3) := by decide +kernel
theorem dX3_shadowOn_48 : decode cX3_shadowOn 48 = .ok (.iload 6, 2) := by decide +kernel
theorem dX3_shadowOn_50 : decode cX3_shadowOn 50 = .ok (.aaload, 1) := by decide +kernel
theorem dX3_shadowOn_51 : decode cX3_shadowOn 51 = .ok (.invokevirtual 64, 3) := by decide +kernel
theorem dX3_shadowOn_54 : decode cX3_shadowOn 54 = .ok (.ifCond .eq 33, 3) := by decide +kernel
theorem dX3_shadowOn_57 : decode cX3_shadowOn 57 = .ok (.aload_n 0, 1) := by decide +kernel
theorem dX3_shadowOn_58 : decode cX3_shadowOn 58 = .ok (.getfield 11, 3) := by decide +kernel
theorem dX3_shadowOn_61 : decode cX3_shadowOn 61 = .ok (.iload 6, 2) := by decide +kernel
theorem dX3_shadowOn_63 : decode cX3_shadowOn 63 = .ok (.aaload, 1) := by decide +kernel
theorem dX3_shadowOn_64 : decode cX3_shadowOn 64 = .ok (.iload 4, 2) := by decide +kernel
theorem dX3_shadowOn_66 : decode cX3_shadowOn 66 = .ok (.invokevirtual 73, 3) := by decide +kernel
theorem dX3_shadowOn_69 : decode cX3_shadowOn 69 = .ok (.ifCond .eq 18, 3) := by decide +kernel
theorem dX3_shadowOn_72 : decode cX3_shadowOn 72 = .ok (.iload 5, 2) := by decide +kernel
theorem dX3_shadowOn_74 : decode cX3_shadowOn 74 = .ok (.aload_n 0, 1) := by decide +kernel
theorem dX3_shadowOn_75 : decode cX3_shadowOn 75 = .ok (.getfield 11, 3) := by decide +kernel
theorem dX3_shadowOn_78 : decode cX3_shadowOn 78 = .ok (.iload 6, 2) := by decide +kernel
theorem dX3_shadowOn_80 : decode cX3_shadowOn 80 = .ok (.aaload, 1) := by decide +kernel
theorem dX3_shadowOn_81 : decode cX3_shadowOn 81 = .ok (.invokevirtual 77, 3) := by decide +kernel
theorem dX3_shadowOn_84 : decode cX3_shadowOn 84 = .ok (.ior, 1) := by decide +kernel
theorem dX3_shadowOn_85 : decode cX3_shadowOn 85 = .ok (.istore 5, 2) := by decide +kernel
theorem dX3_shadowOn_87 : decode cX3_shadowOn 87 = .ok (.iinc 6 1, 3) := by decide +kernel
theorem dX3_shadowOn_90 : decode cX3_shadowOn 90 = .ok (.goto (-56), 3) := by decide +kernel
theorem dX3_shadowOn_93 : decode cX3_shadowOn 93 = .ok (.iload_n 3, 1) := by decide +kernel
theorem dX3_shadowOn_94 : decode cX3_shadowOn 94 = .ok (.iload 5, 2) := by decide +kernel
theorem dX3_shadowOn_96 : decode cX3_shadowOn 96 = .ok (.aload_n 2, 1) := by decide +kernel
theorem dX3_shadowOn_97 : decode cX3_shadowOn 97 = .ok (.invokevirtual 77, 3) := by decide +kernel
theorem dX3_shadowOn_100 : decode cX3_shadowOn 100 = .ok (.iand, 1) := by decide +kernel
theorem dX3_shadowOn_101 : decode cX3_shadowOn 101 = .ok (.invokestatic 80, 3) := by decide +kernel
theorem dX3_shadowOn_104 : decode cX3_shadowOn 104 = .ok (.iadd, 1) := by decide +kernel
theorem dX3_shadowOn_105 : decode cX3_shadowOn 105 = .ok (.istore_n 3, 1) := by decide +kernel
theorem dX3_shadowOn_106 : decode cX3_shadowOn 106 = .ok (.iinc 4 1, 3) := by decide +kernel
theorem dX3_shadowOn_109 : decode cX3_shadowOn 109 = .ok (.goto (-92), 3) := by decide +kernel
theorem dX3_shadowOn_112 : decode cX3_shadowOn 112 = .ok (.iload_n 3, 1) := by decide +kernel
theorem dX3_shadowOn_113 : decode cX3_shadowOn 113 = .ok (.ireturn, 1) := by decide +kernel
set_option maxRecDepth 20000 in
theorem ggX3_shadow_X3_shadowOn : GoodIn wsX3_shadow wsX3_shadowOn := goodIn_r _ [6, 7, 8, 9, 1, 10, 11, 12, 13, 14, 15, 16, 17, 18, 19, 20, 21, 22, 23, 24, 25, 26, 27, 28, 29, 30, 31, 32, 33, 34, 35, 36, 37, 38, 39, 40, 41, 42, 43, 44, 45, 46, 47] (by decide +kernel) (by decide +kernel)
set_option maxRecDepth 20000 in
theorem gX3_shadow_X3_shadowOn : GoodIn wsX3_shadow (wsV RX3 86 RX3 yX3_shadowOn wsX3_shadowOn) := goodIn_app (goodIn_of _ (by decide +kernel)) ggX3_shadow_X3_shadowOn
theorem dX3_shadow_0 : decode cX3_shadow 0 = .ok (.iconst 0, 1) := by decide +kernel
theorem dX3_shadow_1 : decode cX3_shadow 1 = .ok (.istore_n 1, 1) := by decide +kernel
theorem dX3_shadow_2 : decode cX3_shadow 2 = .ok (.iconst 0, 1) := by decide +kernel
theorem dX3_shadow_3 : decode cX3_shadow 3 = .ok (.istore_n 2, 1) := by decide +kernel
theorem dX3_shadow_4 : decode cX3_shadow 4 = .ok (.iload_n 2, 1) := by decide +kernel
theorem dX3_shadow_5 : decode cX3_shadow 5 = .ok (.aload_n 0, 1) := by decide +kernel
theorem dX3_shadow_6 : decode cX3_shadow 6 = .ok (.getfield 18, 3) := by decide +kernel
theorem dX3_shadow_9 : decode cX3_shadow 9 = .ok (.if_icmp .ge 17, 3) := by decide +kernel
theorem dX3_shadow_12 : decode cX3_shadow 12 = .ok (.iload_n 1, 1) := by decide +kernel
theorem dX3_shadow_13 : decode cX3_shadow 13 = .ok (.aload_n 0, 1) := by decide +kernel
theorem dX3_shadow_14 : decode cX3_shadow 14 = .ok (.iload_n 2, 1) := by decide +kernel
theorem dX3_shadow_15 : decode cX3_shadow 15 = .ok (.invokevirtual 86, 3) := by decide +kernel
theorem dX3_shadow_18 : decode cX3_shadow 18 = .ok (.iadd, 1) := by decide +kernel
theorem dX3_shadow_19 : decode cX3_shadow 19 = .ok (.istore_n 1, 1) := by decide +kernel
theorem dX3_shadow_20 : decode cX3_shadow 20 = .ok (.iinc 2 1, 3) := by decide +kernel
theorem dX3_shadow_23 : decode cX3_shadow 23 = .ok (.goto (-19), 3) := by decide +kernel
theorem dX3_shadow_26 : decode cX3_shadow 26 = .ok (.iload_n 1, 1) := by decide +kernel
theorem dX3_shadow_27 : decode cX3_shadow 27 = .ok (.ireturn, 1) := by decide +kernel
theorem dX4_init_0 : decode cX4_init 0 = .ok (.aload_n 0, 1) := by decide +kernel
theorem dX4_init_1 : decode cX4_init 1 = .ok (.invokespecial 3, 3) := by decide +kernel
theorem dX4_init_4 : decode cX4_init 4 = .ok (.aload_n 0, 1) := by decide +kernel
theorem dX4_init_5 : decode cX4_init 5 = .ok (.bipush 80, 2) := by decide +kernel
theorem dX4_init_7 : decode cX4_init 7 = .ok (.newarray .char, 2) := by decide +kernel
theorem dX4_init_9 : decode cX4_init 9 = .ok (.putfield 9, 3) := by decide +kernel
theorem dX4_init_12 : decode cX4_init 12 = .ok (.aload_n 0, 1) := by decide +kernel
theorem dX4_init_13 : decode cX4_init 13 = .ok (.bipush 41, 2) := by decide +kernel
theorem dX4_init_15 : decode cX4_init 15 = .ok (.newarray .int, 2) := by decide +kernel
theorem dX4_init_17 : decode cX4_init 17 = .ok (.putfield 15, 3) := by decide +kernel
theorem dX4_init_20 : decode cX4_init 20 = .ok (.return_, 1) := by decide +kernel
theorem dX4_append_0 : decode cX4_append 0 = .ok (.aload_n 0, 1) := by decide +kernel
theorem dX4_append_1 : decode cX4_append 1 = .ok (.getfield 19, 3) := by decide +kernel
theorem dX4_append_4 : decode cX4_append 4 = .ok (.bipush 80, 2) := by decide +kernel
theorem dX4_append_6 : decode cX4_append 6 = .ok (.if_icmp .lt 5, 3) := by decide +kernel
theorem dX4_append_9 : decode cX4_append 9 = .ok (.iconst 0, 1) := by decide +kernel
theorem dX4_append_10 : decode cX4_append 10 = .ok (.ireturn, 1) := by decide +kernel
theorem dX4_append_11 : decode cX4_append 11 = .ok (.aload_n 0, 1) := by decide +kernel
theorem dX4_append_12 : decode cX4_append 12 = .ok (.getfield 9, 3) := by decide +kernel
theorem dX4_append_15 : decode cX4_append 15 = .ok (.aload_n 0, 1) := by decide +kernel
theorem dX4_append_16 : decode cX4_append 16 = .ok (.getfield 19, 3) := by decide +kernel
theorem dX4_append_19 : decode cX4_append 19 = .ok (.iload_n 1, 1) := by decide +kernel
theorem dX4_append_20 : decode cX4_append 20 = .ok (.castore, 1) := by decide +kernel
theorem dX4_append_21 : decode cX4_append 21 = .ok (.aload_n 0, 1) := by decide +kernel
theorem dX4_append_22 : decode cX4_append 22 = .ok (.dup, 1) := by decide +kernel
theorem dX4_append_23 : decode cX4_append 23 = .ok (.getfield 19, 3) := by decide +kernel
theorem dX4_append_26 : decode cX4_append 26 = .ok (.iconst 1, 1) := by decide +kernel
theorem dX4_append_27 : decode cX4_append 27 = .ok (.iadd, 1) := by decide +kernel
theorem dX4_append_28 : decode cX4_append 28 = .ok (.putfield 19, 3) := by decide +kernel
theorem dX4_append_31 : decode cX4_append 31 = .ok (.iconst 1, 1) := by decide +kernel
theorem dX4_append_32 : decode cX4_append 32 = .ok (.ireturn, 1) := by decide +kernel
set_option maxRecDepth 20000 in
theorem ggX4_read_X4_withDigit : GoodIn wsX4_read wsX4_withDigit := goodIn_r _ [7] (by decide +kernel) (by decide +kernel)
set_option maxRecDepth 20000 in
theorem gX4_read_X4_withDigit : GoodIn wsX4_read (va_wsS RX4 26 yX4_withDigit wsX4_withDigit) := goodIn_app (goodIn_of _ (by decide +kernel)) ggX4_read_X4_withDigit
set_option maxRecDepth 20000 in
theorem ggX4_read_X4_signBehind : GoodIn wsX4_read wsX4_signBehind := goodIn_r _ [10] (by decide +kernel) (by decide +kernel)
set_option maxRecDepth 20000 in
theorem gX4_read_X4_signBehind : GoodIn wsX4_read (va_wsS RX4 30 yX4_signBehind wsX4_signBehind) := goodIn_app (goodIn_of _ (by decide +kernel)) ggX4_read_X4_signBehind
set_option maxRecDepth 20000 in
theorem ggX4_read_X4_store : GoodIn wsX4_read wsX4_store := goodIn_r _ [14, 1, 15, 16, 17, 18, 19] (by decide +kernel) (by decide +kernel)
set_option maxRecDepth 20000 in
theorem gX4_read_X4_store : GoodIn wsX4_read (wsV RX4 34 RX4 yX4_store wsX4_store) := goodIn_app (goodIn_of _ (by decide +kernel)) ggX4_read_X4_store
theorem dX4_read_0 : decode cX4_read 0 = .ok (.aload_n 0, 1) := by decide +kernel
theorem dX4_read_1 : decode cX4_read 1 = .ok (.iconst 0, 1) := by decide +kernel
theorem dX4_read_2 : decode cX4_read 2 = .ok (.putfield 23, 3) := by decide +kernel
theorem dX4_read_5 : decode cX4_read 5 = .ok (.iconst 0, 1) := by decide +kernel
theorem dX4_read_6 : decode cX4_read 6 = .ok (.istore_n 1, 1) := by decide +kernel
theorem dX4_read_7 : decode cX4_read 7 = .ok (.iconst (-1), 1) := by decide +kernel
theorem dX4_read_8 : decode cX4_read 8 = .ok (.istore_n 2, 1) := by decide +kernel
theorem dX4_read_9 : decode cX4_read 9 = .ok (.iconst 0, 1) := by decide +kernel
theorem dX4_read_10 : decode cX4_read 10 = .ok (.istore_n 3, 1) := by decide +kernel
theorem dX4_read_11 : decode cX4_read 11 = .ok (.iload_n 3, 1) := by decide +kernel
theorem dX4_read_12 : decode cX4_read 12 = .ok (.aload_n 0, 1) := by decide +kernel
theorem dX4_read_13 : decode cX4_read 13 = .ok (.getfield 19, 3) := by decide +kernel
theorem dX4_read_16 : decode cX4_read 16 = .ok (.if_icmp .ge 92, 3) := by decide +kernel
theorem dX4_read_19 : decode cX4_read 19 = .ok (.aload_n 0, 1) := by decide +kernel
theorem dX4_read_20 : decode cX4_read 20 = .ok (.getfield 9, 3) := by decide +kernel
theorem dX4_read_23 : decode cX4_read 23 = .ok (.iload_n 3, 1) := by decide +kernel
theorem dX4_read_24 : decode cX4_read 24 = .ok (.caload, 1) := by decide +kernel
theorem dX4_read_25 : decode cX4_read 25 = .ok (.istore 4, 2) := by decide +kernel
theorem dX4_read_27 : decode cX4_read 27 = .ok (.iload 4, 2) := by decide +kernel
theorem dX4_read_29 : decode cX4_read 29 = .ok (.bipush 48, 2) := by decide +kernel
theorem dX4_read_31 : decode cX4_read 31 = .ok (.if_icmp .lt 29, 3) := by decide +kernel
theorem dX4_read_34 : decode cX4_read 34 = .ok (.iload 4, 2) := by decide +kernel
theorem dX4_read_36 : decode cX4_read 36 = .ok (.bipush 57, 2) := by decide +kernel
theorem dX4_read_38 : decode cX4_read 38 = .ok (.if_icmp .gt 22, 3) := by decide +kernel
theorem dX4_read_41 : decode cX4_read 41 = .ok (.iload_n 2, 1) := by decide +kernel
theorem dX4_read_42 : decode cX4_read 42 = .ok (.iload 4, 2) := by decide +kernel
theorem dX4_read_44 : decode cX4_read 44 = .ok (.bipush 48, 2) := by decide +kernel
theorem dX4_read_46 : decode cX4_read 46 = .ok (.isub, 1) := by decide +kernel
theorem dX4_read_47 : decode cX4_read 47 = .ok (.iload_n 1, 1) := by decide +kernel
theorem dX4_read_48 : decode cX4_read 48 = .ok (.invokestatic 26, 3) := by decide +kernel
theorem dX4_read_51 : decode cX4_read 51 = .ok (.istore_n 2, 1) := by decide +kernel
theorem dX4_read_52 : decode cX4_read 52 = .ok (.iload_n 2, 1) := by decide +kernel
theorem dX4_read_53 : decode cX4_read 53 = .ok (.bipush (-2), 2) := by decide +kernel
theorem dX4_read_55 : decode cX4_read 55 = .ok (.if_icmp .ne 47, 3) := by decide +kernel
theorem dX4_read_58 : decode cX4_read 58 = .ok (.iload_n 3, 1) := by decide +kernel
theorem dX4_read_59 : decode cX4_read 59 = .ok (.ireturn, 1) := by decide +kernel
theorem dX4_read_60 : decode cX4_read 60 = .ok (.iload_n 2, 1) := by decide +kernel
theorem dX4_read_61 : decode cX4_read 61 = .ok (.iconst (-1), 1) := by decide +kernel
theorem dX4_read_62 : decode cX4_read 62 = .ok (.if_icmp .eq 38, 3) := by decide +kernel
theorem dX4_read_65 : decode cX4_read 65 = .ok (.iload 4, 2) := by decide +kernel
theorem dX4_read_67 : decode cX4_read 67 = .ok (.iload_n 1, 1) := by decide +kernel
theorem dX4_read_68 : decode cX4_read 68 = .ok (.invokestatic 30, 3) := by decide +kernel
theorem dX4_read_71 : decode cX4_read 71 = .ok (.if_icmp .ne 29, 3) := by decide +kernel
theorem dX4_read_74 : decode cX4_read 74 = .ok (.aload_n 0, 1) := by decide +kernel
theorem dX4_read_75 : decode cX4_read 75 = .ok (.iload_n 2, 1) := by decide +kernel
theorem dX4_read_76 : decode cX4_read 76 = .ok (.invokevirtual 34, 3) := by decide +kernel
theorem dX4_read_79 : decode cX4_read 79 = .ok (.iconst (-1), 1) := by decide +kernel
theorem dX4_read_80 : decode cX4_read 80 = .ok (.istore_n 2, 1) := by decide +kernel
theorem dX4_read_81 : decode cX4_read 81 = .ok (.iload_n 1, 1) := by decide +kernel
theorem dX4_read_82 : decode cX4_read 82 = .ok (.iconst 1, 1) := by decide +kernel
theorem dX4_read_83 : decode cX4_read 83 = .ok (.iadd, 1) := by decide +kernel
theorem dX4_read_84 : decode cX4_read 84 = .ok (.bipush 6, 2) := by decide +kernel
theorem dX4_read_86 : decode cX4_read 86 = .ok (.if_icmp .ge 9, 3) := by decide +kernel
theorem dX4_read_89 : decode cX4_read 89 = .ok (.iload_n 1, 1) := by decide +kernel
theorem dX4_read_90 : decode cX4_read 90 = .ok (.iconst 1, 1) := by decide +kernel
theorem dX4_read_91 : decode cX4_read 91 = .ok (.iadd, 1) := by decide +kernel
theorem dX4_read_92 : decode cX4_read 92 = .ok (.goto 4, 3) := by decide +kernel
theorem dX4_read_95 : decode cX4_read 95 = .ok (.iconst 0, 1) := by decide +kernel
theorem dX4_read_96 : decode cX4_read 96 = .ok (.istore_n 1, 1) := by decide +kernel
theorem dX4_read_97 : decode cX4_read 97 = .ok (.goto 5, 3) := by decide +kernel
theorem dX4_read_100 : decode cX4_read 100 = .ok (.iload_n 3, 1) := by decide +kernel
theorem dX4_read_101 : decode cX4_read 101 = .ok (.ireturn, 1) := by decide +kernel
theorem dX4_read_102 : decode cX4_read 102 = .ok (.iinc 3 1, 3) := by decide +kernel
theorem dX4_read_105 : decode cX4_read 105 = .ok (.goto (-94), 3) := by decide +kernel
theorem dX4_read_108 : decode cX4_read 108 = .ok (.iload_n 2, 1) := by decide +kernel
theorem dX4_read_109 : decode cX4_read 109 = .ok (.iconst (-1), 1) := by decide +kernel
theorem dX4_read_110 : decode cX4_read 110 = .ok (.if_icmp .eq 11, 3) := by decide +kernel
theorem dX4_read_113 : decode cX4_read 113 = .ok (.iload_n 1, 1) := by decide +kernel
theorem dX4_read_114 : decode cX4_read 114 = .ok (.iconst 1, 1) := by decide +kernel
theorem dX4_read_115 : decode cX4_read 115 = .ok (.iadd, 1) := by decide +kernel
theorem dX4_read_116 : decode cX4_read 116 = .ok (.bipush 6, 2) := by decide +kernel
theorem dX4_read_118 : decode cX4_read 118 = .ok (.if_icmp .ge 8, 3) := by decide +kernel
theorem dX4_read_121 : decode cX4_read 121 = .ok (.aload_n 0, 1) := by decide +kernel
theorem dX4_read_122 : decode cX4_read 122 = .ok (.getfield 19, 3) := by decide +kernel
theorem dX4_read_125 : decode cX4_read 125 = .ok (.ireturn, 1) := by decide +kernel
theorem dX4_read_126 : decode cX4_read 126 = .ok (.aload_n 0, 1) := by decide +kernel
theorem dX4_read_127 : decode cX4_read 127 = .ok (.iload_n 2, 1) := by decide +kernel
theorem dX4_read_128 : decode cX4_read 128 = .ok (.invokevirtual 34, 3) := by decide +kernel
theorem dX4_read_131 : decode cX4_read 131 = .ok (.iconst (-1), 1) := by decide +kernel
theorem dX4_read_132 : decode cX4_read 132 = .ok (.ireturn, 1) := by decide +kernel
theorem dX4_withDigit_0 : decode cX4_withDigit 0 = .ok (.iload_n 2, 1) := by decide +kernel
theorem dX4_withDigit_1 : decode cX4_withDigit 1 = .ok (.iconst 3, 1) := by decide +kernel
theorem dX4_withDigit_2 : decode cX4_withDigit 2 = .ok (.if_icmp .lt 7, 3) := by decide +kernel
theorem dX4_withDigit_5 : decode cX4_withDigit 5 = .ok (.iconst 1, 1) := by decide +kernel
theorem dX4_withDigit_6 : decode cX4_withDigit 6 = .ok (.goto 4, 3) := by decide +kernel
theorem dX4_withDigit_9 : decode cX4_withDigit 9 = .ok (.iconst 0, 1) := by decide +kernel
theorem dX4_withDigit_10 : decode cX4_withDigit 10 = .ok (.istore_n 3, 1) := by decide +kernel
theorem dX4_withDigit_11 : decode cX4_withDigit 11 = .ok (.iload_n 0, 1) := by decide +kernel
theorem dX4_withDigit_12 : decode cX4_withDigit 12 = .ok (.iconst (-1), 1) := by decide +kernel
theorem dX4_withDigit_13 : decode cX4_withDigit 13 = .ok (.if_icmp .ne 18, 3) := by decide +kernel
theorem dX4_withDigit_16 : decode cX4_withDigit 16 = .ok (.iload_n 3, 1) := by decide +kernel
theorem dX4_withDigit_17 : decode cX4_withDigit 17 = .ok (.ifCond .eq 12, 3) := by decide +kernel
theorem dX4_withDigit_20 : decode cX4_withDigit 20 = .ok (.iload_n 1, 1) := by decide +kernel
theorem dX4_withDigit_21 : decode cX4_withDigit 21 = .ok (.ifCond .ne 8, 3) := by decide +kernel
theorem dX4_withDigit_24 : decode cX4_withDigit 24 = .ok (.bipush (-2), 2) := by decide +kernel
theorem dX4_withDigit_26 : decode cX4_withDigit 26 = .ok (.goto 4, 3) := by decide +kernel
theorem dX4_withDigit_29 : decode cX4_withDigit 29 = .ok (.iload_n 1, 1) := by decide +kernel
theorem dX4_withDigit_30 : decode cX4_withDigit 30 = .ok (.ireturn, 1) := by decide +kernel
theorem dX4_withDigit_31 : decode cX4_withDigit 31 = .ok (.iload_n 0, 1) := by decide +kernel
theorem dX4_withDigit_32 : decode cX4_withDigit 32 = .ok (.bipush 10, 2) := by decide +kernel
theorem dX4_withDigit_34 : decode cX4_withDigit 34 = .ok (.imul, 1) := by decide +kernel
theorem dX4_withDigit_35 : decode cX4_withDigit 35 = .ok (.iload_n 1, 1) := by decide +kernel
theorem dX4_withDigit_36 : decode cX4_withDigit 36 = .ok (.iadd, 1) := by decide +kernel
theorem dX4_withDigit_37 : decode cX4_withDigit 37 = .ok (.istore 4, 2) := by decide +kernel
theorem dX4_withDigit_39 : decode cX4_withDigit 39 = .ok (.iload 4, 2) := by decide +kernel
theorem dX4_withDigit_41 : decode cX4_withDigit 41 = .ok (.iload_n 3, 1) := by decide +kernel
theorem dX4_withDigit_42 : decode cX4_withDigit 42 = .ok (.ifCond .eq 8, 3) := by decide +kernel
theorem dX4_withDigit_45 : decode cX4_withDigit 45 = .ok (.bipush 12, 2) := by decide +kernel
theorem dX4_withDigit_47 : decode cX4_withDigit 47 = .ok (.goto 5, 3) := by decide +kernel
theorem dX4_withDigit_50 : decode cX4_withDigit 50 = .ok (.bipush 31, 2) := by decide +kernel
theorem dX4_withDigit_52 : decode cX4_withDigit 52 = .ok (.if_icmp .le 7, 3) := by decide +kernel
theorem dX4_withDigit_55 : decode cX4_withDigit 55 = .ok (.iconst 1, 1) := by decide +kernel
theorem dX4_withDigit_56 : decode cX4_withDigit 56 = .ok (.goto 4, 3) := by decide +kernel
theorem dX4_withDigit_59 : decode cX4_withDigit 59 = .ok (.iconst 0, 1) := by decide +kernel
theorem dX4_withDigit_60 : decode cX4_withDigit 60 = .ok (.istore 5, 2) := by decide +kernel
theorem dX4_withDigit_62 : decode cX4_withDigit 62 = .ok (.iload_n 0, 1) := by decide +kernel
theorem dX4_withDigit_63 : decode cX4_withDigit 63 = .ok (.ifCond .eq 8, 3) := by decide +kernel
theorem dX4_withDigit_66 : decode cX4_withDigit 66 = .ok (.iload 5, 2) := by decide +kernel
theorem dX4_withDigit_68 : decode cX4_withDigit 68 = .ok (.ifCond .eq 8, 3) := by decide +kernel
theorem dX4_withDigit_71 : decode cX4_withDigit 71 = .ok (.bipush (-2), 2) := by decide +kernel
theorem dX4_withDigit_73 : decode cX4_withDigit 73 = .ok (.goto 5, 3) := by decide +kernel
theorem dX4_withDigit_76 : decode cX4_withDigit 76 = .ok (.iload 4, 2) := by decide +kernel
theorem dX4_withDigit_78 : decode cX4_withDigit 78 = .ok (.ireturn, 1) := by decide +kernel
theorem dX4_signBehind_0 : decode cX4_signBehind 0 = .ok (.iload_n 0, 1) := by decide +kernel
theorem dX4_signBehind_1 : decode cX4_signBehind 1 = .ok (.iconst 2, 1) := by decide +kernel
theorem dX4_signBehind_2 : decode cX4_signBehind 2 = .ok (.if_icmp .ne 6, 3) := by decide +kernel
theorem dX4_signBehind_5 : decode cX4_signBehind 5 = .ok (.bipush 58, 2) := by decide +kernel
theorem dX4_signBehind_7 : decode cX4_signBehind 7 = .ok (.ireturn, 1) := by decide +kernel
theorem dX4_signBehind_8 : decode cX4_signBehind 8 = .ok (.iload_n 0, 1) := by decide +kernel
theorem dX4_signBehind_9 : decode cX4_signBehind 9 = .ok (.iconst 5, 1) := by decide +kernel
theorem dX4_signBehind_10 : decode cX4_signBehind 10 = .ok (.if_icmp .ne 8, 3) := by decide +kernel
theorem dX4_signBehind_13 : decode cX4_signBehind 13 = .ok (.bipush 59, 2) := by decide +kernel
theorem dX4_signBehind_15 : decode cX4_signBehind 15 = .ok (.goto 5, 3) := by decide +kernel
theorem dX4_signBehind_18 : decode cX4_signBehind 18 = .ok (.bipush 44, 2) := by decide +kernel
theorem dX4_signBehind_20 : decode cX4_signBehind 20 = .ok (.ireturn, 1) := by decide +kernel
theorem dX4_store_0 : decode cX4_store 0 = .ok (.aload_n 0, 1) := by decide +kernel
theorem dX4_store_1 : decode cX4_store 1 = .ok (.getfield 23, 3) := by decide +kernel
theorem dX4_store_4 : decode cX4_store 4 = .ok (.aload_n 0, 1) := by decide +kernel
theorem dX4_store_5 : decode cX4_store 5 = .ok (.getfield 15, 3) := by decide +kernel
theorem dX4_store_8 : decode cX4_store 8 = .ok (.arraylength, 1) := by decide +kernel
theorem dX4_store_9 : decode cX4_store 9 = .ok (.if_icmp .ge 23, 3) := by decide +kernel
theorem dX4_store_12 : decode cX4_store 12 = .ok (.aload_n 0, 1) := by decide +kernel
theorem dX4_store_13 : decode cX4_store 13 = .ok (.getfield 15, 3) := by decide +kernel
theorem dX4_store_16 : decode cX4_store 16 = .ok (.aload_n 0, 1) := by decide +kernel
theorem dX4_store_17 : decode cX4_store 17 = .ok (.getfield 23, 3) := by decide +kernel
theorem dX4_store_20 : decode cX4_store 20 = .ok (.iload_n 1, 1) := by decide +kernel
theorem dX4_store_21 : decode cX4_store 21 = .ok (.iastore, 1) := by decide +kernel
theorem dX4_store_22 : decode cX4_store 22 = .ok (.aload_n 0, 1) := by decide +kernel
theorem dX4_store_23 : decode cX4_store 23 = .ok (.dup, 1) := by decide +kernel
theorem dX4_store_24 : decode cX4_store 24 = .ok (.getfield 23, 3) := by decide +kernel
theorem dX4_store_27 : decode cX4_store 27 = .ok (.iconst 1, 1) := by decide +kernel
theorem dX4_store_28 : decode cX4_store 28 = .ok (.iadd, 1) := by decide +kernel
theorem dX4_store_29 : decode cX4_store 29 = .ok (.putfield 23, 3) := by decide +kernel
theorem dX4_store_32 : decode cX4_store 32 = .ok (.return_, 1) := by decide +kernel
theorem dX4_boxCount_0 : decode cX4_boxCount 0 = .ok (.aload_n 0, 1) := by decide +kernel
theorem dX4_boxCount_1 : decode cX4_boxCount 1 = .ok (.getfield 23, 3) := by decide +kernel
theorem dX4_boxCount_4 : decode cX4_boxCount 4 = .ok (.bipush 6, 2) := by decide +kernel
theorem dX4_boxCount_6 : decode cX4_boxCount 6 = .ok (.idiv, 1) := by decide +kernel
theorem dX4_boxCount_7 : decode cX4_boxCount 7 = .ok (.ireturn, 1) := by decide +kernel
theorem dX4_valueOf_0 : decode cX4_valueOf 0 = .ok (.iload_n 1, 1) := by decide +kernel
theorem dX4_valueOf_1 : decode cX4_valueOf 1 = .ok (.bipush 6, 2) := by decide +kernel
theorem dX4_valueOf_3 : decode cX4_valueOf 3 = .ok (.imul, 1) := by decide +kernel
theorem dX4_valueOf_4 : decode cX4_valueOf 4 = .ok (.iload_n 2, 1) := by decide +kernel
theorem dX4_valueOf_5 : decode cX4_valueOf 5 = .ok (.iadd, 1) := by decide +kernel
theorem dX4_valueOf_6 : decode cX4_valueOf 6 = .ok (.istore_n 3, 1) := by decide +kernel
theorem dX4_valueOf_7 : decode cX4_valueOf 7 = .ok (.iload_n 3, 1) := by decide +kernel
theorem dX4_valueOf_8 : decode cX4_valueOf 8 = .ok (.ifCond .lt 20, 3) := by decide +kernel
theorem dX4_valueOf_11 : decode cX4_valueOf 11 = .ok (.iload_n 3, 1) := by decide +kernel
theorem dX4_valueOf_12 : decode cX4_valueOf 12 = .ok (.aload_n 0, 1) := by decide +kernel
theorem dX4_valueOf_13 : decode cX4_valueOf 13 = .ok (.getfield 23, 3) := by decide +kernel
theorem dX4_valueOf_16 : decode cX4_valueOf 16 = .ok (.if_icmp .ge 12, 3) := by decide +kernel
theorem dX4_valueOf_19 : decode cX4_valueOf 19 = .ok (.aload_n 0, 1) := by decide +kernel
theorem dX4_valueOf_20 : decode cX4_valueOf 20 = .ok (.getfield 15, 3) := by decide +kernel
theorem dX4_valueOf_23 : decode cX4_valueOf 23 = .ok (.iload_n 3, 1) := by decide +kernel
theorem dX4_valueOf_24 : decode cX4_valueOf 24 = .ok (.iaload, 1) := by decide +kernel
theorem dX4_valueOf_25 : decode cX4_valueOf 25 = .ok (.goto 4, 3) := by decide +kernel
theorem dX4_valueOf_28 : decode cX4_valueOf 28 = .ok (.iconst 0, 1) := by decide +kernel
theorem dX4_valueOf_29 : decode cX4_valueOf 29 = .ok (.ireturn, 1) := by decide +kernel
set_option maxRecDepth 20000 in
theorem ggX5_init_X3_init : GoodIn wsX5_init wsX3_init := goodIn_r _ [30, 31, 2, 3, 32, 33, 24, 25, 34, 35, 36, 37, 38, 39, 60, 61, 62, 63, 64, 87, 88, 89] (by decide +kernel) (by decide +kernel)
set_option maxRecDepth 20000 in
theorem gX5_init_X3_init : GoodIn wsX5_init (wsX3_init) := ggX5_init_X3_init
set_option maxRecDepth 20000 in
theorem ggX5_init_X1_init : GoodIn wsX5_init wsX1_init := goodIn_r _ [42, 43, 2, 3, 44, 45, 5, 6, 46, 29, 30, 31, 32, 33, 24, 25, 34, 35, 36, 37, 38, 39, 74, 75, 60, 61, 62, 63, 64, 87, 88, 89] (by decide +kernel) (by decide +kernel)
set_option maxRecDepth 20000 in
theorem gX5_init_X1_init : GoodIn wsX5_init (wsX1_init) := ggX5_init_X1_init
set_option maxRecDepth 20000 in
theorem ggX5_init_X4_init : GoodIn wsX5_init wsX4_init := goodIn_r _ [48, 49, 2, 3, 50, 51, 37, 52, 76, 77, 78, 79] (by decide +kernel) (by decide +kernel)
set_option maxRecDepth 20000 in
theorem gX5_init_X4_init_n31 : GoodIn wsX5_init (wsX4_init) := ggX5_init_X4_init
set_option maxRecDepth 20000 in
theorem ggX5_init_X2_init : GoodIn wsX5_init wsX2_init := goodIn_r _ [54, 55, 2, 3, 37, 56, 57, 58, 59, 80, 81, 82, 83, 84, 85, 86] (by decide +kernel) (by decide +kernel)
set_option maxRecDepth 20000 in
theorem gX5_init_X2_init_n38 : GoodIn wsX5_init (wsX2_init) := ggX5_init_X2_init
set_option maxRecDepth 20000 in
theorem ggX5_init_X0_init : GoodIn wsX5_init wsX0_init := goodIn_r _ [35, 36, 2, 3, 37, 38, 39, 87, 88, 89] (by decide +kernel) (by decide +kernel)
set_option maxRecDepth 20000 in
theorem gX5_init_X0_init_n48 : GoodIn wsX5_init (wsX0_init) := ggX5_init_X0_init
theorem dX5_init_0 : decode cX5_init 0 = .ok (.aload_n 0, 1) := by decide +kernel
theorem dX5_init_1 : decode cX5_init 1 = .ok (.invokespecial 1, 3) := by decide +kernel
theorem dX5_init_4 : decode cX5_init 4 = .ok (.aload_n 0, 1) := by decide +kernel
theorem dX5_init_5 : decode cX5_init 5 = .ok (.new 7, 3) := by decide +kernel
theorem dX5_init_8 : decode cX5_init 8 = .ok (.dup, 1) := by decide +kernel
theorem dX5_init_9 : decode cX5_init 9 = .ok (.invokespecial 9, 3) := by decide +kernel
theorem dX5_init_12 : decode cX5_init 12 = .ok (.putfield 10, 3) := by decide +kernel
theorem dX5_init_15 : decode cX5_init 15 = .ok (.aload_n 0, 1) := by decide +kernel
theorem dX5_init_16 : decode cX5_init 16 = .ok (.new 7, 3) := by decide +kernel
theorem dX5_init_19 : decode cX5_init 19 = .ok (.dup, 1) := by decide +kernel
theorem dX5_init_20 : decode cX5_init 20 = .ok (.invokespecial 9, 3) := by decide +kernel
theorem dX5_init_23 : decode cX5_init 23 = .ok (.putfield 16, 3) := by decide +kernel
theorem dX5_init_26 : decode cX5_init 26 = .ok (.aload_n 0, 1) := by decide +kernel
theorem dX5_init_27 : decode cX5_init 27 = .ok (.new 7, 3) := by decide +kernel
theorem dX5_init_30 : decode cX5_init 30 = .ok (.dup, 1) := by decide +kernel
theorem dX5_init_31 : decode cX5_init 31 = .ok (.invokespecial 9, 3) := by decide +kernel
theorem dX5_init_34 : decode cX5_init 34 = .ok (.putfield 19, 3) := by decide +kernel
theorem dX5_init_37 : decode cX5_init 37 = .ok (.aload_n 0, 1) := by decide +kernel
theorem dX5_init_38 : decode cX5_init 38 = .ok (.new 22, 3) := by decide +kernel
theorem dX5_init_41 : decode cX5_init 41 = .ok (.dup, 1) := by decide +kernel
theorem dX5_init_42 : decode cX5_init 42 = .ok (.invokespecial 24, 3) := by decide +kernel
theorem dX5_init_45 : decode cX5_init 45 = .ok (.putfield 25, 3) := by decide +kernel
theorem dX5_init_48 : decode cX5_init 48 = .ok (.aload_n 0, 1) := by decide +kernel
theorem dX5_init_49 : decode cX5_init 49 = .ok (.new 29, 3) := by decide +kernel
theorem dX5_init_52 : decode cX5_init 52 = .ok (.dup, 1) := by decide +kernel
theorem dX5_init_53 : decode cX5_init 53 = .ok (.invokespecial 31, 3) := by decide +kernel
theorem dX5_init_56 : decode cX5_init 56 = .ok (.putfield 32, 3) := by decide +kernel
theorem dX5_init_59 : decode cX5_init 59 = .ok (.aload_n 0, 1) := by decide +kernel
theorem dX5_init_60 : decode cX5_init 60 = .ok (.new 36, 3) := by decide +kernel
theorem dX5_init_63 : decode cX5_init 63 = .ok (.dup, 1) := by decide +kernel
theorem dX5_init_64 : decode cX5_init 64 = .ok (.invokespecial 38, 3) := by decide +kernel
theorem dX5_init_67 : decode cX5_init 67 = .ok (.putfield 39, 3) := by decide +kernel
theorem dX5_init_70 : decode cX5_init 70 = .ok (.aload_n 0, 1) := by decide +kernel
theorem dX5_init_71 : decode cX5_init 71 = .ok (.new 36, 3) := by decide +kernel
theorem dX5_init_74 : decode cX5_init 74 = .ok (.dup, 1) := by decide +kernel
theorem dX5_init_75 : decode cX5_init 75 = .ok (.invokespecial 38, 3) := by decide +kernel
theorem dX5_init_78 : decode cX5_init 78 = .ok (.putfield 43, 3) := by decide +kernel
theorem dX5_init_81 : decode cX5_init 81 = .ok (.aload_n 0, 1) := by decide +kernel
theorem dX5_init_82 : decode cX5_init 82 = .ok (.new 46, 3) := by decide +kernel
theorem dX5_init_85 : decode cX5_init 85 = .ok (.dup, 1) := by decide +kernel
theorem dX5_init_86 : decode cX5_init 86 = .ok (.invokespecial 48, 3) := by decide +kernel
theorem dX5_init_89 : decode cX5_init 89 = .ok (.putfield 49, 3) := by decide +kernel
theorem dX5_init_92 : decode cX5_init 92 = .ok (.aload_n 0, 1) := by decide +kernel
theorem dX5_init_93 : decode cX5_init 93 = .ok (.iconst 0, 1) := by decide +kernel
theorem dX5_init_94 : decode cX5_init 94 = .ok (.putfield 53, 3) := by decide +kernel
theorem dX5_init_97 : decode cX5_init 97 = .ok (.return_, 1) := by decide +kernel
set_option maxRecDepth 20000 in
theorem ggX5_add_X3_copyFrom : GoodIn wsX5_add wsX3_copyFrom := goodIn_r _ [7, 8, 9, 10, 11, 12, 13, 14, 15, 16, 17, 18, 19, 20, 21, 22, 23, 24, 83, 84, 85, 86, 87, 88, 89, 90] (by decide +kernel) (by decide +kernel)
set_option maxRecDepth 20000 in
theorem gX5_add_X3_copyFrom : GoodIn wsX5_add (wsV RX5 57 RX3 yX3_copyFrom wsX3_copyFrom) := goodIn_app (goodIn_of _ (by decide +kernel)) ggX5_add_X3_copyFrom
set_option maxRecDepth 20000 in
theorem ggX5_add_X5_enter : GoodIn wsX5_add wsX5_enter := goodIn_r _ [29, 30, 31, 32, 33, 16, 34, 19, 24, 35, 36, 37, 6, 38, 8, 12, 39, 40, 41, 42, 43, 44, 45, 46, 47, 48, 49, 50, 51, 52, 53, 54, 9, 55, 56, 13, 14, 15, 17, 18, 20, 21, 22, 23, 74, 75, 76, 77, 78, 79, 80, 81, 82, 88, 89, 90, 83, 84, 85, 86, 87] (by decide +kernel) (by decide +kernel)
set_option maxRecDepth 20000 in
theorem gX5_add_X5_enter : GoodIn wsX5_add (wsV RX5 61 RX5 yX5_enter wsX5_enter) := goodIn_app (goodIn_of _ (by decide +kernel)) ggX5_add_X5_enter
set_option maxRecDepth 20000 in
theorem ggX5_add_X5_adoptTrial : GoodIn wsX5_add wsX5_adoptTrial := goodIn_r _ [60, 61, 2, 1, 62, 63, 64, 65, 66, 67, 68, 69, 70, 71, 72, 73, 4, 5, 6, 7, 8, 9, 10, 11, 12, 13, 14, 15, 16, 17, 18, 19, 20, 21, 22, 23, 24, 3, 74, 75, 76, 77, 78, 79, 80, 81, 82, 91, 92, 83, 84, 85, 86, 87, 88, 89, 90] (by decide +kernel) (by decide +kernel)
set_option maxRecDepth 20000 in
theorem gX5_add_X5_adoptTrial : GoodIn wsX5_add (wsV RX5 65 RX5 yX5_adoptTrial wsX5_adoptTrial) := goodIn_app (goodIn_of _ (by decide +kernel)) ggX5_add_X5_adoptTrial
theorem dX5_add_0 : decode cX5_add 0 = .ok (.aload_n 0, 1) := by decide +kernel
theorem dX5_add_1 : decode cX5_add 1 = .ok (.getfield 16, 3) := by decide +kernel
theorem dX5_add_4 : decode cX5_add 4 = .ok (.aload_n 0, 1) := by decide +kernel
theorem dX5_add_5 : decode cX5_add 5 = .ok (.getfield 10, 3) := by decide +kernel
theorem dX5_add_8 : decode cX5_add 8 = .ok (.invokevirtual 57, 3) := by decide +kernel
theorem dX5_add_11 : decode cX5_add 11 = .ok (.aload_n 0, 1) := by decide +kernel
theorem dX5_add_12 : decode cX5_add 12 = .ok (.aload_n 0, 1) := by decide +kernel
theorem dX5_add_13 : decode cX5_add 13 = .ok (.getfield 16, 3) := by decide +kernel
theorem dX5_add_16 : decode cX5_add 16 = .ok (.iload_n 1, 1) := by decide +kernel
theorem dX5_add_17 : decode cX5_add 17 = .ok (.iload_n 2, 1) := by decide +kernel
theorem dX5_add_18 : decode cX5_add 18 = .ok (.iload_n 3, 1) := by decide +kernel
theorem dX5_add_19 : decode cX5_add 19 = .ok (.iload 4, 2) := by decide +kernel
theorem dX5_add_21 : decode cX5_add 21 = .ok (.iload 5, 2) := by decide +kernel
theorem dX5_add_23 : decode cX5_add 23 = .ok (.iload 6, 2) := by decide +kernel
theorem dX5_add_25 : decode cX5_add 25 = .ok (.invokevirtual 61, 3) := by decide +kernel
theorem dX5_add_28 : decode cX5_add 28 = .ok (.istore 7, 2) := by decide +kernel
theorem dX5_add_30 : decode cX5_add 30 = .ok (.iload 7, 2) := by decide +kernel
theorem dX5_add_32 : decode cX5_add 32 = .ok (.ifCond .lt 7, 3) := by decide +kernel
theorem dX5_add_35 : decode cX5_add 35 = .ok (.aload_n 0, 1) := by decide +kernel
theorem dX5_add_36 : decode cX5_add 36 = .ok (.invokevirtual 65, 3) := by decide +kernel
theorem dX5_add_39 : decode cX5_add 39 = .ok (.iload 7, 2) := by decide +kernel
theorem dX5_add_41 : decode cX5_add 41 = .ok (.ireturn, 1) := by decide +kernel
set_option maxRecDepth 20000 in
theorem ggX5_remove_X3_slotOf : GoodIn wsX5_remove wsX3_slotOf := goodIn_r _ [8, 9, 10, 11, 70, 71, 72, 73, 74, 75, 76, 77] (by decide +kernel) (by decide +kernel)
set_option maxRecDepth 20000 in
theorem gX5_remove_X3_slotOf : GoodIn wsX5_remove (wsV RX5 68 RX3 yX3_slotOf wsX3_slotOf) := goodIn_app (goodIn_of _ (by decide +kernel)) ggX5_remove_X3_slotOf
set_option maxRecDepth 20000 in
theorem ggX5_remove_X0_volume : GoodIn wsX5_remove wsX0_volume := goodIn_r _ [16, 17, 18, 19, 15, 20, 21, 22, 75, 76, 77] (by decide +kernel) (by decide +kernel)
set_option maxRecDepth 20000 in
theorem gX5_remove_X0_volume : GoodIn wsX5_remove (wsV RX5 76 RX0 yX0_volume wsX0_volume) := goodIn_app (goodIn_of _ (by decide +kernel)) ggX5_remove_X0_volume
set_option maxRecDepth 20000 in
theorem ggX5_remove_X3_copyFrom : GoodIn wsX5_remove wsX3_copyFrom := goodIn_r _ [26, 9, 27, 28, 29, 10, 30, 31, 32, 15, 33, 34, 22, 35, 36, 37, 38, 21, 70, 71, 72, 73, 74, 75, 76, 77] (by decide +kernel) (by decide +kernel)
set_option maxRecDepth 20000 in
theorem gX5_remove_X3_copyFrom : GoodIn wsX5_remove (wsV RX5 57 RX3 yX3_copyFrom wsX3_copyFrom) := goodIn_app (goodIn_of _ (by decide +kernel)) ggX5_remove_X3_copyFrom
set_option maxRecDepth 20000 in
theorem ggX5_remove_X3_takeOut : GoodIn wsX5_remove wsX3_takeOut := goodIn_r _ [42, 9, 10, 30, 31, 32, 15, 33, 34, 22, 35, 36, 37, 38, 21, 70, 71, 72, 73, 74, 75, 76, 77] (by decide +kernel) (by decide +kernel)
set_option maxRecDepth 20000 in
theorem gX5_remove_X3_takeOut : GoodIn wsX5_remove (wsV RX5 80 RX3 yX3_takeOut wsX3_takeOut) := goodIn_app (goodIn_of _ (by decide +kernel)) ggX5_remove_X3_takeOut
set_option maxRecDepth 20000 in
theorem ggX5_remove_X5_adoptTrial : GoodIn wsX5_remove wsX5_adoptTrial := goodIn_r _ [47, 48, 1, 3, 49, 50, 51, 52, 53, 54, 55, 56, 57, 58, 59, 60, 24, 25, 7, 26, 9, 27, 28, 29, 10, 30, 31, 32, 15, 33, 34, 22, 35, 36, 37, 38, 21, 23, 61, 62, 63, 64, 65, 66, 67, 68, 69, 78, 79, 70, 71, 72, 73, 74, 75, 76, 77] (by decide +kernel) (by decide +kernel)
set_option maxRecDepth 20000 in
theorem gX5_remove_X5_adoptTrial : GoodIn wsX5_remove (wsV RX5 65 RX5 yX5_adoptTrial wsX5_adoptTrial) := goodIn_app (goodIn_of _ (by decide +kernel)) ggX5_remove_X5_adoptTrial
theorem dX5_remove_0 : decode cX5_remove 0 = .ok (.aload_n 0, 1) := by decide +kernel
theorem dX5_remove_1 : decode cX5_remove 1 = .ok (.getfield 10, 3) := by decide +kernel
theorem dX5_remove_4 : decode cX5_remove 4 = .ok (.iload_n 1, 1) := by decide +kernel
theorem dX5_remove_5 : decode cX5_remove 5 = .ok (.invokevirtual 68, 3) := by decide +kernel
theorem dX5_remove_8 : decode cX5_remove 8 = .ok (.istore_n 2, 1) := by decide +kernel
theorem dX5_remove_9 : decode cX5_remove 9 = .ok (.iload_n 2, 1) := by decide +kernel
theorem dX5_remove_10 : decode cX5_remove 10 = .ok (.iconst (-1), 1) := by decide +kernel
theorem dX5_remove_11 : decode cX5_remove 11 = .ok (.if_icmp .ne 5, 3) := by decide +kernel
theorem dX5_remove_14 : decode cX5_remove 14 = .ok (.iconst (-1), 1) := by decide +kernel
theorem dX5_remove_15 : decode cX5_remove 15 = .ok (.ireturn, 1) := by decide +kernel
theorem dX5_remove_16 : decode cX5_remove 16 = .ok (.aload_n 0, 1) := by decide +kernel
theorem dX5_remove_17 : decode cX5_remove 17 = .ok (.getfield 10, 3) := by decide +kernel
theorem dX5_remove_20 : decode cX5_remove 20 = .ok (.getfield 72, 3) := by decide +kernel
theorem dX5_remove_23 : decode cX5_remove 23 = .ok (.iload_n 2, 1) := by decide +kernel
theorem dX5_remove_24 : decode cX5_remove 24 = .ok (.aaload, 1) := by decide +kernel
theorem dX5_remove_25 : decode cX5_remove 25 = .ok (.invokevirtual 76, 3) := by decide +kernel
theorem dX5_remove_28 : decode cX5_remove 28 = .ok (.istore_n 3, 1) := by decide +kernel
theorem dX5_remove_29 : decode cX5_remove 29 = .ok (.aload_n 0, 1) := by decide +kernel
theorem dX5_remove_30 : decode cX5_remove 30 = .ok (.getfield 16, 3) := by decide +kernel
theorem dX5_remove_33 : decode cX5_remove 33 = .ok (.aload_n 0, 1) := by decide +kernel
theorem dX5_remove_34 : decode cX5_remove 34 = .ok (.getfield 10, 3) := by decide +kernel
theorem dX5_remove_37 : decode cX5_remove 37 = .ok (.invokevirtual 57, 3) := by decide +kernel
theorem dX5_remove_40 : decode cX5_remove 40 = .ok (.aload_n 0, 1) := by decide +kernel
theorem dX5_remove_41 : decode cX5_remove 41 = .ok (.getfield 16, 3) := by decide +kernel
theorem dX5_remove_44 : decode cX5_remove 44 = .ok (.iload_n 2, 1) := by decide +kernel
theorem dX5_remove_45 : decode cX5_remove 45 = .ok (.invokevirtual 80, 3) := by decide +kernel
theorem dX5_remove_48 : decode cX5_remove 48 = .ok (.aload_n 0, 1) := by decide +kernel
theorem dX5_remove_49 : decode cX5_remove 49 = .ok (.invokevirtual 65, 3) := by decide +kernel
theorem dX5_remove_52 : decode cX5_remove 52 = .ok (.iload_n 3, 1) := by decide +kernel
theorem dX5_remove_53 : decode cX5_remove 53 = .ok (.ireturn, 1) := by decide +kernel
set_option maxRecDepth 20000 in
theorem ggX5_move_X3_slotOf : GoodIn wsX5_move wsX3_slotOf := goodIn_r _ [10, 11, 12, 13, 79, 80, 81, 82, 83, 84, 85, 86] (by decide +kernel) (by decide +kernel)
set_option maxRecDepth 20000 in
theorem gX5_move_X3_slotOf : GoodIn wsX5_move (wsV RX5 68 RX3 yX3_slotOf wsX3_slotOf) := goodIn_app (goodIn_of _ (by decide +kernel)) ggX5_move_X3_slotOf
set_option maxRecDepth 20000 in
theorem ggX5_move_X5_isDirection : GoodIn wsX5_move wsX5_isDirection := goodIn_r _ [17] (by decide +kernel) (by decide +kernel)
set_option maxRecDepth 20000 in
theorem gX5_move_X5_isDirection : GoodIn wsX5_move (va_wsS RX5 84 yX5_isDirection wsX5_isDirection) := goodIn_app (goodIn_of _ (by decide +kernel)) ggX5_move_X5_isDirection
set_option maxRecDepth 20000 in
theorem ggX5_move_X3_copyFrom : GoodIn wsX5_move wsX3_copyFrom := goodIn_r _ [21, 11, 22, 23, 24, 12, 25, 26, 27, 28, 29, 30, 31, 32, 33, 34, 35, 36, 79, 80, 81, 82, 83, 84, 85, 86] (by decide +kernel) (by decide +kernel)
set_option maxRecDepth 20000 in
theorem gX5_move_X3_copyFrom : GoodIn wsX5_move (wsV RX5 57 RX3 yX3_copyFrom wsX3_copyFrom) := goodIn_app (goodIn_of _ (by decide +kernel)) ggX5_move_X3_copyFrom
set_option maxRecDepth 20000 in
theorem ggX5_move_X0_shift : GoodIn wsX5_move wsX0_shift := goodIn_r _ [40, 31, 36, 84, 85, 86] (by decide +kernel) (by decide +kernel)
set_option maxRecDepth 20000 in
theorem gX5_move_X0_shift : GoodIn wsX5_move (wsV RX5 95 RX0 yX0_shift wsX0_shift) := goodIn_app (goodIn_of _ (by decide +kernel)) ggX5_move_X0_shift
set_option maxRecDepth 20000 in
theorem ggX5_move_X3_isCutBy : GoodIn wsX5_move wsX3_isCutBy := goodIn_r _ [44, 11, 12, 45, 46, 47, 28, 48, 49, 50, 51, 52, 31, 36, 79, 80, 81, 82, 83, 84, 85, 86] (by decide +kernel) (by decide +kernel)
set_option maxRecDepth 20000 in
theorem gX5_move_X3_isCutBy : GoodIn wsX5_move (wsV RX5 99 RX3 yX3_isCutBy wsX3_isCutBy) := goodIn_app (goodIn_of _ (by decide +kernel)) ggX5_move_X3_isCutBy
set_option maxRecDepth 20000 in
theorem ggX5_move_X5_adoptTrial : GoodIn wsX5_move wsX5_adoptTrial := goodIn_r _ [56, 57, 1, 2, 58, 59, 60, 61, 62, 63, 64, 65, 66, 67, 68, 69, 19, 20, 9, 21, 11, 22, 23, 24, 12, 25, 26, 27, 28, 29, 30, 31, 32, 33, 34, 35, 36, 18, 70, 71, 72, 73, 74, 75, 76, 77, 78, 87, 88, 79, 80, 81, 82, 83, 84, 85, 86] (by decide +kernel) (by decide +kernel)
set_option maxRecDepth 20000 in
theorem gX5_move_X5_adoptTrial : GoodIn wsX5_move (wsV RX5 65 RX5 yX5_adoptTrial wsX5_adoptTrial) := goodIn_app (goodIn_of _ (by decide +kernel)) ggX5_move_X5_adoptTrial
theorem dX5_move_0 : decode cX5_move 0 = .ok (.aload_n 0, 1) := by decide +kernel
theorem dX5_move_1 : decode cX5_move 1 = .ok (.getfield 10, 3) := by decide +kernel
theorem dX5_move_4 : decode cX5_move 4 = .ok (.iload_n 1, 1) := by decide +kernel
theorem dX5_move_5 : decode cX5_move 5 = .ok (.invokevirtual 68, 3) := by decide +kernel
theorem dX5_move_8 : decode cX5_move 8 = .ok (.istore 4, 2) := by decide +kernel
theorem dX5_move_10 : decode cX5_move 10 = .ok (.iload 4, 2) := by decide +kernel
theorem dX5_move_12 : decode cX5_move 12 = .ok (.iconst (-1), 1) := by decide +kernel
theorem dX5_move_13 : decode cX5_move 13 = .ok (.if_icmp .eq 10, 3) := by decide +kernel
theorem dX5_move_16 : decode cX5_move 16 = .ok (.iload_n 2, 1) := by decide +kernel
theorem dX5_move_17 : decode cX5_move 17 = .ok (.invokestatic 84, 3) := by decide +kernel
theorem dX5_move_20 : decode cX5_move 20 = .ok (.ifCond .ne 5, 3) := by decide +kernel
theorem dX5_move_23 : decode cX5_move 23 = .ok (.iconst (-1), 1) := by decide +kernel
theorem dX5_move_24 : decode cX5_move 24 = .ok (.ireturn, 1) := by decide +kernel
theorem dX5_move_25 : decode cX5_move 25 = .ok (.aload_n 0, 1) := by decide +kernel
theorem dX5_move_26 : decode cX5_move 26 = .ok (.getfield 16, 3) := by decide +kernel
theorem dX5_move_29 : decode cX5_move 29 = .ok (.aload_n 0, 1) := by decide +kernel
theorem dX5_move_30 : decode cX5_move 30 = .ok (.getfield 10, 3) := by decide +kernel
theorem dX5_move_33 : decode cX5_move 33 = .ok (.invokevirtual 57, 3) := by decide +kernel
theorem dX5_move_36 : decode cX5_move 36 = .ok (.aload_n 0, 1) := by decide +kernel
theorem dX5_move_37 : decode cX5_move 37 = .ok (.getfield 16, 3) := by decide +kernel
theorem dX5_move_40 : decode cX5_move 40 = .ok (.getfield 72, 3) := by decide +kernel
theorem dX5_move_43 : decode cX5_move 43 = .ok (.iload 4, 2) := by decide +kernel
theorem dX5_move_45 : decode cX5_move 45 = .ok (.aaload, 1) := by decide +kernel
theorem dX5_move_46 : decode cX5_move 46 = .ok (.astore 5, 2) := by decide +kernel
theorem dX5_move_48 : decode cX5_move 48 = .ok (.iload_n 3, 1) := by decide +kernel
theorem dX5_move_49 : decode cX5_move 49 = .ok (.aload 5, 2) := by decide +kernel
theorem dX5_move_51 : decode cX5_move 51 = .ok (.getfield 88, 3) := by decide +kernel
theorem dX5_move_54 : decode cX5_move 54 = .ok (.iload_n 2, 1) := by decide +kernel
theorem dX5_move_55 : decode cX5_move 55 = .ok (.iaload, 1) := by decide +kernel
theorem dX5_move_56 : decode cX5_move 56 = .ok (.ineg, 1) := by decide +kernel
theorem dX5_move_57 : decode cX5_move 57 = .ok (.if_icmp .lt 17, 3) := by decide +kernel
theorem dX5_move_60 : decode cX5_move 60 = .ok (.iload_n 3, 1) := by decide +kernel
theorem dX5_move_61 : decode cX5_move 61 = .ok (.bipush 32, 2) := by decide +kernel
theorem dX5_move_63 : decode cX5_move 63 = .ok (.aload 5, 2) := by decide +kernel
theorem dX5_move_65 : decode cX5_move 65 = .ok (.getfield 92, 3) := by decide +kernel
theorem dX5_move_68 : decode cX5_move 68 = .ok (.iload_n 2, 1) := by decide +kernel
theorem dX5_move_69 : decode cX5_move 69 = .ok (.iaload, 1) := by decide +kernel
theorem dX5_move_70 : decode cX5_move 70 = .ok (.isub, 1) := by decide +kernel
theorem dX5_move_71 : decode cX5_move 71 = .ok (.if_icmp .le 6, 3) := by decide +kernel
theorem dX5_move_74 : decode cX5_move 74 = .ok (.bipush (-2), 2) := by decide +kernel
theorem dX5_move_76 : decode cX5_move 76 = .ok (.ireturn, 1) := by decide +kernel
theorem dX5_move_77 : decode cX5_move 77 = .ok (.aload 5, 2) := by decide +kernel
theorem dX5_move_79 : decode cX5_move 79 = .ok (.iload_n 2, 1) := by decide +kernel
theorem dX5_move_80 : decode cX5_move 80 = .ok (.iload_n 3, 1) := by decide +kernel
theorem dX5_move_81 : decode cX5_move 81 = .ok (.invokevirtual 95, 3) := by decide +kernel
theorem dX5_move_84 : decode cX5_move 84 = .ok (.aload_n 0, 1) := by decide +kernel
theorem dX5_move_85 : decode cX5_move 85 = .ok (.getfield 16, 3) := by decide +kernel
theorem dX5_move_88 : decode cX5_move 88 = .ok (.aload 5, 2) := by decide +kernel
theorem dX5_move_90 : decode cX5_move 90 = .ok (.iload 4, 2) := by decide +kernel
theorem dX5_move_92 : decode cX5_move 92 = .ok (.invokevirtual 99, 3) := by decide +kernel
theorem dX5_move_95 : decode cX5_move 95 = .ok (.ifCond .eq 6, 3) := by decide +kernel
theorem dX5_move_98 : decode cX5_move 98 = .ok (.bipush (-4), 2) := by decide +kernel
theorem dX5_move_100 : decode cX5_move 100 = .ok (.ireturn, 1) := by decide +kernel
theorem dX5_move_101 : decode cX5_move 101 = .ok (.iload_n 3, 1) := by decide +kernel
theorem dX5_move_102 : decode cX5_move 102 = .ok (.ifCond .ne 6, 3) := by decide +kernel
theorem dX5_move_105 : decode cX5_move 105 = .ok (.bipush (-5), 2) := by decide +kernel
theorem dX5_move_107 : decode cX5_move 107 = .ok (.ireturn, 1) := by decide +kernel
theorem dX5_move_108 : decode cX5_move 108 = .ok (.aload_n 0, 1) := by decide +kernel
theorem dX5_move_109 : decode cX5_move 109 = .ok (.invokevirtual 65, 3) := by decide +kernel
theorem dX5_move_112 : decode cX5_move 112 = .ok (.aload_n 0, 1) := by decide +kernel
theorem dX5_move_113 : decode cX5_move 113 = .ok (.getfield 10, 3) := by decide +kernel
theorem dX5_move_116 : decode cX5_move 116 = .ok (.getfield 72, 3) := by decide +kernel
theorem dX5_move_119 : decode cX5_move 119 = .ok (.iload 4, 2) := by decide +kernel
theorem dX5_move_121 : decode cX5_move 121 = .ok (.aaload, 1) := by decide +kernel
theorem dX5_move_122 : decode cX5_move 122 = .ok (.getfield 88, 3) := by decide +kernel
theorem dX5_move_125 : decode cX5_move 125 = .ok (.iload_n 2, 1) := by decide +kernel
theorem dX5_move_126 : decode cX5_move 126 = .ok (.iaload, 1) := by decide +kernel
theorem dX5_move_127 : decode cX5_move 127 = .ok (.ireturn, 1) := by decide +kernel
set_option maxRecDepth 20000 in
theorem ggX5_fall_X3_slotOf : GoodIn wsX5_fall wsX3_slotOf := goodIn_r _ [9, 10, 11, 12, 80, 81, 82, 83, 84, 85, 86, 87] (by decide +kernel) (by decide +kernel)
set_option maxRecDepth 20000 in
theorem gX5_fall_X3_slotOf : GoodIn wsX5_fall (wsV RX5 68 RX3 yX3_slotOf wsX3_slotOf) := goodIn_app (goodIn_of _ (by decide +kernel)) ggX5_fall_X3_slotOf
set_option maxRecDepth 20000 in
theorem ggX5_fall_X3_groundUnder : GoodIn wsX5_fall wsX3_groundUnder := goodIn_r _ [16, 10, 11, 17, 18, 19, 20, 21, 22, 23, 24, 25, 26, 27, 28, 29, 30, 31, 32, 80, 81, 82, 83, 84, 85, 86, 87] (by decide +kernel) (by decide +kernel)
set_option maxRecDepth 20000 in
theorem gX5_fall_X3_groundUnder : GoodIn wsX5_fall (wsV RX5 103 RX3 yX3_groundUnder wsX3_groundUnder) := goodIn_app (goodIn_of _ (by decide +kernel)) ggX5_fall_X3_groundUnder
set_option maxRecDepth 20000 in
theorem ggX5_fall_X3_copyFrom : GoodIn wsX5_fall wsX3_copyFrom := goodIn_r _ [36, 10, 37, 38, 39, 11, 40, 41, 42, 25, 43, 44, 28, 45, 46, 47, 48, 27, 80, 81, 82, 83, 84, 85, 86, 87] (by decide +kernel) (by decide +kernel)
set_option maxRecDepth 20000 in
theorem gX5_fall_X3_copyFrom : GoodIn wsX5_fall (wsV RX5 57 RX3 yX3_copyFrom wsX3_copyFrom) := goodIn_app (goodIn_of _ (by decide +kernel)) ggX5_fall_X3_copyFrom
set_option maxRecDepth 20000 in
theorem ggX5_fall_X0_shift : GoodIn wsX5_fall wsX0_shift := goodIn_r _ [52, 28, 27, 85, 86, 87] (by decide +kernel) (by decide +kernel)
set_option maxRecDepth 20000 in
theorem gX5_fall_X0_shift : GoodIn wsX5_fall (wsV RX5 95 RX0 yX0_shift wsX0_shift) := goodIn_app (goodIn_of _ (by decide +kernel)) ggX5_fall_X0_shift
set_option maxRecDepth 20000 in
theorem ggX5_fall_X5_adoptTrial : GoodIn wsX5_fall wsX5_adoptTrial := goodIn_r _ [57, 58, 1, 4, 59, 60, 61, 62, 63, 64, 65, 66, 67, 68, 69, 70, 34, 35, 8, 36, 10, 37, 38, 39, 11, 40, 41, 42, 25, 43, 44, 28, 45, 46, 47, 48, 27, 33, 71, 72, 73, 74, 75, 76, 77, 78, 79, 88, 89, 80, 81, 82, 83, 84, 85, 86, 87] (by decide +kernel) (by decide +kernel)
set_option maxRecDepth 20000 in
theorem gX5_fall_X5_adoptTrial : GoodIn wsX5_fall (wsV RX5 65 RX5 yX5_adoptTrial wsX5_adoptTrial) := goodIn_app (goodIn_of _ (by decide +kernel)) ggX5_fall_X5_adoptTrial
theorem dX5_fall_0 : decode cX5_fall 0 = .ok (.aload_n 0, 1) := by decide +kernel
theorem dX5_fall_1 : decode cX5_fall 1 = .ok (.getfield 10, 3) := by decide +kernel
theorem dX5_fall_4 : decode cX5_fall 4 = .ok (.iload_n 1, 1) := by decide +kernel
theorem dX5_fall_5 : decode cX5_fall 5 = .ok (.invokevirtual 68, 3) := by decide +kernel
theorem dX5_fall_8 : decode cX5_fall 8 = .ok (.istore_n 2, 1) := by decide +kernel
theorem dX5_fall_9 : decode cX5_fall 9 = .ok (.iload_n 2, 1) := by decide +kernel
theorem dX5_fall_10 : decode cX5_fall 10 = .ok (.iconst (-1), 1) := by decide +kernel
theorem dX5_fall_11 : decode cX5_fall 11 = .ok (.if_icmp .ne 5, 3) := by decide +kernel
theorem dX5_fall_14 : decode cX5_fall 14 = .ok (.iconst (-1), 1) := by decide +kernel
theorem dX5_fall_15 : decode cX5_fall 15 = .ok (.ireturn, 1) := by decide +kernel
theorem dX5_fall_16 : decode cX5_fall 16 = .ok (.aload_n 0, 1) := by decide +kernel
theorem dX5_fall_17 : decode cX5_fall 17 = .ok (.getfield 10, 3) := by decide +kernel
theorem dX5_fall_20 : decode cX5_fall 20 = .ok (.getfield 72, 3) := by decide +kernel
theorem dX5_fall_23 : decode cX5_fall 23 = .ok (.iload_n 2, 1) := by decide +kernel
theorem dX5_fall_24 : decode cX5_fall 24 = .ok (.aaload, 1) := by decide +kernel
theorem dX5_fall_25 : decode cX5_fall 25 = .ok (.getfield 88, 3) := by decide +kernel
theorem dX5_fall_28 : decode cX5_fall 28 = .ok (.iconst 2, 1) := by decide +kernel
theorem dX5_fall_29 : decode cX5_fall 29 = .ok (.iaload, 1) := by decide +kernel
theorem dX5_fall_30 : decode cX5_fall 30 = .ok (.aload_n 0, 1) := by decide +kernel
theorem dX5_fall_31 : decode cX5_fall 31 = .ok (.getfield 10, 3) := by decide +kernel
theorem dX5_fall_34 : decode cX5_fall 34 = .ok (.iload_n 2, 1) := by decide +kernel
theorem dX5_fall_35 : decode cX5_fall 35 = .ok (.invokevirtual 103, 3) := by decide +kernel
theorem dX5_fall_38 : decode cX5_fall 38 = .ok (.isub, 1) := by decide +kernel
theorem dX5_fall_39 : decode cX5_fall 39 = .ok (.istore_n 3, 1) := by decide +kernel
theorem dX5_fall_40 : decode cX5_fall 40 = .ok (.iload_n 3, 1) := by decide +kernel
theorem dX5_fall_41 : decode cX5_fall 41 = .ok (.ifCond .gt 6, 3) := by decide +kernel
theorem dX5_fall_44 : decode cX5_fall 44 = .ok (.bipush (-5), 2) := by decide +kernel
theorem dX5_fall_46 : decode cX5_fall 46 = .ok (.ireturn, 1) := by decide +kernel
theorem dX5_fall_47 : decode cX5_fall 47 = .ok (.aload_n 0, 1) := by decide +kernel
theorem dX5_fall_48 : decode cX5_fall 48 = .ok (.getfield 16, 3) := by decide +kernel
theorem dX5_fall_51 : decode cX5_fall 51 = .ok (.aload_n 0, 1) := by decide +kernel
theorem dX5_fall_52 : decode cX5_fall 52 = .ok (.getfield 10, 3) := by decide +kernel
theorem dX5_fall_55 : decode cX5_fall 55 = .ok (.invokevirtual 57, 3) := by decide +kernel
theorem dX5_fall_58 : decode cX5_fall 58 = .ok (.aload_n 0, 1) := by decide +kernel
theorem dX5_fall_59 : decode cX5_fall 59 = .ok (.getfield 16, 3) := by decide +kernel
theorem dX5_fall_62 : decode cX5_fall 62 = .ok (.getfield 72, 3) := by decide +kernel
theorem dX5_fall_65 : decode cX5_fall 65 = .ok (.iload_n 2, 1) := by decide +kernel
theorem dX5_fall_66 : decode cX5_fall 66 = .ok (.aaload, 1) := by decide +kernel
theorem dX5_fall_67 : decode cX5_fall 67 = .ok (.iconst 2, 1) := by decide +kernel
theorem dX5_fall_68 : decode cX5_fall 68 = .ok (.iload_n 3, 1) := by decide +kernel
theorem dX5_fall_69 : decode cX5_fall 69 = .ok (.ineg, 1) := by decide +kernel
theorem dX5_fall_70 : decode cX5_fall 70 = .ok (.invokevirtual 95, 3) := by decide +kernel
theorem dX5_fall_73 : decode cX5_fall 73 = .ok (.aload_n 0, 1) := by decide +kernel
theorem dX5_fall_74 : decode cX5_fall 74 = .ok (.invokevirtual 65, 3) := by decide +kernel
theorem dX5_fall_77 : decode cX5_fall 77 = .ok (.iload_n 3, 1) := by decide +kernel
theorem dX5_fall_78 : decode cX5_fall 78 = .ok (.ireturn, 1) := by decide +kernel
set_option maxRecDepth 20000 in
theorem ggX5_split_X3_slotOf : GoodIn wsX5_split wsX3_slotOf := goodIn_r _ [10, 11, 12, 13, 78, 79, 80, 81, 82, 83, 84, 85] (by decide +kernel) (by decide +kernel)
set_option maxRecDepth 20000 in
theorem gX5_split_X3_slotOf : GoodIn wsX5_split (wsV RX5 68 RX3 yX3_slotOf wsX3_slotOf) := goodIn_app (goodIn_of _ (by decide +kernel)) ggX5_split_X3_slotOf
set_option maxRecDepth 20000 in
theorem ggX5_split_X5_isDirection : GoodIn wsX5_split wsX5_isDirection := goodIn_r _ [17] (by decide +kernel) (by decide +kernel)
set_option maxRecDepth 20000 in
theorem gX5_split_X5_isDirection : GoodIn wsX5_split (va_wsS RX5 84 yX5_isDirection wsX5_isDirection) := goodIn_app (goodIn_of _ (by decide +kernel)) ggX5_split_X5_isDirection
set_option maxRecDepth 20000 in
theorem ggX5_split_X3_isFull : GoodIn wsX5_split wsX3_isFull := goodIn_r _ [21, 11, 78, 79, 80, 81, 82] (by decide +kernel) (by decide +kernel)
set_option maxRecDepth 20000 in
theorem gX5_split_X3_isFull : GoodIn wsX5_split (wsV RX5 106 RX3 yX3_isFull wsX3_isFull) := goodIn_app (goodIn_of _ (by decide +kernel)) ggX5_split_X3_isFull
set_option maxRecDepth 20000 in
theorem ggX5_split_X3_copyFrom : GoodIn wsX5_split wsX3_copyFrom := goodIn_r _ [25, 11, 26, 27, 28, 12, 29, 30, 31, 32, 33, 34, 35, 36, 37, 38, 39, 40, 78, 79, 80, 81, 82, 83, 84, 85] (by decide +kernel) (by decide +kernel)
set_option maxRecDepth 20000 in
theorem gX5_split_X3_copyFrom : GoodIn wsX5_split (wsV RX5 57 RX3 yX3_copyFrom wsX3_copyFrom) := goodIn_app (goodIn_of _ (by decide +kernel)) ggX5_split_X3_copyFrom
set_option maxRecDepth 20000 in
theorem ggX5_split_X3_cutInTwo : GoodIn wsX5_split wsX3_cutInTwo := goodIn_r _ [44, 12, 11, 45, 46, 27, 47, 48, 49, 9, 50, 26, 13, 51, 19, 20, 21, 29, 30, 31, 32, 33, 34, 35, 36, 37, 38, 39, 40, 78, 79, 80, 81, 82, 83, 84, 85] (by decide +kernel) (by decide +kernel)
set_option maxRecDepth 20000 in
theorem gX5_split_X3_cutInTwo : GoodIn wsX5_split (wsV RX5 110 RX3 yX3_cutInTwo wsX3_cutInTwo) := goodIn_app (goodIn_of _ (by decide +kernel)) ggX5_split_X3_cutInTwo
set_option maxRecDepth 20000 in
theorem ggX5_split_X5_adoptTrial : GoodIn wsX5_split wsX5_adoptTrial := goodIn_r _ [55, 56, 1, 5, 57, 58, 59, 60, 61, 62, 63, 64, 65, 66, 67, 68, 23, 24, 9, 25, 11, 26, 27, 28, 12, 29, 30, 31, 32, 33, 34, 35, 36, 37, 38, 39, 40, 22, 69, 70, 71, 72, 73, 74, 75, 76, 77, 86, 87, 78, 79, 80, 81, 82, 83, 84, 85] (by decide +kernel) (by decide +kernel)
set_option maxRecDepth 20000 in
theorem gX5_split_X5_adoptTrial : GoodIn wsX5_split (wsV RX5 65 RX5 yX5_adoptTrial wsX5_adoptTrial) := goodIn_app (goodIn_of _ (by decide +kernel)) ggX5_split_X5_adoptTrial
theorem dX5_split_0 : decode cX5_split 0 = .ok (.aload_n 0, 1) := by decide +kernel
theorem dX5_split_1 : decode cX5_split 1 = .ok (.getfield 10, 3) := by decide +kernel
theorem dX5_split_4 : decode cX5_split 4 = .ok (.iload_n 1, 1) := by decide +kernel
theorem dX5_split_5 : decode cX5_split 5 = .ok (.invokevirtual 68, 3) := by decide +kernel
theorem dX5_split_8 : decode cX5_split 8 = .ok (.istore 4, 2) := by decide +kernel
theorem dX5_split_10 : decode cX5_split 10 = .ok (.iload 4, 2) := by decide +kernel
theorem dX5_split_12 : decode cX5_split 12 = .ok (.iconst (-1), 1) := by decide +kernel
theorem dX5_split_13 : decode cX5_split 13 = .ok (.if_icmp .eq 10, 3) := by decide +kernel
theorem dX5_split_16 : decode cX5_split 16 = .ok (.iload_n 2, 1) := by decide +kernel
theorem dX5_split_17 : decode cX5_split 17 = .ok (.invokestatic 84, 3) := by decide +kernel
theorem dX5_split_20 : decode cX5_split 20 = .ok (.ifCond .ne 5, 3) := by decide +kernel
theorem dX5_split_23 : decode cX5_split 23 = .ok (.iconst (-1), 1) := by decide +kernel
theorem dX5_split_24 : decode cX5_split 24 = .ok (.ireturn, 1) := by decide +kernel
theorem dX5_split_25 : decode cX5_split 25 = .ok (.aload_n 0, 1) := by decide +kernel
theorem dX5_split_26 : decode cX5_split 26 = .ok (.getfield 10, 3) := by decide +kernel
theorem dX5_split_29 : decode cX5_split 29 = .ok (.getfield 72, 3) := by decide +kernel
theorem dX5_split_32 : decode cX5_split 32 = .ok (.iload 4, 2) := by decide +kernel
theorem dX5_split_34 : decode cX5_split 34 = .ok (.aaload, 1) := by decide +kernel
theorem dX5_split_35 : decode cX5_split 35 = .ok (.astore 5, 2) := by decide +kernel
theorem dX5_split_37 : decode cX5_split 37 = .ok (.iload_n 3, 1) := by decide +kernel
theorem dX5_split_38 : decode cX5_split 38 = .ok (.aload 5, 2) := by decide +kernel
theorem dX5_split_40 : decode cX5_split 40 = .ok (.getfield 88, 3) := by decide +kernel
theorem dX5_split_43 : decode cX5_split 43 = .ok (.iload_n 2, 1) := by decide +kernel
theorem dX5_split_44 : decode cX5_split 44 = .ok (.iaload, 1) := by decide +kernel
theorem dX5_split_45 : decode cX5_split 45 = .ok (.if_icmp .le 14, 3) := by decide +kernel
theorem dX5_split_48 : decode cX5_split 48 = .ok (.iload_n 3, 1) := by decide +kernel
theorem dX5_split_49 : decode cX5_split 49 = .ok (.aload 5, 2) := by decide +kernel
theorem dX5_split_51 : decode cX5_split 51 = .ok (.getfield 92, 3) := by decide +kernel
theorem dX5_split_54 : decode cX5_split 54 = .ok (.iload_n 2, 1) := by decide +kernel
theorem dX5_split_55 : decode cX5_split 55 = .ok (.iaload, 1) := by decide +kernel
theorem dX5_split_56 : decode cX5_split 56 = .ok (.if_icmp .lt 6, 3) := by decide +kernel
theorem dX5_split_59 : decode cX5_split 59 = .ok (.bipush (-2), 2) := by decide +kernel
theorem dX5_split_61 : decode cX5_split 61 = .ok (.ireturn, 1) := by decide +kernel
theorem dX5_split_62 : decode cX5_split 62 = .ok (.aload_n 0, 1) := by decide +kernel
theorem dX5_split_63 : decode cX5_split 63 = .ok (.getfield 10, 3) := by decide +kernel
theorem dX5_split_66 : decode cX5_split 66 = .ok (.invokevirtual 106, 3) := by decide +kernel
theorem dX5_split_69 : decode cX5_split 69 = .ok (.ifCond .eq 6, 3) := by decide +kernel
theorem dX5_split_72 : decode cX5_split 72 = .ok (.bipush (-3), 2) := by decide +kernel
theorem dX5_split_74 : decode cX5_split 74 = .ok (.ireturn, 1) := by decide +kernel
theorem dX5_split_75 : decode cX5_split 75 = .ok (.aload_n 0, 1) := by decide +kernel
theorem dX5_split_76 : decode cX5_split 76 = .ok (.getfield 16, 3) := by decide +kernel
theorem dX5_split_79 : decode cX5_split 79 = .ok (.aload_n 0, 1) := by decide +kernel
theorem dX5_split_80 : decode cX5_split 80 = .ok (.getfield 10, 3) := by decide +kernel
theorem dX5_split_83 : decode cX5_split 83 = .ok (.invokevirtual 57, 3) := by decide +kernel
theorem dX5_split_86 : decode cX5_split 86 = .ok (.aload_n 0, 1) := by decide +kernel
theorem dX5_split_87 : decode cX5_split 87 = .ok (.getfield 16, 3) := by decide +kernel
theorem dX5_split_90 : decode cX5_split 90 = .ok (.iload 4, 2) := by decide +kernel
theorem dX5_split_92 : decode cX5_split 92 = .ok (.iload_n 2, 1) := by decide +kernel
theorem dX5_split_93 : decode cX5_split 93 = .ok (.iload_n 3, 1) := by decide +kernel
theorem dX5_split_94 : decode cX5_split 94 = .ok (.invokevirtual 110, 3) := by decide +kernel
theorem dX5_split_97 : decode cX5_split 97 = .ok (.istore 6, 2) := by decide +kernel
theorem dX5_split_99 : decode cX5_split 99 = .ok (.aload_n 0, 1) := by decide +kernel
theorem dX5_split_100 : decode cX5_split 100 = .ok (.invokevirtual 65, 3) := by decide +kernel
theorem dX5_split_103 : decode cX5_split 103 = .ok (.iload 6, 2) := by decide +kernel
theorem dX5_split_105 : decode cX5_split 105 = .ok (.ireturn, 1) := by decide +kernel
set_option maxRecDepth 20000 in
theorem ggX5_breakRing_X3_copyFrom : GoodIn wsX5_breakRing wsX3_copyFrom := goodIn_r _ [7, 8, 9, 10, 11, 12, 13, 14, 15, 16, 17, 18, 19, 20, 21, 22, 23, 24, 162, 163, 164, 165, 166, 167, 168, 169] (by decide +kernel) (by decide +kernel)
set_option maxRecDepth 20000 in
theorem gX5_breakRing_X3_copyFrom : GoodIn wsX5_breakRing (wsV RX5 57 RX3 yX3_copyFrom wsX3_copyFrom) := goodIn_app (goodIn_of _ (by decide +kernel)) ggX5_breakRing_X3_copyFrom
set_option maxRecDepth 20000 in
theorem ggX5_breakRing_X5_breakOne : GoodIn wsX5_breakRing wsX5_breakOne := goodIn_r _ [29, 30, 31, 32, 33, 34, 35, 36, 37, 38, 39, 40, 41, 42, 43, 44, 45, 46, 47, 16, 48, 19, 24, 49, 50, 51, 52, 53, 54, 55, 56, 57, 58, 59, 60, 61, 62, 21, 22, 23, 63, 64, 65, 66, 67, 68, 69, 70, 71, 72, 73, 74, 75, 76, 77, 78, 79, 80, 81, 82, 83, 84, 6, 85, 11, 12, 86, 87, 88, 89, 90, 91, 92, 93, 94, 95, 96, 97, 98, 99, 100, 101, 102, 103, 104, 105, 106, 107, 108, 109, 110, 111, 112, 113, 114, 115, 116, 117, 118, 119, 120, 121, 122, 123, 8, 124, 125, 126, 127, 128, 129, 10, 130, 131, 132, 133, 9, 134, 135, 13, 14, 15, 17, 18, 20, 153, 154, 155, 156, 157, 158, 159, 160, 161, 162, 163, 164, 165, 166, 167, 168, 169, 170, 171, 172, 173, 174, 175, 176] (by decide +kernel) (by decide +kernel)
set_option maxRecDepth 20000 in
theorem gX5_breakRing_X5_breakOne : GoodIn wsX5_breakRing (wsV RX5 114 RX5 yX5_breakOne wsX5_breakOne) := goodIn_app (goodIn_of _ (by decide +kernel)) ggX5_breakRing_X5_breakOne
set_option maxRecDepth 20000 in
theorem ggX5_breakRing_X5_adoptTrial : GoodIn wsX5_breakRing wsX5_adoptTrial := goodIn_r _ [139, 140, 2, 1, 141, 142, 143, 144, 145, 146, 147, 148, 149, 150, 151, 152, 4, 5, 6, 7, 8, 9, 10, 11, 12, 13, 14, 15, 16, 17, 18, 19, 20, 21, 22, 23, 24, 3, 153, 154, 155, 156, 157, 158, 159, 160, 161, 177, 178, 162, 163, 164, 165, 166, 167, 168, 169] (by decide +kernel) (by decide +kernel)
set_option maxRecDepth 20000 in
theorem gX5_breakRing_X5_adoptTrial : GoodIn wsX5_breakRing (wsV RX5 65 RX5 yX5_adoptTrial wsX5_adoptTrial) := goodIn_app (goodIn_of _ (by decide +kernel)) ggX5_breakRing_X5_adoptTrial
theorem dX5_breakRing_0 : decode cX5_breakRing 0 = .ok (.aload_n 0, 1) := by decide +kernel
theorem dX5_breakRing_1 : decode cX5_breakRing 1 = .ok (.getfield 16, 3) := by decide +kernel
theorem dX5_breakRing_4 : decode cX5_breakRing 4 = .ok (.aload_n 0, 1) := by decide +kernel
theorem dX5_breakRing_5 : decode cX5_breakRing 5 = .ok (.getfield 10, 3) := by decide +kernel
theorem dX5_breakRing_8 : decode cX5_breakRing 8 = .ok (.invokevirtual 57, 3) := by decide +kernel
theorem dX5_breakRing_11 : decode cX5_breakRing 11 = .ok (.aload_n 0, 1) := by decide +kernel
theorem dX5_breakRing_12 : decode cX5_breakRing 12 = .ok (.aload_n 0, 1) := by decide +kernel
theorem dX5_breakRing_13 : decode cX5_breakRing 13 = .ok (.getfield 16, 3) := by decide +kernel
theorem dX5_breakRing_16 : decode cX5_breakRing 16 = .ok (.invokevirtual 114, 3) := by decide +kernel
theorem dX5_breakRing_19 : decode cX5_breakRing 19 = .ok (.istore_n 1, 1) := by decide +kernel
theorem dX5_breakRing_20 : decode cX5_breakRing 20 = .ok (.iload_n 1, 1) := by decide +kernel
theorem dX5_breakRing_21 : decode cX5_breakRing 21 = .ok (.ifCond .lt 7, 3) := by decide +kernel
theorem dX5_breakRing_24 : decode cX5_breakRing 24 = .ok (.aload_n 0, 1) := by decide +kernel
theorem dX5_breakRing_25 : decode cX5_breakRing 25 = .ok (.invokevirtual 65, 3) := by decide +kernel
theorem dX5_breakRing_28 : decode cX5_breakRing 28 = .ok (.iload_n 1, 1) := by decide +kernel
theorem dX5_breakRing_29 : decode cX5_breakRing 29 = .ok (.ireturn, 1) := by decide +kernel
set_option maxRecDepth 20000 in
theorem ggX5_turn_X3_copyFrom : GoodIn wsX5_turn wsX3_copyFrom := goodIn_r _ [10, 11, 12, 13, 14, 15, 16, 17, 18, 19, 20, 21, 22, 23, 24, 25, 26, 27, 145, 146, 147, 148, 149, 150, 151, 152] (by decide +kernel) (by decide +kernel)
set_option maxRecDepth 20000 in
theorem gX5_turn_X3_copyFrom : GoodIn wsX5_turn (wsV RX5 57 RX3 yX3_copyFrom wsX3_copyFrom) := goodIn_app (goodIn_of _ (by decide +kernel)) ggX5_turn_X3_copyFrom
set_option maxRecDepth 20000 in
theorem ggX5_turn_X3_quarterTurn : GoodIn wsX5_turn wsX3_quarterTurn := goodIn_r _ [31, 11, 15, 32, 33, 145, 146, 147, 148, 149, 150, 151, 152] (by decide +kernel) (by decide +kernel)
set_option maxRecDepth 20000 in
theorem gX5_turn_X3_quarterTurn : GoodIn wsX5_turn (wsV RX5 122 RX3 yX3_quarterTurn wsX3_quarterTurn) := goodIn_app (goodIn_of _ (by decide +kernel)) ggX5_turn_X3_quarterTurn
set_option maxRecDepth 20000 in
theorem ggX5_turn_X2_look : GoodIn wsX5_turn wsX2_look := goodIn_r _ [38, 39, 40, 41, 42, 43, 37, 44, 45, 46, 47, 48, 19, 49, 22, 27, 50, 51, 52, 53, 54, 55, 56, 57, 58, 59, 60, 61, 62, 63, 24, 25, 26, 64, 65, 66, 67, 68, 69, 70, 71, 72, 73, 74, 75, 76, 77, 78, 79, 80, 81, 82, 83, 84, 85, 9, 86, 14, 15, 87, 88, 89, 90, 91, 92, 93, 94, 95, 96, 97, 98, 99, 100, 101, 102, 103, 104, 105, 106, 145, 146, 147, 148, 149, 153, 154, 155, 156, 157, 158, 159, 150, 151, 152] (by decide +kernel) (by decide +kernel)
set_option maxRecDepth 20000 in
theorem gX5_turn_X2_look : GoodIn wsX5_turn (wsV RX5 125 RX2 yX2_look wsX2_look) := goodIn_app (goodIn_of _ (by decide +kernel)) ggX5_turn_X2_look
set_option maxRecDepth 20000 in
theorem ggX5_turn_X2_hidingsNotIn : GoodIn wsX5_turn wsX2_hidingsNotIn := goodIn_r _ [110, 40, 41, 111, 112, 113, 114, 115, 116, 117, 153, 154, 155, 156, 157, 158, 159] (by decide +kernel) (by decide +kernel)
set_option maxRecDepth 20000 in
theorem gX5_turn_X2_hidingsNotIn : GoodIn wsX5_turn (wsV RX5 128 RX2 yX2_hidingsNotIn wsX2_hidingsNotIn) := goodIn_app (goodIn_of _ (by decide +kernel)) ggX5_turn_X2_hidingsNotIn
set_option maxRecDepth 20000 in
theorem ggX5_turn_X5_adoptTrial : GoodIn wsX5_turn wsX5_adoptTrial := goodIn_r _ [122, 123, 1, 3, 124, 125, 126, 127, 128, 129, 130, 131, 132, 133, 134, 135, 7, 8, 9, 10, 11, 12, 13, 14, 15, 16, 17, 18, 19, 20, 21, 22, 23, 24, 25, 26, 27, 6, 136, 137, 138, 139, 140, 141, 142, 143, 144, 160, 161, 145, 146, 147, 148, 149, 150, 151, 152] (by decide +kernel) (by decide +kernel)
set_option maxRecDepth 20000 in
theorem gX5_turn_X5_adoptTrial : GoodIn wsX5_turn (wsV RX5 65 RX5 yX5_adoptTrial wsX5_adoptTrial) := goodIn_app (goodIn_of _ (by decide +kernel)) ggX5_turn_X5_adoptTrial
theorem dX5_turn_0 : decode cX5_turn 0 = .ok (.aload_n 0, 1) := by decide +kernel
theorem dX5_turn_1 : decode cX5_turn 1 = .ok (.getfield 10, 3) := by decide +kernel
theorem dX5_turn_4 : decode cX5_turn 4 = .ok (.getfield 118, 3) := by decide +kernel
theorem dX5_turn_7 : decode cX5_turn 7 = .ok (.ifCond .ne 6, 3) := by decide +kernel
theorem dX5_turn_10 : decode cX5_turn 10 = .ok (.bipush (-5), 2) := by decide +kernel
theorem dX5_turn_12 : decode cX5_turn 12 = .ok (.ireturn, 1) := by decide +kernel
theorem dX5_turn_13 : decode cX5_turn 13 = .ok (.aload_n 0, 1) := by decide +kernel
theorem dX5_turn_14 : decode cX5_turn 14 = .ok (.getfield 16, 3) := by decide +kernel
theorem dX5_turn_17 : decode cX5_turn 17 = .ok (.aload_n 0, 1) := by decide +kernel
theorem dX5_turn_18 : decode cX5_turn 18 = .ok (.getfield 10, 3) := by decide +kernel
theorem dX5_turn_21 : decode cX5_turn 21 = .ok (.invokevirtual 57, 3) := by decide +kernel
theorem dX5_turn_24 : decode cX5_turn 24 = .ok (.aload_n 0, 1) := by decide +kernel
theorem dX5_turn_25 : decode cX5_turn 25 = .ok (.getfield 16, 3) := by decide +kernel
theorem dX5_turn_28 : decode cX5_turn 28 = .ok (.invokevirtual 122, 3) := by decide +kernel
theorem dX5_turn_31 : decode cX5_turn 31 = .ok (.aload_n 0, 1) := by decide +kernel
theorem dX5_turn_32 : decode cX5_turn 32 = .ok (.getfield 39, 3) := by decide +kernel
theorem dX5_turn_35 : decode cX5_turn 35 = .ok (.aload_n 0, 1) := by decide +kernel
theorem dX5_turn_36 : decode cX5_turn 36 = .ok (.getfield 10, 3) := by decide +kernel
theorem dX5_turn_39 : decode cX5_turn 39 = .ok (.invokevirtual 125, 3) := by decide +kernel
theorem dX5_turn_42 : decode cX5_turn 42 = .ok (.aload_n 0, 1) := by decide +kernel
theorem dX5_turn_43 : decode cX5_turn 43 = .ok (.getfield 43, 3) := by decide +kernel
theorem dX5_turn_46 : decode cX5_turn 46 = .ok (.aload_n 0, 1) := by decide +kernel
theorem dX5_turn_47 : decode cX5_turn 47 = .ok (.getfield 16, 3) := by decide +kernel
theorem dX5_turn_50 : decode cX5_turn 50 = .ok (.invokevirtual 125, 3) := by decide +kernel
theorem dX5_turn_53 : decode cX5_turn 53 = .ok (.aload_n 0, 1) := by decide +kernel
theorem dX5_turn_54 : decode cX5_turn 54 = .ok (.getfield 39, 3) := by decide +kernel
theorem dX5_turn_57 : decode cX5_turn 57 = .ok (.aload_n 0, 1) := by decide +kernel
theorem dX5_turn_58 : decode cX5_turn 58 = .ok (.getfield 43, 3) := by decide +kernel
theorem dX5_turn_61 : decode cX5_turn 61 = .ok (.invokevirtual 128, 3) := by decide +kernel
theorem dX5_turn_64 : decode cX5_turn 64 = .ok (.istore_n 1, 1) := by decide +kernel
theorem dX5_turn_65 : decode cX5_turn 65 = .ok (.aload_n 0, 1) := by decide +kernel
theorem dX5_turn_66 : decode cX5_turn 66 = .ok (.invokevirtual 65, 3) := by decide +kernel
theorem dX5_turn_69 : decode cX5_turn 69 = .ok (.iload_n 1, 1) := by decide +kernel
theorem dX5_turn_70 : decode cX5_turn 70 = .ok (.ireturn, 1) := by decide +kernel
set_option maxRecDepth 20000 in
theorem ggX5_set_X3_copyFrom : GoodIn wsX5_set wsX3_copyFrom := goodIn_r _ [8, 9, 10, 11, 12, 13, 14, 15, 16, 17, 18, 19, 20, 21, 22, 23, 24, 25, 53, 54, 55, 56, 57, 58, 59, 60] (by decide +kernel) (by decide +kernel)
set_option maxRecDepth 20000 in
theorem gX5_set_X3_copyFrom : GoodIn wsX5_set (wsV RX5 57 RX3 yX3_copyFrom wsX3_copyFrom) := goodIn_app (goodIn_of _ (by decide +kernel)) ggX5_set_X3_copyFrom
set_option maxRecDepth 20000 in
theorem ggX5_set_X5_adoptTrial : GoodIn wsX5_set wsX5_adoptTrial := goodIn_r _ [30, 31, 1, 3, 32, 33, 34, 35, 36, 37, 38, 39, 40, 41, 42, 43, 5, 6, 7, 8, 9, 10, 11, 12, 13, 14, 15, 16, 17, 18, 19, 20, 21, 22, 23, 24, 25, 4, 44, 45, 46, 47, 48, 49, 50, 51, 52, 61, 62, 53, 54, 55, 56, 57, 58, 59, 60] (by decide +kernel) (by decide +kernel)
set_option maxRecDepth 20000 in
theorem gX5_set_X5_adoptTrial : GoodIn wsX5_set (wsV RX5 65 RX5 yX5_adoptTrial wsX5_adoptTrial) := goodIn_app (goodIn_of _ (by decide +kernel)) ggX5_set_X5_adoptTrial
theorem dX5_set_0 : decode cX5_set 0 = .ok (.iload_n 1, 1) := by decide +kernel
theorem dX5_set_1 : decode cX5_set 1 = .ok (.ifCond .eq 5, 3) := by decide +kernel
theorem dX5_set_4 : decode cX5_set 4 = .ok (.iconst (-1), 1) := by decide +kernel
theorem dX5_set_5 : decode cX5_set 5 = .ok (.ireturn, 1) := by decide +kernel
theorem dX5_set_6 : decode cX5_set 6 = .ok (.iload_n 2, 1) := by decide +kernel
theorem dX5_set_7 : decode cX5_set 7 = .ok (.ifCond .lt 8, 3) := by decide +kernel
theorem dX5_set_10 : decode cX5_set 10 = .ok (.iload_n 2, 1) := by decide +kernel
theorem dX5_set_11 : decode cX5_set 11 = .ok (.iconst 2, 1) := by decide +kernel
theorem dX5_set_12 : decode cX5_set 12 = .ok (.if_icmp .le 6, 3) := by decide +kernel
theorem dX5_set_15 : decode cX5_set 15 = .ok (.bipush (-2), 2) := by decide +kernel
theorem dX5_set_17 : decode cX5_set 17 = .ok (.ireturn, 1) := by decide +kernel
theorem dX5_set_18 : decode cX5_set 18 = .ok (.aload_n 0, 1) := by decide +kernel
theorem dX5_set_19 : decode cX5_set 19 = .ok (.getfield 10, 3) := by decide +kernel
theorem dX5_set_22 : decode cX5_set 22 = .ok (.getfield 132, 3) := by decide +kernel
theorem dX5_set_25 : decode cX5_set 25 = .ok (.istore_n 3, 1) := by decide +kernel
theorem dX5_set_26 : decode cX5_set 26 = .ok (.iload_n 2, 1) := by decide +kernel
theorem dX5_set_27 : decode cX5_set 27 = .ok (.iload_n 3, 1) := by decide +kernel
theorem dX5_set_28 : decode cX5_set 28 = .ok (.if_icmp .ne 6, 3) := by decide +kernel
theorem dX5_set_31 : decode cX5_set 31 = .ok (.bipush (-5), 2) := by decide +kernel
theorem dX5_set_33 : decode cX5_set 33 = .ok (.ireturn, 1) := by decide +kernel
theorem dX5_set_34 : decode cX5_set 34 = .ok (.aload_n 0, 1) := by decide +kernel
theorem dX5_set_35 : decode cX5_set 35 = .ok (.getfield 16, 3) := by decide +kernel
theorem dX5_set_38 : decode cX5_set 38 = .ok (.aload_n 0, 1) := by decide +kernel
theorem dX5_set_39 : decode cX5_set 39 = .ok (.getfield 10, 3) := by decide +kernel
theorem dX5_set_42 : decode cX5_set 42 = .ok (.invokevirtual 57, 3) := by decide +kernel
theorem dX5_set_45 : decode cX5_set 45 = .ok (.aload_n 0, 1) := by decide +kernel
theorem dX5_set_46 : decode cX5_set 46 = .ok (.getfield 16, 3) := by decide +kernel
theorem dX5_set_49 : decode cX5_set 49 = .ok (.iload_n 2, 1) := by decide +kernel
theorem dX5_set_50 : decode cX5_set 50 = .ok (.putfield 132, 3) := by decide +kernel
theorem dX5_set_53 : decode cX5_set 53 = .ok (.aload_n 0, 1) := by decide +kernel
theorem dX5_set_54 : decode cX5_set 54 = .ok (.invokevirtual 65, 3) := by decide +kernel
theorem dX5_set_57 : decode cX5_set 57 = .ok (.iload_n 3, 1) := by decide +kernel
theorem dX5_set_58 : decode cX5_set 58 = .ok (.ireturn, 1) := by decide +kernel
set_option maxRecDepth 20000 in
theorem ggX5_type_X4_append : GoodIn wsX5_type wsX4_append := goodIn_r _ [7, 8, 9, 19, 20, 21, 22] (by decide +kernel) (by decide +kernel)
set_option maxRecDepth 20000 in
theorem gX5_type_X4_append : GoodIn wsX5_type (wsV RX5 135 RX4 yX4_append wsX4_append) := goodIn_app (goodIn_of _ (by decide +kernel)) ggX5_type_X4_append
theorem dX5_type_0 : decode cX5_type 0 = .ok (.aload_n 0, 1) := by decide +kernel
theorem dX5_type_1 : decode cX5_type 1 = .ok (.getfield 32, 3) := by decide +kernel
theorem dX5_type_4 : decode cX5_type 4 = .ok (.iload_n 1, 1) := by decide +kernel
theorem dX5_type_5 : decode cX5_type 5 = .ok (.invokevirtual 135, 3) := by decide +kernel
theorem dX5_type_8 : decode cX5_type 8 = .ok (.ifCond .eq 13, 3) := by decide +kernel
theorem dX5_type_11 : decode cX5_type 11 = .ok (.aload_n 0, 1) := by decide +kernel
theorem dX5_type_12 : decode cX5_type 12 = .ok (.getfield 32, 3) := by decide +kernel
theorem dX5_type_15 : decode cX5_type 15 = .ok (.getfield 139, 3) := by decide +kernel
theorem dX5_type_18 : decode cX5_type 18 = .ok (.goto 5, 3) := by decide +kernel
theorem dX5_type_21 : decode cX5_type 21 = .ok (.bipush (-3), 2) := by decide +kernel
theorem dX5_type_23 : decode cX5_type 23 = .ok (.ireturn, 1) := by decide +kernel
theorem dX5_clearText_0 : decode cX5_clearText 0 = .ok (.aload_n 0, 1) := by decide +kernel
theorem dX5_clearText_1 : decode cX5_clearText 1 = .ok (.getfield 32, 3) := by decide +kernel
theorem dX5_clearText_4 : decode cX5_clearText 4 = .ok (.getfield 139, 3) := by decide +kernel
theorem dX5_clearText_7 : decode cX5_clearText 7 = .ok (.istore_n 1, 1) := by decide +kernel
theorem dX5_clearText_8 : decode cX5_clearText 8 = .ok (.aload_n 0, 1) := by decide +kernel
theorem dX5_clearText_9 : decode cX5_clearText 9 = .ok (.getfield 32, 3) := by decide +kernel
theorem dX5_clearText_12 : decode cX5_clearText 12 = .ok (.iconst 0, 1) := by decide +kernel
theorem dX5_clearText_13 : decode cX5_clearText 13 = .ok (.putfield 139, 3) := by decide +kernel
theorem dX5_clearText_16 : decode cX5_clearText 16 = .ok (.iload_n 1, 1) := by decide +kernel
theorem dX5_clearText_17 : decode cX5_clearText 17 = .ok (.ireturn, 1) := by decide +kernel
set_option maxRecDepth 20000 in
theorem ggX5_addAll_X4_read : GoodIn wsX5_addAll wsX4_read := goodIn_r _ [8, 9, 10, 11, 12, 13, 7, 14, 15, 16, 17, 18, 19, 20, 21, 22, 111, 112, 113, 114] (by decide +kernel) (by decide +kernel)
set_option maxRecDepth 20000 in
theorem gX5_addAll_X4_read : GoodIn wsX5_addAll (wsV RX5 142 RX4 yX4_read wsX4_read) := goodIn_app (goodIn_of _ (by decide +kernel)) ggX5_addAll_X4_read
set_option maxRecDepth 20000 in
theorem ggX5_addAll_X3_copyFrom : GoodIn wsX5_addAll wsX3_copyFrom := goodIn_r _ [27, 28, 29, 30, 31, 32, 33, 34, 35, 36, 37, 38, 39, 40, 41, 42, 43, 44, 115, 116, 117, 118, 119, 120, 121, 122] (by decide +kernel) (by decide +kernel)
set_option maxRecDepth 20000 in
theorem gX5_addAll_X3_copyFrom : GoodIn wsX5_addAll (wsV RX5 57 RX3 yX3_copyFrom wsX3_copyFrom) := goodIn_app (goodIn_of _ (by decide +kernel)) ggX5_addAll_X3_copyFrom
set_option maxRecDepth 20000 in
theorem ggX5_addAll_X4_boxCount : GoodIn wsX5_addAll wsX4_boxCount := goodIn_r _ [48, 9, 111, 112, 113, 114] (by decide +kernel) (by decide +kernel)
set_option maxRecDepth 20000 in
theorem gX5_addAll_X4_boxCount : GoodIn wsX5_addAll (wsV RX5 145 RX4 yX4_boxCount wsX4_boxCount) := goodIn_app (goodIn_of _ (by decide +kernel)) ggX5_addAll_X4_boxCount
set_option maxRecDepth 20000 in
theorem ggX5_addAll_X4_valueOf : GoodIn wsX5_addAll wsX4_valueOf := goodIn_r _ [52, 9, 22, 111, 112, 113, 114] (by decide +kernel) (by decide +kernel)
set_option maxRecDepth 20000 in
theorem gX5_addAll_X4_valueOf : GoodIn wsX5_addAll (wsV RX5 148 RX4 yX4_valueOf wsX4_valueOf) := goodIn_app (goodIn_of _ (by decide +kernel)) ggX5_addAll_X4_valueOf
set_option maxRecDepth 20000 in
theorem ggX5_addAll_X5_enter : GoodIn wsX5_addAll wsX5_enter := goodIn_r _ [57, 58, 59, 60, 61, 36, 62, 39, 44, 63, 64, 65, 26, 66, 28, 32, 67, 68, 69, 70, 71, 72, 73, 74, 75, 76, 77, 78, 79, 80, 81, 82, 29, 83, 84, 33, 34, 35, 37, 38, 40, 41, 42, 43, 102, 103, 104, 105, 106, 107, 108, 109, 110, 120, 121, 122, 115, 116, 117, 118, 119] (by decide +kernel) (by decide +kernel)
set_option maxRecDepth 20000 in
theorem gX5_addAll_X5_enter : GoodIn wsX5_addAll (wsV RX5 61 RX5 yX5_enter wsX5_enter) := goodIn_app (goodIn_of _ (by decide +kernel)) ggX5_addAll_X5_enter
set_option maxRecDepth 20000 in
theorem ggX5_addAll_X5_adoptTrial : GoodIn wsX5_addAll wsX5_adoptTrial := goodIn_r _ [88, 89, 3, 2, 90, 91, 92, 93, 94, 95, 96, 97, 98, 99, 100, 101, 24, 25, 26, 27, 28, 29, 30, 31, 32, 33, 34, 35, 36, 37, 38, 39, 40, 41, 42, 43, 44, 23, 102, 103, 104, 105, 106, 107, 108, 109, 110, 123, 124, 115, 116, 117, 118, 119, 120, 121, 122] (by decide +kernel) (by decide +kernel)
set_option maxRecDepth 20000 in
theorem gX5_addAll_X5_adoptTrial : GoodIn wsX5_addAll (wsV RX5 65 RX5 yX5_adoptTrial wsX5_adoptTrial) := goodIn_app (goodIn_of _ (by decide +kernel)) ggX5_addAll_X5_adoptTrial
theorem dX5_addAll_0 : decode cX5_addAll 0 = .ok (.aload_n 0, 1) := by decide +kernel
theorem dX5_addAll_1 : decode cX5_addAll 1 = .ok (.getfield 32, 3) := by decide +kernel
theorem dX5_addAll_4 : decode cX5_addAll 4 = .ok (.invokevirtual 142, 3) := by decide +kernel
theorem dX5_addAll_7 : decode cX5_addAll 7 = .ok (.istore_n 1, 1) := by decide +kernel
theorem dX5_addAll_8 : decode cX5_addAll 8 = .ok (.iload_n 1, 1) := by decide +kernel
theorem dX5_addAll_9 : decode cX5_addAll 9 = .ok (.iconst (-1), 1) := by decide +kernel
theorem dX5_addAll_10 : decode cX5_addAll 10 = .ok (.if_icmp .eq 8, 3) := by decide +kernel
theorem dX5_addAll_13 : decode cX5_addAll 13 = .ok (.bipush (-100), 2) := by decide +kernel
theorem dX5_addAll_15 : decode cX5_addAll 15 = .ok (.iload_n 1, 1) := by decide +kernel
theorem dX5_addAll_16 : decode cX5_addAll 16 = .ok (.isub, 1) := by decide +kernel
theorem dX5_addAll_17 : decode cX5_addAll 17 = .ok (.ireturn, 1) := by decide +kernel
theorem dX5_addAll_18 : decode cX5_addAll 18 = .ok (.aload_n 0, 1) := by decide +kernel
theorem dX5_addAll_19 : decode cX5_addAll 19 = .ok (.getfield 16, 3) := by decide +kernel
theorem dX5_addAll_22 : decode cX5_addAll 22 = .ok (.aload_n 0, 1) := by decide +kernel
theorem dX5_addAll_23 : decode cX5_addAll 23 = .ok (.getfield 10, 3) := by decide +kernel
theorem dX5_addAll_26 : decode cX5_addAll 26 = .ok (.invokevirtual 57, 3) := by decide +kernel
theorem dX5_addAll_29 : decode cX5_addAll 29 = .ok (.aload_n 0, 1) := by decide +kernel
theorem dX5_addAll_30 : decode cX5_addAll 30 = .ok (.getfield 32, 3) := by decide +kernel
theorem dX5_addAll_33 : decode cX5_addAll 33 = .ok (.invokevirtual 145, 3) := by decide +kernel
theorem dX5_addAll_36 : decode cX5_addAll 36 = .ok (.istore_n 2, 1) := by decide +kernel
theorem dX5_addAll_37 : decode cX5_addAll 37 = .ok (.iconst 0, 1) := by decide +kernel
theorem dX5_addAll_38 : decode cX5_addAll 38 = .ok (.istore_n 3, 1) := by decide +kernel
theorem dX5_addAll_39 : decode cX5_addAll 39 = .ok (.iload_n 3, 1) := by decide +kernel
theorem dX5_addAll_40 : decode cX5_addAll 40 = .ok (.iload_n 2, 1) := by decide +kernel
theorem dX5_addAll_41 : decode cX5_addAll 41 = .ok (.if_icmp .ge 81, 3) := by decide +kernel
theorem dX5_addAll_44 : decode cX5_addAll 44 = .ok (.aload_n 0, 1) := by decide +kernel
theorem dX5_addAll_45 : decode cX5_addAll 45 = .ok (.aload_n 0, 1) := by decide +kernel
theorem dX5_addAll_46 : decode cX5_addAll 46 = .ok (.getfield 16, 3) := by decide +kernel
theorem dX5_addAll_49 : decode cX5_addAll 49 = .ok (.aload_n 0, 1) := by decide +kernel
theorem dX5_addAll_50 : decode cX5_addAll 50 = .ok (.getfield 32, 3) := by decide +kernel
theorem dX5_addAll_53 : decode cX5_addAll 53 = .ok (.iload_n 3, 1) := by decide +kernel
theorem dX5_addAll_54 : decode cX5_addAll 54 = .ok (.iconst 0, 1) := by decide +kernel
theorem dX5_addAll_55 : decode cX5_addAll 55 = .ok (.invokevirtual 148, 3) := by decide +kernel
theorem dX5_addAll_58 : decode cX5_addAll 58 = .ok (.aload_n 0, 1) := by decide +kernel
theorem dX5_addAll_59 : decode cX5_addAll 59 = .ok (.getfield 32, 3) := by decide +kernel
theorem dX5_addAll_62 : decode cX5_addAll 62 = .ok (.iload_n 3, 1) := by decide +kernel
theorem dX5_addAll_63 : decode cX5_addAll 63 = .ok (.iconst 1, 1) := by decide +kernel
theorem dX5_addAll_64 : decode cX5_addAll 64 = .ok (.invokevirtual 148, 3) := by decide +kernel
theorem dX5_addAll_67 : decode cX5_addAll 67 = .ok (.aload_n 0, 1) := by decide +kernel
theorem dX5_addAll_68 : decode cX5_addAll 68 = .ok (.getfield 32, 3) := by decide +kernel
theorem dX5_addAll_71 : decode cX5_addAll 71 = .ok (.iload_n 3, 1) := by decide +kernel
theorem dX5_addAll_72 : decode cX5_addAll 72 = .ok (.iconst 2, 1) := by decide +kernel
theorem dX5_addAll_73 : decode cX5_addAll 73 = .ok (.invokevirtual 148, 3) := by decide +kernel
theorem dX5_addAll_76 : decode cX5_addAll 76 = .ok (.aload_n 0, 1) := by decide +kernel
theorem dX5_addAll_77 : decode cX5_addAll 77 = .ok (.getfield 32, 3) := by decide +kernel
theorem dX5_addAll_80 : decode cX5_addAll 80 = .ok (.iload_n 3, 1) := by decide +kernel
theorem dX5_addAll_81 : decode cX5_addAll 81 = .ok (.iconst 3, 1) := by decide +kernel
theorem dX5_addAll_82 : decode cX5_addAll 82 = .ok (.invokevirtual 148, 3) := by decide +kernel
theorem dX5_addAll_85 : decode cX5_addAll 85 = .ok (.aload_n 0, 1) := by decide +kernel
theorem dX5_addAll_86 : decode cX5_addAll 86 = .ok (.getfield 32, 3) := by decide +kernel
theorem dX5_addAll_89 : decode cX5_addAll 89 = .ok (.iload_n 3, 1) := by decide +kernel
theorem dX5_addAll_90 : decode cX5_addAll 90 = .ok (.iconst 4, 1) := by decide +kernel
theorem dX5_addAll_91 : decode cX5_addAll 91 = .ok (.invokevirtual 148, 3) := by decide +kernel
theorem dX5_addAll_94 : decode cX5_addAll 94 = .ok (.aload_n 0, 1) := by decide +kernel
theorem dX5_addAll_95 : decode cX5_addAll 95 = .ok (.getfield 32, 3) := by decide +kernel
theorem dX5_addAll_98 : decode cX5_addAll 98 = .ok (.iload_n 3, 1) := by decide +kernel
theorem dX5_addAll_99 : decode cX5_addAll 99 = .ok (.iconst 5, 1) := by decide +kernel
theorem dX5_addAll_100 : decode cX5_addAll 100 = .ok (.invokevirtual 148, 3) := by decide +kernel
theorem dX5_addAll_103 : decode cX5_addAll 103 = .ok (.invokevirtual 61, 3) := by decide +kernel
theorem dX5_addAll_106 : decode cX5_addAll 106 = .ok (.istore 4, 2) := by decide +kernel
theorem dX5_addAll_108 : decode cX5_addAll 108 = .ok (.iload 4, 2) := by decide +kernel
theorem dX5_addAll_110 : decode cX5_addAll 110 = .ok (.ifCond .ge 6, 3) := by decide +kernel
theorem dX5_addAll_113 : decode cX5_addAll 113 = .ok (.iload 4, 2) := by decide +kernel
theorem dX5_addAll_115 : decode cX5_addAll 115 = .ok (.ireturn, 1) := by decide +kernel
theorem dX5_addAll_116 : decode cX5_addAll 116 = .ok (.iinc 3 1, 3) := by decide +kernel
theorem dX5_addAll_119 : decode cX5_addAll 119 = .ok (.goto (-80), 3) := by decide +kernel
theorem dX5_addAll_122 : decode cX5_addAll 122 = .ok (.aload_n 0, 1) := by decide +kernel
theorem dX5_addAll_123 : decode cX5_addAll 123 = .ok (.invokevirtual 65, 3) := by decide +kernel
theorem dX5_addAll_126 : decode cX5_addAll 126 = .ok (.iload_n 2, 1) := by decide +kernel
theorem dX5_addAll_127 : decode cX5_addAll 127 = .ok (.ireturn, 1) := by decide +kernel
set_option maxRecDepth 20000 in
theorem ggX5_undo_X1_recall : GoodIn wsX5_undo wsX1_recall := goodIn_r _ [8, 9, 10, 11, 12, 13, 14, 15, 16, 17, 18, 19, 20, 21, 22, 23, 24, 25, 26, 27, 28, 29, 30, 31, 32, 42, 43, 44, 45, 46, 47, 48, 49, 50, 51] (by decide +kernel) (by decide +kernel)
set_option maxRecDepth 20000 in
theorem gX5_undo_X1_recall : GoodIn wsX5_undo (wsV RX5 153 RX1 yX1_recall wsX1_recall) := goodIn_app (goodIn_of _ (by decide +kernel)) ggX5_undo_X1_recall
theorem dX5_undo_0 : decode cX5_undo 0 = .ok (.aload_n 0, 1) := by decide +kernel
theorem dX5_undo_1 : decode cX5_undo 1 = .ok (.getfield 25, 3) := by decide +kernel
theorem dX5_undo_4 : decode cX5_undo 4 = .ok (.getfield 152, 3) := by decide +kernel
theorem dX5_undo_7 : decode cX5_undo 7 = .ok (.ifCond .ne 6, 3) := by decide +kernel
theorem dX5_undo_10 : decode cX5_undo 10 = .ok (.bipush (-5), 2) := by decide +kernel
theorem dX5_undo_12 : decode cX5_undo 12 = .ok (.ireturn, 1) := by decide +kernel
theorem dX5_undo_13 : decode cX5_undo 13 = .ok (.aload_n 0, 1) := by decide +kernel
theorem dX5_undo_14 : decode cX5_undo 14 = .ok (.getfield 25, 3) := by decide +kernel
theorem dX5_undo_17 : decode cX5_undo 17 = .ok (.aload_n 0, 1) := by decide +kernel
theorem dX5_undo_18 : decode cX5_undo 18 = .ok (.getfield 10, 3) := by decide +kernel
theorem dX5_undo_21 : decode cX5_undo 21 = .ok (.invokevirtual 153, 3) := by decide +kernel
theorem dX5_undo_24 : decode cX5_undo 24 = .ok (.aload_n 0, 1) := by decide +kernel
theorem dX5_undo_25 : decode cX5_undo 25 = .ok (.getfield 25, 3) := by decide +kernel
theorem dX5_undo_28 : decode cX5_undo 28 = .ok (.getfield 152, 3) := by decide +kernel
theorem dX5_undo_31 : decode cX5_undo 31 = .ok (.ireturn, 1) := by decide +kernel
set_option maxRecDepth 20000 in
theorem ggX5_keep_X3_copyFrom : GoodIn wsX5_keep wsX3_copyFrom := goodIn_r _ [9, 10, 11, 12, 13, 14, 15, 16, 17, 18, 19, 20, 21, 22, 23, 24, 25, 26, 36, 37, 38, 39, 40, 41, 42, 43] (by decide +kernel) (by decide +kernel)
set_option maxRecDepth 20000 in
theorem gX5_keep_X3_copyFrom : GoodIn wsX5_keep (wsV RX5 57 RX3 yX3_copyFrom wsX3_copyFrom) := goodIn_app (goodIn_of _ (by decide +kernel)) ggX5_keep_X3_copyFrom
theorem dX5_keep_0 : decode cX5_keep 0 = .ok (.aload_n 0, 1) := by decide +kernel
theorem dX5_keep_1 : decode cX5_keep 1 = .ok (.getfield 19, 3) := by decide +kernel
theorem dX5_keep_4 : decode cX5_keep 4 = .ok (.aload_n 0, 1) := by decide +kernel
theorem dX5_keep_5 : decode cX5_keep 5 = .ok (.getfield 10, 3) := by decide +kernel
theorem dX5_keep_8 : decode cX5_keep 8 = .ok (.invokevirtual 57, 3) := by decide +kernel
theorem dX5_keep_11 : decode cX5_keep 11 = .ok (.aload_n 0, 1) := by decide +kernel
theorem dX5_keep_12 : decode cX5_keep 12 = .ok (.iconst 1, 1) := by decide +kernel
theorem dX5_keep_13 : decode cX5_keep 13 = .ok (.putfield 53, 3) := by decide +kernel
theorem dX5_keep_16 : decode cX5_keep 16 = .ok (.aload_n 0, 1) := by decide +kernel
theorem dX5_keep_17 : decode cX5_keep 17 = .ok (.getfield 10, 3) := by decide +kernel
theorem dX5_keep_20 : decode cX5_keep 20 = .ok (.getfield 118, 3) := by decide +kernel
theorem dX5_keep_23 : decode cX5_keep 23 = .ok (.ireturn, 1) := by decide +kernel
set_option maxRecDepth 20000 in
theorem ggX5_restore_X3_copyFrom : GoodIn wsX5_restore wsX3_copyFrom := goodIn_r _ [10, 11, 12, 13, 14, 15, 16, 17, 18, 19, 20, 21, 22, 23, 24, 25, 26, 27, 55, 56, 57, 58, 59, 60, 61, 62] (by decide +kernel) (by decide +kernel)
set_option maxRecDepth 20000 in
theorem gX5_restore_X3_copyFrom : GoodIn wsX5_restore (wsV RX5 57 RX3 yX3_copyFrom wsX3_copyFrom) := goodIn_app (goodIn_of _ (by decide +kernel)) ggX5_restore_X3_copyFrom
set_option maxRecDepth 20000 in
theorem ggX5_restore_X5_adoptTrial : GoodIn wsX5_restore wsX5_adoptTrial := goodIn_r _ [32, 33, 4, 2, 34, 35, 36, 37, 38, 39, 40, 41, 42, 43, 44, 45, 7, 8, 9, 10, 11, 12, 13, 14, 15, 16, 17, 18, 19, 20, 21, 22, 23, 24, 25, 26, 27, 6, 46, 47, 48, 49, 50, 51, 52, 53, 54, 63, 64, 55, 56, 57, 58, 59, 60, 61, 62] (by decide +kernel) (by decide +kernel)
set_option maxRecDepth 20000 in
theorem gX5_restore_X5_adoptTrial : GoodIn wsX5_restore (wsV RX5 65 RX5 yX5_adoptTrial wsX5_adoptTrial) := goodIn_app (goodIn_of _ (by decide +kernel)) ggX5_restore_X5_adoptTrial
theorem dX5_restore_0 : decode cX5_restore 0 = .ok (.aload_n 0, 1) := by decide +kernel
theorem dX5_restore_1 : decode cX5_restore 1 = .ok (.getfield 53, 3) := by decide +kernel
theorem dX5_restore_4 : decode cX5_restore 4 = .ok (.ifCond .ne 6, 3) := by decide +kernel
theorem dX5_restore_7 : decode cX5_restore 7 = .ok (.bipush (-5), 2) := by decide +kernel
theorem dX5_restore_9 : decode cX5_restore 9 = .ok (.ireturn, 1) := by decide +kernel
theorem dX5_restore_10 : decode cX5_restore 10 = .ok (.aload_n 0, 1) := by decide +kernel
theorem dX5_restore_11 : decode cX5_restore 11 = .ok (.getfield 16, 3) := by decide +kernel
theorem dX5_restore_14 : decode cX5_restore 14 = .ok (.aload_n 0, 1) := by decide +kernel
theorem dX5_restore_15 : decode cX5_restore 15 = .ok (.getfield 19, 3) := by decide +kernel
theorem dX5_restore_18 : decode cX5_restore 18 = .ok (.invokevirtual 57, 3) := by decide +kernel
theorem dX5_restore_21 : decode cX5_restore 21 = .ok (.aload_n 0, 1) := by decide +kernel
theorem dX5_restore_22 : decode cX5_restore 22 = .ok (.invokevirtual 65, 3) := by decide +kernel
theorem dX5_restore_25 : decode cX5_restore 25 = .ok (.aload_n 0, 1) := by decide +kernel
theorem dX5_restore_26 : decode cX5_restore 26 = .ok (.getfield 10, 3) := by decide +kernel
theorem dX5_restore_29 : decode cX5_restore 29 = .ok (.getfield 118, 3) := by decide +kernel
theorem dX5_restore_32 : decode cX5_restore 32 = .ok (.ireturn, 1) := by decide +kernel
theorem dX5_box_0 : decode cX5_box 0 = .ok (.iload_n 1, 1) := by decide +kernel
theorem dX5_box_1 : decode cX5_box 1 = .ok (.ifCond .ge 6, 3) := by decide +kernel
theorem dX5_box_4 : decode cX5_box 4 = .ok (.bipush (-2), 2) := by decide +kernel
theorem dX5_box_6 : decode cX5_box 6 = .ok (.ireturn, 1) := by decide +kernel
theorem dX5_box_7 : decode cX5_box 7 = .ok (.iload_n 1, 1) := by decide +kernel
theorem dX5_box_8 : decode cX5_box 8 = .ok (.aload_n 0, 1) := by decide +kernel
theorem dX5_box_9 : decode cX5_box 9 = .ok (.getfield 10, 3) := by decide +kernel
theorem dX5_box_12 : decode cX5_box 12 = .ok (.getfield 118, 3) := by decide +kernel
theorem dX5_box_15 : decode cX5_box 15 = .ok (.if_icmp .ge 18, 3) := by decide +kernel
theorem dX5_box_18 : decode cX5_box 18 = .ok (.aload_n 0, 1) := by decide +kernel
theorem dX5_box_19 : decode cX5_box 19 = .ok (.getfield 10, 3) := by decide +kernel
theorem dX5_box_22 : decode cX5_box 22 = .ok (.getfield 72, 3) := by decide +kernel
theorem dX5_box_25 : decode cX5_box 25 = .ok (.iload_n 1, 1) := by decide +kernel
theorem dX5_box_26 : decode cX5_box 26 = .ok (.aaload, 1) := by decide +kernel
theorem dX5_box_27 : decode cX5_box 27 = .ok (.getfield 156, 3) := by decide +kernel
theorem dX5_box_30 : decode cX5_box 30 = .ok (.goto 5, 3) := by decide +kernel
theorem dX5_box_33 : decode cX5_box 33 = .ok (.bipush (-5), 2) := by decide +kernel
theorem dX5_box_35 : decode cX5_box 35 = .ok (.ireturn, 1) := by decide +kernel
set_option maxRecDepth 20000 in
theorem ggX5_end_X3_slotOf : GoodIn wsX5_end wsX3_slotOf := goodIn_r _ [9, 10, 11, 12, 26, 27, 28, 29, 30, 31, 32, 33] (by decide +kernel) (by decide +kernel)
set_option maxRecDepth 20000 in
theorem gX5_end_X3_slotOf : GoodIn wsX5_end (wsV RX5 68 RX3 yX3_slotOf wsX3_slotOf) := goodIn_app (goodIn_of _ (by decide +kernel)) ggX5_end_X3_slotOf
set_option maxRecDepth 20000 in
theorem ggX5_end_X5_isDirection : GoodIn wsX5_end wsX5_isDirection := goodIn_r _ [16] (by decide +kernel) (by decide +kernel)
set_option maxRecDepth 20000 in
theorem gX5_end_X5_isDirection : GoodIn wsX5_end (va_wsS RX5 84 yX5_isDirection wsX5_isDirection) := goodIn_app (goodIn_of _ (by decide +kernel)) ggX5_end_X5_isDirection
theorem dX5_end_0 : decode cX5_end 0 = .ok (.aload_n 0, 1) := by decide +kernel
theorem dX5_end_1 : decode cX5_end 1 = .ok (.getfield 10, 3) := by decide +kernel
theorem dX5_end_4 : decode cX5_end 4 = .ok (.iload_n 1, 1) := by decide +kernel
theorem dX5_end_5 : decode cX5_end 5 = .ok (.invokevirtual 68, 3) := by decide +kernel
theorem dX5_end_8 : decode cX5_end 8 = .ok (.istore 4, 2) := by decide +kernel
theorem dX5_end_10 : decode cX5_end 10 = .ok (.iload 4, 2) := by decide +kernel
theorem dX5_end_12 : decode cX5_end 12 = .ok (.iconst (-1), 1) := by decide +kernel
theorem dX5_end_13 : decode cX5_end 13 = .ok (.if_icmp .eq 10, 3) := by decide +kernel
theorem dX5_end_16 : decode cX5_end 16 = .ok (.iload_n 2, 1) := by decide +kernel
theorem dX5_end_17 : decode cX5_end 17 = .ok (.invokestatic 84, 3) := by decide +kernel
theorem dX5_end_20 : decode cX5_end 20 = .ok (.ifCond .ne 5, 3) := by decide +kernel
theorem dX5_end_23 : decode cX5_end 23 = .ok (.iconst (-1), 1) := by decide +kernel
theorem dX5_end_24 : decode cX5_end 24 = .ok (.ireturn, 1) := by decide +kernel
theorem dX5_end_25 : decode cX5_end 25 = .ok (.aload_n 0, 1) := by decide +kernel
theorem dX5_end_26 : decode cX5_end 26 = .ok (.getfield 10, 3) := by decide +kernel
theorem dX5_end_29 : decode cX5_end 29 = .ok (.getfield 72, 3) := by decide +kernel
theorem dX5_end_32 : decode cX5_end 32 = .ok (.iload 4, 2) := by decide +kernel
theorem dX5_end_34 : decode cX5_end 34 = .ok (.aaload, 1) := by decide +kernel
theorem dX5_end_35 : decode cX5_end 35 = .ok (.astore 5, 2) := by decide +kernel
theorem dX5_end_37 : decode cX5_end 37 = .ok (.iload_n 3, 1) := by decide +kernel
theorem dX5_end_38 : decode cX5_end 38 = .ok (.ifCond .eq 13, 3) := by decide +kernel
theorem dX5_end_41 : decode cX5_end 41 = .ok (.aload 5, 2) := by decide +kernel
theorem dX5_end_43 : decode cX5_end 43 = .ok (.getfield 92, 3) := by decide +kernel
theorem dX5_end_46 : decode cX5_end 46 = .ok (.iload_n 2, 1) := by decide +kernel
theorem dX5_end_47 : decode cX5_end 47 = .ok (.iaload, 1) := by decide +kernel
theorem dX5_end_48 : decode cX5_end 48 = .ok (.goto 10, 3) := by decide +kernel
theorem dX5_end_51 : decode cX5_end 51 = .ok (.aload 5, 2) := by decide +kernel
theorem dX5_end_53 : decode cX5_end 53 = .ok (.getfield 88, 3) := by decide +kernel
theorem dX5_end_56 : decode cX5_end 56 = .ok (.iload_n 2, 1) := by decide +kernel
theorem dX5_end_57 : decode cX5_end 57 = .ok (.iaload, 1) := by decide +kernel
theorem dX5_end_58 : decode cX5_end 58 = .ok (.ireturn, 1) := by decide +kernel
set_option maxRecDepth 20000 in
theorem ggX5_ofBox_X3_slotOf : GoodIn wsX5_ofBox wsX3_slotOf := goodIn_r _ [9, 10, 11, 12, 163, 164, 165, 166, 167, 175, 176, 177] (by decide +kernel) (by decide +kernel)
set_option maxRecDepth 20000 in
theorem gX5_ofBox_X3_slotOf : GoodIn wsX5_ofBox (wsV RX5 68 RX3 yX3_slotOf wsX3_slotOf) := goodIn_app (goodIn_of _ (by decide +kernel)) ggX5_ofBox_X3_slotOf
set_option maxRecDepth 20000 in
theorem ggX5_ofBox_X0_volume : GoodIn wsX5_ofBox wsX0_volume := goodIn_r _ [17, 18, 19, 20, 16, 21, 22, 23, 175, 176, 177] (by decide +kernel) (by decide +kernel)
set_option maxRecDepth 20000 in
theorem gX5_ofBox_X0_volume : GoodIn wsX5_ofBox (wsV RX5 76 RX0 yX0_volume wsX0_volume) := goodIn_app (goodIn_of _ (by decide +kernel)) ggX5_ofBox_X0_volume
set_option maxRecDepth 20000 in
theorem ggX5_ofBox_X5_look : GoodIn wsX5_ofBox wsX5_look := goodIn_r _ [28, 29, 1, 30, 31, 32, 33, 34, 35, 36, 37, 38, 39, 40, 41, 42, 43, 44, 16, 45, 23, 22, 46, 47, 48, 49, 50, 51, 52, 53, 54, 55, 56, 57, 58, 59, 60, 61, 62, 63, 64, 65, 66, 67, 68, 69, 70, 71, 72, 73, 74, 75, 76, 77, 78, 79, 80, 81, 82, 83, 84, 8, 85, 86, 11, 87, 88, 89, 90, 91, 14, 15, 17, 18, 19, 20, 21, 92, 93, 94, 95, 96, 97, 98, 99, 154, 155, 156, 157, 158, 159, 160, 161, 162, 163, 164, 165, 166, 167, 168, 169, 170, 171, 172, 173, 174, 175, 176, 177] (by decide +kernel) (by decide +kernel)
set_option maxRecDepth 20000 in
theorem gX5_ofBox_X5_look : GoodIn wsX5_ofBox (wsV RX5 159 RX5 yX5_look wsX5_look) := goodIn_app (goodIn_of _ (by decide +kernel)) ggX5_ofBox_X5_look
set_option maxRecDepth 20000 in
theorem ggX5_ofBox_X2_hiddenBy : GoodIn wsX5_ofBox wsX2_hiddenBy := goodIn_r _ [103, 37, 104, 105, 106, 107, 108, 109, 110, 168, 169, 170, 171, 172, 173, 174] (by decide +kernel) (by decide +kernel)
set_option maxRecDepth 20000 in
theorem gX5_ofBox_X2_hiddenBy : GoodIn wsX5_ofBox (wsV RX5 162 RX2 yX2_hiddenBy wsX2_hiddenBy) := goodIn_app (goodIn_of _ (by decide +kernel)) ggX5_ofBox_X2_hiddenBy
set_option maxRecDepth 20000 in
theorem ggX5_ofBox_X2_hidersOf : GoodIn wsX5_ofBox wsX2_hidersOf := goodIn_r _ [114, 36, 37, 63, 64, 33, 65, 168, 169, 170, 171, 172, 173, 174] (by decide +kernel) (by decide +kernel)
set_option maxRecDepth 20000 in
theorem gX5_ofBox_X2_hidersOf : GoodIn wsX5_ofBox (wsV RX5 165 RX2 yX2_hidersOf wsX2_hidersOf) := goodIn_app (goodIn_of _ (by decide +kernel)) ggX5_ofBox_X2_hidersOf
set_option maxRecDepth 20000 in
theorem ggX5_ofBox_X2_shortestRingOf : GoodIn wsX5_ofBox wsX2_shortestRingOf := goodIn_r _ [118, 37, 36, 63, 64, 33, 65, 119, 120, 121, 122, 168, 169, 170, 171, 172, 173, 174] (by decide +kernel) (by decide +kernel)
set_option maxRecDepth 20000 in
theorem gX5_ofBox_X2_shortestRingOf : GoodIn wsX5_ofBox (wsV RX5 171 RX2 yX2_shortestRingOf wsX2_shortestRingOf) := goodIn_app (goodIn_of _ (by decide +kernel)) ggX5_ofBox_X2_shortestRingOf
set_option maxRecDepth 20000 in
theorem ggX5_ofBox_X3_supportsOf : GoodIn wsX5_ofBox wsX3_supportsOf := goodIn_r _ [126, 11, 10, 127, 128, 129, 130, 131, 16, 132, 22, 23, 133, 134, 135, 136, 163, 164, 165, 166, 167, 175, 176, 177] (by decide +kernel) (by decide +kernel)
set_option maxRecDepth 20000 in
theorem gX5_ofBox_X3_supportsOf : GoodIn wsX5_ofBox (wsV RX5 174 RX3 yX3_supportsOf wsX3_supportsOf) := goodIn_app (goodIn_of _ (by decide +kernel)) ggX5_ofBox_X3_supportsOf
set_option maxRecDepth 20000 in
theorem ggX5_ofBox_X3_boxesBelow : GoodIn wsX5_ofBox wsX3_boxesBelow := goodIn_r _ [140, 10, 11, 129, 130, 131, 16, 132, 22, 23, 133, 134, 135, 136, 163, 164, 165, 166, 167, 175, 176, 177] (by decide +kernel) (by decide +kernel)
set_option maxRecDepth 20000 in
theorem gX5_ofBox_X3_boxesBelow : GoodIn wsX5_ofBox (wsV RX5 177 RX3 yX3_boxesBelow wsX3_boxesBelow) := goodIn_app (goodIn_of _ (by decide +kernel)) ggX5_ofBox_X3_boxesBelow
set_option maxRecDepth 20000 in
theorem ggX5_ofBox_X3_shadowOn : GoodIn wsX5_ofBox wsX3_shadowOn := goodIn_r _ [144, 11, 128, 127, 10, 129, 130, 131, 16, 132, 22, 23, 133, 134, 135, 136, 145, 146, 147, 148, 149, 150, 151, 152, 18, 19, 20, 21, 153, 105, 106, 107, 108, 109, 110, 163, 164, 165, 166, 167, 175, 176, 177] (by decide +kernel) (by decide +kernel)
set_option maxRecDepth 20000 in
theorem gX5_ofBox_X3_shadowOn : GoodIn wsX5_ofBox (wsV RX5 180 RX3 yX3_shadowOn wsX3_shadowOn) := goodIn_app (goodIn_of _ (by decide +kernel)) ggX5_ofBox_X3_shadowOn
theorem dX5_ofBox_0 : decode cX5_ofBox 0 = .ok (.aload_n 0, 1) := by decide +kernel
theorem dX5_ofBox_1 : decode cX5_ofBox 1 = .ok (.getfield 10, 3) := by decide +kernel
theorem dX5_ofBox_4 : decode cX5_ofBox 4 = .ok (.iload_n 1, 1) := by decide +kernel
theorem dX5_ofBox_5 : decode cX5_ofBox 5 = .ok (.invokevirtual 68, 3) := by decide +kernel
theorem dX5_ofBox_8 : decode cX5_ofBox 8 = .ok (.istore_n 3, 1) := by decide +kernel
theorem dX5_ofBox_9 : decode cX5_ofBox 9 = .ok (.iload_n 3, 1) := by decide +kernel
theorem dX5_ofBox_10 : decode cX5_ofBox 10 = .ok (.iconst (-1), 1) := by decide +kernel
theorem dX5_ofBox_11 : decode cX5_ofBox 11 = .ok (.if_icmp .ne 5, 3) := by decide +kernel
theorem dX5_ofBox_14 : decode cX5_ofBox 14 = .ok (.iconst (-1), 1) := by decide +kernel
theorem dX5_ofBox_15 : decode cX5_ofBox 15 = .ok (.ireturn, 1) := by decide +kernel
theorem dX5_ofBox_16 : decode cX5_ofBox 16 = .ok (.iload_n 2, 1) := by decide +kernel
theorem dX5_ofBox_17 : decode cX5_ofBox 17 = .ok (.tableswitch 162 0 8 #[51, 64, 73, 82, 92, 101, 110, 119, 128], 51) := by decide +kernel
theorem dX5_ofBox_68 : decode cX5_ofBox 68 = .ok (.aload_n 0, 1) := by decide +kernel
theorem dX5_ofBox_69 : decode cX5_ofBox 69 = .ok (.getfield 10, 3) := by decide +kernel
theorem dX5_ofBox_72 : decode cX5_ofBox 72 = .ok (.getfield 72, 3) := by decide +kernel
theorem dX5_ofBox_75 : decode cX5_ofBox 75 = .ok (.iload_n 3, 1) := by decide +kernel
theorem dX5_ofBox_76 : decode cX5_ofBox 76 = .ok (.aaload, 1) := by decide +kernel
theorem dX5_ofBox_77 : decode cX5_ofBox 77 = .ok (.invokevirtual 76, 3) := by decide +kernel
theorem dX5_ofBox_80 : decode cX5_ofBox 80 = .ok (.ireturn, 1) := by decide +kernel
theorem dX5_ofBox_81 : decode cX5_ofBox 81 = .ok (.aload_n 0, 1) := by decide +kernel
theorem dX5_ofBox_82 : decode cX5_ofBox 82 = .ok (.invokevirtual 159, 3) := by decide +kernel
theorem dX5_ofBox_85 : decode cX5_ofBox 85 = .ok (.iload_n 3, 1) := by decide +kernel
theorem dX5_ofBox_86 : decode cX5_ofBox 86 = .ok (.invokevirtual 162, 3) := by decide +kernel
theorem dX5_ofBox_89 : decode cX5_ofBox 89 = .ok (.ireturn, 1) := by decide +kernel
theorem dX5_ofBox_90 : decode cX5_ofBox 90 = .ok (.aload_n 0, 1) := by decide +kernel
theorem dX5_ofBox_91 : decode cX5_ofBox 91 = .ok (.invokevirtual 159, 3) := by decide +kernel
theorem dX5_ofBox_94 : decode cX5_ofBox 94 = .ok (.iload_n 3, 1) := by decide +kernel
theorem dX5_ofBox_95 : decode cX5_ofBox 95 = .ok (.invokevirtual 165, 3) := by decide +kernel
theorem dX5_ofBox_98 : decode cX5_ofBox 98 = .ok (.ireturn, 1) := by decide +kernel
theorem dX5_ofBox_99 : decode cX5_ofBox 99 = .ok (.aload_n 0, 1) := by decide +kernel
theorem dX5_ofBox_100 : decode cX5_ofBox 100 = .ok (.invokevirtual 159, 3) := by decide +kernel
theorem dX5_ofBox_103 : decode cX5_ofBox 103 = .ok (.getfield 168, 3) := by decide +kernel
theorem dX5_ofBox_106 : decode cX5_ofBox 106 = .ok (.iload_n 3, 1) := by decide +kernel
theorem dX5_ofBox_107 : decode cX5_ofBox 107 = .ok (.iaload, 1) := by decide +kernel
theorem dX5_ofBox_108 : decode cX5_ofBox 108 = .ok (.ireturn, 1) := by decide +kernel
theorem dX5_ofBox_109 : decode cX5_ofBox 109 = .ok (.aload_n 0, 1) := by decide +kernel
theorem dX5_ofBox_110 : decode cX5_ofBox 110 = .ok (.invokevirtual 159, 3) := by decide +kernel
theorem dX5_ofBox_113 : decode cX5_ofBox 113 = .ok (.iload_n 3, 1) := by decide +kernel
theorem dX5_ofBox_114 : decode cX5_ofBox 114 = .ok (.invokevirtual 171, 3) := by decide +kernel
theorem dX5_ofBox_117 : decode cX5_ofBox 117 = .ok (.ireturn, 1) := by decide +kernel
theorem dX5_ofBox_118 : decode cX5_ofBox 118 = .ok (.aload_n 0, 1) := by decide +kernel
theorem dX5_ofBox_119 : decode cX5_ofBox 119 = .ok (.getfield 10, 3) := by decide +kernel
theorem dX5_ofBox_122 : decode cX5_ofBox 122 = .ok (.iload_n 3, 1) := by decide +kernel
theorem dX5_ofBox_123 : decode cX5_ofBox 123 = .ok (.invokevirtual 174, 3) := by decide +kernel
theorem dX5_ofBox_126 : decode cX5_ofBox 126 = .ok (.ireturn, 1) := by decide +kernel
theorem dX5_ofBox_127 : decode cX5_ofBox 127 = .ok (.aload_n 0, 1) := by decide +kernel
theorem dX5_ofBox_128 : decode cX5_ofBox 128 = .ok (.getfield 10, 3) := by decide +kernel
theorem dX5_ofBox_131 : decode cX5_ofBox 131 = .ok (.iload_n 3, 1) := by decide +kernel
theorem dX5_ofBox_132 : decode cX5_ofBox 132 = .ok (.invokevirtual 177, 3) := by decide +kernel
theorem dX5_ofBox_135 : decode cX5_ofBox 135 = .ok (.ireturn, 1) := by decide +kernel
theorem dX5_ofBox_136 : decode cX5_ofBox 136 = .ok (.aload_n 0, 1) := by decide +kernel
theorem dX5_ofBox_137 : decode cX5_ofBox 137 = .ok (.getfield 10, 3) := by decide +kernel
theorem dX5_ofBox_140 : decode cX5_ofBox 140 = .ok (.iload_n 3, 1) := by decide +kernel
theorem dX5_ofBox_141 : decode cX5_ofBox 141 = .ok (.invokevirtual 180, 3) := by decide +kernel
theorem dX5_ofBox_144 : decode cX5_ofBox 144 = .ok (.ireturn, 1) := by decide +kernel
theorem dX5_ofBox_145 : decode cX5_ofBox 145 = .ok (.aload_n 0, 1) := by decide +kernel
theorem dX5_ofBox_146 : decode cX5_ofBox 146 = .ok (.getfield 10, 3) := by decide +kernel
theorem dX5_ofBox_149 : decode cX5_ofBox 149 = .ok (.getfield 72, 3) := by decide +kernel
theorem dX5_ofBox_152 : decode cX5_ofBox 152 = .ok (.iload_n 3, 1) := by decide +kernel
theorem dX5_ofBox_153 : decode cX5_ofBox 153 = .ok (.aaload, 1) := by decide +kernel
theorem dX5_ofBox_154 : decode cX5_ofBox 154 = .ok (.getfield 88, 3) := by decide +kernel
theorem dX5_ofBox_157 : decode cX5_ofBox 157 = .ok (.iconst 2, 1) := by decide +kernel
theorem dX5_ofBox_158 : decode cX5_ofBox 158 = .ok (.iaload, 1) := by decide +kernel
theorem dX5_ofBox_159 : decode cX5_ofBox 159 = .ok (.ifCond .eq 14, 3) := by decide +kernel
theorem dX5_ofBox_162 : decode cX5_ofBox 162 = .ok (.aload_n 0, 1) := by decide +kernel
theorem dX5_ofBox_163 : decode cX5_ofBox 163 = .ok (.getfield 10, 3) := by decide +kernel
theorem dX5_ofBox_166 : decode cX5_ofBox 166 = .ok (.iload_n 3, 1) := by decide +kernel
theorem dX5_ofBox_167 : decode cX5_ofBox 167 = .ok (.invokevirtual 174, 3) := by decide +kernel
theorem dX5_ofBox_170 : decode cX5_ofBox 170 = .ok (.ifCond .le 7, 3) := by decide +kernel
theorem dX5_ofBox_173 : decode cX5_ofBox 173 = .ok (.iconst 1, 1) := by decide +kernel
theorem dX5_ofBox_174 : decode cX5_ofBox 174 = .ok (.goto 4, 3) := by decide +kernel
theorem dX5_ofBox_177 : decode cX5_ofBox 177 = .ok (.iconst 0, 1) := by decide +kernel
theorem dX5_ofBox_178 : decode cX5_ofBox 178 = .ok (.ireturn, 1) := by decide +kernel
theorem dX5_ofBox_179 : decode cX5_ofBox 179 = .ok (.bipush (-2), 2) := by decide +kernel
theorem dX5_ofBox_181 : decode cX5_ofBox 181 = .ok (.ireturn, 1) := by decide +kernel
set_option maxRecDepth 20000 in
theorem ggX5_pair_X3_slotOf : GoodIn wsX5_pair wsX3_slotOf := goodIn_r _ [7, 8, 9, 10, 35, 36, 37, 38, 39, 40, 41, 42] (by decide +kernel) (by decide +kernel)
set_option maxRecDepth 20000 in
theorem gX5_pair_X3_slotOf : GoodIn wsX5_pair (wsV RX5 68 RX3 yX3_slotOf wsX3_slotOf) := goodIn_app (goodIn_of _ (by decide +kernel)) ggX5_pair_X3_slotOf
set_option maxRecDepth 20000 in
theorem ggX5_pair_X0_directionOfHiding : GoodIn wsX5_pair wsX0_directionOfHiding := goodIn_r _ [15, 16, 17, 18, 19, 20, 14, 21, 22, 23, 24, 25, 40, 41, 42] (by decide +kernel) (by decide +kernel)
set_option maxRecDepth 20000 in
theorem gX5_pair_X0_directionOfHiding : GoodIn wsX5_pair (wsV RX5 183 RX0 yX0_directionOfHiding wsX0_directionOfHiding) := goodIn_app (goodIn_of _ (by decide +kernel)) ggX5_pair_X0_directionOfHiding
theorem dX5_pair_0 : decode cX5_pair 0 = .ok (.aload_n 0, 1) := by decide +kernel
theorem dX5_pair_1 : decode cX5_pair 1 = .ok (.getfield 10, 3) := by decide +kernel
theorem dX5_pair_4 : decode cX5_pair 4 = .ok (.iload_n 1, 1) := by decide +kernel
theorem dX5_pair_5 : decode cX5_pair 5 = .ok (.invokevirtual 68, 3) := by decide +kernel
theorem dX5_pair_8 : decode cX5_pair 8 = .ok (.istore_n 3, 1) := by decide +kernel
theorem dX5_pair_9 : decode cX5_pair 9 = .ok (.aload_n 0, 1) := by decide +kernel
theorem dX5_pair_10 : decode cX5_pair 10 = .ok (.getfield 10, 3) := by decide +kernel
theorem dX5_pair_13 : decode cX5_pair 13 = .ok (.iload_n 2, 1) := by decide +kernel
theorem dX5_pair_14 : decode cX5_pair 14 = .ok (.invokevirtual 68, 3) := by decide +kernel
theorem dX5_pair_17 : decode cX5_pair 17 = .ok (.istore 4, 2) := by decide +kernel
theorem dX5_pair_19 : decode cX5_pair 19 = .ok (.iload_n 3, 1) := by decide +kernel
theorem dX5_pair_20 : decode cX5_pair 20 = .ok (.iconst (-1), 1) := by decide +kernel
theorem dX5_pair_21 : decode cX5_pair 21 = .ok (.if_icmp .eq 9, 3) := by decide +kernel
theorem dX5_pair_24 : decode cX5_pair 24 = .ok (.iload 4, 2) := by decide +kernel
theorem dX5_pair_26 : decode cX5_pair 26 = .ok (.iconst (-1), 1) := by decide +kernel
theorem dX5_pair_27 : decode cX5_pair 27 = .ok (.if_icmp .ne 5, 3) := by decide +kernel
theorem dX5_pair_30 : decode cX5_pair 30 = .ok (.iconst (-1), 1) := by decide +kernel
theorem dX5_pair_31 : decode cX5_pair 31 = .ok (.ireturn, 1) := by decide +kernel
theorem dX5_pair_32 : decode cX5_pair 32 = .ok (.iload_n 3, 1) := by decide +kernel
theorem dX5_pair_33 : decode cX5_pair 33 = .ok (.iload 4, 2) := by decide +kernel
theorem dX5_pair_35 : decode cX5_pair 35 = .ok (.if_icmp .ne 6, 3) := by decide +kernel
theorem dX5_pair_38 : decode cX5_pair 38 = .ok (.bipush (-2), 2) := by decide +kernel
theorem dX5_pair_40 : decode cX5_pair 40 = .ok (.ireturn, 1) := by decide +kernel
theorem dX5_pair_41 : decode cX5_pair 41 = .ok (.aload_n 0, 1) := by decide +kernel
theorem dX5_pair_42 : decode cX5_pair 42 = .ok (.getfield 10, 3) := by decide +kernel
theorem dX5_pair_45 : decode cX5_pair 45 = .ok (.getfield 72, 3) := by decide +kernel
theorem dX5_pair_48 : decode cX5_pair 48 = .ok (.iload_n 3, 1) := by decide +kernel
theorem dX5_pair_49 : decode cX5_pair 49 = .ok (.aaload, 1) := by decide +kernel
theorem dX5_pair_50 : decode cX5_pair 50 = .ok (.aload_n 0, 1) := by decide +kernel
theorem dX5_pair_51 : decode cX5_pair 51 = .ok (.getfield 10, 3) := by decide +kernel
theorem dX5_pair_54 : decode cX5_pair 54 = .ok (.getfield 72, 3) := by decide +kernel
theorem dX5_pair_57 : decode cX5_pair 57 = .ok (.iload 4, 2) := by decide +kernel
theorem dX5_pair_59 : decode cX5_pair 59 = .ok (.aaload, 1) := by decide +kernel
theorem dX5_pair_60 : decode cX5_pair 60 = .ok (.invokevirtual 183, 3) := by decide +kernel
theorem dX5_pair_63 : decode cX5_pair 63 = .ok (.istore 5, 2) := by decide +kernel
theorem dX5_pair_65 : decode cX5_pair 65 = .ok (.iload 5, 2) := by decide +kernel
theorem dX5_pair_67 : decode cX5_pair 67 = .ok (.iconst (-1), 1) := by decide +kernel
theorem dX5_pair_68 : decode cX5_pair 68 = .ok (.if_icmp .eq 8, 3) := by decide +kernel
theorem dX5_pair_71 : decode cX5_pair 71 = .ok (.iconst 1, 1) := by decide +kernel
theorem dX5_pair_72 : decode cX5_pair 72 = .ok (.iload 5, 2) := by decide +kernel
theorem dX5_pair_74 : decode cX5_pair 74 = .ok (.iadd, 1) := by decide +kernel
theorem dX5_pair_75 : decode cX5_pair 75 = .ok (.ireturn, 1) := by decide +kernel
theorem dX5_pair_76 : decode cX5_pair 76 = .ok (.aload_n 0, 1) := by decide +kernel
theorem dX5_pair_77 : decode cX5_pair 77 = .ok (.getfield 10, 3) := by decide +kernel
theorem dX5_pair_80 : decode cX5_pair 80 = .ok (.getfield 72, 3) := by decide +kernel
theorem dX5_pair_83 : decode cX5_pair 83 = .ok (.iload 4, 2) := by decide +kernel
theorem dX5_pair_85 : decode cX5_pair 85 = .ok (.aaload, 1) := by decide +kernel
theorem dX5_pair_86 : decode cX5_pair 86 = .ok (.aload_n 0, 1) := by decide +kernel
theorem dX5_pair_87 : decode cX5_pair 87 = .ok (.getfield 10, 3) := by decide +kernel
theorem dX5_pair_90 : decode cX5_pair 90 = .ok (.getfield 72, 3) := by decide +kernel
theorem dX5_pair_93 : decode cX5_pair 93 = .ok (.iload_n 3, 1) := by decide +kernel
theorem dX5_pair_94 : decode cX5_pair 94 = .ok (.aaload, 1) := by decide +kernel
theorem dX5_pair_95 : decode cX5_pair 95 = .ok (.invokevirtual 183, 3) := by decide +kernel
theorem dX5_pair_98 : decode cX5_pair 98 = .ok (.istore 6, 2) := by decide +kernel
theorem dX5_pair_100 : decode cX5_pair 100 = .ok (.iload 6, 2) := by decide +kernel
theorem dX5_pair_102 : decode cX5_pair 102 = .ok (.iconst (-1), 1) := by decide +kernel
theorem dX5_pair_103 : decode cX5_pair 103 = .ok (.if_icmp .eq 10, 3) := by decide +kernel
theorem dX5_pair_106 : decode cX5_pair 106 = .ok (.iconst 4, 1) := by decide +kernel
theorem dX5_pair_107 : decode cX5_pair 107 = .ok (.iload 6, 2) := by decide +kernel
theorem dX5_pair_109 : decode cX5_pair 109 = .ok (.iadd, 1) := by decide +kernel
theorem dX5_pair_110 : decode cX5_pair 110 = .ok (.goto 4, 3) := by decide +kernel
theorem dX5_pair_113 : decode cX5_pair 113 = .ok (.iconst 0, 1) := by decide +kernel
theorem dX5_pair_114 : decode cX5_pair 114 = .ok (.ireturn, 1) := by decide +kernel
set_option maxRecDepth 20000 in
theorem ggX5_drawn_X5_look : GoodIn wsX5_drawn wsX5_look := goodIn_r _ [8, 9, 1, 10, 11, 12, 13, 14, 15, 16, 17, 18, 19, 20, 21, 22, 23, 24, 25, 26, 27, 28, 29, 30, 31, 32, 33, 34, 35, 36, 37, 38, 39, 40, 41, 42, 43, 44, 45, 46, 47, 48, 49, 50, 51, 52, 53, 54, 55, 56, 57, 58, 59, 60, 61, 62, 63, 64, 65, 66, 67, 68, 69, 70, 71, 72, 73, 74, 75, 76, 77, 78, 79, 80, 81, 82, 83, 84, 85, 86, 87, 88, 89, 90, 91, 96, 97, 98, 99, 100, 101, 102, 103, 104, 105, 106, 107, 108, 109, 113, 114, 115, 116, 117, 118, 119, 110, 111, 112] (by decide +kernel) (by decide +kernel)
set_option maxRecDepth 20000 in
theorem gX5_drawn_X5_look : GoodIn wsX5_drawn (wsV RX5 159 RX5 yX5_look wsX5_look) := goodIn_app (goodIn_of _ (by decide +kernel)) ggX5_drawn_X5_look
set_option maxRecDepth 20000 in
theorem ggX5_drawn_X2_slotDrawn : GoodIn wsX5_drawn wsX2_slotDrawn := goodIn_r _ [95, 55, 56, 113, 114, 115, 116, 117, 118, 119] (by decide +kernel) (by decide +kernel)
set_option maxRecDepth 20000 in
theorem gX5_drawn_X2_slotDrawn : GoodIn wsX5_drawn (wsV RX5 187 RX2 yX2_slotDrawn wsX2_slotDrawn) := goodIn_app (goodIn_of _ (by decide +kernel)) ggX5_drawn_X2_slotDrawn
theorem dX5_drawn_0 : decode cX5_drawn 0 = .ok (.iload_n 1, 1) := by decide +kernel
theorem dX5_drawn_1 : decode cX5_drawn 1 = .ok (.ifCond .ge 6, 3) := by decide +kernel
theorem dX5_drawn_4 : decode cX5_drawn 4 = .ok (.bipush (-2), 2) := by decide +kernel
theorem dX5_drawn_6 : decode cX5_drawn 6 = .ok (.ireturn, 1) := by decide +kernel
theorem dX5_drawn_7 : decode cX5_drawn 7 = .ok (.aload_n 0, 1) := by decide +kernel
theorem dX5_drawn_8 : decode cX5_drawn 8 = .ok (.invokevirtual 159, 3) := by decide +kernel
theorem dX5_drawn_11 : decode cX5_drawn 11 = .ok (.iload_n 1, 1) := by decide +kernel
theorem dX5_drawn_12 : decode cX5_drawn 12 = .ok (.invokevirtual 187, 3) := by decide +kernel
theorem dX5_drawn_15 : decode cX5_drawn 15 = .ok (.istore_n 2, 1) := by decide +kernel
theorem dX5_drawn_16 : decode cX5_drawn 16 = .ok (.iload_n 2, 1) := by decide +kernel
theorem dX5_drawn_17 : decode cX5_drawn 17 = .ok (.iconst (-1), 1) := by decide +kernel
theorem dX5_drawn_18 : decode cX5_drawn 18 = .ok (.if_icmp .ne 8, 3) := by decide +kernel
theorem dX5_drawn_21 : decode cX5_drawn 21 = .ok (.bipush (-5), 2) := by decide +kernel
theorem dX5_drawn_23 : decode cX5_drawn 23 = .ok (.goto 15, 3) := by decide +kernel
theorem dX5_drawn_26 : decode cX5_drawn 26 = .ok (.aload_n 0, 1) := by decide +kernel
theorem dX5_drawn_27 : decode cX5_drawn 27 = .ok (.getfield 10, 3) := by decide +kernel
theorem dX5_drawn_30 : decode cX5_drawn 30 = .ok (.getfield 72, 3) := by decide +kernel
theorem dX5_drawn_33 : decode cX5_drawn 33 = .ok (.iload_n 2, 1) := by decide +kernel
theorem dX5_drawn_34 : decode cX5_drawn 34 = .ok (.aaload, 1) := by decide +kernel
theorem dX5_drawn_35 : decode cX5_drawn 35 = .ok (.getfield 156, 3) := by decide +kernel
theorem dX5_drawn_38 : decode cX5_drawn 38 = .ok (.ireturn, 1) := by decide +kernel
set_option maxRecDepth 20000 in
theorem ggX5_total_X5_look : GoodIn wsX5_total wsX5_look := goodIn_r _ [15, 16, 1, 17, 18, 19, 20, 21, 22, 23, 24, 25, 26, 27, 28, 29, 30, 31, 32, 33, 34, 35, 36, 37, 38, 39, 40, 41, 42, 43, 44, 45, 46, 47, 48, 49, 50, 51, 52, 53, 54, 55, 56, 57, 58, 59, 60, 61, 62, 63, 64, 65, 66, 67, 68, 69, 70, 71, 72, 73, 74, 75, 76, 77, 78, 79, 80, 81, 82, 83, 84, 85, 86, 87, 88, 89, 90, 91, 92, 93, 94, 95, 96, 97, 98, 170, 171, 172, 173, 174, 175, 176, 177, 178, 179, 180, 181, 182, 183, 184, 185, 186, 187, 188, 189, 190, 197, 198, 199] (by decide +kernel) (by decide +kernel)
set_option maxRecDepth 20000 in
theorem gX5_total_X5_look : GoodIn wsX5_total (wsV RX5 159 RX5 yX5_look wsX5_look) := goodIn_app (goodIn_of _ (by decide +kernel)) ggX5_total_X5_look
set_option maxRecDepth 20000 in
theorem ggX5_total_X2_hidings : GoodIn wsX5_total wsX2_hidings := goodIn_r _ [102, 23, 103, 104, 105, 20, 106, 24, 107, 108, 109, 110, 111, 112, 113, 184, 185, 186, 187, 188, 189, 190] (by decide +kernel) (by decide +kernel)
set_option maxRecDepth 20000 in
theorem gX5_total_X2_hidings : GoodIn wsX5_total (wsV RX5 193 RX2 yX2_hidings wsX2_hidings) := goodIn_app (goodIn_of _ (by decide +kernel)) ggX5_total_X2_hidings
set_option maxRecDepth 20000 in
theorem ggX5_total_X2_boxesInRings : GoodIn wsX5_total wsX2_boxesInRings := goodIn_r _ [117, 23, 118, 119, 120, 20, 121, 48, 53, 54, 55, 184, 185, 186, 187, 188, 189, 190] (by decide +kernel) (by decide +kernel)
set_option maxRecDepth 20000 in
theorem gX5_total_X2_boxesInRings : GoodIn wsX5_total (wsV RX5 199 RX2 yX2_boxesInRings wsX2_boxesInRings) := goodIn_app (goodIn_of _ (by decide +kernel)) ggX5_total_X2_boxesInRings
set_option maxRecDepth 20000 in
theorem ggX5_total_X2_shortestRing : GoodIn wsX5_total wsX2_shortestRing := goodIn_r _ [125, 23, 126, 127, 128, 20, 129, 24, 53, 54, 55, 130, 131, 132, 133, 184, 185, 186, 187, 188, 189, 190] (by decide +kernel) (by decide +kernel)
set_option maxRecDepth 20000 in
theorem gX5_total_X2_shortestRing : GoodIn wsX5_total (wsV RX5 202 RX2 yX2_shortestRing wsX2_shortestRing) := goodIn_app (goodIn_of _ (by decide +kernel)) ggX5_total_X2_shortestRing
set_option maxRecDepth 20000 in
theorem ggX5_total_X2_greatestLayer : GoodIn wsX5_total wsX2_greatestLayer := goodIn_r _ [137, 23, 60, 95, 96, 97, 98, 184, 185, 186, 187, 188, 189, 190] (by decide +kernel) (by decide +kernel)
set_option maxRecDepth 20000 in
theorem gX5_total_X2_greatestLayer : GoodIn wsX5_total (wsV RX5 205 RX2 yX2_greatestLayer wsX2_greatestLayer) := goodIn_app (goodIn_of _ (by decide +kernel)) ggX5_total_X2_greatestLayer
set_option maxRecDepth 20000 in
theorem ggX5_total_X3_volume : GoodIn wsX5_total wsX3_volume := goodIn_r _ [141, 142, 78, 83, 84, 85, 32, 86, 87, 88, 89, 90, 35, 34, 179, 180, 181, 182, 183, 197, 198, 199] (by decide +kernel) (by decide +kernel)
set_option maxRecDepth 20000 in
theorem gX5_total_X3_volume : GoodIn wsX5_total (wsV RX5 211 RX3 yX3_volume wsX3_volume) := goodIn_app (goodIn_of _ (by decide +kernel)) ggX5_total_X3_volume
set_option maxRecDepth 20000 in
theorem ggX5_total_X3_shadow : GoodIn wsX5_total wsX3_shadow := goodIn_r _ [146, 142, 147, 148, 149, 75, 150, 78, 151, 152, 153, 154, 155, 32, 156, 35, 34, 157, 158, 159, 160, 161, 162, 163, 164, 165, 166, 167, 168, 87, 88, 89, 90, 169, 108, 109, 110, 111, 112, 113, 179, 180, 181, 182, 183, 197, 198, 199] (by decide +kernel) (by decide +kernel)
set_option maxRecDepth 20000 in
theorem gX5_total_X3_shadow : GoodIn wsX5_total (wsV RX5 212 RX3 yX3_shadow wsX3_shadow) := goodIn_app (goodIn_of _ (by decide +kernel)) ggX5_total_X3_shadow
theorem dX5_total_0 : decode cX5_total 0 = .ok (.iload_n 1, 1) := by decide +kernel
theorem dX5_total_1 : decode cX5_total 1 = .ok (.tableswitch 171 0 12 #[67, 75, 83, 91, 99, 107, 115, 123, 131, 139, 147, 155, 163], 67) := by decide +kernel
theorem dX5_total_68 : decode cX5_total 68 = .ok (.aload_n 0, 1) := by decide +kernel
theorem dX5_total_69 : decode cX5_total 69 = .ok (.getfield 10, 3) := by decide +kernel
theorem dX5_total_72 : decode cX5_total 72 = .ok (.getfield 118, 3) := by decide +kernel
theorem dX5_total_75 : decode cX5_total 75 = .ok (.ireturn, 1) := by decide +kernel
theorem dX5_total_76 : decode cX5_total 76 = .ok (.aload_n 0, 1) := by decide +kernel
theorem dX5_total_77 : decode cX5_total 77 = .ok (.getfield 10, 3) := by decide +kernel
theorem dX5_total_80 : decode cX5_total 80 = .ok (.getfield 190, 3) := by decide +kernel
theorem dX5_total_83 : decode cX5_total 83 = .ok (.ireturn, 1) := by decide +kernel
theorem dX5_total_84 : decode cX5_total 84 = .ok (.aload_n 0, 1) := by decide +kernel
theorem dX5_total_85 : decode cX5_total 85 = .ok (.invokevirtual 159, 3) := by decide +kernel
theorem dX5_total_88 : decode cX5_total 88 = .ok (.invokevirtual 193, 3) := by decide +kernel
theorem dX5_total_91 : decode cX5_total 91 = .ok (.ireturn, 1) := by decide +kernel
theorem dX5_total_92 : decode cX5_total 92 = .ok (.aload_n 0, 1) := by decide +kernel
theorem dX5_total_93 : decode cX5_total 93 = .ok (.invokevirtual 159, 3) := by decide +kernel
theorem dX5_total_96 : decode cX5_total 96 = .ok (.getfield 196, 3) := by decide +kernel
theorem dX5_total_99 : decode cX5_total 99 = .ok (.ireturn, 1) := by decide +kernel
theorem dX5_total_100 : decode cX5_total 100 = .ok (.aload_n 0, 1) := by decide +kernel
theorem dX5_total_101 : decode cX5_total 101 = .ok (.invokevirtual 159, 3) := by decide +kernel
theorem dX5_total_104 : decode cX5_total 104 = .ok (.invokevirtual 199, 3) := by decide +kernel
theorem dX5_total_107 : decode cX5_total 107 = .ok (.ireturn, 1) := by decide +kernel
theorem dX5_total_108 : decode cX5_total 108 = .ok (.aload_n 0, 1) := by decide +kernel
theorem dX5_total_109 : decode cX5_total 109 = .ok (.invokevirtual 159, 3) := by decide +kernel
theorem dX5_total_112 : decode cX5_total 112 = .ok (.invokevirtual 202, 3) := by decide +kernel
theorem dX5_total_115 : decode cX5_total 115 = .ok (.ireturn, 1) := by decide +kernel
theorem dX5_total_116 : decode cX5_total 116 = .ok (.aload_n 0, 1) := by decide +kernel
theorem dX5_total_117 : decode cX5_total 117 = .ok (.invokevirtual 159, 3) := by decide +kernel
theorem dX5_total_120 : decode cX5_total 120 = .ok (.invokevirtual 205, 3) := by decide +kernel
theorem dX5_total_123 : decode cX5_total 123 = .ok (.ireturn, 1) := by decide +kernel
theorem dX5_total_124 : decode cX5_total 124 = .ok (.aload_n 0, 1) := by decide +kernel
theorem dX5_total_125 : decode cX5_total 125 = .ok (.getfield 10, 3) := by decide +kernel
theorem dX5_total_128 : decode cX5_total 128 = .ok (.getfield 208, 3) := by decide +kernel
theorem dX5_total_131 : decode cX5_total 131 = .ok (.ireturn, 1) := by decide +kernel
theorem dX5_total_132 : decode cX5_total 132 = .ok (.aload_n 0, 1) := by decide +kernel
theorem dX5_total_133 : decode cX5_total 133 = .ok (.getfield 10, 3) := by decide +kernel
theorem dX5_total_136 : decode cX5_total 136 = .ok (.invokevirtual 211, 3) := by decide +kernel
theorem dX5_total_139 : decode cX5_total 139 = .ok (.ireturn, 1) := by decide +kernel
theorem dX5_total_140 : decode cX5_total 140 = .ok (.aload_n 0, 1) := by decide +kernel
theorem dX5_total_141 : decode cX5_total 141 = .ok (.getfield 10, 3) := by decide +kernel
theorem dX5_total_144 : decode cX5_total 144 = .ok (.invokevirtual 212, 3) := by decide +kernel
theorem dX5_total_147 : decode cX5_total 147 = .ok (.ireturn, 1) := by decide +kernel
theorem dX5_total_148 : decode cX5_total 148 = .ok (.aload_n 0, 1) := by decide +kernel
theorem dX5_total_149 : decode cX5_total 149 = .ok (.getfield 10, 3) := by decide +kernel
theorem dX5_total_152 : decode cX5_total 152 = .ok (.getfield 132, 3) := by decide +kernel
theorem dX5_total_155 : decode cX5_total 155 = .ok (.ireturn, 1) := by decide +kernel
theorem dX5_total_156 : decode cX5_total 156 = .ok (.aload_n 0, 1) := by decide +kernel
theorem dX5_total_157 : decode cX5_total 157 = .ok (.getfield 25, 3) := by decide +kernel
theorem dX5_total_160 : decode cX5_total 160 = .ok (.getfield 152, 3) := by decide +kernel
theorem dX5_total_163 : decode cX5_total 163 = .ok (.ireturn, 1) := by decide +kernel
theorem dX5_total_164 : decode cX5_total 164 = .ok (.aload_n 0, 1) := by decide +kernel
theorem dX5_total_165 : decode cX5_total 165 = .ok (.getfield 32, 3) := by decide +kernel
theorem dX5_total_168 : decode cX5_total 168 = .ok (.getfield 139, 3) := by decide +kernel
theorem dX5_total_171 : decode cX5_total 171 = .ok (.ireturn, 1) := by decide +kernel
theorem dX5_total_172 : decode cX5_total 172 = .ok (.bipush (-2), 2) := by decide +kernel
theorem dX5_total_174 : decode cX5_total 174 = .ok (.ireturn, 1) := by decide +kernel
set_option maxRecDepth 20000 in
theorem ggX5_waitsFor_X3_slotOf : GoodIn wsX5_waitsFor wsX3_slotOf := goodIn_r _ [8, 9, 10, 11, 111, 112, 113, 114, 115, 116, 117, 118] (by decide +kernel) (by decide +kernel)
set_option maxRecDepth 20000 in
theorem gX5_waitsFor_X3_slotOf : GoodIn wsX5_waitsFor (wsV RX5 68 RX3 yX3_slotOf wsX3_slotOf) := goodIn_app (goodIn_of _ (by decide +kernel)) ggX5_waitsFor_X3_slotOf
set_option maxRecDepth 20000 in
theorem ggX5_waitsFor_X5_look : GoodIn wsX5_waitsFor wsX5_look := goodIn_r _ [16, 17, 1, 18, 19, 20, 21, 22, 23, 24, 25, 26, 27, 28, 29, 30, 31, 32, 33, 34, 35, 36, 37, 38, 39, 40, 41, 42, 43, 44, 45, 46, 47, 48, 49, 50, 51, 52, 53, 54, 55, 56, 57, 58, 59, 60, 61, 62, 63, 64, 65, 66, 67, 68, 69, 70, 71, 72, 73, 74, 75, 7, 76, 77, 10, 78, 79, 80, 81, 82, 83, 84, 85, 86, 87, 88, 89, 90, 91, 92, 93, 94, 95, 96, 97, 102, 103, 104, 105, 106, 107, 108, 109, 110, 111, 112, 113, 114, 115, 119, 120, 121, 122, 123, 124, 125, 116, 117, 118] (by decide +kernel) (by decide +kernel)
set_option maxRecDepth 20000 in
theorem gX5_waitsFor_X5_look : GoodIn wsX5_waitsFor (wsV RX5 159 RX5 yX5_look wsX5_look) := goodIn_app (goodIn_of _ (by decide +kernel)) ggX5_waitsFor_X5_look
set_option maxRecDepth 20000 in
theorem ggX5_waitsFor_X2_firstNotDrawnUnder : GoodIn wsX5_waitsFor wsX2_firstNotDrawnUnder := goodIn_r _ [101, 24, 25, 62, 54, 55, 21, 56, 119, 120, 121, 122, 123, 124, 125] (by decide +kernel) (by decide +kernel)
set_option maxRecDepth 20000 in
theorem gX5_waitsFor_X2_firstNotDrawnUnder : GoodIn wsX5_waitsFor (wsV RX5 215 RX2 yX2_firstNotDrawnUnder wsX2_firstNotDrawnUnder) := goodIn_app (goodIn_of _ (by decide +kernel)) ggX5_waitsFor_X2_firstNotDrawnUnder
theorem dX5_waitsFor_0 : decode cX5_waitsFor 0 = .ok (.aload_n 0, 1) := by decide +kernel
theorem dX5_waitsFor_1 : decode cX5_waitsFor 1 = .ok (.getfield 10, 3) := by decide +kernel
theorem dX5_waitsFor_4 : decode cX5_waitsFor 4 = .ok (.iload_n 1, 1) := by decide +kernel
theorem dX5_waitsFor_5 : decode cX5_waitsFor 5 = .ok (.invokevirtual 68, 3) := by decide +kernel
theorem dX5_waitsFor_8 : decode cX5_waitsFor 8 = .ok (.istore_n 2, 1) := by decide +kernel
theorem dX5_waitsFor_9 : decode cX5_waitsFor 9 = .ok (.iload_n 2, 1) := by decide +kernel
theorem dX5_waitsFor_10 : decode cX5_waitsFor 10 = .ok (.iconst (-1), 1) := by decide +kernel
theorem dX5_waitsFor_11 : decode cX5_waitsFor 11 = .ok (.if_icmp .ne 5, 3) := by decide +kernel
theorem dX5_waitsFor_14 : decode cX5_waitsFor 14 = .ok (.iconst (-1), 1) := by decide +kernel
theorem dX5_waitsFor_15 : decode cX5_waitsFor 15 = .ok (.ireturn, 1) := by decide +kernel
theorem dX5_waitsFor_16 : decode cX5_waitsFor 16 = .ok (.aload_n 0, 1) := by decide +kernel
theorem dX5_waitsFor_17 : decode cX5_waitsFor 17 = .ok (.invokevirtual 159, 3) := by decide +kernel
theorem dX5_waitsFor_20 : decode cX5_waitsFor 20 = .ok (.iload_n 2, 1) := by decide +kernel
theorem dX5_waitsFor_21 : decode cX5_waitsFor 21 = .ok (.invokevirtual 215, 3) := by decide +kernel
theorem dX5_waitsFor_24 : decode cX5_waitsFor 24 = .ok (.istore_n 3, 1) := by decide +kernel
theorem dX5_waitsFor_25 : decode cX5_waitsFor 25 = .ok (.iload_n 3, 1) := by decide +kernel
theorem dX5_waitsFor_26 : decode cX5_waitsFor 26 = .ok (.iconst (-1), 1) := by decide +kernel
theorem dX5_waitsFor_27 : decode cX5_waitsFor 27 = .ok (.if_icmp .ne 8, 3) := by decide +kernel
theorem dX5_waitsFor_30 : decode cX5_waitsFor 30 = .ok (.bipush (-5), 2) := by decide +kernel
theorem dX5_waitsFor_32 : decode cX5_waitsFor 32 = .ok (.goto 15, 3) := by decide +kernel
theorem dX5_waitsFor_35 : decode cX5_waitsFor 35 = .ok (.aload_n 0, 1) := by decide +kernel
theorem dX5_waitsFor_36 : decode cX5_waitsFor 36 = .ok (.getfield 10, 3) := by decide +kernel
theorem dX5_waitsFor_39 : decode cX5_waitsFor 39 = .ok (.getfield 72, 3) := by decide +kernel
theorem dX5_waitsFor_42 : decode cX5_waitsFor 42 = .ok (.iload_n 3, 1) := by decide +kernel
theorem dX5_waitsFor_43 : decode cX5_waitsFor 43 = .ok (.aaload, 1) := by decide +kernel
theorem dX5_waitsFor_44 : decode cX5_waitsFor 44 = .ok (.getfield 156, 3) := by decide +kernel
theorem dX5_waitsFor_47 : decode cX5_waitsFor 47 = .ok (.ireturn, 1) := by decide +kernel
set_option maxRecDepth 20000 in
theorem ggX5_breaks_X3_copyFrom : GoodIn wsX5_breaks wsX3_copyFrom := goodIn_r _ [7, 8, 9, 10, 11, 12, 13, 14, 15, 16, 17, 18, 19, 20, 21, 22, 23, 24, 145, 146, 147, 148, 149, 150, 151, 152] (by decide +kernel) (by decide +kernel)
set_option maxRecDepth 20000 in
theorem gX5_breaks_X3_copyFrom : GoodIn wsX5_breaks (wsV RX5 57 RX3 yX3_copyFrom wsX3_copyFrom) := goodIn_app (goodIn_of _ (by decide +kernel)) ggX5_breaks_X3_copyFrom
set_option maxRecDepth 20000 in
theorem ggX5_breaks_X5_breakOne : GoodIn wsX5_breaks wsX5_breakOne := goodIn_r _ [29, 30, 31, 32, 33, 34, 35, 36, 37, 38, 39, 40, 41, 42, 43, 44, 45, 46, 47, 16, 48, 19, 24, 49, 50, 51, 52, 53, 54, 55, 56, 57, 58, 59, 60, 61, 62, 21, 22, 23, 63, 64, 65, 66, 67, 68, 69, 70, 71, 72, 73, 74, 75, 76, 77, 78, 79, 80, 81, 82, 83, 84, 6, 85, 11, 12, 86, 87, 88, 89, 90, 91, 92, 93, 94, 95, 96, 97, 98, 99, 100, 101, 102, 103, 104, 105, 106, 107, 108, 109, 110, 111, 112, 113, 114, 115, 116, 117, 118, 119, 120, 121, 122, 123, 8, 124, 125, 126, 127, 128, 129, 10, 130, 131, 132, 133, 9, 134, 135, 13, 14, 15, 17, 18, 20, 136, 137, 138, 139, 140, 141, 142, 143, 144, 145, 146, 147, 148, 149, 150, 151, 152, 153, 154, 155, 156, 157, 158, 159] (by decide +kernel) (by decide +kernel)
set_option maxRecDepth 20000 in
theorem gX5_breaks_X5_breakOne : GoodIn wsX5_breaks (wsV RX5 114 RX5 yX5_breakOne wsX5_breakOne) := goodIn_app (goodIn_of _ (by decide +kernel)) ggX5_breaks_X5_breakOne
theorem dX5_breaks_0 : decode cX5_breaks 0 = .ok (.aload_n 0, 1) := by decide +kernel
theorem dX5_breaks_1 : decode cX5_breaks 1 = .ok (.getfield 16, 3) := by decide +kernel
theorem dX5_breaks_4 : decode cX5_breaks 4 = .ok (.aload_n 0, 1) := by decide +kernel
theorem dX5_breaks_5 : decode cX5_breaks 5 = .ok (.getfield 10, 3) := by decide +kernel
theorem dX5_breaks_8 : decode cX5_breaks 8 = .ok (.invokevirtual 57, 3) := by decide +kernel
theorem dX5_breaks_11 : decode cX5_breaks 11 = .ok (.iconst 0, 1) := by decide +kernel
theorem dX5_breaks_12 : decode cX5_breaks 12 = .ok (.istore_n 1, 1) := by decide +kernel
theorem dX5_breaks_13 : decode cX5_breaks 13 = .ok (.iload_n 1, 1) := by decide +kernel
theorem dX5_breaks_14 : decode cX5_breaks 14 = .ok (.bipush 16, 2) := by decide +kernel
theorem dX5_breaks_16 : decode cX5_breaks 16 = .ok (.if_icmp .gt 32, 3) := by decide +kernel
theorem dX5_breaks_19 : decode cX5_breaks 19 = .ok (.aload_n 0, 1) := by decide +kernel
theorem dX5_breaks_20 : decode cX5_breaks 20 = .ok (.aload_n 0, 1) := by decide +kernel
theorem dX5_breaks_21 : decode cX5_breaks 21 = .ok (.getfield 16, 3) := by decide +kernel
theorem dX5_breaks_24 : decode cX5_breaks 24 = .ok (.invokevirtual 114, 3) := by decide +kernel
theorem dX5_breaks_27 : decode cX5_breaks 27 = .ok (.istore_n 2, 1) := by decide +kernel
theorem dX5_breaks_28 : decode cX5_breaks 28 = .ok (.iload_n 2, 1) := by decide +kernel
theorem dX5_breaks_29 : decode cX5_breaks 29 = .ok (.bipush (-5), 2) := by decide +kernel
theorem dX5_breaks_31 : decode cX5_breaks 31 = .ok (.if_icmp .ne 5, 3) := by decide +kernel
theorem dX5_breaks_34 : decode cX5_breaks 34 = .ok (.iload_n 1, 1) := by decide +kernel
theorem dX5_breaks_35 : decode cX5_breaks 35 = .ok (.ireturn, 1) := by decide +kernel
theorem dX5_breaks_36 : decode cX5_breaks 36 = .ok (.iload_n 2, 1) := by decide +kernel
theorem dX5_breaks_37 : decode cX5_breaks 37 = .ok (.ifCond .ge 5, 3) := by decide +kernel
theorem dX5_breaks_40 : decode cX5_breaks 40 = .ok (.iload_n 2, 1) := by decide +kernel
theorem dX5_breaks_41 : decode cX5_breaks 41 = .ok (.ireturn, 1) := by decide +kernel
theorem dX5_breaks_42 : decode cX5_breaks 42 = .ok (.iinc 1 1, 3) := by decide +kernel
theorem dX5_breaks_45 : decode cX5_breaks 45 = .ok (.goto (-32), 3) := by decide +kernel
theorem dX5_breaks_48 : decode cX5_breaks 48 = .ok (.bipush (-3), 2) := by decide +kernel
theorem dX5_breaks_50 : decode cX5_breaks 50 = .ok (.ireturn, 1) := by decide +kernel
set_option maxRecDepth 20000 in
theorem ggX5_drawnWithout_X3_slotOf : GoodIn wsX5_drawnWithout wsX3_slotOf := goodIn_r _ [9, 10, 11, 12, 125, 126, 127, 128, 129, 130, 131, 132] (by decide +kernel) (by decide +kernel)
set_option maxRecDepth 20000 in
theorem gX5_drawnWithout_X3_slotOf : GoodIn wsX5_drawnWithout (wsV RX5 68 RX3 yX3_slotOf wsX3_slotOf) := goodIn_app (goodIn_of _ (by decide +kernel)) ggX5_drawnWithout_X3_slotOf
set_option maxRecDepth 20000 in
theorem ggX5_drawnWithout_X3_copyFrom : GoodIn wsX5_drawnWithout wsX3_copyFrom := goodIn_r _ [16, 10, 17, 18, 19, 11, 20, 21, 22, 23, 24, 25, 26, 27, 28, 29, 30, 31, 125, 126, 127, 128, 129, 130, 131, 132] (by decide +kernel) (by decide +kernel)
set_option maxRecDepth 20000 in
theorem gX5_drawnWithout_X3_copyFrom : GoodIn wsX5_drawnWithout (wsV RX5 57 RX3 yX3_copyFrom wsX3_copyFrom) := goodIn_app (goodIn_of _ (by decide +kernel)) ggX5_drawnWithout_X3_copyFrom
set_option maxRecDepth 20000 in
theorem ggX5_drawnWithout_X3_takeOut : GoodIn wsX5_drawnWithout wsX3_takeOut := goodIn_r _ [35, 10, 11, 20, 21, 22, 23, 24, 25, 26, 27, 28, 29, 30, 31, 125, 126, 127, 128, 129, 130, 131, 132] (by decide +kernel) (by decide +kernel)
set_option maxRecDepth 20000 in
theorem gX5_drawnWithout_X3_takeOut : GoodIn wsX5_drawnWithout (wsV RX5 80 RX3 yX3_takeOut wsX3_takeOut) := goodIn_app (goodIn_of _ (by decide +kernel)) ggX5_drawnWithout_X3_takeOut
set_option maxRecDepth 20000 in
theorem ggX5_drawnWithout_X2_look : GoodIn wsX5_drawnWithout wsX2_look := goodIn_r _ [40, 41, 42, 43, 44, 45, 39, 46, 47, 48, 49, 50, 23, 51, 26, 31, 52, 53, 54, 55, 56, 57, 58, 59, 60, 61, 62, 63, 64, 65, 28, 29, 30, 66, 67, 68, 69, 70, 71, 72, 73, 74, 75, 76, 77, 78, 79, 80, 81, 82, 83, 84, 85, 86, 87, 8, 88, 19, 11, 89, 90, 91, 92, 93, 94, 95, 96, 97, 98, 99, 100, 101, 102, 103, 104, 105, 106, 107, 108, 125, 126, 127, 128, 129, 118, 119, 120, 121, 122, 123, 124, 130, 131, 132] (by decide +kernel) (by decide +kernel)
set_option maxRecDepth 20000 in
theorem gX5_drawnWithout_X2_look : GoodIn wsX5_drawnWithout (wsV RX5 125 RX2 yX2_look wsX2_look) := goodIn_app (goodIn_of _ (by decide +kernel)) ggX5_drawnWithout_X2_look
theorem dX5_drawnWithout_0 : decode cX5_drawnWithout 0 = .ok (.aload_n 0, 1) := by decide +kernel
theorem dX5_drawnWithout_1 : decode cX5_drawnWithout 1 = .ok (.getfield 10, 3) := by decide +kernel
theorem dX5_drawnWithout_4 : decode cX5_drawnWithout 4 = .ok (.iload_n 1, 1) := by decide +kernel
theorem dX5_drawnWithout_5 : decode cX5_drawnWithout 5 = .ok (.invokevirtual 68, 3) := by decide +kernel
theorem dX5_drawnWithout_8 : decode cX5_drawnWithout 8 = .ok (.istore_n 2, 1) := by decide +kernel
theorem dX5_drawnWithout_9 : decode cX5_drawnWithout 9 = .ok (.iload_n 2, 1) := by decide +kernel
theorem dX5_drawnWithout_10 : decode cX5_drawnWithout 10 = .ok (.iconst (-1), 1) := by decide +kernel
theorem dX5_drawnWithout_11 : decode cX5_drawnWithout 11 = .ok (.if_icmp .ne 5, 3) := by decide +kernel
theorem dX5_drawnWithout_14 : decode cX5_drawnWithout 14 = .ok (.iconst (-1), 1) := by decide +kernel
theorem dX5_drawnWithout_15 : decode cX5_drawnWithout 15 = .ok (.ireturn, 1) := by decide +kernel
theorem dX5_drawnWithout_16 : decode cX5_drawnWithout 16 = .ok (.aload_n 0, 1) := by decide +kernel
theorem dX5_drawnWithout_17 : decode cX5_drawnWithout 17 = .ok (.getfield 16, 3) := by decide +kernel
theorem dX5_drawnWithout_20 : decode cX5_drawnWithout 20 = .ok (.aload_n 0, 1) := by decide +kernel
theorem dX5_drawnWithout_21 : decode cX5_drawnWithout 21 = .ok (.getfield 10, 3) := by decide +kernel
theorem dX5_drawnWithout_24 : decode cX5_drawnWithout 24 = .ok (.invokevirtual 57, 3) := by decide +kernel
theorem dX5_drawnWithout_27 : decode cX5_drawnWithout 27 = .ok (.aload_n 0, 1) := by decide +kernel
theorem dX5_drawnWithout_28 : decode cX5_drawnWithout 28 = .ok (.getfield 16, 3) := by decide +kernel
theorem dX5_drawnWithout_31 : decode cX5_drawnWithout 31 = .ok (.iload_n 2, 1) := by decide +kernel
theorem dX5_drawnWithout_32 : decode cX5_drawnWithout 32 = .ok (.invokevirtual 80, 3) := by decide +kernel
theorem dX5_drawnWithout_35 : decode cX5_drawnWithout 35 = .ok (.aload_n 0, 1) := by decide +kernel
theorem dX5_drawnWithout_36 : decode cX5_drawnWithout 36 = .ok (.getfield 39, 3) := by decide +kernel
theorem dX5_drawnWithout_39 : decode cX5_drawnWithout 39 = .ok (.aload_n 0, 1) := by decide +kernel
theorem dX5_drawnWithout_40 : decode cX5_drawnWithout 40 = .ok (.getfield 16, 3) := by decide +kernel
theorem dX5_drawnWithout_43 : decode cX5_drawnWithout 43 = .ok (.invokevirtual 125, 3) := by decide +kernel
theorem dX5_drawnWithout_46 : decode cX5_drawnWithout 46 = .ok (.aload_n 0, 1) := by decide +kernel
theorem dX5_drawnWithout_47 : decode cX5_drawnWithout 47 = .ok (.getfield 39, 3) := by decide +kernel
theorem dX5_drawnWithout_50 : decode cX5_drawnWithout 50 = .ok (.getfield 196, 3) := by decide +kernel
theorem dX5_drawnWithout_53 : decode cX5_drawnWithout 53 = .ok (.ireturn, 1) := by decide +kernel
theorem dX5_isDirection_0 : decode cX5_isDirection 0 = .ok (.iload_n 0, 1) := by decide +kernel
theorem dX5_isDirection_1 : decode cX5_isDirection 1 = .ok (.ifCond .lt 12, 3) := by decide +kernel
theorem dX5_isDirection_4 : decode cX5_isDirection 4 = .ok (.iload_n 0, 1) := by decide +kernel
theorem dX5_isDirection_5 : decode cX5_isDirection 5 = .ok (.iconst 3, 1) := by decide +kernel
theorem dX5_isDirection_6 : decode cX5_isDirection 6 = .ok (.if_icmp .ge 7, 3) := by decide +kernel
theorem dX5_isDirection_9 : decode cX5_isDirection 9 = .ok (.iconst 1, 1) := by decide +kernel
theorem dX5_isDirection_10 : decode cX5_isDirection 10 = .ok (.goto 4, 3) := by decide +kernel
theorem dX5_isDirection_13 : decode cX5_isDirection 13 = .ok (.iconst 0, 1) := by decide +kernel
theorem dX5_isDirection_14 : decode cX5_isDirection 14 = .ok (.ireturn, 1) := by decide +kernel
set_option maxRecDepth 20000 in
theorem ggX5_look_X2_look : GoodIn wsX5_look wsX2_look := goodIn_r _ [7, 8, 9, 10, 11, 12, 6, 13, 14, 15, 16, 17, 18, 19, 20, 21, 22, 23, 24, 25, 26, 27, 28, 29, 30, 31, 32, 33, 34, 35, 36, 37, 38, 39, 40, 41, 42, 43, 44, 45, 46, 47, 48, 49, 50, 51, 52, 53, 54, 55, 56, 57, 58, 59, 60, 61, 62, 63, 64, 65, 66, 67, 68, 69, 70, 71, 72, 73, 74, 75, 76, 77, 78, 79, 80, 81, 82, 83, 84, 94, 95, 96, 97, 98, 99, 100, 101, 102, 103, 104, 105, 106, 107, 108] (by decide +kernel) (by decide +kernel)
set_option maxRecDepth 20000 in
theorem gX5_look_X2_look : GoodIn wsX5_look (wsV RX5 125 RX2 yX2_look wsX2_look) := goodIn_app (goodIn_of _ (by decide +kernel)) ggX5_look_X2_look
theorem dX5_look_0 : decode cX5_look 0 = .ok (.aload_n 0, 1) := by decide +kernel
theorem dX5_look_1 : decode cX5_look 1 = .ok (.getfield 39, 3) := by decide +kernel
theorem dX5_look_4 : decode cX5_look 4 = .ok (.aload_n 0, 1) := by decide +kernel
theorem dX5_look_5 : decode cX5_look 5 = .ok (.getfield 10, 3) := by decide +kernel
theorem dX5_look_8 : decode cX5_look 8 = .ok (.invokevirtual 125, 3) := by decide +kernel
theorem dX5_look_11 : decode cX5_look 11 = .ok (.aload_n 0, 1) := by decide +kernel
theorem dX5_look_12 : decode cX5_look 12 = .ok (.getfield 39, 3) := by decide +kernel
theorem dX5_look_15 : decode cX5_look 15 = .ok (.areturn, 1) := by decide +kernel
set_option maxRecDepth 20000 in
theorem ggX5_adoptTrial_X1_remember : GoodIn wsX5_adoptTrial wsX1_remember := goodIn_r _ [8, 9, 10, 11, 12, 13, 7, 14, 15, 16, 17, 18, 19, 20, 21, 22, 23, 24, 25, 26, 27, 28, 29, 30, 31, 32, 33, 34, 35, 36, 47, 48, 49, 50, 51, 52, 53, 54, 55, 56] (by decide +kernel) (by decide +kernel)
set_option maxRecDepth 20000 in
theorem gX5_adoptTrial_X1_remember : GoodIn wsX5_adoptTrial (wsV RX5 218 RX1 yX1_remember wsX1_remember) := goodIn_app (goodIn_of _ (by decide +kernel)) ggX5_adoptTrial_X1_remember
set_option maxRecDepth 20000 in
theorem ggX5_adoptTrial_X3_copyFrom : GoodIn wsX5_adoptTrial wsX3_copyFrom := goodIn_r _ [19, 20, 21, 22, 23, 24, 25, 26, 27, 28, 29, 30, 31, 32, 33, 34, 35, 36, 49, 50, 51, 52, 53, 54, 55, 56] (by decide +kernel) (by decide +kernel)
set_option maxRecDepth 20000 in
theorem gX5_adoptTrial_X3_copyFrom : GoodIn wsX5_adoptTrial (wsV RX5 57 RX3 yX3_copyFrom wsX3_copyFrom) := goodIn_app (goodIn_of _ (by decide +kernel)) ggX5_adoptTrial_X3_copyFrom
theorem dX5_adoptTrial_0 : decode cX5_adoptTrial 0 = .ok (.aload_n 0, 1) := by decide +kernel
theorem dX5_adoptTrial_1 : decode cX5_adoptTrial 1 = .ok (.getfield 25, 3) := by decide +kernel
theorem dX5_adoptTrial_4 : decode cX5_adoptTrial 4 = .ok (.aload_n 0, 1) := by decide +kernel
theorem dX5_adoptTrial_5 : decode cX5_adoptTrial 5 = .ok (.getfield 10, 3) := by decide +kernel
theorem dX5_adoptTrial_8 : decode cX5_adoptTrial 8 = .ok (.invokevirtual 218, 3) := by decide +kernel
theorem dX5_adoptTrial_11 : decode cX5_adoptTrial 11 = .ok (.aload_n 0, 1) := by decide +kernel
theorem dX5_adoptTrial_12 : decode cX5_adoptTrial 12 = .ok (.getfield 10, 3) := by decide +kernel
theorem dX5_adoptTrial_15 : decode cX5_adoptTrial 15 = .ok (.aload_n 0, 1) := by decide +kernel
theorem dX5_adoptTrial_16 : decode cX5_adoptTrial 16 = .ok (.getfield 16, 3) := by decide +kernel
theorem dX5_adoptTrial_19 : decode cX5_adoptTrial 19 = .ok (.invokevirtual 57, 3) := by decide +kernel
theorem dX5_adoptTrial_22 : decode cX5_adoptTrial 22 = .ok (.return_, 1) := by decide +kernel
set_option maxRecDepth 20000 in
theorem ggX5_enter_X0_lay : GoodIn wsX5_enter wsX0_lay := goodIn_r _ [6, 7, 8, 53, 54, 55] (by decide +kernel) (by decide +kernel)
set_option maxRecDepth 20000 in
theorem gX5_enter_X0_lay : GoodIn wsX5_enter (wsV RX5 221 RX0 yX0_lay wsX0_lay) := goodIn_app (goodIn_of _ (by decide +kernel)) ggX5_enter_X0_lay
set_option maxRecDepth 20000 in
theorem ggX5_enter_X3_isCutBy : GoodIn wsX5_enter wsX3_isCutBy := goodIn_r _ [13, 14, 15, 16, 17, 18, 5, 19, 20, 21, 22, 23, 7, 8, 56, 57, 58, 59, 60, 53, 54, 55] (by decide +kernel) (by decide +kernel)
set_option maxRecDepth 20000 in
theorem gX5_enter_X3_isCutBy : GoodIn wsX5_enter (wsV RX5 99 RX3 yX3_isCutBy wsX3_isCutBy) := goodIn_app (goodIn_of _ (by decide +kernel)) ggX5_enter_X3_isCutBy
set_option maxRecDepth 20000 in
theorem ggX5_enter_X3_isFull : GoodIn wsX5_enter wsX3_isFull := goodIn_r _ [27, 14, 56, 57, 58, 59, 60] (by decide +kernel) (by decide +kernel)
set_option maxRecDepth 20000 in
theorem gX5_enter_X3_isFull : GoodIn wsX5_enter (wsV RX5 106 RX3 yX3_isFull wsX3_isFull) := goodIn_app (goodIn_of _ (by decide +kernel)) ggX5_enter_X3_isFull
set_option maxRecDepth 20000 in
theorem ggX5_enter_X3_append : GoodIn wsX5_enter wsX3_append := goodIn_r _ [31, 15, 14, 32, 33, 34, 25, 26, 12, 27, 35, 36, 37, 5, 38, 39, 7, 40, 41, 42, 43, 8, 56, 57, 58, 59, 60, 53, 54, 55] (by decide +kernel) (by decide +kernel)
set_option maxRecDepth 20000 in
theorem gX5_enter_X3_append : GoodIn wsX5_enter (wsV RX5 225 RX3 yX3_append wsX3_append) := goodIn_app (goodIn_of _ (by decide +kernel)) ggX5_enter_X3_append
theorem dX5_enter_0 : decode cX5_enter 0 = .ok (.aload_n 0, 1) := by decide +kernel
theorem dX5_enter_1 : decode cX5_enter 1 = .ok (.getfield 49, 3) := by decide +kernel
theorem dX5_enter_4 : decode cX5_enter 4 = .ok (.iconst 0, 1) := by decide +kernel
theorem dX5_enter_5 : decode cX5_enter 5 = .ok (.iload_n 2, 1) := by decide +kernel
theorem dX5_enter_6 : decode cX5_enter 6 = .ok (.iload 5, 2) := by decide +kernel
theorem dX5_enter_8 : decode cX5_enter 8 = .ok (.invokevirtual 221, 3) := by decide +kernel
theorem dX5_enter_11 : decode cX5_enter 11 = .ok (.ifCond .eq 36, 3) := by decide +kernel
theorem dX5_enter_14 : decode cX5_enter 14 = .ok (.aload_n 0, 1) := by decide +kernel
theorem dX5_enter_15 : decode cX5_enter 15 = .ok (.getfield 49, 3) := by decide +kernel
theorem dX5_enter_18 : decode cX5_enter 18 = .ok (.iconst 1, 1) := by decide +kernel
theorem dX5_enter_19 : decode cX5_enter 19 = .ok (.iload_n 3, 1) := by decide +kernel
theorem dX5_enter_20 : decode cX5_enter 20 = .ok (.iload 6, 2) := by decide +kernel
theorem dX5_enter_22 : decode cX5_enter 22 = .ok (.invokevirtual 221, 3) := by decide +kernel
theorem dX5_enter_25 : decode cX5_enter 25 = .ok (.ifCond .eq 22, 3) := by decide +kernel
theorem dX5_enter_28 : decode cX5_enter 28 = .ok (.aload_n 0, 1) := by decide +kernel
theorem dX5_enter_29 : decode cX5_enter 29 = .ok (.getfield 49, 3) := by decide +kernel
theorem dX5_enter_32 : decode cX5_enter 32 = .ok (.iconst 2, 1) := by decide +kernel
theorem dX5_enter_33 : decode cX5_enter 33 = .ok (.iload 4, 2) := by decide +kernel
theorem dX5_enter_35 : decode cX5_enter 35 = .ok (.iload 7, 2) := by decide +kernel
theorem dX5_enter_37 : decode cX5_enter 37 = .ok (.invokevirtual 221, 3) := by decide +kernel
theorem dX5_enter_40 : decode cX5_enter 40 = .ok (.ifCond .eq 7, 3) := by decide +kernel
theorem dX5_enter_43 : decode cX5_enter 43 = .ok (.iconst 1, 1) := by decide +kernel
theorem dX5_enter_44 : decode cX5_enter 44 = .ok (.goto 4, 3) := by decide +kernel
theorem dX5_enter_47 : decode cX5_enter 47 = .ok (.iconst 0, 1) := by decide +kernel
