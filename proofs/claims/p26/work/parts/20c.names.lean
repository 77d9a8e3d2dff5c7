theorem dX3_cutInTwo_38 : decode cX3_cutInTwo 38 = .ok (.getfield 11, 3) := by decide +kernel
theorem dX3_cutInTwo_41 : decode cX3_cutInTwo 41 = .ok (.iload_n 1, 1) := by decide +kernel
theorem dX3_cutInTwo_42 : decode cX3_cutInTwo 42 = .ok (.aaload, 1) := by decide +kernel
theorem dX3_cutInTwo_43 : decode cX3_cutInTwo 43 = .ok (.getfield 54, 3) := by decide +kernel
theorem dX3_cutInTwo_46 : decode cX3_cutInTwo 46 = .ok (.iload_n 2, 1) := by decide +kernel
theorem dX3_cutInTwo_47 : decode cX3_cutInTwo 47 = .ok (.iload_n 3, 1) := by decide +kernel
theorem dX3_cutInTwo_48 : decode cX3_cutInTwo 48 = .ok (.iastore, 1) := by decide +kernel
theorem dX3_cutInTwo_49 : decode cX3_cutInTwo 49 = .ok (.aload_n 0, 1) := by decide +kernel
theorem dX3_cutInTwo_50 : decode cX3_cutInTwo 50 = .ok (.dup, 1) := by decide +kernel
theorem dX3_cutInTwo_51 : decode cX3_cutInTwo 51 = .ok (.getfield 25, 3) := by decide +kernel
theorem dX3_cutInTwo_54 : decode cX3_cutInTwo 54 = .ok (.iconst 1, 1) := by decide +kernel
theorem dX3_cutInTwo_55 : decode cX3_cutInTwo 55 = .ok (.iadd, 1) := by decide +kernel
theorem dX3_cutInTwo_56 : decode cX3_cutInTwo 56 = .ok (.putfield 25, 3) := by decide +kernel
theorem dX3_cutInTwo_59 : decode cX3_cutInTwo 59 = .ok (.iload 4, 2) := by decide +kernel
theorem dX3_cutInTwo_61 : decode cX3_cutInTwo 61 = .ok (.ireturn, 1) := by decide +kernel
theorem dX3_quarterTurn_0 : decode cX3_quarterTurn 0 = .ok (.iconst 0, 1) := by decide +kernel
theorem dX3_quarterTurn_1 : decode cX3_quarterTurn 1 = .ok (.istore_n 1, 1) := by decide +kernel
theorem dX3_quarterTurn_2 : decode cX3_quarterTurn 2 = .ok (.iload_n 1, 1) := by decide +kernel
theorem dX3_quarterTurn_3 : decode cX3_quarterTurn 3 = .ok (.aload_n 0, 1) := by decide +kernel
theorem dX3_quarterTurn_4 : decode cX3_quarterTurn 4 = .ok (.getfield 18, 3) := by decide +kernel
theorem dX3_quarterTurn_7 : decode cX3_quarterTurn 7 = .ok (.if_icmp .ge 76, 3) := by decide +kernel
theorem dX3_quarterTurn_10 : decode cX3_quarterTurn 10 = .ok (.aload_n 0, 1) := by decide +kernel
theorem dX3_quarterTurn_11 : decode cX3_quarterTurn 11 = .ok (.getfield 11, 3) := by decide +kernel
theorem dX3_quarterTurn_14 : decode cX3_quarterTurn 14 = .ok (.iload_n 1, 1) := by decide +kernel
theorem dX3_quarterTurn_15 : decode cX3_quarterTurn 15 = .ok (.aaload, 1) := by decide +kernel
theorem dX3_quarterTurn_16 : decode cX3_quarterTurn 16 = .ok (.astore_n 2, 1) := by decide +kernel
theorem dX3_quarterTurn_17 : decode cX3_quarterTurn 17 = .ok (.aload_n 2, 1) := by decide +kernel
theorem dX3_quarterTurn_18 : decode cX3_quarterTurn 18 = .ok (.getfield 50, 3) := by decide +kernel
theorem dX3_quarterTurn_21 : decode cX3_quarterTurn 21 = .ok (.iconst 0, 1) := by decide +kernel
theorem dX3_quarterTurn_22 : decode cX3_quarterTurn 22 = .ok (.iaload, 1) := by decide +kernel
theorem dX3_quarterTurn_23 : decode cX3_quarterTurn 23 = .ok (.istore_n 3, 1) := by decide +kernel
theorem dX3_quarterTurn_24 : decode cX3_quarterTurn 24 = .ok (.aload_n 2, 1) := by decide +kernel
theorem dX3_quarterTurn_25 : decode cX3_quarterTurn 25 = .ok (.getfield 54, 3) := by decide +kernel
theorem dX3_quarterTurn_28 : decode cX3_quarterTurn 28 = .ok (.iconst 0, 1) := by decide +kernel
theorem dX3_quarterTurn_29 : decode cX3_quarterTurn 29 = .ok (.iaload, 1) := by decide +kernel
theorem dX3_quarterTurn_30 : decode cX3_quarterTurn 30 = .ok (.istore 4, 2) := by decide +kernel
theorem dX3_quarterTurn_32 : decode cX3_quarterTurn 32 = .ok (.aload_n 2, 1) := by decide +kernel
theorem dX3_quarterTurn_33 : decode cX3_quarterTurn 33 = .ok (.getfield 50, 3) := by decide +kernel
theorem dX3_quarterTurn_36 : decode cX3_quarterTurn 36 = .ok (.iconst 0, 1) := by decide +kernel
theorem dX3_quarterTurn_37 : decode cX3_quarterTurn 37 = .ok (.bipush 32, 2) := by decide +kernel
theorem dX3_quarterTurn_39 : decode cX3_quarterTurn 39 = .ok (.aload_n 2, 1) := by decide +kernel
theorem dX3_quarterTurn_40 : decode cX3_quarterTurn 40 = .ok (.getfield 54, 3) := by decide +kernel
theorem dX3_quarterTurn_43 : decode cX3_quarterTurn 43 = .ok (.iconst 1, 1) := by decide +kernel
theorem dX3_quarterTurn_44 : decode cX3_quarterTurn 44 = .ok (.iaload, 1) := by decide +kernel
theorem dX3_quarterTurn_45 : decode cX3_quarterTurn 45 = .ok (.isub, 1) := by decide +kernel
theorem dX3_quarterTurn_46 : decode cX3_quarterTurn 46 = .ok (.iastore, 1) := by decide +kernel
theorem dX3_quarterTurn_47 : decode cX3_quarterTurn 47 = .ok (.aload_n 2, 1) := by decide +kernel
theorem dX3_quarterTurn_48 : decode cX3_quarterTurn 48 = .ok (.getfield 54, 3) := by decide +kernel
theorem dX3_quarterTurn_51 : decode cX3_quarterTurn 51 = .ok (.iconst 0, 1) := by decide +kernel
theorem dX3_quarterTurn_52 : decode cX3_quarterTurn 52 = .ok (.bipush 32, 2) := by decide +kernel
theorem dX3_quarterTurn_54 : decode cX3_quarterTurn 54 = .ok (.aload_n 2, 1) := by decide +kernel
theorem dX3_quarterTurn_55 : decode cX3_quarterTurn 55 = .ok (.getfield 50, 3) := by decide +kernel
theorem dX3_quarterTurn_58 : decode cX3_quarterTurn 58 = .ok (.iconst 1, 1) := by decide +kernel
theorem dX3_quarterTurn_59 : decode cX3_quarterTurn 59 = .ok (.iaload, 1) := by decide +kernel
theorem dX3_quarterTurn_60 : decode cX3_quarterTurn 60 = .ok (.isub, 1) := by decide +kernel
theorem dX3_quarterTurn_61 : decode cX3_quarterTurn 61 = .ok (.iastore, 1) := by decide +kernel
theorem dX3_quarterTurn_62 : decode cX3_quarterTurn 62 = .ok (.aload_n 2, 1) := by decide +kernel
theorem dX3_quarterTurn_63 : decode cX3_quarterTurn 63 = .ok (.getfield 50, 3) := by decide +kernel
theorem dX3_quarterTurn_66 : decode cX3_quarterTurn 66 = .ok (.iconst 1, 1) := by decide +kernel
theorem dX3_quarterTurn_67 : decode cX3_quarterTurn 67 = .ok (.iload_n 3, 1) := by decide +kernel
theorem dX3_quarterTurn_68 : decode cX3_quarterTurn 68 = .ok (.iastore, 1) := by decide +kernel
theorem dX3_quarterTurn_69 : decode cX3_quarterTurn 69 = .ok (.aload_n 2, 1) := by decide +kernel
theorem dX3_quarterTurn_70 : decode cX3_quarterTurn 70 = .ok (.getfield 54, 3) := by decide +kernel
theorem dX3_quarterTurn_73 : decode cX3_quarterTurn 73 = .ok (.iconst 1, 1) := by decide +kernel
theorem dX3_quarterTurn_74 : decode cX3_quarterTurn 74 = .ok (.iload 4, 2) := by decide +kernel
theorem dX3_quarterTurn_76 : decode cX3_quarterTurn 76 = .ok (.iastore, 1) := by decide +kernel
theorem dX3_quarterTurn_77 : decode cX3_quarterTurn 77 = .ok (.iinc 1 1, 3) := by decide +kernel
theorem dX3_quarterTurn_80 : decode cX3_quarterTurn 80 = .ok (.goto (-78), 3) := by decide +kernel
theorem dX3_quarterTurn_83 : decode cX3_quarterTurn 83 = .ok (.return_, 1) := by decide +kernel
set_option maxRecDepth 20000 in
theorem ggX3_weightInDrawing_X0_sumOfCorner : GoodIn wsX3_weightInDrawing wsX0_sumOfCorner := goodIn_r _ [7, 8, 23, 24, 25] (by decide +kernel) (by decide +kernel)
set_option maxRecDepth 20000 in
theorem gX3_weightInDrawing_X0_sumOfCorner : GoodIn wsX3_weightInDrawing (wsV RX3 57 RX0 yX0_sumOfCorner wsX0_sumOfCorner) := goodIn_app (goodIn_of _ (by decide +kernel)) ggX3_weightInDrawing_X0_sumOfCorner
set_option maxRecDepth 20000 in
theorem ggX3_weightInDrawing_X0_volume : GoodIn wsX3_weightInDrawing wsX0_volume := goodIn_r _ [12, 13, 14, 15, 6, 16, 17, 8, 23, 24, 25] (by decide +kernel) (by decide +kernel)
set_option maxRecDepth 20000 in
theorem gX3_weightInDrawing_X0_volume : GoodIn wsX3_weightInDrawing (wsV RX3 61 RX0 yX0_volume wsX0_volume) := goodIn_app (goodIn_of _ (by decide +kernel)) ggX3_weightInDrawing_X0_volume
theorem dX3_weightInDrawing_0 : decode cX3_weightInDrawing 0 = .ok (.aload_n 0, 1) := by decide +kernel
theorem dX3_weightInDrawing_1 : decode cX3_weightInDrawing 1 = .ok (.getfield 28, 3) := by decide +kernel
theorem dX3_weightInDrawing_4 : decode cX3_weightInDrawing 4 = .ok (.lookupswitch 48 #[(1, 28), (2, 38)], 28) := by decide +kernel
theorem dX3_weightInDrawing_32 : decode cX3_weightInDrawing 32 = .ok (.aload_n 0, 1) := by decide +kernel
theorem dX3_weightInDrawing_33 : decode cX3_weightInDrawing 33 = .ok (.getfield 11, 3) := by decide +kernel
theorem dX3_weightInDrawing_36 : decode cX3_weightInDrawing 36 = .ok (.iload_n 1, 1) := by decide +kernel
theorem dX3_weightInDrawing_37 : decode cX3_weightInDrawing 37 = .ok (.aaload, 1) := by decide +kernel
theorem dX3_weightInDrawing_38 : decode cX3_weightInDrawing 38 = .ok (.invokevirtual 57, 3) := by decide +kernel
theorem dX3_weightInDrawing_41 : decode cX3_weightInDrawing 41 = .ok (.ireturn, 1) := by decide +kernel
theorem dX3_weightInDrawing_42 : decode cX3_weightInDrawing 42 = .ok (.aload_n 0, 1) := by decide +kernel
theorem dX3_weightInDrawing_43 : decode cX3_weightInDrawing 43 = .ok (.getfield 11, 3) := by decide +kernel
theorem dX3_weightInDrawing_46 : decode cX3_weightInDrawing 46 = .ok (.iload_n 1, 1) := by decide +kernel
theorem dX3_weightInDrawing_47 : decode cX3_weightInDrawing 47 = .ok (.aaload, 1) := by decide +kernel
theorem dX3_weightInDrawing_48 : decode cX3_weightInDrawing 48 = .ok (.invokevirtual 61, 3) := by decide +kernel
theorem dX3_weightInDrawing_51 : decode cX3_weightInDrawing 51 = .ok (.ireturn, 1) := by decide +kernel
theorem dX3_weightInDrawing_52 : decode cX3_weightInDrawing 52 = .ok (.iconst 0, 1) := by decide +kernel
theorem dX3_weightInDrawing_53 : decode cX3_weightInDrawing 53 = .ok (.ireturn, 1) := by decide +kernel
set_option maxRecDepth 20000 in
theorem ggX3_volume_X0_volume : GoodIn wsX3_volume wsX0_volume := goodIn_r _ [7, 8, 9, 10, 6, 11, 12, 13, 19, 20, 21] (by decide +kernel) (by decide +kernel)
set_option maxRecDepth 20000 in
theorem gX3_volume_X0_volume : GoodIn wsX3_volume (wsV RX3 61 RX0 yX0_volume wsX0_volume) := goodIn_app (goodIn_of _ (by decide +kernel)) ggX3_volume_X0_volume
theorem dX3_volume_0 : decode cX3_volume 0 = .ok (.iconst 0, 1) := by decide +kernel
theorem dX3_volume_1 : decode cX3_volume 1 = .ok (.istore_n 1, 1) := by decide +kernel
theorem dX3_volume_2 : decode cX3_volume 2 = .ok (.iconst 0, 1) := by decide +kernel
theorem dX3_volume_3 : decode cX3_volume 3 = .ok (.istore_n 2, 1) := by decide +kernel
theorem dX3_volume_4 : decode cX3_volume 4 = .ok (.iload_n 2, 1) := by decide +kernel
theorem dX3_volume_5 : decode cX3_volume 5 = .ok (.aload_n 0, 1) := by decide +kernel
theorem dX3_volume_6 : decode cX3_volume 6 = .ok (.getfield 18, 3) := by decide +kernel
theorem dX3_volume_9 : decode cX3_volume 9 = .ok (.if_icmp .ge 21, 3) := by decide +kernel
theorem dX3_volume_12 : decode cX3_volume 12 = .ok (.iload_n 1, 1) := by decide +kernel
theorem dX3_volume_13 : decode cX3_volume 13 = .ok (.aload_n 0, 1) := by decide +kernel
theorem dX3_volume_14 : decode cX3_volume 14 = .ok (.getfield 11, 3) := by decide +kernel
theorem dX3_volume_17 : decode cX3_volume 17 = .ok (.iload_n 2, 1) := by decide +kernel
theorem dX3_volume_18 : decode cX3_volume 18 = .ok (.aaload, 1) := by decide +kernel
theorem dX3_volume_19 : decode cX3_volume 19 = .ok (.invokevirtual 61, 3) := by decide +kernel
theorem dX3_volume_22 : decode cX3_volume 22 = .ok (.iadd, 1) := by decide +kernel
theorem dX3_volume_23 : decode cX3_volume 23 = .ok (.istore_n 1, 1) := by decide +kernel
theorem dX3_volume_24 : decode cX3_volume 24 = .ok (.iinc 2 1, 3) := by decide +kernel
theorem dX3_volume_27 : decode cX3_volume 27 = .ok (.goto (-23), 3) := by decide +kernel
theorem dX3_volume_30 : decode cX3_volume 30 = .ok (.iload_n 1, 1) := by decide +kernel
theorem dX3_volume_31 : decode cX3_volume 31 = .ok (.ireturn, 1) := by decide +kernel
set_option maxRecDepth 20000 in
theorem ggX3_groundUnder_X0_isBelow : GoodIn wsX3_groundUnder wsX0_isBelow := goodIn_r _ [12, 13, 14, 15, 16, 17, 11, 18, 24, 25, 26] (by decide +kernel) (by decide +kernel)
set_option maxRecDepth 20000 in
theorem gX3_groundUnder_X0_isBelow : GoodIn wsX3_groundUnder (wsV RX3 64 RX0 yX0_isBelow wsX0_isBelow) := goodIn_app (goodIn_of _ (by decide +kernel)) ggX3_groundUnder_X0_isBelow
theorem dX3_groundUnder_0 : decode cX3_groundUnder 0 = .ok (.iconst 0, 1) := by decide +kernel
theorem dX3_groundUnder_1 : decode cX3_groundUnder 1 = .ok (.istore_n 2, 1) := by decide +kernel
theorem dX3_groundUnder_2 : decode cX3_groundUnder 2 = .ok (.iconst 0, 1) := by decide +kernel
theorem dX3_groundUnder_3 : decode cX3_groundUnder 3 = .ok (.istore_n 3, 1) := by decide +kernel
theorem dX3_groundUnder_4 : decode cX3_groundUnder 4 = .ok (.iload_n 3, 1) := by decide +kernel
theorem dX3_groundUnder_5 : decode cX3_groundUnder 5 = .ok (.aload_n 0, 1) := by decide +kernel
theorem dX3_groundUnder_6 : decode cX3_groundUnder 6 = .ok (.getfield 18, 3) := by decide +kernel
theorem dX3_groundUnder_9 : decode cX3_groundUnder 9 = .ok (.if_icmp .ge 43, 3) := by decide +kernel
theorem dX3_groundUnder_12 : decode cX3_groundUnder 12 = .ok (.aload_n 0, 1) := by decide +kernel
theorem dX3_groundUnder_13 : decode cX3_groundUnder 13 = .ok (.getfield 11, 3) := by decide +kernel
theorem dX3_groundUnder_16 : decode cX3_groundUnder 16 = .ok (.iload_n 3, 1) := by decide +kernel
theorem dX3_groundUnder_17 : decode cX3_groundUnder 17 = .ok (.aaload, 1) := by decide +kernel
theorem dX3_groundUnder_18 : decode cX3_groundUnder 18 = .ok (.aload_n 0, 1) := by decide +kernel
theorem dX3_groundUnder_19 : decode cX3_groundUnder 19 = .ok (.getfield 11, 3) := by decide +kernel
theorem dX3_groundUnder_22 : decode cX3_groundUnder 22 = .ok (.iload_n 1, 1) := by decide +kernel
theorem dX3_groundUnder_23 : decode cX3_groundUnder 23 = .ok (.aaload, 1) := by decide +kernel
theorem dX3_groundUnder_24 : decode cX3_groundUnder 24 = .ok (.invokevirtual 64, 3) := by decide +kernel
theorem dX3_groundUnder_27 : decode cX3_groundUnder 27 = .ok (.ifCond .eq 19, 3) := by decide +kernel
theorem dX3_groundUnder_30 : decode cX3_groundUnder 30 = .ok (.iload_n 2, 1) := by decide +kernel
theorem dX3_groundUnder_31 : decode cX3_groundUnder 31 = .ok (.aload_n 0, 1) := by decide +kernel
theorem dX3_groundUnder_32 : decode cX3_groundUnder 32 = .ok (.getfield 11, 3) := by decide +kernel
theorem dX3_groundUnder_35 : decode cX3_groundUnder 35 = .ok (.iload_n 3, 1) := by decide +kernel
theorem dX3_groundUnder_36 : decode cX3_groundUnder 36 = .ok (.aaload, 1) := by decide +kernel
theorem dX3_groundUnder_37 : decode cX3_groundUnder 37 = .ok (.getfield 54, 3) := by decide +kernel
theorem dX3_groundUnder_40 : decode cX3_groundUnder 40 = .ok (.iconst 2, 1) := by decide +kernel
theorem dX3_groundUnder_41 : decode cX3_groundUnder 41 = .ok (.iaload, 1) := by decide +kernel
theorem dX3_groundUnder_42 : decode cX3_groundUnder 42 = .ok (.invokestatic 67, 3) := by decide +kernel
theorem dX3_groundUnder_45 : decode cX3_groundUnder 45 = .ok (.istore_n 2, 1) := by decide +kernel
theorem dX3_groundUnder_46 : decode cX3_groundUnder 46 = .ok (.iinc 3 1, 3) := by decide +kernel
theorem dX3_groundUnder_49 : decode cX3_groundUnder 49 = .ok (.goto (-45), 3) := by decide +kernel
theorem dX3_groundUnder_52 : decode cX3_groundUnder 52 = .ok (.iload_n 2, 1) := by decide +kernel
theorem dX3_groundUnder_53 : decode cX3_groundUnder 53 = .ok (.ireturn, 1) := by decide +kernel
set_option maxRecDepth 20000 in
theorem ggX3_boxesBelow_X0_isBelow : GoodIn wsX3_boxesBelow wsX0_isBelow := goodIn_r _ [7, 8, 9, 10, 11, 12, 6, 13, 19, 20, 21] (by decide +kernel) (by decide +kernel)
set_option maxRecDepth 20000 in
theorem gX3_boxesBelow_X0_isBelow : GoodIn wsX3_boxesBelow (wsV RX3 64 RX0 yX0_isBelow wsX0_isBelow) := goodIn_app (goodIn_of _ (by decide +kernel)) ggX3_boxesBelow_X0_isBelow
theorem dX3_boxesBelow_0 : decode cX3_boxesBelow 0 = .ok (.iconst 0, 1) := by decide +kernel
theorem dX3_boxesBelow_1 : decode cX3_boxesBelow 1 = .ok (.istore_n 2, 1) := by decide +kernel
theorem dX3_boxesBelow_2 : decode cX3_boxesBelow 2 = .ok (.iconst 0, 1) := by decide +kernel
theorem dX3_boxesBelow_3 : decode cX3_boxesBelow 3 = .ok (.istore_n 3, 1) := by decide +kernel
theorem dX3_boxesBelow_4 : decode cX3_boxesBelow 4 = .ok (.iload_n 3, 1) := by decide +kernel
theorem dX3_boxesBelow_5 : decode cX3_boxesBelow 5 = .ok (.aload_n 0, 1) := by decide +kernel
theorem dX3_boxesBelow_6 : decode cX3_boxesBelow 6 = .ok (.getfield 18, 3) := by decide +kernel
theorem dX3_boxesBelow_9 : decode cX3_boxesBelow 9 = .ok (.if_icmp .ge 30, 3) := by decide +kernel
theorem dX3_boxesBelow_12 : decode cX3_boxesBelow 12 = .ok (.aload_n 0, 1) := by decide +kernel
theorem dX3_boxesBelow_13 : decode cX3_boxesBelow 13 = .ok (.getfield 11, 3) := by decide +kernel
theorem dX3_boxesBelow_16 : decode cX3_boxesBelow 16 = .ok (.iload_n 3, 1) := by decide +kernel
theorem dX3_boxesBelow_17 : decode cX3_boxesBelow 17 = .ok (.aaload, 1) := by decide +kernel
theorem dX3_boxesBelow_18 : decode cX3_boxesBelow 18 = .ok (.aload_n 0, 1) := by decide +kernel
theorem dX3_boxesBelow_19 : decode cX3_boxesBelow 19 = .ok (.getfield 11, 3) := by decide +kernel
theorem dX3_boxesBelow_22 : decode cX3_boxesBelow 22 = .ok (.iload_n 1, 1) := by decide +kernel
theorem dX3_boxesBelow_23 : decode cX3_boxesBelow 23 = .ok (.aaload, 1) := by decide +kernel
theorem dX3_boxesBelow_24 : decode cX3_boxesBelow 24 = .ok (.invokevirtual 64, 3) := by decide +kernel
theorem dX3_boxesBelow_27 : decode cX3_boxesBelow 27 = .ok (.ifCond .eq 6, 3) := by decide +kernel
theorem dX3_boxesBelow_30 : decode cX3_boxesBelow 30 = .ok (.iinc 2 1, 3) := by decide +kernel
theorem dX3_boxesBelow_33 : decode cX3_boxesBelow 33 = .ok (.iinc 3 1, 3) := by decide +kernel
theorem dX3_boxesBelow_36 : decode cX3_boxesBelow 36 = .ok (.goto (-32), 3) := by decide +kernel
theorem dX3_boxesBelow_39 : decode cX3_boxesBelow 39 = .ok (.iload_n 2, 1) := by decide +kernel
theorem dX3_boxesBelow_40 : decode cX3_boxesBelow 40 = .ok (.ireturn, 1) := by decide +kernel
set_option maxRecDepth 20000 in
theorem ggX3_supportsOf_X0_isBelow : GoodIn wsX3_supportsOf wsX0_isBelow := goodIn_r _ [9, 10, 11, 12, 13, 14, 8, 15, 21, 22, 23] (by decide +kernel) (by decide +kernel)
set_option maxRecDepth 20000 in
theorem gX3_supportsOf_X0_isBelow : GoodIn wsX3_supportsOf (wsV RX3 64 RX0 yX0_isBelow wsX0_isBelow) := goodIn_app (goodIn_of _ (by decide +kernel)) ggX3_supportsOf_X0_isBelow
theorem dX3_supportsOf_0 : decode cX3_supportsOf 0 = .ok (.aload_n 0, 1) := by decide +kernel
theorem dX3_supportsOf_1 : decode cX3_supportsOf 1 = .ok (.getfield 11, 3) := by decide +kernel
theorem dX3_supportsOf_4 : decode cX3_supportsOf 4 = .ok (.iload_n 1, 1) := by decide +kernel
theorem dX3_supportsOf_5 : decode cX3_supportsOf 5 = .ok (.aaload, 1) := by decide +kernel
theorem dX3_supportsOf_6 : decode cX3_supportsOf 6 = .ok (.astore_n 2, 1) := by decide +kernel
theorem dX3_supportsOf_7 : decode cX3_supportsOf 7 = .ok (.iconst 0, 1) := by decide +kernel
theorem dX3_supportsOf_8 : decode cX3_supportsOf 8 = .ok (.istore_n 3, 1) := by decide +kernel
theorem dX3_supportsOf_9 : decode cX3_supportsOf 9 = .ok (.iconst 0, 1) := by decide +kernel
theorem dX3_supportsOf_10 : decode cX3_supportsOf 10 = .ok (.istore 4, 2) := by decide +kernel
theorem dX3_supportsOf_12 : decode cX3_supportsOf 12 = .ok (.iload 4, 2) := by decide +kernel
theorem dX3_supportsOf_14 : decode cX3_supportsOf 14 = .ok (.aload_n 0, 1) := by decide +kernel
theorem dX3_supportsOf_15 : decode cX3_supportsOf 15 = .ok (.getfield 18, 3) := by decide +kernel
theorem dX3_supportsOf_18 : decode cX3_supportsOf 18 = .ok (.if_icmp .ge 47, 3) := by decide +kernel
theorem dX3_supportsOf_21 : decode cX3_supportsOf 21 = .ok (.aload_n 0, 1) := by decide +kernel
theorem dX3_supportsOf_22 : decode cX3_supportsOf 22 = .ok (.getfield 11, 3) := by decide +kernel
theorem dX3_supportsOf_25 : decode cX3_supportsOf 25 = .ok (.iload 4, 2) := by decide +kernel
theorem dX3_supportsOf_27 : decode cX3_supportsOf 27 = .ok (.aaload, 1) := by decide +kernel
theorem dX3_supportsOf_28 : decode cX3_supportsOf 28 = .ok (.aload_n 2, 1) := by decide +kernel
theorem dX3_supportsOf_29 : decode cX3_supportsOf 29 = .ok (.invokevirtual 64, 3) := by decide +kernel
theorem dX3_supportsOf_32 : decode cX3_supportsOf 32 = .ok (.ifCond .eq 27, 3) := by decide +kernel
theorem dX3_supportsOf_35 : decode cX3_supportsOf 35 = .ok (.aload_n 0, 1) := by decide +kernel
theorem dX3_supportsOf_36 : decode cX3_supportsOf 36 = .ok (.getfield 11, 3) := by decide +kernel
theorem dX3_supportsOf_39 : decode cX3_supportsOf 39 = .ok (.iload 4, 2) := by decide +kernel
theorem dX3_supportsOf_41 : decode cX3_supportsOf 41 = .ok (.aaload, 1) := by decide +kernel
theorem dX3_supportsOf_42 : decode cX3_supportsOf 42 = .ok (.getfield 54, 3) := by decide +kernel
theorem dX3_supportsOf_45 : decode cX3_supportsOf 45 = .ok (.iconst 2, 1) := by decide +kernel
theorem dX3_supportsOf_46 : decode cX3_supportsOf 46 = .ok (.iaload, 1) := by decide +kernel
theorem dX3_supportsOf_47 : decode cX3_supportsOf 47 = .ok (.aload_n 2, 1) := by decide +kernel
theorem dX3_supportsOf_48 : decode cX3_supportsOf 48 = .ok (.getfield 50, 3) := by decide +kernel
theorem dX3_supportsOf_51 : decode cX3_supportsOf 51 = .ok (.iconst 2, 1) := by decide +kernel
theorem dX3_supportsOf_52 : decode cX3_supportsOf 52 = .ok (.iaload, 1) := by decide +kernel
theorem dX3_supportsOf_53 : decode cX3_supportsOf 53 = .ok (.if_icmp .ne 6, 3) := by decide +kernel
theorem dX3_supportsOf_56 : decode cX3_supportsOf 56 = .ok (.iinc 3 1, 3) := by decide +kernel
theorem dX3_supportsOf_59 : decode cX3_supportsOf 59 = .ok (.iinc 4 1, 3) := by decide +kernel
theorem dX3_supportsOf_62 : decode cX3_supportsOf 62 = .ok (.goto (-50), 3) := by decide +kernel
theorem dX3_supportsOf_65 : decode cX3_supportsOf 65 = .ok (.iload_n 3, 1) := by decide +kernel
theorem dX3_supportsOf_66 : decode cX3_supportsOf 66 = .ok (.ireturn, 1) := by decide +kernel
set_option maxRecDepth 20000 in
theorem ggX3_shadowOn_X0_isBelow : GoodIn wsX3_shadowOn wsX0_isBelow := goodIn_r _ [9, 10, 11, 12, 13, 14, 8, 15, 40, 41, 42] (by decide +kernel) (by decide +kernel)
set_option maxRecDepth 20000 in
theorem gX3_shadowOn_X0_isBelow : GoodIn wsX3_shadowOn (wsV RX3 64 RX0 yX0_isBelow wsX0_isBelow) := goodIn_app (goodIn_of _ (by decide +kernel)) ggX3_shadowOn_X0_isBelow
set_option maxRecDepth 20000 in
theorem ggX3_shadowOn_X0_coversRow : GoodIn wsX3_shadowOn wsX0_coversRow := goodIn_r _ [19, 11, 10, 40, 41, 42] (by decide +kernel) (by decide +kernel)
set_option maxRecDepth 20000 in
theorem gX3_shadowOn_X0_coversRow : GoodIn wsX3_shadowOn (wsV RX3 73 RX0 yX0_coversRow wsX0_coversRow) := goodIn_app (goodIn_of _ (by decide +kernel)) ggX3_shadowOn_X0_coversRow
set_option maxRecDepth 20000 in
theorem ggX3_shadowOn_X0_rowOfCells : GoodIn wsX3_shadowOn wsX0_rowOfCells := goodIn_r _ [23, 11, 24, 25, 26, 8, 27, 10, 40, 41, 42] (by decide +kernel) (by decide +kernel)
set_option maxRecDepth 20000 in
theorem gX3_shadowOn_X0_rowOfCells : GoodIn wsX3_shadowOn (wsV RX3 77 RX0 yX0_rowOfCells wsX0_rowOfCells) := goodIn_app (goodIn_of _ (by decide +kernel)) ggX3_shadowOn_X0_rowOfCells
set_option maxRecDepth 20000 in
theorem ggX3_shadowOn_J6_bitCount_0f7a4 : GoodIn wsX3_shadowOn wsJ6_bitCount_0f7a4 := goodIn_r _ [31, 32, 33, 34] (by decide +kernel) (by decide +kernel)
set_option maxRecDepth 20000 in
theorem gX3_shadowOn_J6_bitCount_0f7a4 : GoodIn wsX3_shadowOn (va_wsS RX3 80 yJ6_bitCount_0f7a4 wsJ6_bitCount_0f7a4) := goodIn_app (goodIn_of _ (by decide +kernel)) ggX3_shadowOn_J6_bitCount_0f7a4
theorem dX3_shadowOn_0 : decode cX3_shadowOn 0 = .ok (.aload_n 0, 1) := by decide +kernel
theorem dX3_shadowOn_1 : decode cX3_shadowOn 1 = .ok (.getfield 11, 3) := by decide +kernel
theorem dX3_shadowOn_4 : decode cX3_shadowOn 4 = .ok (.iload_n 1, 1) := by decide +kernel
theorem dX3_shadowOn_5 : decode cX3_shadowOn 5 = .ok (.aaload, 1) := by decide +kernel
theorem dX3_shadowOn_6 : decode cX3_shadowOn 6 = .ok (.astore_n 2, 1) := by decide +kernel
theorem dX3_shadowOn_7 : decode cX3_shadowOn 7 = .ok (.iconst 0, 1) := by decide +kernel
theorem dX3_shadowOn_8 : decode cX3_shadowOn 8 = .ok (.istore_n 3, 1) := by decide +kernel
theorem dX3_shadowOn_9 : decode cX3_shadowOn 9 = .ok (.aload_n 2, 1) := by decide +kernel
theorem dX3_shadowOn_10 : decode cX3_shadowOn 10 = .ok (.getfield 50, 3) := by decide +kernel
theorem dX3_shadowOn_13 : decode cX3_shadowOn 13 = .ok (.iconst 1, 1) := by decide +kernel
theorem dX3_shadowOn_14 : decode cX3_shadowOn 14 = .ok (.iaload, 1) := by decide +kernel
theorem dX3_shadowOn_15 : decode cX3_shadowOn 15 = .ok (.istore 4, 2) := by decide +kernel
theorem dX3_shadowOn_17 : decode cX3_shadowOn 17 = .ok (.iload 4, 2) := by decide +kernel
theorem dX3_shadowOn_19 : decode cX3_shadowOn 19 = .ok (.aload_n 2, 1) := by decide +kernel
theorem dX3_shadowOn_20 : decode cX3_shadowOn 20 = .ok (.getfield 54, 3) := by decide +kernel
theorem dX3_shadowOn_23 : decode cX3_shadowOn 23 = .ok (.iconst 1, 1) := by decide +kernel
theorem dX3_shadowOn_24 : decode cX3_shadowOn 24 = .ok (.iaload, 1) := by decide +kernel
theorem dX3_shadowOn_25 : decode cX3_shadowOn 25 = .ok (.if_icmp .ge 87, 3) := by decide +kernel
theorem dX3_shadowOn_28 : decode cX3_shadowOn 28 = .ok (.iconst 0, 1) := by decide +kernel
theorem dX3_shadowOn_29 : decode cX3_shadowOn 29 = .ok (.istore 5, 2) := by decide +kernel
theorem dX3_shadowOn_31 : decode cX3_shadowOn 31 = .ok (.iconst 0, 1) := by decide +kernel
theorem dX3_shadowOn_32 : decode cX3_shadowOn 32 = .ok (.istore 6, 2) := by decide +kernel
theorem dX3_shadowOn_34 : decode cX3_shadowOn 34 = .ok (.iload 6, 2) := by decide +kernel
theorem dX3_shadowOn_36 : decode cX3_shadowOn 36 = .ok (.aload_n 0, 1) := by decide +kernel
theorem dX3_shadowOn_37 : decode cX3_shadowOn 37 = .ok (.getfield 18, 3) := by decide +kernel
theorem dX3_shadowOn_40 : decode cX3_shadowOn 40 = .ok (.if_icmp .ge 53, 3) := by decide +kernel
theorem dX3_shadowOn_43 : decode cX3_shadowOn 43 = .ok (.aload_n 2, 1) := by decide +kernel
theorem dX3_shadowOn_44 : decode cX3_shadowOn 44 = .ok (.aload_n 0, 1) := by decide +kernel
theorem dX3_shadowOn_45 : decode cX3_shadowOn 45 = .ok (.getfield 11, 3) := by decide +kernel
theorem dX3_shadowOn_48 : decode cX3_shadowOn 48 = .ok (.iload 6, 2) := by decide +kernel
theorem dX3_shadowOn_50 : decode cX3_shadowOn 50 = .ok (.aaload, 1) := by decide +kernel
theorem dX3_shadowOn_51 : decode cX3_shadowOn 51 = .ok (.invokevirtual 64, 3) := by decide +kernel
theorem dX3_shadowOn_54 : decode cX3_shadowOn 54 = .ok (.ifCond .eq 33, 3) := by decide +kernel
theorem dX3_shadowOn_57 : decode cX3_shadowOn 57 = .ok (.aload_n 0, 1) := by decide +kernel
theorem dX3_shadowOn_58 : decode cX3_shadowOn 58 = .ok (.getfield 11, 3) := by decide +kernel
theorem dX3_shadowOn_61 : decode cX3_shadowOn 61 = .ok (.iload 6, 2) := by decide +kernel
theorem dX3_shadowOn_63 : decode cX3_shadowOn 63 = .ok (.aaload, 1) := by decide +kernel
theorem dX3_shadowOn_64 : decode cX3_shadowOn 64 = .ok (.iload 4, 2) := by decide +kernel
theorem dX3_shadowOn_66 : decode cX3_shadowOn 66 = .ok (.invokevirtual 73, 3) := by decide +kernel
theorem dX3_shadowOn_69 : decode cX3_shadowOn 69 = .ok (.ifCond .eq 18, 3) := by decide +kernel
theorem dX3_shadowOn_72 : decode cX3_shadowOn 72 = .ok (.iload 5, 2) := by decide +kernel
theorem dX3_shadowOn_74 : decode cX3_shadowOn 74 = .ok (.aload_n 0, 1) := by decide +kernel
theorem dX3_shadowOn_75 : decode cX3_shadowOn 75 = .ok (.getfield 11, 3) := by decide +kernel
theorem dX3_shadowOn_78 : decode cX3_shadowOn 78 = .ok (.iload 6, 2) := by decide +kernel
theorem dX3_shadowOn_80 : decode cX3_shadowOn 80 = .ok (.aaload, 1) := by decide +kernel
theorem dX3_shadowOn_81 : decode cX3_shadowOn 81 = .ok (.invokevirtual 77, 3) := by decide +kernel
theorem dX3_shadowOn_84 : decode cX3_shadowOn 84 = .ok (.ior, 1) := by decide +kernel
theorem dX3_shadowOn_85 : decode cX3_shadowOn 85 = .ok (.istore 5, 2) := by decide +kernel
theorem dX3_shadowOn_87 : decode cX3_shadowOn 87 = .ok (.iinc 6 1, 3) := by decide +kernel
theorem dX3_shadowOn_90 : decode cX3_shadowOn 90 = .ok (.goto (-56), 3) := by decide +kernel
theorem dX3_shadowOn_93 : decode cX3_shadowOn 93 = .ok (.iload_n 3, 1) := by decide +kernel
theorem dX3_shadowOn_94 : decode cX3_shadowOn 94 = .ok (.iload 5, 2) := by decide +kernel
theorem dX3_shadowOn_96 : decode cX3_shadowOn 96 = .ok (.aload_n 2, 1) := by decide +kernel
theorem dX3_shadowOn_97 : decode cX3_shadowOn 97 = .ok (.invokevirtual 77, 3) := by decide +kernel
theorem dX3_shadowOn_100 : decode cX3_shadowOn 100 = .ok (.iand, 1) := by decide +kernel
theorem dX3_shadowOn_101 : decode cX3_shadowOn 101 = .ok (.invokestatic 80, 3) := by decide +kernel
theorem dX3_shadowOn_104 : decode cX3_shadowOn 104 = .ok (.iadd, 1) := by decide +kernel
theorem dX3_shadowOn_105 : decode cX3_shadowOn 105 = .ok (.istore_n 3, 1) := by decide +kernel
theorem dX3_shadowOn_106 : decode cX3_shadowOn 106 = .ok (.iinc 4 1, 3) := by decide +kernel
theorem dX3_shadowOn_109 : decode cX3_shadowOn 109 = .ok (.goto (-92), 3) := by decide +kernel
theorem dX3_shadowOn_112 : decode cX3_shadowOn 112 = .ok (.iload_n 3, 1) := by decide +kernel
theorem dX3_shadowOn_113 : decode cX3_shadowOn 113 = .ok (.ireturn, 1) := by decide +kernel
set_option maxRecDepth 20000 in
theorem ggX3_shadow_X3_shadowOn : GoodIn wsX3_shadow wsX3_shadowOn := goodIn_r _ [6, 7, 8, 9, 1, 10, 11, 12, 13, 14, 15, 16, 17, 18, 19, 20, 21, 22, 23, 24, 25, 26, 27, 28, 29, 30, 31, 32, 33, 34, 35, 36, 37, 38, 39, 40, 41, 42, 43, 44, 45, 46, 47] (by decide +kernel) (by decide +kernel)
set_option maxRecDepth 20000 in
theorem gX3_shadow_X3_shadowOn : GoodIn wsX3_shadow (wsV RX3 86 RX3 yX3_shadowOn wsX3_shadowOn) := goodIn_app (goodIn_of _ (by decide +kernel)) ggX3_shadow_X3_shadowOn
theorem dX3_shadow_0 : decode cX3_shadow 0 = .ok (.iconst 0, 1) := by decide +kernel
theorem dX3_shadow_1 : decode cX3_shadow 1 = .ok (.istore_n 1, 1) := by decide +kernel
theorem dX3_shadow_2 : decode cX3_shadow 2 = .ok (.iconst 0, 1) := by decide +kernel
theorem dX3_shadow_3 : decode cX3_shadow 3 = .ok (.istore_n 2, 1) := by decide +kernel
theorem dX3_shadow_4 : decode cX3_shadow 4 = .ok (.iload_n 2, 1) := by decide +kernel
theorem dX3_shadow_5 : decode cX3_shadow 5 = .ok (.aload_n 0, 1) := by decide +kernel
theorem dX3_shadow_6 : decode cX3_shadow 6 = .ok (.getfield 18, 3) := by decide +kernel
theorem dX3_shadow_9 : decode cX3_shadow 9 = .ok (.if_icmp .ge 17, 3) := by decide +kernel
theorem dX3_shadow_12 : decode cX3_shadow 12 = .ok (.iload_n 1, 1) := by decide +kernel
theorem dX3_shadow_13 : decode cX3_shadow 13 = .ok (.aload_n 0, 1) := by decide +kernel
theorem dX3_shadow_14 : decode cX3_shadow 14 = .ok (.iload_n 2, 1) := by decide +kernel
theorem dX3_shadow_15 : decode cX3_shadow 15 = .ok (.invokevirtual 86, 3) := by decide +kernel
theorem dX3_shadow_18 : decode cX3_shadow 18 = .ok (.iadd, 1) := by decide +kernel
theorem dX3_shadow_19 : decode cX3_shadow 19 = .ok (.istore_n 1, 1) := by decide +kernel
theorem dX3_shadow_20 : decode cX3_shadow 20 = .ok (.iinc 2 1, 3) := by decide +kernel
theorem dX3_shadow_23 : decode cX3_shadow 23 = .ok (.goto (-19), 3) := by decide +kernel
theorem dX3_shadow_26 : decode cX3_shadow 26 = .ok (.iload_n 1, 1) := by decide +kernel
theorem dX3_shadow_27 : decode cX3_shadow 27 = .ok (.ireturn, 1) := by decide +kernel
theorem dX4_init_0 : decode cX4_init 0 = .ok (.aload_n 0, 1) := by decide +kernel
theorem dX4_init_1 : decode cX4_init 1 = .ok (.invokespecial 3, 3) := by decide +kernel
theorem dX4_init_4 : decode cX4_init 4 = .ok (.aload_n 0, 1) := by decide +kernel
theorem dX4_init_5 : decode cX4_init 5 = .ok (.bipush 80, 2) := by decide +kernel
theorem dX4_init_7 : decode cX4_init 7 = .ok (.newarray .char, 2) := by decide +kernel
theorem dX4_init_9 : decode cX4_init 9 = .ok (.putfield 9, 3) := by decide +kernel
theorem dX4_init_12 : decode cX4_init 12 = .ok (.aload_n 0, 1) := by decide +kernel
theorem dX4_init_13 : decode cX4_init 13 = .ok (.bipush 41, 2) := by decide +kernel
theorem dX4_init_15 : decode cX4_init 15 = .ok (.newarray .int, 2) := by decide +kernel
theorem dX4_init_17 : decode cX4_init 17 = .ok (.putfield 15, 3) := by decide +kernel
theorem dX4_init_20 : decode cX4_init 20 = .ok (.return_, 1) := by decide +kernel
set_option maxRecDepth 20000 in
theorem ggX5_init_X3_init : GoodIn wsX5_init wsX3_init := goodIn_r _ [30, 31, 2, 3, 32, 33, 24, 25, 34, 35, 36, 37, 38, 39, 60, 61, 62, 63, 64, 87, 88, 89] (by decide +kernel) (by decide +kernel)
set_option maxRecDepth 20000 in
theorem gX5_init_X3_init : GoodIn wsX5_init (wsX3_init) := ggX5_init_X3_init
set_option maxRecDepth 20000 in
theorem ggX5_init_X1_init : GoodIn wsX5_init wsX1_init := goodIn_r _ [42, 43, 2, 3, 44, 45, 5, 6, 46, 29, 30, 31, 32, 33, 24, 25, 34, 35, 36, 37, 38, 39, 74, 75, 60, 61, 62, 63, 64, 87, 88, 89] (by decide +kernel) (by decide +kernel)
set_option maxRecDepth 20000 in
theorem gX5_init_X1_init : GoodIn wsX5_init (wsX1_init) := ggX5_init_X1_init
set_option maxRecDepth 20000 in
theorem ggX5_init_X4_init : GoodIn wsX5_init wsX4_init := goodIn_r _ [48, 49, 2, 3, 50, 51, 37, 52, 76, 77, 78, 79] (by decide +kernel) (by decide +kernel)
set_option maxRecDepth 20000 in
theorem gX5_init_X4_init_n31 : GoodIn wsX5_init (wsX4_init) := ggX5_init_X4_init
set_option maxRecDepth 20000 in
theorem ggX5_init_X2_init : GoodIn wsX5_init wsX2_init := goodIn_r _ [54, 55, 2, 3, 37, 56, 57, 58, 59, 80, 81, 82, 83, 84, 85, 86] (by decide +kernel) (by decide +kernel)
set_option maxRecDepth 20000 in
theorem gX5_init_X2_init_n38 : GoodIn wsX5_init (wsX2_init) := ggX5_init_X2_init
set_option maxRecDepth 20000 in
theorem ggX5_init_X0_init : GoodIn wsX5_init wsX0_init := goodIn_r _ [35, 36, 2, 3, 37, 38, 39, 87, 88, 89] (by decide +kernel) (by decide +kernel)
set_option maxRecDepth 20000 in
theorem gX5_init_X0_init_n48 : GoodIn wsX5_init (wsX0_init) := ggX5_init_X0_init
theorem dX5_init_0 : decode cX5_init 0 = .ok (.aload_n 0, 1) := by decide +kernel
theorem dX5_init_1 : decode cX5_init 1 = .ok (.invokespecial 1, 3) := by decide +kernel
theorem dX5_init_4 : decode cX5_init 4 = .ok (.aload_n 0, 1) := by decide +kernel
theorem dX5_init_5 : decode cX5_init 5 = .ok (.new 7, 3) := by decide +kernel
theorem dX5_init_8 : decode cX5_init 8 = .ok (.dup, 1) := by decide +kernel
theorem dX5_init_9 : decode cX5_init 9 = .ok (.invokespecial 9, 3) := by decide +kernel
theorem dX5_init_12 : decode cX5_init 12 = .ok (.putfield 10, 3) := by decide +kernel
theorem dX5_init_15 : decode cX5_init 15 = .ok (.aload_n 0, 1) := by decide +kernel
theorem dX5_init_16 : decode cX5_init 16 = .ok (.new 7, 3) := by decide +kernel
theorem dX5_init_19 : decode cX5_init 19 = .ok (.dup, 1) := by decide +kernel
theorem dX5_init_20 : decode cX5_init 20 = .ok (.invokespecial 9, 3) := by decide +kernel
theorem dX5_init_23 : decode cX5_init 23 = .ok (.putfield 16, 3) := by decide +kernel
theorem dX5_init_26 : decode cX5_init 26 = .ok (.aload_n 0, 1) := by decide +kernel
theorem dX5_init_27 : decode cX5_init 27 = .ok (.new 7, 3) := by decide +kernel
theorem dX5_init_30 : decode cX5_init 30 = .ok (.dup, 1) := by decide +kernel
theorem dX5_init_31 : decode cX5_init 31 = .ok (.invokespecial 9, 3) := by decide +kernel
theorem dX5_init_34 : decode cX5_init 34 = .ok (.putfield 19, 3) := by decide +kernel
theorem dX5_init_37 : decode cX5_init 37 = .ok (.aload_n 0, 1) := by decide +kernel
theorem dX5_init_38 : decode cX5_init 38 = .ok (.new 22, 3) := by decide +kernel
theorem dX5_init_41 : decode cX5_init 41 = .ok (.dup, 1) := by decide +kernel
theorem dX5_init_42 : decode cX5_init 42 = .ok (.invokespecial 24, 3) := by decide +kernel
theorem dX5_init_45 : decode cX5_init 45 = .ok (.putfield 25, 3) := by decide +kernel
theorem dX5_init_48 : decode cX5_init 48 = .ok (.aload_n 0, 1) := by decide +kernel
theorem dX5_init_49 : decode cX5_init 49 = .ok (.new 29, 3) := by decide +kernel
theorem dX5_init_52 : decode cX5_init 52 = .ok (.dup, 1) := by decide +kernel
theorem dX5_init_53 : decode cX5_init 53 = .ok (.invokespecial 31, 3) := by decide +kernel
theorem dX5_init_56 : decode cX5_init 56 = .ok (.putfield 32, 3) := by decide +kernel
theorem dX5_init_59 : decode cX5_init 59 = .ok (.aload_n 0, 1) := by decide +kernel
theorem dX5_init_60 : decode cX5_init 60 = .ok (.new 36, 3) := by decide +kernel
theorem dX5_init_63 : decode cX5_init 63 = .ok (.dup, 1) := by decide +kernel
theorem dX5_init_64 : decode cX5_init 64 = .ok (.invokespecial 38, 3) := by decide +kernel
theorem dX5_init_67 : decode cX5_init 67 = .ok (.putfield 39, 3) := by decide +kernel
theorem dX5_init_70 : decode cX5_init 70 = .ok (.aload_n 0, 1) := by decide +kernel
theorem dX5_init_71 : decode cX5_init 71 = .ok (.new 36, 3) := by decide +kernel
theorem dX5_init_74 : decode cX5_init 74 = .ok (.dup, 1) := by decide +kernel
theorem dX5_init_75 : decode cX5_init 75 = .ok (.invokespecial 38, 3) := by decide +kernel
theorem dX5_init_78 : decode cX5_init 78 = .ok (.putfield 43, 3) := by decide +kernel
theorem dX5_init_81 : decode cX5_init 81 = .ok (.aload_n 0, 1) := by decide +kernel
theorem dX5_init_82 : decode cX5_init 82 = .ok (.new 46, 3) := by decide +kernel
theorem dX5_init_85 : decode cX5_init 85 = .ok (.dup, 1) := by decide +kernel
theorem dX5_init_86 : decode cX5_init 86 = .ok (.invokespecial 48, 3) := by decide +kernel
theorem dX5_init_89 : decode cX5_init 89 = .ok (.putfield 49, 3) := by decide +kernel
theorem dX5_init_92 : decode cX5_init 92 = .ok (.aload_n 0, 1) := by decide +kernel
theorem dX5_init_93 : decode cX5_init 93 = .ok (.iconst 0, 1) := by decide +kernel
theorem dX5_init_94 : decode cX5_init 94 = .ok (.putfield 53, 3) := by decide +kernel
theorem dX5_init_97 : decode cX5_init 97 = .ok (.return_, 1) := by decide +kernel
set_option maxRecDepth 20000 in
theorem ggX5_add_X3_copyFrom : GoodIn wsX5_add wsX3_copyFrom := goodIn_r _ [7, 8, 9, 10, 11, 12, 13, 14, 15, 16, 17, 18, 19, 20, 21, 22, 23, 24, 83, 84, 85, 86, 87, 88, 89, 90] (by decide +kernel) (by decide +kernel)
set_option maxRecDepth 20000 in
theorem gX5_add_X3_copyFrom : GoodIn wsX5_add (wsV RX5 57 RX3 yX3_copyFrom wsX3_copyFrom) := goodIn_app (goodIn_of _ (by decide +kernel)) ggX5_add_X3_copyFrom
set_option maxRecDepth 20000 in
theorem ggX5_add_X5_enter : GoodIn wsX5_add wsX5_enter := goodIn_r _ [29, 30, 31, 32, 33, 16, 34, 19, 24, 35, 36, 37, 6, 38, 8, 12, 39, 40, 41, 42, 43, 44, 45, 46, 47, 48, 49, 50, 51, 52, 53, 54, 9, 55, 56, 13, 14, 15, 17, 18, 20, 21, 22, 23, 74, 75, 76, 77, 78, 79, 80, 81, 82, 88, 89, 90, 83, 84, 85, 86, 87] (by decide +kernel) (by decide +kernel)
set_option maxRecDepth 20000 in
theorem gX5_add_X5_enter : GoodIn wsX5_add (wsV RX5 61 RX5 yX5_enter wsX5_enter) := goodIn_app (goodIn_of _ (by decide +kernel)) ggX5_add_X5_enter
set_option maxRecDepth 20000 in
theorem ggX5_add_X5_adoptTrial : GoodIn wsX5_add wsX5_adoptTrial := goodIn_r _ [60, 61, 2, 1, 62, 63, 64, 65, 66, 67, 68, 69, 70, 71, 72, 73, 4, 5, 6, 7, 8, 9, 10, 11, 12, 13, 14, 15, 16, 17, 18, 19, 20, 21, 22, 23, 24, 3, 74, 75, 76, 77, 78, 79, 80, 81, 82, 91, 92, 83, 84, 85, 86, 87, 88, 89, 90] (by decide +kernel) (by decide +kernel)
set_option maxRecDepth 20000 in
theorem gX5_add_X5_adoptTrial : GoodIn wsX5_add (wsV RX5 65 RX5 yX5_adoptTrial wsX5_adoptTrial) := goodIn_app (goodIn_of _ (by decide +kernel)) ggX5_add_X5_adoptTrial
theorem dX5_add_0 : decode cX5_add 0 = .ok (.aload_n 0, 1) := by decide +kernel
theorem dX5_add_1 : decode cX5_add 1 = .ok (.getfield 16, 3) := by decide +kernel
theorem dX5_add_4 : decode cX5_add 4 = .ok (.aload_n 0, 1) := by decide +kernel
theorem dX5_add_5 : decode cX5_add 5 = .ok (.getfield 10, 3) := by decide +kernel
theorem dX5_add_8 : decode cX5_add 8 = .ok (.invokevirtual 57, 3) := by decide +kernel
theorem dX5_add_11 : decode cX5_add 11 = .ok (.aload_n 0, 1) := by decide +kernel
theorem dX5_add_12 : decode cX5_add 12 = .ok (.aload_n 0, 1) := by decide +kernel
theorem dX5_add_13 : decode cX5_add 13 = .ok (.getfield 16, 3) := by decide +kernel
theorem dX5_add_16 : decode cX5_add 16 = .ok (.iload_n 1, 1) := by decide +kernel
theorem dX5_add_17 : decode cX5_add 17 = .ok (.iload_n 2, 1) := by decide +kernel
theorem dX5_add_18 : decode cX5_add 18 = .ok (.iload_n 3, 1) := by decide +kernel
theorem dX5_add_19 : decode cX5_add 19 = .ok (.iload 4, 2) := by decide +kernel
theorem dX5_add_21 : decode cX5_add 21 = .ok (.iload 5, 2) := by decide +kernel
theorem dX5_add_23 : decode cX5_add 23 = .ok (.iload 6, 2) := by decide +kernel
theorem dX5_add_25 : decode cX5_add 25 = .ok (.invokevirtual 61, 3) := by decide +kernel
theorem dX5_add_28 : decode cX5_add 28 = .ok (.istore 7, 2) := by decide +kernel
theorem dX5_add_30 : decode cX5_add 30 = .ok (.iload 7, 2) := by decide +kernel
theorem dX5_add_32 : decode cX5_add 32 = .ok (.ifCond .lt 7, 3) := by decide +kernel
theorem dX5_add_35 : decode cX5_add 35 = .ok (.aload_n 0, 1) := by decide +kernel
theorem dX5_add_36 : decode cX5_add 36 = .ok (.invokevirtual 65, 3) := by decide +kernel
theorem dX5_add_39 : decode cX5_add 39 = .ok (.iload 7, 2) := by decide +kernel
theorem dX5_add_41 : decode cX5_add 41 = .ok (.ireturn, 1) := by decide +kernel
set_option maxRecDepth 20000 in
theorem ggX5_remove_X3_slotOf : GoodIn wsX5_remove wsX3_slotOf := goodIn_r _ [8, 9, 10, 11, 70, 71, 72, 73, 74, 75, 76, 77] (by decide +kernel) (by decide +kernel)
set_option maxRecDepth 20000 in
theorem gX5_remove_X3_slotOf : GoodIn wsX5_remove (wsV RX5 68 RX3 yX3_slotOf wsX3_slotOf) := goodIn_app (goodIn_of _ (by decide +kernel)) ggX5_remove_X3_slotOf
set_option maxRecDepth 20000 in
theorem ggX5_remove_X0_volume : GoodIn wsX5_remove wsX0_volume := goodIn_r _ [16, 17, 18, 19, 15, 20, 21, 22, 75, 76, 77] (by decide +kernel) (by decide +kernel)
set_option maxRecDepth 20000 in
theorem gX5_remove_X0_volume : GoodIn wsX5_remove (wsV RX5 76 RX0 yX0_volume wsX0_volume) := goodIn_app (goodIn_of _ (by decide +kernel)) ggX5_remove_X0_volume
set_option maxRecDepth 20000 in
theorem ggX5_remove_X3_copyFrom : GoodIn wsX5_remove wsX3_copyFrom := goodIn_r _ [26, 9, 27, 28, 29, 10, 30, 31, 32, 15, 33, 34, 22, 35, 36, 37, 38, 21, 70, 71, 72, 73, 74, 75, 76, 77] (by decide +kernel) (by decide +kernel)
set_option maxRecDepth 20000 in
theorem gX5_remove_X3_copyFrom : GoodIn wsX5_remove (wsV RX5 57 RX3 yX3_copyFrom wsX3_copyFrom) := goodIn_app (goodIn_of _ (by decide +kernel)) ggX5_remove_X3_copyFrom
set_option maxRecDepth 20000 in
theorem ggX5_remove_X3_takeOut : GoodIn wsX5_remove wsX3_takeOut := goodIn_r _ [42, 9, 10, 30, 31, 32, 15, 33, 34, 22, 35, 36, 37, 38, 21, 70, 71, 72, 73, 74, 75, 76, 77] (by decide +kernel) (by decide +kernel)
set_option maxRecDepth 20000 in
theorem gX5_remove_X3_takeOut : GoodIn wsX5_remove (wsV RX5 80 RX3 yX3_takeOut wsX3_takeOut) := goodIn_app (goodIn_of _ (by decide +kernel)) ggX5_remove_X3_takeOut
set_option maxRecDepth 20000 in
theorem ggX5_remove_X5_adoptTrial : GoodIn wsX5_remove wsX5_adoptTrial := goodIn_r _ [47, 48, 1, 3, 49, 50, 51, 52, 53, 54, 55, 56, 57, 58, 59, 60, 24, 25, 7, 26, 9, 27, 28, 29, 10, 30, 31, 32, 15, 33, 34, 22, 35, 36, 37, 38, 21, 23, 61, 62, 63, 64, 65, 66, 67, 68, 69, 78, 79, 70, 71, 72, 73, 74, 75, 76, 77] (by decide +kernel) (by decide +kernel)
set_option maxRecDepth 20000 in
theorem gX5_remove_X5_adoptTrial : GoodIn wsX5_remove (wsV RX5 65 RX5 yX5_adoptTrial wsX5_adoptTrial) := goodIn_app (goodIn_of _ (by decide +kernel)) ggX5_remove_X5_adoptTrial
theorem dX5_remove_0 : decode cX5_remove 0 = .ok (.aload_n 0, 1) := by decide +kernel
theorem dX5_remove_1 : decode cX5_remove 1 = .ok (.getfield 10, 3) := by decide +kernel
theorem dX5_remove_4 : decode cX5_remove 4 = .ok (.iload_n 1, 1) := by decide +kernel
theorem dX5_remove_5 : decode cX5_remove 5 = .ok (.invokevirtual 68, 3) := by decide +kernel
theorem dX5_remove_8 : decode cX5_remove 8 = .ok (.istore_n 2, 1) := by decide +kernel
theorem dX5_remove_9 : decode cX5_remove 9 = .ok (.iload_n 2, 1) := by decide +kernel
theorem dX5_remove_10 : decode cX5_remove 10 = .ok (.iconst (-1), 1) := by decide +kernel
theorem dX5_remove_11 : decode cX5_remove 11 = .ok (.if_icmp .ne 5, 3) := by decide +kernel
theorem dX5_remove_14 : decode cX5_remove 14 = .ok (.iconst (-1), 1) := by decide +kernel
theorem dX5_remove_15 : decode cX5_remove 15 = .ok (.ireturn, 1) := by decide +kernel
theorem dX5_remove_16 : decode cX5_remove 16 = .ok (.aload_n 0, 1) := by decide +kernel
theorem dX5_remove_17 : decode cX5_remove 17 = .ok (.getfield 10, 3) := by decide +kernel
theorem dX5_remove_20 : decode cX5_remove 20 = .ok (.getfield 72, 3) := by decide +kernel
theorem dX5_remove_23 : decode cX5_remove 23 = .ok (.iload_n 2, 1) := by decide +kernel
theorem dX5_remove_24 : decode cX5_remove 24 = .ok (.aaload, 1) := by decide +kernel
theorem dX5_remove_25 : decode cX5_remove 25 = .ok (.invokevirtual 76, 3) := by decide +kernel
theorem dX5_remove_28 : decode cX5_remove 28 = .ok (.istore_n 3, 1) := by decide +kernel
theorem dX5_remove_29 : decode cX5_remove 29 = .ok (.aload_n 0, 1) := by decide +kernel
theorem dX5_remove_30 : decode cX5_remove 30 = .ok (.getfield 16, 3) := by decide +kernel
theorem dX5_remove_33 : decode cX5_remove 33 = .ok (.aload_n 0, 1) := by decide +kernel
theorem dX5_remove_34 : decode cX5_remove 34 = .ok (.getfield 10, 3) := by decide +kernel
theorem dX5_remove_37 : decode cX5_remove 37 = .ok (.invokevirtual 57, 3) := by decide +kernel
theorem dX5_remove_40 : decode cX5_remove 40 = .ok (.aload_n 0, 1) := by decide +kernel
theorem dX5_remove_41 : decode cX5_remove 41 = .ok (.getfield 16, 3) := by decide +kernel
theorem dX5_remove_44 : decode cX5_remove 44 = .ok (.iload_n 2, 1) := by decide +kernel
theorem dX5_remove_45 : decode cX5_remove 45 = .ok (.invokevirtual 80, 3) := by decide +kernel
theorem dX5_remove_48 : decode cX5_remove 48 = .ok (.aload_n 0, 1) := by decide +kernel
theorem dX5_remove_49 : decode cX5_remove 49 = .ok (.invokevirtual 65, 3) := by decide +kernel
theorem dX5_remove_52 : decode cX5_remove 52 = .ok (.iload_n 3, 1) := by decide +kernel
theorem dX5_remove_53 : decode cX5_remove 53 = .ok (.ireturn, 1) := by decide +kernel
set_option maxRecDepth 20000 in
theorem ggX5_move_X3_slotOf : GoodIn wsX5_move wsX3_slotOf := goodIn_r _ [10, 11, 12, 13, 79, 80, 81, 82, 83, 84, 85, 86] (by decide +kernel) (by decide +kernel)
set_option maxRecDepth 20000 in
theorem gX5_move_X3_slotOf : GoodIn wsX5_move (wsV RX5 68 RX3 yX3_slotOf wsX3_slotOf) := goodIn_app (goodIn_of _ (by decide +kernel)) ggX5_move_X3_slotOf
set_option maxRecDepth 20000 in
theorem ggX5_move_X5_isDirection : GoodIn wsX5_move wsX5_isDirection := goodIn_r _ [17] (by decide +kernel) (by decide +kernel)
set_option maxRecDepth 20000 in
theorem gX5_move_X5_isDirection : GoodIn wsX5_move (va_wsS RX5 84 yX5_isDirection wsX5_isDirection) := goodIn_app (goodIn_of _ (by decide +kernel)) ggX5_move_X5_isDirection
set_option maxRecDepth 20000 in
theorem ggX5_move_X3_copyFrom : GoodIn wsX5_move wsX3_copyFrom := goodIn_r _ [21, 11, 22, 23, 24, 12, 25, 26, 27, 28, 29, 30, 31, 32, 33, 34, 35, 36, 79, 80, 81, 82, 83, 84, 85, 86] (by decide +kernel) (by decide +kernel)
set_option maxRecDepth 20000 in
theorem gX5_move_X3_copyFrom : GoodIn wsX5_move (wsV RX5 57 RX3 yX3_copyFrom wsX3_copyFrom) := goodIn_app (goodIn_of _ (by decide +kernel)) ggX5_move_X3_copyFrom
set_option maxRecDepth 20000 in
theorem ggX5_move_X0_shift : GoodIn wsX5_move wsX0_shift := goodIn_r _ [40, 31, 36, 84, 85, 86] (by decide +kernel) (by decide +kernel)
set_option maxRecDepth 20000 in
theorem gX5_move_X0_shift : GoodIn wsX5_move (wsV RX5 95 RX0 yX0_shift wsX0_shift) := goodIn_app (goodIn_of _ (by decide +kernel)) ggX5_move_X0_shift
set_option maxRecDepth 20000 in
theorem ggX5_move_X3_isCutBy : GoodIn wsX5_move wsX3_isCutBy := goodIn_r _ [44, 11, 12, 45, 46, 47, 28, 48, 49, 50, 51, 52, 31, 36, 79, 80, 81, 82, 83, 84, 85, 86] (by decide +kernel) (by decide +kernel)
set_option maxRecDepth 20000 in
theorem gX5_move_X3_isCutBy : GoodIn wsX5_move (wsV RX5 99 RX3 yX3_isCutBy wsX3_isCutBy) := goodIn_app (goodIn_of _ (by decide +kernel)) ggX5_move_X3_isCutBy
set_option maxRecDepth 20000 in
theorem ggX5_move_X5_adoptTrial : GoodIn wsX5_move wsX5_adoptTrial := goodIn_r _ [56, 57, 1, 2, 58, 59, 60, 61, 62, 63, 64, 65, 66, 67, 68, 69, 19, 20, 9, 21, 11, 22, 23, 24, 12, 25, 26, 27, 28, 29, 30, 31, 32, 33, 34, 35, 36, 18, 70, 71, 72, 73, 74, 75, 76, 77, 78, 87, 88, 79, 80, 81, 82, 83, 84, 85, 86] (by decide +kernel) (by decide +kernel)
set_option maxRecDepth 20000 in
theorem gX5_move_X5_adoptTrial : GoodIn wsX5_move (wsV RX5 65 RX5 yX5_adoptTrial wsX5_adoptTrial) := goodIn_app (goodIn_of _ (by decide +kernel)) ggX5_move_X5_adoptTrial
theorem dX5_move_0 : decode cX5_move 0 = .ok (.aload_n 0, 1) := by decide +kernel
theorem dX5_move_1 : decode cX5_move 1 = .ok (.getfield 10, 3) := by decide +kernel
theorem dX5_move_4 : decode cX5_move 4 = .ok (.iload_n 1, 1) := by decide +kernel
theorem dX5_move_5 : decode cX5_move 5 = .ok (.invokevirtual 68, 3) := by decide +kernel
theorem dX5_move_8 : decode cX5_move 8 = .ok (.istore 4, 2) := by decide +kernel
theorem dX5_move_10 : decode cX5_move 10 = .ok (.iload 4, 2) := by decide +kernel
theorem dX5_move_12 : decode cX5_move 12 = .ok (.iconst (-1), 1) := by decide +kernel
theorem dX5_move_13 : decode cX5_move 13 = .ok (.if_icmp .eq 10, 3) := by decide +kernel
theorem dX5_move_16 : decode cX5_move 16 = .ok (.iload_n 2, 1) := by decide +kernel
theorem dX5_move_17 : decode cX5_move 17 = .ok (.invokestatic 84, 3) := by decide +kernel
theorem dX5_move_20 : decode cX5_move 20 = .ok (.ifCond .ne 5, 3) := by decide +kernel
theorem dX5_move_23 : decode cX5_move 23 = .ok (.iconst (-1), 1) := by decide +kernel
theorem dX5_move_24 : decode cX5_move 24 = .ok (.ireturn, 1) := by decide +kernel
theorem dX5_move_25 : decode cX5_move 25 = .ok (.aload_n 0, 1) := by decide +kernel
theorem dX5_move_26 : decode cX5_move 26 = .ok (.getfield 16, 3) := by decide +kernel
theorem dX5_move_29 : decode cX5_move 29 = .ok (.aload_n 0, 1) := by decide +kernel
theorem dX5_move_30 : decode cX5_move 30 = .ok (.getfield 10, 3) := by decide +kernel
theorem dX5_move_33 : decode cX5_move 33 = .ok (.invokevirtual 57, 3) := by decide +kernel
theorem dX5_move_36 : decode cX5_move 36 = .ok (.aload_n 0, 1) := by decide +kernel
theorem dX5_move_37 : decode cX5_move 37 = .ok (.getfield 16, 3) := by decide +kernel
theorem dX5_move_40 : decode cX5_move 40 = .ok (.getfield 72, 3) := by decide +kernel
theorem dX5_move_43 : decode cX5_move 43 = .ok (.iload 4, 2) := by decide +kernel
theorem dX5_move_45 : decode cX5_move 45 = .ok (.aaload, 1) := by decide +kernel
theorem dX5_move_46 : decode cX5_move 46 = .ok (.astore 5, 2) := by decide +kernel
theorem dX5_move_48 : decode cX5_move 48 = .ok (.iload_n 3, 1) := by decide +kernel
theorem dX5_move_49 : decode cX5_move 49 = .ok (.aload 5, 2) := by decide +kernel
theorem dX5_move_51 : decode cX5_move 51 = .ok (.getfield 88, 3) := by decide +kernel
theorem dX5_move_54 : decode cX5_move 54 = .ok (.iload_n 2, 1) := by decide +kernel
theorem dX5_move_55 : decode cX5_move 55 = .ok (.iaload, 1) := by decide +kernel
theorem dX5_move_56 : decode cX5_move 56 = .ok (.ineg, 1) := by decide +kernel
theorem dX5_move_57 : decode cX5_move 57 = .ok (.if_icmp .lt 17, 3) := by decide +kernel
theorem dX5_move_60 : decode cX5_move 60 = .ok (.iload_n 3, 1) := by decide +kernel
theorem dX5_move_61 : decode cX5_move 61 = .ok (.bipush 32, 2) := by decide +kernel
theorem dX5_move_63 : decode cX5_move 63 = .ok (.aload 5, 2) := by decide +kernel
theorem dX5_move_65 : decode cX5_move 65 = .ok (.getfield 92, 3) := by decide +kernel
theorem dX5_move_68 : decode cX5_move 68 = .ok (.iload_n 2, 1) := by decide +kernel
theorem dX5_move_69 : decode cX5_move 69 = .ok (.iaload, 1) := by decide +kernel
theorem dX5_move_70 : decode cX5_move 70 = .ok (.isub, 1) := by decide +kernel
theorem dX5_move_71 : decode cX5_move 71 = .ok (.if_icmp .le 6, 3) := by decide +kernel
theorem dX5_move_74 : decode cX5_move 74 = .ok (.bipush (-2), 2) := by decide +kernel
theorem dX5_move_76 : decode cX5_move 76 = .ok (.ireturn, 1) := by decide +kernel
theorem dX5_move_77 : decode cX5_move 77 = .ok (.aload 5, 2) := by decide +kernel
theorem dX5_move_79 : decode cX5_move 79 = .ok (.iload_n 2, 1) := by decide +kernel
theorem dX5_move_80 : decode cX5_move 80 = .ok (.iload_n 3, 1) := by decide +kernel
theorem dX5_move_81 : decode cX5_move 81 = .ok (.invokevirtual 95, 3) := by decide +kernel
theorem dX5_move_84 : decode cX5_move 84 = .ok (.aload_n 0, 1) := by decide +kernel
theorem dX5_move_85 : decode cX5_move 85 = .ok (.getfield 16, 3) := by decide +kernel
theorem dX5_move_88 : decode cX5_move 88 = .ok (.aload 5, 2) := by decide +kernel
theorem dX5_move_90 : decode cX5_move 90 = .ok (.iload 4, 2) := by decide +kernel
theorem dX5_move_92 : decode cX5_move 92 = .ok (.invokevirtual 99, 3) := by decide +kernel
theorem dX5_move_95 : decode cX5_move 95 = .ok (.ifCond .eq 6, 3) := by decide +kernel
theorem dX5_move_98 : decode cX5_move 98 = .ok (.bipush (-4), 2) := by decide +kernel
theorem dX5_move_100 : decode cX5_move 100 = .ok (.ireturn, 1) := by decide +kernel
theorem dX5_move_101 : decode cX5_move 101 = .ok (.iload_n 3, 1) := by decide +kernel
theorem dX5_move_102 : decode cX5_move 102 = .ok (.ifCond .ne 6, 3) := by decide +kernel
theorem dX5_move_105 : decode cX5_move 105 = .ok (.bipush (-5), 2) := by decide +kernel
theorem dX5_move_107 : decode cX5_move 107 = .ok (.ireturn, 1) := by decide +kernel
theorem dX5_move_108 : decode cX5_move 108 = .ok (.aload_n 0, 1) := by decide +kernel
theorem dX5_move_109 : decode cX5_move 109 = .ok (.invokevirtual 65, 3) := by decide +kernel
theorem dX5_move_112 : decode cX5_move 112 = .ok (.aload_n 0, 1) := by decide +kernel
theorem dX5_move_113 : decode cX5_move 113 = .ok (.getfield 10, 3) := by decide +kernel
theorem dX5_move_116 : decode cX5_move 116 = .ok (.getfield 72, 3) := by decide +kernel
theorem dX5_move_119 : decode cX5_move 119 = .ok (.iload 4, 2) := by decide +kernel
theorem dX5_move_121 : decode cX5_move 121 = .ok (.aaload, 1) := by decide +kernel
theorem dX5_move_122 : decode cX5_move 122 = .ok (.getfield 88, 3) := by decide +kernel
theorem dX5_move_125 : decode cX5_move 125 = .ok (.iload_n 2, 1) := by decide +kernel
theorem dX5_move_126 : decode cX5_move 126 = .ok (.iaload, 1) := by decide +kernel
theorem dX5_move_127 : decode cX5_move 127 = .ok (.ireturn, 1) := by decide +kernel
set_option maxRecDepth 20000 in
theorem ggX5_fall_X3_slotOf : GoodIn wsX5_fall wsX3_slotOf := goodIn_r _ [9, 10, 11, 12, 80, 81, 82, 83, 84, 85, 86, 87] (by decide +kernel) (by decide +kernel)
set_option maxRecDepth 20000 in
theorem gX5_fall_X3_slotOf : GoodIn wsX5_fall (wsV RX5 68 RX3 yX3_slotOf wsX3_slotOf) := goodIn_app (goodIn_of _ (by decide +kernel)) ggX5_fall_X3_slotOf
set_option maxRecDepth 20000 in
theorem ggX5_fall_X3_groundUnder : GoodIn wsX5_fall wsX3_groundUnder := goodIn_r _ [16, 10, 11, 17, 18, 19, 20, 21, 22, 23, 24, 25, 26, 27, 28, 29, 30, 31, 32, 80, 81, 82, 83, 84, 85, 86, 87] (by decide +kernel) (by decide +kernel)
set_option maxRecDepth 20000 in
theorem gX5_fall_X3_groundUnder : GoodIn wsX5_fall (wsV RX5 103 RX3 yX3_groundUnder wsX3_groundUnder) := goodIn_app (goodIn_of _ (by decide +kernel)) ggX5_fall_X3_groundUnder
set_option maxRecDepth 20000 in
theorem ggX5_fall_X3_copyFrom : GoodIn wsX5_fall wsX3_copyFrom := goodIn_r _ [36, 10, 37, 38, 39, 11, 40, 41, 42, 25, 43, 44, 28, 45, 46, 47, 48, 27, 80, 81, 82, 83, 84, 85, 86, 87] (by decide +kernel) (by decide +kernel)
set_option maxRecDepth 20000 in
theorem gX5_fall_X3_copyFrom : GoodIn wsX5_fall (wsV RX5 57 RX3 yX3_copyFrom wsX3_copyFrom) := goodIn_app (goodIn_of _ (by decide +kernel)) ggX5_fall_X3_copyFrom
set_option maxRecDepth 20000 in
theorem ggX5_fall_X0_shift : GoodIn wsX5_fall wsX0_shift := goodIn_r _ [52, 28, 27, 85, 86, 87] (by decide +kernel) (by decide +kernel)
set_option maxRecDepth 20000 in
theorem gX5_fall_X0_shift : GoodIn wsX5_fall (wsV RX5 95 RX0 yX0_shift wsX0_shift) := goodIn_app (goodIn_of _ (by decide +kernel)) ggX5_fall_X0_shift
set_option maxRecDepth 20000 in
theorem ggX5_fall_X5_adoptTrial : GoodIn wsX5_fall wsX5_adoptTrial := goodIn_r _ [57, 58, 1, 4, 59, 60, 61, 62, 63, 64, 65, 66, 67, 68, 69, 70, 34, 35, 8, 36, 10, 37, 38, 39, 11, 40, 41, 42, 25, 43, 44, 28, 45, 46, 47, 48, 27, 33, 71, 72, 73, 74, 75, 76, 77, 78, 79, 88, 89, 80, 81, 82, 83, 84, 85, 86, 87] (by decide +kernel) (by decide +kernel)
set_option maxRecDepth 20000 in
theorem gX5_fall_X5_adoptTrial : GoodIn wsX5_fall (wsV RX5 65 RX5 yX5_adoptTrial wsX5_adoptTrial) := goodIn_app (goodIn_of _ (by decide +kernel)) ggX5_fall_X5_adoptTrial
theorem dX5_fall_0 : decode cX5_fall 0 = .ok (.aload_n 0, 1) := by decide +kernel
theorem dX5_fall_1 : decode cX5_fall 1 = .ok (.getfield 10, 3) := by decide +kernel
theorem dX5_fall_4 : decode cX5_fall 4 = .ok (.iload_n 1, 1) := by decide +kernel
theorem dX5_fall_5 : decode cX5_fall 5 = .ok (.invokevirtual 68, 3) := by decide +kernel
theorem dX5_fall_8 : decode cX5_fall 8 = .ok (.istore_n 2, 1) := by decide +kernel
theorem dX5_fall_9 : decode cX5_fall 9 = .ok (.iload_n 2, 1) := by decide +kernel
theorem dX5_fall_10 : decode cX5_fall 10 = .ok (.iconst (-1), 1) := by decide +kernel
theorem dX5_fall_11 : decode cX5_fall 11 = .ok (.if_icmp .ne 5, 3) := by decide +kernel
theorem dX5_fall_14 : decode cX5_fall 14 = .ok (.iconst (-1), 1) := by decide +kernel
theorem dX5_fall_15 : decode cX5_fall 15 = .ok (.ireturn, 1) := by decide +kernel
theorem dX5_fall_16 : decode cX5_fall 16 = .ok (.aload_n 0, 1) := by decide +kernel
theorem dX5_fall_17 : decode cX5_fall 17 = .ok (.getfield 10, 3) := by decide +kernel
theorem dX5_fall_20 : decode cX5_fall 20 = .ok (.getfield 72, 3) := by decide +kernel
theorem dX5_fall_23 : decode cX5_fall 23 = .ok (.iload_n 2, 1) := by decide +kernel
theorem dX5_fall_24 : decode cX5_fall 24 = .ok (.aaload, 1) := by decide +kernel
theorem dX5_fall_25 : decode cX5_fall 25 = .ok (.getfield 88, 3) := by decide +kernel
theorem dX5_fall_28 : decode cX5_fall 28 = .ok (.iconst 2, 1) := by decide +kernel
theorem dX5_fall_29 : decode cX5_fall 29 = .ok (.iaload, 1) := by decide +kernel
theorem dX5_fall_30 : decode cX5_fall 30 = .ok (.aload_n 0, 1) := by decide +kernel
theorem dX5_fall_31 : decode cX5_fall 31 = .ok (.getfield 10, 3) := by decide +kernel
theorem dX5_fall_34 : decode cX5_fall 34 = .ok (.iload_n 2, 1) := by decide +kernel
theorem dX5_fall_35 : decode cX5_fall 35 = .ok (.invokevirtual 103, 3) := by decide +kernel
theorem dX5_fall_38 : decode cX5_fall 38 = .ok (.isub, 1) := by decide +kernel
theorem dX5_fall_39 : decode cX5_fall 39 = .ok (.istore_n 3, 1) := by decide +kernel
theorem dX5_fall_40 : decode cX5_fall 40 = .ok (.iload_n 3, 1) := by decide +kernel
theorem dX5_fall_41 : decode cX5_fall 41 = .ok (.ifCond .gt 6, 3) := by decide +kernel
theorem dX5_fall_44 : decode cX5_fall 44 = .ok (.bipush (-5), 2) := by decide +kernel
theorem dX5_fall_46 : decode cX5_fall 46 = .ok (.ireturn, 1) := by decide +kernel
theorem dX5_fall_47 : decode cX5_fall 47 = .ok (.aload_n 0, 1) := by decide +kernel
theorem dX5_fall_48 : decode cX5_fall 48 = .ok (.getfield 16, 3) := by decide +kernel
theorem dX5_fall_51 : decode cX5_fall 51 = .ok (.aload_n 0, 1) := by decide +kernel
theorem dX5_fall_52 : decode cX5_fall 52 = .ok (.getfield 10, 3) := by decide +kernel
theorem dX5_fall_55 : decode cX5_fall 55 = .ok (.invokevirtual 57, 3) := by decide +kernel
theorem dX5_fall_58 : decode cX5_fall 58 = .ok (.aload_n 0, 1) := by decide +kernel
theorem dX5_fall_59 : decode cX5_fall 59 = .ok (.getfield 16, 3) := by decide +kernel
theorem dX5_fall_62 : decode cX5_fall 62 = .ok (.getfield 72, 3) := by decide +kernel
theorem dX5_fall_65 : decode cX5_fall 65 = .ok (.iload_n 2, 1) := by decide +kernel
theorem dX5_fall_66 : decode cX5_fall 66 = .ok (.aaload, 1) := by decide +kernel
theorem dX5_fall_67 : decode cX5_fall 67 = .ok (.iconst 2, 1) := by decide +kernel
theorem dX5_fall_68 : decode cX5_fall 68 = .ok (.iload_n 3, 1) := by decide +kernel
theorem dX5_fall_69 : decode cX5_fall 69 = .ok (.ineg, 1) := by decide +kernel
theorem dX5_fall_70 : decode cX5_fall 70 = .ok (.invokevirtual 95, 3) := by decide +kernel
theorem dX5_fall_73 : decode cX5_fall 73 = .ok (.aload_n 0, 1) := by decide +kernel
theorem dX5_fall_74 : decode cX5_fall 74 = .ok (.invokevirtual 65, 3) := by decide +kernel
theorem dX5_fall_77 : decode cX5_fall 77 = .ok (.iload_n 3, 1) := by decide +kernel
theorem dX5_fall_78 : decode cX5_fall 78 = .ok (.ireturn, 1) := by decide +kernel
set_option maxRecDepth 20000 in
theorem ggX5_split_X3_slotOf : GoodIn wsX5_split wsX3_slotOf := goodIn_r _ [10, 11, 12, 13, 78, 79, 80, 81, 82, 83, 84, 85] (by decide +kernel) (by decide +kernel)
set_option maxRecDepth 20000 in
theorem gX5_split_X3_slotOf : GoodIn wsX5_split (wsV RX5 68 RX3 yX3_slotOf wsX3_slotOf) := goodIn_app (goodIn_of _ (by decide +kernel)) ggX5_split_X3_slotOf
set_option maxRecDepth 20000 in
theorem ggX5_split_X5_isDirection : GoodIn wsX5_split wsX5_isDirection := goodIn_r _ [17] (by decide +kernel) (by decide +kernel)
set_option maxRecDepth 20000 in
theorem gX5_split_X5_isDirection : GoodIn wsX5_split (va_wsS RX5 84 yX5_isDirection wsX5_isDirection) := goodIn_app (goodIn_of _ (by decide +kernel)) ggX5_split_X5_isDirection
set_option maxRecDepth 20000 in
theorem ggX5_split_X3_isFull : GoodIn wsX5_split wsX3_isFull := goodIn_r _ [21, 11, 78, 79, 80, 81, 82] (by decide +kernel) (by decide +kernel)
set_option maxRecDepth 20000 in
theorem gX5_split_X3_isFull : GoodIn wsX5_split (wsV RX5 106 RX3 yX3_isFull wsX3_isFull) := goodIn_app (goodIn_of _ (by decide +kernel)) ggX5_split_X3_isFull
set_option maxRecDepth 20000 in
theorem ggX5_split_X3_copyFrom : GoodIn wsX5_split wsX3_copyFrom := goodIn_r _ [25, 11, 26, 27, 28, 12, 29, 30, 31, 32, 33, 34, 35, 36, 37, 38, 39, 40, 78, 79, 80, 81, 82, 83, 84, 85] (by decide +kernel) (by decide +kernel)
set_option maxRecDepth 20000 in
theorem gX5_split_X3_copyFrom : GoodIn wsX5_split (wsV RX5 57 RX3 yX3_copyFrom wsX3_copyFrom) := goodIn_app (goodIn_of _ (by decide +kernel)) ggX5_split_X3_copyFrom
set_option maxRecDepth 20000 in
theorem ggX5_split_X3_cutInTwo : GoodIn wsX5_split wsX3_cutInTwo := goodIn_r _ [44, 12, 11, 45, 46, 27, 47, 48, 49, 9, 50, 26, 13, 51, 19, 20, 21, 29, 30, 31, 32, 33, 34, 35, 36, 37, 38, 39, 40, 78, 79, 80, 81, 82, 83, 84, 85] (by decide +kernel) (by decide +kernel)
set_option maxRecDepth 20000 in
theorem gX5_split_X3_cutInTwo : GoodIn wsX5_split (wsV RX5 110 RX3 yX3_cutInTwo wsX3_cutInTwo) := goodIn_app (goodIn_of _ (by decide +kernel)) ggX5_split_X3_cutInTwo
set_option maxRecDepth 20000 in
theorem ggX5_split_X5_adoptTrial : GoodIn wsX5_split wsX5_adoptTrial := goodIn_r _ [55, 56, 1, 5, 57, 58, 59, 60, 61, 62, 63, 64, 65, 66, 67, 68, 23, 24, 9, 25, 11, 26, 27, 28, 12, 29, 30, 31, 32, 33, 34, 35, 36, 37, 38, 39, 40, 22, 69, 70, 71, 72, 73, 74, 75, 76, 77, 86, 87, 78, 79, 80, 81, 82, 83, 84, 85] (by decide +kernel) (by decide +kernel)
set_option maxRecDepth 20000 in
theorem gX5_split_X5_adoptTrial : GoodIn wsX5_split (wsV RX5 65 RX5 yX5_adoptTrial wsX5_adoptTrial) := goodIn_app (goodIn_of _ (by decide +kernel)) ggX5_split_X5_adoptTrial
theorem dX5_split_0 : decode cX5_split 0 = .ok (.aload_n 0, 1) := by decide +kernel
theorem dX5_split_1 : decode cX5_split 1 = .ok (.getfield 10, 3) := by decide +kernel
theorem dX5_split_4 : decode cX5_split 4 = .ok (.iload_n 1, 1) := by decide +kernel
theorem dX5_split_5 : decode cX5_split 5 = .ok (.invokevirtual 68, 3) := by decide +kernel
theorem dX5_split_8 : decode cX5_split 8 = .ok (.istore 4, 2) := by decide +kernel
theorem dX5_split_10 : decode cX5_split 10 = .ok (.iload 4, 2) := by decide +kernel
theorem dX5_split_12 : decode cX5_split 12 = .ok (.iconst (-1), 1) := by decide +kernel
theorem dX5_split_13 : decode cX5_split 13 = .ok (.if_icmp .eq 10, 3) := by decide +kernel
theorem dX5_split_16 : decode cX5_split 16 = .ok (.iload_n 2, 1) := by decide +kernel
theorem dX5_split_17 : decode cX5_split 17 = .ok (.invokestatic 84, 3) := by decide +kernel
theorem dX5_split_20 : decode cX5_split 20 = .ok (.ifCond .ne 5, 3) := by decide +kernel
theorem dX5_split_23 : decode cX5_split 23 = .ok (.iconst (-1), 1) := by decide +kernel
theorem dX5_split_24 : decode cX5_split 24 = .ok (.ireturn, 1) := by decide +kernel
theorem dX5_split_25 : decode cX5_split 25 = .ok (.aload_n 0, 1) := by decide +kernel
theorem dX5_split_26 : decode cX5_split 26 = .ok (.getfield 10, 3) := by decide +kernel
theorem dX5_split_29 : decode cX5_split 29 = .ok (.getfield 72, 3) := by decide +kernel
theorem dX5_split_32 : decode cX5_split 32 = .ok (.iload 4, 2) := by decide +kernel
theorem dX5_split_34 : decode cX5_split 34 = .ok (.aaload, 1) := by decide +kernel
theorem dX5_split_35 : decode cX5_split 35 = .ok (.astore 5, 2) := by decide +kernel
theorem dX5_split_37 : decode cX5_split 37 = .ok (.iload_n 3, 1) := by decide +kernel
theorem dX5_split_38 : decode cX5_split 38 = .ok (.aload 5, 2) := by decide +kernel
theorem dX5_split_40 : decode cX5_split 40 = .ok (.getfield 88, 3) := by decide +kernel
theorem dX5_split_43 : decode cX5_split 43 = .ok (.iload_n 2, 1) := by decide +kernel
theorem dX5_split_44 : decode cX5_split 44 = .ok (.iaload, 1) := by decide +kernel
theorem dX5_split_45 : decode cX5_split 45 = .ok (.if_icmp .le 14, 3) := by decide +kernel
theorem dX5_split_48 : decode cX5_split 48 = .ok (.iload_n 3, 1) := by decide +kernel
theorem dX5_split_49 : decode cX5_split 49 = .ok (.aload 5, 2) := by decide +kernel
theorem dX5_split_51 : decode cX5_split 51 = .ok (.getfield 92, 3) := by decide +kernel
theorem dX5_split_54 : decode cX5_split 54 = .ok (.iload_n 2, 1) := by decide +kernel
theorem dX5_split_55 : decode cX5_split 55 = .ok (.iaload, 1) := by decide +kernel
theorem dX5_split_56 : decode cX5_split 56 = .ok (.if_icmp .lt 6, 3) := by decide +kernel
theorem dX5_split_59 : decode cX5_split 59 = .ok (.bipush (-2), 2) := by decide +kernel
theorem dX5_split_61 : decode cX5_split 61 = .ok (.ireturn, 1) := by decide +kernel
theorem dX5_split_62 : decode cX5_split 62 = .ok (.aload_n 0, 1) := by decide +kernel
theorem dX5_split_63 : decode cX5_split 63 = .ok (.getfield 10, 3) := by decide +kernel
theorem dX5_split_66 : decode cX5_split 66 = .ok (.invokevirtual 106, 3) := by decide +kernel
theorem dX5_split_69 : decode cX5_split 69 = .ok (.ifCond .eq 6, 3) := by decide +kernel
theorem dX5_split_72 : decode cX5_split 72 = .ok (.bipush (-3), 2) := by decide +kernel
theorem dX5_split_74 : decode cX5_split 74 = .ok (.ireturn, 1) := by decide +kernel
theorem dX5_split_75 : decode cX5_split 75 = .ok (.aload_n 0, 1) := by decide +kernel
theorem dX5_split_76 : decode cX5_split 76 = .ok (.getfield 16, 3) := by decide +kernel
theorem dX5_split_79 : decode cX5_split 79 = .ok (.aload_n 0, 1) := by decide +kernel
theorem dX5_split_80 : decode cX5_split 80 = .ok (.getfield 10, 3) := by decide +kernel
theorem dX5_split_83 : decode cX5_split 83 = .ok (.invokevirtual 57, 3) := by decide +kernel
theorem dX5_split_86 : decode cX5_split 86 = .ok (.aload_n 0, 1) := by decide +kernel
theorem dX5_split_87 : decode cX5_split 87 = .ok (.getfield 16, 3) := by decide +kernel
theorem dX5_split_90 : decode cX5_split 90 = .ok (.iload 4, 2) := by decide +kernel
theorem dX5_split_92 : decode cX5_split 92 = .ok (.iload_n 2, 1) := by decide +kernel
theorem dX5_split_93 : decode cX5_split 93 = .ok (.iload_n 3, 1) := by decide +kernel
theorem dX5_split_94 : decode cX5_split 94 = .ok (.invokevirtual 110, 3) := by decide +kernel
theorem dX5_split_97 : decode cX5_split 97 = .ok (.istore 6, 2) := by decide +kernel
theorem dX5_split_99 : decode cX5_split 99 = .ok (.aload_n 0, 1) := by decide +kernel
theorem dX5_split_100 : decode cX5_split 100 = .ok (.invokevirtual 65, 3) := by decide +kernel
theorem dX5_split_103 : decode cX5_split 103 = .ok (.iload 6, 2) := by decide +kernel
theorem dX5_split_105 : decode cX5_split 105 = .ok (.ireturn, 1) := by decide +kernel
set_option maxRecDepth 20000 in
theorem ggX5_breakRing_X3_copyFrom : GoodIn wsX5_breakRing wsX3_copyFrom := goodIn_r _ [7, 8, 9, 10, 11, 12, 13, 14, 15, 16, 17, 18, 19, 20, 21, 22, 23, 24, 162, 163, 164, 165, 166, 167, 168, 169] (by decide +kernel) (by decide +kernel)
set_option maxRecDepth 20000 in
theorem gX5_breakRing_X3_copyFrom : GoodIn wsX5_breakRing (wsV RX5 57 RX3 yX3_copyFrom wsX3_copyFrom) := goodIn_app (goodIn_of _ (by decide +kernel)) ggX5_breakRing_X3_copyFrom
set_option maxRecDepth 20000 in
theorem ggX5_breakRing_X5_breakOne : GoodIn wsX5_breakRing wsX5_breakOne := goodIn_r _ [29, 30, 31, 32, 33, 34, 35, 36, 37, 38, 39, 40, 41, 42, 43, 44, 45, 46, 47, 16, 48, 19, 24, 49, 50, 51, 52, 53, 54, 55, 56, 57, 58, 59, 60, 61, 62, 21, 22, 23, 63, 64, 65, 66, 67, 68, 69, 70, 71, 72, 73, 74, 75, 76, 77, 78, 79, 80, 81, 82, 83, 84, 6, 85, 11, 12, 86, 87, 88, 89, 90, 91, 92, 93, 94, 95, 96, 97, 98, 99, 100, 101, 102, 103, 104, 105, 106, 107, 108, 109, 110, 111, 112, 113, 114, 115, 116, 117, 118, 119, 120, 121, 122, 123, 8, 124, 125, 126, 127, 128, 129, 10, 130, 131, 132, 133, 9, 134, 135, 13, 14, 15, 17, 18, 20, 153, 154, 155, 156, 157, 158, 159, 160, 161, 162, 163, 164, 165, 166, 167, 168, 169, 170, 171, 172, 173, 174, 175, 176] (by decide +kernel) (by decide +kernel)
set_option maxRecDepth 20000 in
theorem gX5_breakRing_X5_breakOne : GoodIn wsX5_breakRing (wsV RX5 114 RX5 yX5_breakOne wsX5_breakOne) := goodIn_app (goodIn_of _ (by decide +kernel)) ggX5_breakRing_X5_breakOne
set_option maxRecDepth 20000 in
theorem ggX5_breakRing_X5_adoptTrial : GoodIn wsX5_breakRing wsX5_adoptTrial := goodIn_r _ [139, 140, 2, 1, 141, 142, 143, 144, 145, 146, 147, 148, 149, 150, 151, 152, 4, 5, 6, 7, 8, 9, 10, 11, 12, 13, 14, 15, 16, 17, 18, 19, 20, 21, 22, 23, 24, 3, 153, 154, 155, 156, 157, 158, 159, 160, 161, 177, 178, 162, 163, 164, 165, 166, 167, 168, 169] (by decide +kernel) (by decide +kernel)
set_option maxRecDepth 20000 in
theorem gX5_breakRing_X5_adoptTrial : GoodIn wsX5_breakRing (wsV RX5 65 RX5 yX5_adoptTrial wsX5_adoptTrial) := goodIn_app (goodIn_of _ (by decide +kernel)) ggX5_breakRing_X5_adoptTrial
theorem dX5_breakRing_0 : decode cX5_breakRing 0 = .ok (.aload_n 0, 1) := by decide +kernel
theorem dX5_breakRing_1 : decode cX5_breakRing 1 = .ok (.getfield 16, 3) := by decide +kernel
theorem dX5_breakRing_4 : decode cX5_breakRing 4 = .ok (.aload_n 0, 1) := by decide +kernel
theorem dX5_breakRing_5 : decode cX5_breakRing 5 = .ok (.getfield 10, 3) := by decide +kernel
theorem dX5_breakRing_8 : decode cX5_breakRing 8 = .ok (.invokevirtual 57, 3) := by decide +kernel
theorem dX5_breakRing_11 : decode cX5_breakRing 11 = .ok (.aload_n 0, 1) := by decide +kernel
theorem dX5_breakRing_12 : decode cX5_breakRing 12 = .ok (.aload_n 0, 1) := by decide +kernel
theorem dX5_breakRing_13 : decode cX5_breakRing 13 = .ok (.getfield 16, 3) := by decide +kernel
theorem dX5_breakRing_16 : decode cX5_breakRing 16 = .ok (.invokevirtual 114, 3) := by decide +kernel
theorem dX5_breakRing_19 : decode cX5_breakRing 19 = .ok (.istore_n 1, 1) := by decide +kernel
theorem dX5_breakRing_20 : decode cX5_breakRing 20 = .ok (.iload_n 1, 1) := by decide +kernel
theorem dX5_breakRing_21 : decode cX5_breakRing 21 = .ok (.ifCond .lt 7, 3) := by decide +kernel
theorem dX5_breakRing_24 : decode cX5_breakRing 24 = .ok (.aload_n 0, 1) := by decide +kernel
theorem dX5_breakRing_25 : decode cX5_breakRing 25 = .ok (.invokevirtual 65, 3) := by decide +kernel
theorem dX5_breakRing_28 : decode cX5_breakRing 28 = .ok (.iload_n 1, 1) := by decide +kernel
theorem dX5_breakRing_29 : decode cX5_breakRing 29 = .ok (.ireturn, 1) := by decide +kernel
set_option maxRecDepth 20000 in
theorem ggX5_turn_X3_copyFrom : GoodIn wsX5_turn wsX3_copyFrom := goodIn_r _ [10, 11, 12, 13, 14, 15, 16, 17, 18, 19, 20, 21, 22, 23, 24, 25, 26, 27, 145, 146, 147, 148, 149, 150, 151, 152] (by decide +kernel) (by decide +kernel)
set_option maxRecDepth 20000 in
theorem gX5_turn_X3_copyFrom : GoodIn wsX5_turn (wsV RX5 57 RX3 yX3_copyFrom wsX3_copyFrom) := goodIn_app (goodIn_of _ (by decide +kernel)) ggX5_turn_X3_copyFrom
set_option maxRecDepth 20000 in
theorem ggX5_turn_X3_quarterTurn : GoodIn wsX5_turn wsX3_quarterTurn := goodIn_r _ [31, 11, 15, 32, 33, 145, 146, 147, 148, 149, 150, 151, 152] (by decide +kernel) (by decide +kernel)
set_option maxRecDepth 20000 in
theorem gX5_turn_X3_quarterTurn : GoodIn wsX5_turn (wsV RX5 122 RX3 yX3_quarterTurn wsX3_quarterTurn) := goodIn_app (goodIn_of _ (by decide +kernel)) ggX5_turn_X3_quarterTurn
set_option maxRecDepth 20000 in
theorem ggX5_turn_X2_look : GoodIn wsX5_turn wsX2_look := goodIn_r _ [38, 39, 40, 41, 42, 43, 37, 44, 45, 46, 47, 48, 19, 49, 22, 27, 50, 51, 52, 53, 54, 55, 56, 57, 58, 59, 60, 61, 62, 63, 24, 25, 26, 64, 65, 66, 67, 68, 69, 70, 71, 72, 73, 74, 75, 76, 77, 78, 79, 80, 81, 82, 83, 84, 85, 9, 86, 14, 15, 87, 88, 89, 90, 91, 92, 93, 94, 95, 96, 97, 98, 99, 100, 101, 102, 103, 104, 105, 106, 145, 146, 147, 148, 149, 153, 154, 155, 156, 157, 158, 159, 150, 151, 152] (by decide +kernel) (by decide +kernel)
set_option maxRecDepth 20000 in
theorem gX5_turn_X2_look : GoodIn wsX5_turn (wsV RX5 125 RX2 yX2_look wsX2_look) := goodIn_app (goodIn_of _ (by decide +kernel)) ggX5_turn_X2_look
set_option maxRecDepth 20000 in
theorem ggX5_turn_X2_hidingsNotIn : GoodIn wsX5_turn wsX2_hidingsNotIn := goodIn_r _ [110, 40, 41, 111, 112, 113, 114, 115, 116, 117, 153, 154, 155, 156, 157, 158, 159] (by decide +kernel) (by decide +kernel)
set_option maxRecDepth 20000 in
theorem gX5_turn_X2_hidingsNotIn : GoodIn wsX5_turn (wsV RX5 128 RX2 yX2_hidingsNotIn wsX2_hidingsNotIn) := goodIn_app (goodIn_of _ (by decide +kernel)) ggX5_turn_X2_hidingsNotIn
set_option maxRecDepth 20000 in
theorem ggX5_turn_X5_adoptTrial : GoodIn wsX5_turn wsX5_adoptTrial := goodIn_r _ [122, 123, 1, 3, 124, 125, 126, 127, 128, 129, 130, 131, 132, 133, 134, 135, 7, 8, 9, 10, 11, 12, 13, 14, 15, 16, 17, 18, 19, 20, 21, 22, 23, 24, 25, 26, 27, 6, 136, 137, 138, 139, 140, 141, 142, 143, 144, 160, 161, 145, 146, 147, 148, 149, 150, 151, 152] (by decide +kernel) (by decide +kernel)
set_option maxRecDepth 20000 in
theorem gX5_turn_X5_adoptTrial : GoodIn wsX5_turn (wsV RX5 65 RX5 yX5_adoptTrial wsX5_adoptTrial) := goodIn_app (goodIn_of _ (by decide +kernel)) ggX5_turn_X5_adoptTrial
theorem dX5_turn_0 : decode cX5_turn 0 = .ok (.aload_n 0, 1) := by decide +kernel
theorem dX5_turn_1 : decode cX5_turn 1 = .ok (.getfield 10, 3) := by decide +kernel
theorem dX5_turn_4 : decode cX5_turn 4 = .ok (.getfield 118, 3) := by decide +kernel
theorem dX5_turn_7 : decode cX5_turn 7 = .ok (.ifCond .ne 6, 3) := by decide +kernel
theorem dX5_turn_10 : decode cX5_turn 10 = .ok (.bipush (-5), 2) := by decide +kernel
theorem dX5_turn_12 : decode cX5_turn 12 = .ok (.ireturn, 1) := by decide +kernel
theorem dX5_turn_13 : decode cX5_turn 13 = .ok (.aload_n 0, 1) := by decide +kernel
theorem dX5_turn_14 : decode cX5_turn 14 = .ok (.getfield 16, 3) := by decide +kernel
theorem dX5_turn_17 : decode cX5_turn 17 = .ok (.aload_n 0, 1) := by decide +kernel
theorem dX5_turn_18 : decode cX5_turn 18 = .ok (.getfield 10, 3) := by decide +kernel
theorem dX5_turn_21 : decode cX5_turn 21 = .ok (.invokevirtual 57, 3) := by decide +kernel
theorem dX5_turn_24 : decode cX5_turn 24 = .ok (.aload_n 0, 1) := by decide +kernel
