theorem dX6_fall_15 : decode cX6_fall 15 = .ok (.istore 4, 2) := by decide +kernel
theorem dX6_fall_17 : decode cX6_fall 17 = .ok (.iload 4, 2) := by decide +kernel
theorem dX6_fall_19 : decode cX6_fall 19 = .ok (.aload_n 0, 1) := by decide +kernel
theorem dX6_fall_20 : decode cX6_fall 20 = .ok (.getfield 7, 3) := by decide +kernel
theorem dX6_fall_23 : decode cX6_fall 23 = .ok (.iconst 0, 1) := by decide +kernel
theorem dX6_fall_24 : decode cX6_fall 24 = .ok (.iaload, 1) := by decide +kernel
theorem dX6_fall_25 : decode cX6_fall 25 = .ok (.if_icmp .ge 42, 3) := by decide +kernel
theorem dX6_fall_28 : decode cX6_fall 28 = .ok (.aload_n 0, 1) := by decide +kernel
theorem dX6_fall_29 : decode cX6_fall 29 = .ok (.iload 4, 2) := by decide +kernel
theorem dX6_fall_31 : decode cX6_fall 31 = .ok (.iload_n 2, 1) := by decide +kernel
theorem dX6_fall_32 : decode cX6_fall 32 = .ok (.invokevirtual 134, 3) := by decide +kernel
theorem dX6_fall_35 : decode cX6_fall 35 = .ok (.ifCond .eq 24, 3) := by decide +kernel
theorem dX6_fall_38 : decode cX6_fall 38 = .ok (.aload_n 0, 1) := by decide +kernel
theorem dX6_fall_39 : decode cX6_fall 39 = .ok (.iload 4, 2) := by decide +kernel
theorem dX6_fall_41 : decode cX6_fall 41 = .ok (.iconst 2, 1) := by decide +kernel
theorem dX6_fall_42 : decode cX6_fall 42 = .ok (.invokevirtual 57, 3) := by decide +kernel
theorem dX6_fall_45 : decode cX6_fall 45 = .ok (.iload_n 3, 1) := by decide +kernel
theorem dX6_fall_46 : decode cX6_fall 46 = .ok (.if_icmp .le 13, 3) := by decide +kernel
theorem dX6_fall_49 : decode cX6_fall 49 = .ok (.aload_n 0, 1) := by decide +kernel
theorem dX6_fall_50 : decode cX6_fall 50 = .ok (.iload 4, 2) := by decide +kernel
theorem dX6_fall_52 : decode cX6_fall 52 = .ok (.iconst 2, 1) := by decide +kernel
theorem dX6_fall_53 : decode cX6_fall 53 = .ok (.invokevirtual 57, 3) := by decide +kernel
theorem dX6_fall_56 : decode cX6_fall 56 = .ok (.goto 4, 3) := by decide +kernel
theorem dX6_fall_59 : decode cX6_fall 59 = .ok (.iload_n 3, 1) := by decide +kernel
theorem dX6_fall_60 : decode cX6_fall 60 = .ok (.istore_n 3, 1) := by decide +kernel
theorem dX6_fall_61 : decode cX6_fall 61 = .ok (.iinc 4 1, 3) := by decide +kernel
theorem dX6_fall_64 : decode cX6_fall 64 = .ok (.goto (-47), 3) := by decide +kernel
theorem dX6_fall_67 : decode cX6_fall 67 = .ok (.aload_n 0, 1) := by decide +kernel
theorem dX6_fall_68 : decode cX6_fall 68 = .ok (.iload_n 2, 1) := by decide +kernel
theorem dX6_fall_69 : decode cX6_fall 69 = .ok (.iconst 2, 1) := by decide +kernel
theorem dX6_fall_70 : decode cX6_fall 70 = .ok (.invokevirtual 47, 3) := by decide +kernel
theorem dX6_fall_73 : decode cX6_fall 73 = .ok (.iload_n 3, 1) := by decide +kernel
theorem dX6_fall_74 : decode cX6_fall 74 = .ok (.isub, 1) := by decide +kernel
theorem dX6_fall_75 : decode cX6_fall 75 = .ok (.istore 4, 2) := by decide +kernel
theorem dX6_fall_77 : decode cX6_fall 77 = .ok (.iload 4, 2) := by decide +kernel
theorem dX6_fall_79 : decode cX6_fall 79 = .ok (.ifCond .ne 6, 3) := by decide +kernel
theorem dX6_fall_82 : decode cX6_fall 82 = .ok (.bipush (-5), 2) := by decide +kernel
theorem dX6_fall_84 : decode cX6_fall 84 = .ok (.ireturn, 1) := by decide +kernel
theorem dX6_fall_85 : decode cX6_fall 85 = .ok (.aload_n 0, 1) := by decide +kernel
theorem dX6_fall_86 : decode cX6_fall 86 = .ok (.aload_n 0, 1) := by decide +kernel
theorem dX6_fall_87 : decode cX6_fall 87 = .ok (.getfield 7, 3) := by decide +kernel
theorem dX6_fall_90 : decode cX6_fall 90 = .ok (.invokevirtual 110, 3) := by decide +kernel
theorem dX6_fall_93 : decode cX6_fall 93 = .ok (.aload_n 0, 1) := by decide +kernel
theorem dX6_fall_94 : decode cX6_fall 94 = .ok (.iload_n 2, 1) := by decide +kernel
theorem dX6_fall_95 : decode cX6_fall 95 = .ok (.iconst 3, 1) := by decide +kernel
theorem dX6_fall_96 : decode cX6_fall 96 = .ok (.iload_n 3, 1) := by decide +kernel
theorem dX6_fall_97 : decode cX6_fall 97 = .ok (.invokevirtual 114, 3) := by decide +kernel
theorem dX6_fall_100 : decode cX6_fall 100 = .ok (.iload 4, 2) := by decide +kernel
theorem dX6_fall_102 : decode cX6_fall 102 = .ok (.ireturn, 1) := by decide +kernel
set_option maxRecDepth 20000 in
theorem ggX6_doSplit_X6_high : GoodIn wsX6_doSplit wsX6_high := goodIn_r _ [6, 7, 8, 9, 5, 10, 11, 12, 13, 14, 1, 15, 16, 17, 18, 27, 28, 29, 30, 31, 32, 33, 34, 35, 36, 37, 38, 39, 40, 41, 42, 43] (by decide +kernel) (by decide +kernel)
set_option maxRecDepth 20000 in
theorem gX6_doSplit_X6_high : GoodIn wsX6_doSplit (wsV RX6 57 RX6 yX6_high wsX6_high) := goodIn_app (goodIn_of _ (by decide +kernel)) ggX6_doSplit_X6_high
set_option maxRecDepth 20000 in
theorem ggX6_doSplit_X6_low : GoodIn wsX6_doSplit wsX6_low := goodIn_r _ [10, 11, 12, 13, 5, 14, 1, 27, 28, 29, 30, 31, 32, 33, 34, 35, 36, 37, 38, 39, 40, 41, 42, 43] (by decide +kernel) (by decide +kernel)
set_option maxRecDepth 20000 in
theorem gX6_doSplit_X6_low : GoodIn wsX6_doSplit (wsV RX6 47 RX6 yX6_low wsX6_low) := goodIn_app (goodIn_of _ (by decide +kernel)) ggX6_doSplit_X6_low
set_option maxRecDepth 20000 in
theorem ggX6_doSplit_X6_put : GoodIn wsX6_doSplit wsX6_put := goodIn_r _ [22, 1, 27, 28, 29, 30, 31, 32, 33, 34, 35, 36, 37, 38, 39, 40, 41, 42, 43] (by decide +kernel) (by decide +kernel)
set_option maxRecDepth 20000 in
theorem gX6_doSplit_X6_put : GoodIn wsX6_doSplit (wsV RX6 114 RX6 yX6_put wsX6_put) := goodIn_app (goodIn_of _ (by decide +kernel)) ggX6_doSplit_X6_put
set_option maxRecDepth 20000 in
theorem ggX6_doSplit_X6_size : GoodIn wsX6_doSplit wsX6_size := goodIn_r _ [18, 11, 12, 13, 5, 14, 1, 27, 28, 29, 30, 31, 32, 33, 34, 35, 36, 37, 38, 39, 40, 41, 42, 43] (by decide +kernel) (by decide +kernel)
set_option maxRecDepth 20000 in
theorem gX6_doSplit_X6_size : GoodIn wsX6_doSplit (wsV RX6 50 RX6 yX6_size wsX6_size) := goodIn_app (goodIn_of _ (by decide +kernel)) ggX6_doSplit_X6_size
set_option maxRecDepth 20000 in
theorem ggX6_doSplit_X6_putBox : GoodIn wsX6_doSplit wsX6_putBox := goodIn_r _ [26, 1, 19, 20, 21, 5, 22, 27, 28, 29, 30, 31, 32, 33, 34, 35, 36, 37, 38, 39, 40, 41, 42, 43] (by decide +kernel) (by decide +kernel)
set_option maxRecDepth 20000 in
theorem gX6_doSplit_X6_putBox : GoodIn wsX6_doSplit (wsV RX6 122 RX6 yX6_putBox wsX6_putBox) := goodIn_app (goodIn_of _ (by decide +kernel)) ggX6_doSplit_X6_putBox
theorem dX6_doSplit_0 : decode cX6_doSplit 0 = .ok (.aload_n 0, 1) := by decide +kernel
theorem dX6_doSplit_1 : decode cX6_doSplit 1 = .ok (.iload_n 1, 1) := by decide +kernel
theorem dX6_doSplit_2 : decode cX6_doSplit 2 = .ok (.iload_n 2, 1) := by decide +kernel
theorem dX6_doSplit_3 : decode cX6_doSplit 3 = .ok (.invokevirtual 57, 3) := by decide +kernel
theorem dX6_doSplit_6 : decode cX6_doSplit 6 = .ok (.istore 4, 2) := by decide +kernel
theorem dX6_doSplit_8 : decode cX6_doSplit 8 = .ok (.aload_n 0, 1) := by decide +kernel
theorem dX6_doSplit_9 : decode cX6_doSplit 9 = .ok (.iload_n 1, 1) := by decide +kernel
theorem dX6_doSplit_10 : decode cX6_doSplit 10 = .ok (.iconst 4, 1) := by decide +kernel
theorem dX6_doSplit_11 : decode cX6_doSplit 11 = .ok (.iload_n 2, 1) := by decide +kernel
theorem dX6_doSplit_12 : decode cX6_doSplit 12 = .ok (.iadd, 1) := by decide +kernel
theorem dX6_doSplit_13 : decode cX6_doSplit 13 = .ok (.iload_n 3, 1) := by decide +kernel
theorem dX6_doSplit_14 : decode cX6_doSplit 14 = .ok (.aload_n 0, 1) := by decide +kernel
theorem dX6_doSplit_15 : decode cX6_doSplit 15 = .ok (.iload_n 1, 1) := by decide +kernel
theorem dX6_doSplit_16 : decode cX6_doSplit 16 = .ok (.iload_n 2, 1) := by decide +kernel
theorem dX6_doSplit_17 : decode cX6_doSplit 17 = .ok (.invokevirtual 47, 3) := by decide +kernel
theorem dX6_doSplit_20 : decode cX6_doSplit 20 = .ok (.isub, 1) := by decide +kernel
theorem dX6_doSplit_21 : decode cX6_doSplit 21 = .ok (.invokevirtual 114, 3) := by decide +kernel
theorem dX6_doSplit_24 : decode cX6_doSplit 24 = .ok (.aload_n 0, 1) := by decide +kernel
theorem dX6_doSplit_25 : decode cX6_doSplit 25 = .ok (.aload_n 0, 1) := by decide +kernel
theorem dX6_doSplit_26 : decode cX6_doSplit 26 = .ok (.iload_n 1, 1) := by decide +kernel
theorem dX6_doSplit_27 : decode cX6_doSplit 27 = .ok (.iconst 0, 1) := by decide +kernel
theorem dX6_doSplit_28 : decode cX6_doSplit 28 = .ok (.invokevirtual 47, 3) := by decide +kernel
theorem dX6_doSplit_31 : decode cX6_doSplit 31 = .ok (.aload_n 0, 1) := by decide +kernel
theorem dX6_doSplit_32 : decode cX6_doSplit 32 = .ok (.iload_n 1, 1) := by decide +kernel
theorem dX6_doSplit_33 : decode cX6_doSplit 33 = .ok (.iconst 1, 1) := by decide +kernel
theorem dX6_doSplit_34 : decode cX6_doSplit 34 = .ok (.invokevirtual 47, 3) := by decide +kernel
theorem dX6_doSplit_37 : decode cX6_doSplit 37 = .ok (.aload_n 0, 1) := by decide +kernel
theorem dX6_doSplit_38 : decode cX6_doSplit 38 = .ok (.iload_n 1, 1) := by decide +kernel
theorem dX6_doSplit_39 : decode cX6_doSplit 39 = .ok (.iconst 2, 1) := by decide +kernel
theorem dX6_doSplit_40 : decode cX6_doSplit 40 = .ok (.invokevirtual 47, 3) := by decide +kernel
theorem dX6_doSplit_43 : decode cX6_doSplit 43 = .ok (.aload_n 0, 1) := by decide +kernel
theorem dX6_doSplit_44 : decode cX6_doSplit 44 = .ok (.iload_n 1, 1) := by decide +kernel
theorem dX6_doSplit_45 : decode cX6_doSplit 45 = .ok (.iconst 0, 1) := by decide +kernel
theorem dX6_doSplit_46 : decode cX6_doSplit 46 = .ok (.invokevirtual 50, 3) := by decide +kernel
theorem dX6_doSplit_49 : decode cX6_doSplit 49 = .ok (.aload_n 0, 1) := by decide +kernel
theorem dX6_doSplit_50 : decode cX6_doSplit 50 = .ok (.iload_n 1, 1) := by decide +kernel
theorem dX6_doSplit_51 : decode cX6_doSplit 51 = .ok (.iconst 1, 1) := by decide +kernel
theorem dX6_doSplit_52 : decode cX6_doSplit 52 = .ok (.invokevirtual 50, 3) := by decide +kernel
theorem dX6_doSplit_55 : decode cX6_doSplit 55 = .ok (.aload_n 0, 1) := by decide +kernel
theorem dX6_doSplit_56 : decode cX6_doSplit 56 = .ok (.iload_n 1, 1) := by decide +kernel
theorem dX6_doSplit_57 : decode cX6_doSplit 57 = .ok (.iconst 2, 1) := by decide +kernel
theorem dX6_doSplit_58 : decode cX6_doSplit 58 = .ok (.invokevirtual 50, 3) := by decide +kernel
theorem dX6_doSplit_61 : decode cX6_doSplit 61 = .ok (.invokevirtual 122, 3) := by decide +kernel
theorem dX6_doSplit_64 : decode cX6_doSplit 64 = .ok (.istore 5, 2) := by decide +kernel
theorem dX6_doSplit_66 : decode cX6_doSplit 66 = .ok (.aload_n 0, 1) := by decide +kernel
theorem dX6_doSplit_67 : decode cX6_doSplit 67 = .ok (.aload_n 0, 1) := by decide +kernel
theorem dX6_doSplit_68 : decode cX6_doSplit 68 = .ok (.getfield 7, 3) := by decide +kernel
theorem dX6_doSplit_71 : decode cX6_doSplit 71 = .ok (.iconst 0, 1) := by decide +kernel
theorem dX6_doSplit_72 : decode cX6_doSplit 72 = .ok (.iaload, 1) := by decide +kernel
theorem dX6_doSplit_73 : decode cX6_doSplit 73 = .ok (.iconst 1, 1) := by decide +kernel
theorem dX6_doSplit_74 : decode cX6_doSplit 74 = .ok (.isub, 1) := by decide +kernel
theorem dX6_doSplit_75 : decode cX6_doSplit 75 = .ok (.iconst 1, 1) := by decide +kernel
theorem dX6_doSplit_76 : decode cX6_doSplit 76 = .ok (.iload_n 2, 1) := by decide +kernel
theorem dX6_doSplit_77 : decode cX6_doSplit 77 = .ok (.iadd, 1) := by decide +kernel
theorem dX6_doSplit_78 : decode cX6_doSplit 78 = .ok (.iload_n 3, 1) := by decide +kernel
theorem dX6_doSplit_79 : decode cX6_doSplit 79 = .ok (.invokevirtual 114, 3) := by decide +kernel
theorem dX6_doSplit_82 : decode cX6_doSplit 82 = .ok (.aload_n 0, 1) := by decide +kernel
theorem dX6_doSplit_83 : decode cX6_doSplit 83 = .ok (.aload_n 0, 1) := by decide +kernel
theorem dX6_doSplit_84 : decode cX6_doSplit 84 = .ok (.getfield 7, 3) := by decide +kernel
theorem dX6_doSplit_87 : decode cX6_doSplit 87 = .ok (.iconst 0, 1) := by decide +kernel
theorem dX6_doSplit_88 : decode cX6_doSplit 88 = .ok (.iaload, 1) := by decide +kernel
theorem dX6_doSplit_89 : decode cX6_doSplit 89 = .ok (.iconst 1, 1) := by decide +kernel
theorem dX6_doSplit_90 : decode cX6_doSplit 90 = .ok (.isub, 1) := by decide +kernel
theorem dX6_doSplit_91 : decode cX6_doSplit 91 = .ok (.iconst 4, 1) := by decide +kernel
theorem dX6_doSplit_92 : decode cX6_doSplit 92 = .ok (.iload_n 2, 1) := by decide +kernel
theorem dX6_doSplit_93 : decode cX6_doSplit 93 = .ok (.iadd, 1) := by decide +kernel
theorem dX6_doSplit_94 : decode cX6_doSplit 94 = .ok (.iload 4, 2) := by decide +kernel
theorem dX6_doSplit_96 : decode cX6_doSplit 96 = .ok (.iload_n 3, 1) := by decide +kernel
theorem dX6_doSplit_97 : decode cX6_doSplit 97 = .ok (.isub, 1) := by decide +kernel
theorem dX6_doSplit_98 : decode cX6_doSplit 98 = .ok (.invokevirtual 114, 3) := by decide +kernel
theorem dX6_doSplit_101 : decode cX6_doSplit 101 = .ok (.aload_n 0, 1) := by decide +kernel
theorem dX6_doSplit_102 : decode cX6_doSplit 102 = .ok (.getfield 7, 3) := by decide +kernel
theorem dX6_doSplit_105 : decode cX6_doSplit 105 = .ok (.iconst 2, 1) := by decide +kernel
theorem dX6_doSplit_106 : decode cX6_doSplit 106 = .ok (.dup2, 1) := by decide +kernel
theorem dX6_doSplit_107 : decode cX6_doSplit 107 = .ok (.iaload, 1) := by decide +kernel
theorem dX6_doSplit_108 : decode cX6_doSplit 108 = .ok (.iconst 1, 1) := by decide +kernel
theorem dX6_doSplit_109 : decode cX6_doSplit 109 = .ok (.iadd, 1) := by decide +kernel
theorem dX6_doSplit_110 : decode cX6_doSplit 110 = .ok (.iastore, 1) := by decide +kernel
theorem dX6_doSplit_111 : decode cX6_doSplit 111 = .ok (.iload 5, 2) := by decide +kernel
theorem dX6_doSplit_113 : decode cX6_doSplit 113 = .ok (.ireturn, 1) := by decide +kernel
set_option maxRecDepth 20000 in
theorem ggX6_split_X6_rankOf : GoodIn wsX6_split wsX6_rankOf := goodIn_r _ [6, 1, 7, 8, 9, 5, 10, 47, 48, 49, 50, 51, 52, 53, 54, 55, 56, 57, 58, 59, 60, 61, 62, 63] (by decide +kernel) (by decide +kernel)
set_option maxRecDepth 20000 in
theorem gX6_split_X6_rankOf : GoodIn wsX6_split (wsV RX6 125 RX6 yX6_rankOf wsX6_rankOf) := goodIn_app (goodIn_of _ (by decide +kernel)) ggX6_split_X6_rankOf
set_option maxRecDepth 20000 in
theorem ggX6_split_X6_isDirection : GoodIn wsX6_split wsX6_isDirection := goodIn_r _ [13, 14, 15, 5, 16] (by decide +kernel) (by decide +kernel)
set_option maxRecDepth 20000 in
theorem gX6_split_X6_isDirection : GoodIn wsX6_split (va_wsS RX6 128 yX6_isDirection wsX6_isDirection) := goodIn_app (goodIn_of _ (by decide +kernel)) ggX6_split_X6_isDirection
set_option maxRecDepth 20000 in
theorem ggX6_split_X6_low : GoodIn wsX6_split wsX6_low := goodIn_r _ [20, 7, 8, 9, 5, 10, 1, 47, 48, 49, 50, 51, 52, 53, 54, 55, 56, 57, 58, 59, 60, 61, 62, 63] (by decide +kernel) (by decide +kernel)
set_option maxRecDepth 20000 in
theorem gX6_split_X6_low : GoodIn wsX6_split (wsV RX6 47 RX6 yX6_low wsX6_low) := goodIn_app (goodIn_of _ (by decide +kernel)) ggX6_split_X6_low
set_option maxRecDepth 20000 in
theorem ggX6_split_X6_high : GoodIn wsX6_split wsX6_high := goodIn_r _ [24, 17, 18, 19, 5, 20, 7, 8, 9, 10, 1, 25, 26, 27, 28, 47, 48, 49, 50, 51, 52, 53, 54, 55, 56, 57, 58, 59, 60, 61, 62, 63] (by decide +kernel) (by decide +kernel)
set_option maxRecDepth 20000 in
theorem gX6_split_X6_high : GoodIn wsX6_split (wsV RX6 57 RX6 yX6_high wsX6_high) := goodIn_app (goodIn_of _ (by decide +kernel)) ggX6_split_X6_high
set_option maxRecDepth 20000 in
theorem ggX6_split_X6_push : GoodIn wsX6_split wsX6_push := goodIn_r _ [32, 33, 34, 47, 48, 49, 50, 51, 52, 53, 54, 55, 56, 57, 58, 59, 60, 61, 62, 63] (by decide +kernel) (by decide +kernel)
set_option maxRecDepth 20000 in
theorem gX6_split_X6_push : GoodIn wsX6_split (wsV RX6 110 RX6 yX6_push wsX6_push) := goodIn_app (goodIn_of _ (by decide +kernel)) ggX6_split_X6_push
set_option maxRecDepth 20000 in
theorem ggX6_split_X6_doSplit : GoodIn wsX6_split wsX6_doSplit := goodIn_r _ [38, 1, 21, 22, 23, 5, 24, 17, 18, 19, 20, 7, 8, 9, 10, 25, 26, 27, 28, 39, 40, 41, 42, 43, 44, 45, 46, 47, 48, 49, 50, 51, 52, 53, 54, 55, 56, 57, 58, 59, 60, 61, 62, 63] (by decide +kernel) (by decide +kernel)
set_option maxRecDepth 20000 in
theorem gX6_split_X6_doSplit : GoodIn wsX6_split (wsV RX6 137 RX6 yX6_doSplit wsX6_doSplit) := goodIn_app (goodIn_of _ (by decide +kernel)) ggX6_split_X6_doSplit
theorem dX6_split_0 : decode cX6_split 0 = .ok (.aload_n 0, 1) := by decide +kernel
theorem dX6_split_1 : decode cX6_split 1 = .ok (.iload_n 1, 1) := by decide +kernel
theorem dX6_split_2 : decode cX6_split 2 = .ok (.invokevirtual 125, 3) := by decide +kernel
theorem dX6_split_5 : decode cX6_split 5 = .ok (.istore 4, 2) := by decide +kernel
theorem dX6_split_7 : decode cX6_split 7 = .ok (.iload 4, 2) := by decide +kernel
theorem dX6_split_9 : decode cX6_split 9 = .ok (.ifCond .lt 10, 3) := by decide +kernel
theorem dX6_split_12 : decode cX6_split 12 = .ok (.iload_n 2, 1) := by decide +kernel
theorem dX6_split_13 : decode cX6_split 13 = .ok (.invokestatic 128, 3) := by decide +kernel
theorem dX6_split_16 : decode cX6_split 16 = .ok (.ifCond .ne 5, 3) := by decide +kernel
theorem dX6_split_19 : decode cX6_split 19 = .ok (.iconst (-1), 1) := by decide +kernel
theorem dX6_split_20 : decode cX6_split 20 = .ok (.ireturn, 1) := by decide +kernel
theorem dX6_split_21 : decode cX6_split 21 = .ok (.iload_n 3, 1) := by decide +kernel
theorem dX6_split_22 : decode cX6_split 22 = .ok (.aload_n 0, 1) := by decide +kernel
theorem dX6_split_23 : decode cX6_split 23 = .ok (.iload 4, 2) := by decide +kernel
theorem dX6_split_25 : decode cX6_split 25 = .ok (.iload_n 2, 1) := by decide +kernel
theorem dX6_split_26 : decode cX6_split 26 = .ok (.invokevirtual 47, 3) := by decide +kernel
theorem dX6_split_29 : decode cX6_split 29 = .ok (.if_icmp .le 14, 3) := by decide +kernel
theorem dX6_split_32 : decode cX6_split 32 = .ok (.iload_n 3, 1) := by decide +kernel
theorem dX6_split_33 : decode cX6_split 33 = .ok (.aload_n 0, 1) := by decide +kernel
theorem dX6_split_34 : decode cX6_split 34 = .ok (.iload 4, 2) := by decide +kernel
theorem dX6_split_36 : decode cX6_split 36 = .ok (.iload_n 2, 1) := by decide +kernel
theorem dX6_split_37 : decode cX6_split 37 = .ok (.invokevirtual 57, 3) := by decide +kernel
theorem dX6_split_40 : decode cX6_split 40 = .ok (.if_icmp .lt 6, 3) := by decide +kernel
theorem dX6_split_43 : decode cX6_split 43 = .ok (.bipush (-2), 2) := by decide +kernel
theorem dX6_split_45 : decode cX6_split 45 = .ok (.ireturn, 1) := by decide +kernel
theorem dX6_split_46 : decode cX6_split 46 = .ok (.aload_n 0, 1) := by decide +kernel
theorem dX6_split_47 : decode cX6_split 47 = .ok (.getfield 7, 3) := by decide +kernel
theorem dX6_split_50 : decode cX6_split 50 = .ok (.iconst 0, 1) := by decide +kernel
theorem dX6_split_51 : decode cX6_split 51 = .ok (.iaload, 1) := by decide +kernel
theorem dX6_split_52 : decode cX6_split 52 = .ok (.bipush 16, 2) := by decide +kernel
theorem dX6_split_54 : decode cX6_split 54 = .ok (.if_icmp .ne 6, 3) := by decide +kernel
theorem dX6_split_57 : decode cX6_split 57 = .ok (.bipush (-3), 2) := by decide +kernel
theorem dX6_split_59 : decode cX6_split 59 = .ok (.ireturn, 1) := by decide +kernel
theorem dX6_split_60 : decode cX6_split 60 = .ok (.aload_n 0, 1) := by decide +kernel
theorem dX6_split_61 : decode cX6_split 61 = .ok (.aload_n 0, 1) := by decide +kernel
theorem dX6_split_62 : decode cX6_split 62 = .ok (.getfield 7, 3) := by decide +kernel
theorem dX6_split_65 : decode cX6_split 65 = .ok (.invokevirtual 110, 3) := by decide +kernel
theorem dX6_split_68 : decode cX6_split 68 = .ok (.aload_n 0, 1) := by decide +kernel
theorem dX6_split_69 : decode cX6_split 69 = .ok (.iload 4, 2) := by decide +kernel
theorem dX6_split_71 : decode cX6_split 71 = .ok (.iload_n 2, 1) := by decide +kernel
theorem dX6_split_72 : decode cX6_split 72 = .ok (.iload_n 3, 1) := by decide +kernel
theorem dX6_split_73 : decode cX6_split 73 = .ok (.invokevirtual 137, 3) := by decide +kernel
theorem dX6_split_76 : decode cX6_split 76 = .ok (.ireturn, 1) := by decide +kernel
set_option maxRecDepth 20000 in
theorem ggX6_breakAt_X6_findHiding : GoodIn wsX6_breakAt wsX6_findHiding := goodIn_r _ [6, 1, 7, 8, 9, 10, 11, 5, 12, 13, 14, 15, 16, 17, 18, 19, 20, 21, 22, 23, 24, 25, 26, 27, 28, 29, 30, 31, 32, 33, 34, 35, 36, 37, 38, 39, 48, 49, 50, 51, 52, 53, 54, 55, 56, 57, 58, 59, 60, 61, 62, 63, 64] (by decide +kernel) (by decide +kernel)
set_option maxRecDepth 20000 in
theorem gX6_breakAt_X6_findHiding : GoodIn wsX6_breakAt (wsV RX6 141 RX6 yX6_findHiding wsX6_findHiding) := goodIn_app (goodIn_of _ (by decide +kernel)) ggX6_breakAt_X6_findHiding
set_option maxRecDepth 20000 in
theorem ggX6_breakAt_X6_isInRing : GoodIn wsX6_breakAt wsX6_isInRing := goodIn_r _ [43, 8, 37, 38, 5, 39, 48, 49, 50, 51, 52, 53, 54, 55, 56, 57, 58, 59, 60, 61, 62, 63, 64] (by decide +kernel) (by decide +kernel)
set_option maxRecDepth 20000 in
theorem gX6_breakAt_X6_isInRing : GoodIn wsX6_breakAt (wsV RX6 78 RX6 yX6_isInRing wsX6_isInRing) := goodIn_app (goodIn_of _ (by decide +kernel)) ggX6_breakAt_X6_isInRing
set_option maxRecDepth 20000 in
theorem ggX6_breakAt_X6_volume : GoodIn wsX6_breakAt wsX6_volume := goodIn_r _ [47, 25, 26, 27, 5, 28, 17, 18, 19, 20, 1, 48, 49, 50, 51, 52, 53, 54, 55, 56, 57, 58, 59, 60, 61, 62, 63, 64] (by decide +kernel) (by decide +kernel)
set_option maxRecDepth 20000 in
theorem gX6_breakAt_X6_volume : GoodIn wsX6_breakAt (wsV RX6 93 RX6 yX6_volume wsX6_volume) := goodIn_app (goodIn_of _ (by decide +kernel)) ggX6_breakAt_X6_volume
theorem dX6_breakAt_0 : decode cX6_breakAt 0 = .ok (.aload_n 0, 1) := by decide +kernel
theorem dX6_breakAt_1 : decode cX6_breakAt 1 = .ok (.invokevirtual 141, 3) := by decide +kernel
theorem dX6_breakAt_4 : decode cX6_breakAt 4 = .ok (.bipush (-5), 2) := by decide +kernel
theorem dX6_breakAt_6 : decode cX6_breakAt 6 = .ok (.istore_n 1, 1) := by decide +kernel
theorem dX6_breakAt_7 : decode cX6_breakAt 7 = .ok (.iconst 0, 1) := by decide +kernel
theorem dX6_breakAt_8 : decode cX6_breakAt 8 = .ok (.istore_n 2, 1) := by decide +kernel
theorem dX6_breakAt_9 : decode cX6_breakAt 9 = .ok (.iload_n 2, 1) := by decide +kernel
theorem dX6_breakAt_10 : decode cX6_breakAt 10 = .ok (.aload_n 0, 1) := by decide +kernel
theorem dX6_breakAt_11 : decode cX6_breakAt 11 = .ok (.getfield 7, 3) := by decide +kernel
theorem dX6_breakAt_14 : decode cX6_breakAt 14 = .ok (.iconst 0, 1) := by decide +kernel
theorem dX6_breakAt_15 : decode cX6_breakAt 15 = .ok (.iaload, 1) := by decide +kernel
theorem dX6_breakAt_16 : decode cX6_breakAt 16 = .ok (.if_icmp .ge 40, 3) := by decide +kernel
theorem dX6_breakAt_19 : decode cX6_breakAt 19 = .ok (.aload_n 0, 1) := by decide +kernel
theorem dX6_breakAt_20 : decode cX6_breakAt 20 = .ok (.iload_n 2, 1) := by decide +kernel
theorem dX6_breakAt_21 : decode cX6_breakAt 21 = .ok (.invokevirtual 78, 3) := by decide +kernel
theorem dX6_breakAt_24 : decode cX6_breakAt 24 = .ok (.ifCond .eq 24, 3) := by decide +kernel
theorem dX6_breakAt_27 : decode cX6_breakAt 27 = .ok (.iload_n 1, 1) := by decide +kernel
theorem dX6_breakAt_28 : decode cX6_breakAt 28 = .ok (.ifCond .lt 16, 3) := by decide +kernel
theorem dX6_breakAt_31 : decode cX6_breakAt 31 = .ok (.aload_n 0, 1) := by decide +kernel
theorem dX6_breakAt_32 : decode cX6_breakAt 32 = .ok (.iload_n 2, 1) := by decide +kernel
theorem dX6_breakAt_33 : decode cX6_breakAt 33 = .ok (.invokevirtual 93, 3) := by decide +kernel
theorem dX6_breakAt_36 : decode cX6_breakAt 36 = .ok (.aload_n 0, 1) := by decide +kernel
theorem dX6_breakAt_37 : decode cX6_breakAt 37 = .ok (.iload_n 1, 1) := by decide +kernel
theorem dX6_breakAt_38 : decode cX6_breakAt 38 = .ok (.invokevirtual 93, 3) := by decide +kernel
theorem dX6_breakAt_41 : decode cX6_breakAt 41 = .ok (.if_icmp .le 7, 3) := by decide +kernel
theorem dX6_breakAt_44 : decode cX6_breakAt 44 = .ok (.iload_n 2, 1) := by decide +kernel
theorem dX6_breakAt_45 : decode cX6_breakAt 45 = .ok (.goto 4, 3) := by decide +kernel
theorem dX6_breakAt_48 : decode cX6_breakAt 48 = .ok (.iload_n 1, 1) := by decide +kernel
theorem dX6_breakAt_49 : decode cX6_breakAt 49 = .ok (.istore_n 1, 1) := by decide +kernel
theorem dX6_breakAt_50 : decode cX6_breakAt 50 = .ok (.iinc 2 1, 3) := by decide +kernel
theorem dX6_breakAt_53 : decode cX6_breakAt 53 = .ok (.goto (-44), 3) := by decide +kernel
theorem dX6_breakAt_56 : decode cX6_breakAt 56 = .ok (.iload_n 1, 1) := by decide +kernel
theorem dX6_breakAt_57 : decode cX6_breakAt 57 = .ok (.ireturn, 1) := by decide +kernel
set_option maxRecDepth 20000 in
theorem ggX6_greatestDirection_X6_size : GoodIn wsX6_greatestDirection wsX6_size := goodIn_r _ [5, 6, 7, 8, 4, 9, 10, 11, 12, 13, 14, 15, 16, 17, 18, 19, 20, 21, 22, 23, 24, 25, 26, 27] (by decide +kernel) (by decide +kernel)
set_option maxRecDepth 20000 in
theorem gX6_greatestDirection_X6_size : GoodIn wsX6_greatestDirection (wsV RX6 50 RX6 yX6_size wsX6_size) := goodIn_app (goodIn_of _ (by decide +kernel)) ggX6_greatestDirection_X6_size
theorem dX6_greatestDirection_0 : decode cX6_greatestDirection 0 = .ok (.iconst 0, 1) := by decide +kernel
theorem dX6_greatestDirection_1 : decode cX6_greatestDirection 1 = .ok (.istore_n 2, 1) := by decide +kernel
theorem dX6_greatestDirection_2 : decode cX6_greatestDirection 2 = .ok (.iconst 1, 1) := by decide +kernel
theorem dX6_greatestDirection_3 : decode cX6_greatestDirection 3 = .ok (.istore_n 3, 1) := by decide +kernel
theorem dX6_greatestDirection_4 : decode cX6_greatestDirection 4 = .ok (.iload_n 3, 1) := by decide +kernel
theorem dX6_greatestDirection_5 : decode cX6_greatestDirection 5 = .ok (.iconst 3, 1) := by decide +kernel
theorem dX6_greatestDirection_6 : decode cX6_greatestDirection 6 = .ok (.if_icmp .ge 30, 3) := by decide +kernel
theorem dX6_greatestDirection_9 : decode cX6_greatestDirection 9 = .ok (.aload_n 0, 1) := by decide +kernel
theorem dX6_greatestDirection_10 : decode cX6_greatestDirection 10 = .ok (.iload_n 1, 1) := by decide +kernel
theorem dX6_greatestDirection_11 : decode cX6_greatestDirection 11 = .ok (.iload_n 3, 1) := by decide +kernel
theorem dX6_greatestDirection_12 : decode cX6_greatestDirection 12 = .ok (.invokevirtual 50, 3) := by decide +kernel
theorem dX6_greatestDirection_15 : decode cX6_greatestDirection 15 = .ok (.aload_n 0, 1) := by decide +kernel
theorem dX6_greatestDirection_16 : decode cX6_greatestDirection 16 = .ok (.iload_n 1, 1) := by decide +kernel
theorem dX6_greatestDirection_17 : decode cX6_greatestDirection 17 = .ok (.iload_n 2, 1) := by decide +kernel
theorem dX6_greatestDirection_18 : decode cX6_greatestDirection 18 = .ok (.invokevirtual 50, 3) := by decide +kernel
theorem dX6_greatestDirection_21 : decode cX6_greatestDirection 21 = .ok (.if_icmp .le 7, 3) := by decide +kernel
theorem dX6_greatestDirection_24 : decode cX6_greatestDirection 24 = .ok (.iload_n 3, 1) := by decide +kernel
theorem dX6_greatestDirection_25 : decode cX6_greatestDirection 25 = .ok (.goto 4, 3) := by decide +kernel
theorem dX6_greatestDirection_28 : decode cX6_greatestDirection 28 = .ok (.iload_n 2, 1) := by decide +kernel
theorem dX6_greatestDirection_29 : decode cX6_greatestDirection 29 = .ok (.istore_n 2, 1) := by decide +kernel
theorem dX6_greatestDirection_30 : decode cX6_greatestDirection 30 = .ok (.iinc 3 1, 3) := by decide +kernel
theorem dX6_greatestDirection_33 : decode cX6_greatestDirection 33 = .ok (.goto (-29), 3) := by decide +kernel
theorem dX6_greatestDirection_36 : decode cX6_greatestDirection 36 = .ok (.iload_n 2, 1) := by decide +kernel
theorem dX6_greatestDirection_37 : decode cX6_greatestDirection 37 = .ok (.ireturn, 1) := by decide +kernel
set_option maxRecDepth 20000 in
theorem ggX6_whyNoBreak_X6_greatestDirection : GoodIn wsX6_whyNoBreak wsX6_greatestDirection := goodIn_r _ [6, 7, 8, 9, 5, 10, 11, 12, 13, 14, 1, 15, 16, 17, 18, 19, 20, 21, 22, 23, 24, 25, 26, 27, 28, 29, 30, 31] (by decide +kernel) (by decide +kernel)
set_option maxRecDepth 20000 in
theorem gX6_whyNoBreak_X6_greatestDirection : GoodIn wsX6_whyNoBreak (wsV RX6 144 RX6 yX6_greatestDirection wsX6_greatestDirection) := goodIn_app (goodIn_of _ (by decide +kernel)) ggX6_whyNoBreak_X6_greatestDirection
set_option maxRecDepth 20000 in
theorem ggX6_whyNoBreak_X6_size : GoodIn wsX6_whyNoBreak wsX6_size := goodIn_r _ [10, 11, 12, 13, 5, 14, 1, 15, 16, 17, 18, 19, 20, 21, 22, 23, 24, 25, 26, 27, 28, 29, 30, 31] (by decide +kernel) (by decide +kernel)
set_option maxRecDepth 20000 in
theorem gX6_whyNoBreak_X6_size : GoodIn wsX6_whyNoBreak (wsV RX6 50 RX6 yX6_size wsX6_size) := goodIn_app (goodIn_of _ (by decide +kernel)) ggX6_whyNoBreak_X6_size
theorem dX6_whyNoBreak_0 : decode cX6_whyNoBreak 0 = .ok (.iload_n 1, 1) := by decide +kernel
theorem dX6_whyNoBreak_1 : decode cX6_whyNoBreak 1 = .ok (.ifCond .ge 6, 3) := by decide +kernel
theorem dX6_whyNoBreak_4 : decode cX6_whyNoBreak 4 = .ok (.bipush (-5), 2) := by decide +kernel
theorem dX6_whyNoBreak_6 : decode cX6_whyNoBreak 6 = .ok (.ireturn, 1) := by decide +kernel
theorem dX6_whyNoBreak_7 : decode cX6_whyNoBreak 7 = .ok (.aload_n 0, 1) := by decide +kernel
theorem dX6_whyNoBreak_8 : decode cX6_whyNoBreak 8 = .ok (.iload_n 1, 1) := by decide +kernel
theorem dX6_whyNoBreak_9 : decode cX6_whyNoBreak 9 = .ok (.aload_n 0, 1) := by decide +kernel
theorem dX6_whyNoBreak_10 : decode cX6_whyNoBreak 10 = .ok (.iload_n 1, 1) := by decide +kernel
theorem dX6_whyNoBreak_11 : decode cX6_whyNoBreak 11 = .ok (.invokevirtual 144, 3) := by decide +kernel
theorem dX6_whyNoBreak_14 : decode cX6_whyNoBreak 14 = .ok (.invokevirtual 50, 3) := by decide +kernel
theorem dX6_whyNoBreak_17 : decode cX6_whyNoBreak 17 = .ok (.iconst 1, 1) := by decide +kernel
theorem dX6_whyNoBreak_18 : decode cX6_whyNoBreak 18 = .ok (.if_icmp .ne 8, 3) := by decide +kernel
theorem dX6_whyNoBreak_21 : decode cX6_whyNoBreak 21 = .ok (.bipush (-4), 2) := by decide +kernel
theorem dX6_whyNoBreak_23 : decode cX6_whyNoBreak 23 = .ok (.goto 20, 3) := by decide +kernel
theorem dX6_whyNoBreak_26 : decode cX6_whyNoBreak 26 = .ok (.aload_n 0, 1) := by decide +kernel
theorem dX6_whyNoBreak_27 : decode cX6_whyNoBreak 27 = .ok (.getfield 7, 3) := by decide +kernel
theorem dX6_whyNoBreak_30 : decode cX6_whyNoBreak 30 = .ok (.iconst 0, 1) := by decide +kernel
theorem dX6_whyNoBreak_31 : decode cX6_whyNoBreak 31 = .ok (.iaload, 1) := by decide +kernel
theorem dX6_whyNoBreak_32 : decode cX6_whyNoBreak 32 = .ok (.bipush 16, 2) := by decide +kernel
theorem dX6_whyNoBreak_34 : decode cX6_whyNoBreak 34 = .ok (.if_icmp .ne 8, 3) := by decide +kernel
theorem dX6_whyNoBreak_37 : decode cX6_whyNoBreak 37 = .ok (.bipush (-3), 2) := by decide +kernel
theorem dX6_whyNoBreak_39 : decode cX6_whyNoBreak 39 = .ok (.goto 4, 3) := by decide +kernel
theorem dX6_whyNoBreak_42 : decode cX6_whyNoBreak 42 = .ok (.iconst 0, 1) := by decide +kernel
theorem dX6_whyNoBreak_43 : decode cX6_whyNoBreak 43 = .ok (.ireturn, 1) := by decide +kernel
set_option maxRecDepth 20000 in
theorem ggX6_doBreak_X6_greatestDirection : GoodIn wsX6_doBreak wsX6_greatestDirection := goodIn_r _ [5, 6, 7, 8, 4, 9, 10, 11, 12, 13, 14, 35, 36, 37, 38, 39, 40, 41, 42, 43, 44, 45, 46, 47, 48, 49, 50, 51] (by decide +kernel) (by decide +kernel)
set_option maxRecDepth 20000 in
theorem gX6_doBreak_X6_greatestDirection : GoodIn wsX6_doBreak (wsV RX6 144 RX6 yX6_greatestDirection wsX6_greatestDirection) := goodIn_app (goodIn_of _ (by decide +kernel)) ggX6_doBreak_X6_greatestDirection
set_option maxRecDepth 20000 in
theorem ggX6_doBreak_X6_low : GoodIn wsX6_doBreak wsX6_low := goodIn_r _ [18, 10, 11, 12, 4, 13, 14, 35, 36, 37, 38, 39, 40, 41, 42, 43, 44, 45, 46, 47, 48, 49, 50, 51] (by decide +kernel) (by decide +kernel)
set_option maxRecDepth 20000 in
theorem gX6_doBreak_X6_low : GoodIn wsX6_doBreak (wsV RX6 47 RX6 yX6_low wsX6_low) := goodIn_app (goodIn_of _ (by decide +kernel)) ggX6_doBreak_X6_low
set_option maxRecDepth 20000 in
theorem ggX6_doBreak_X6_size : GoodIn wsX6_doBreak wsX6_size := goodIn_r _ [9, 10, 11, 12, 4, 13, 14, 35, 36, 37, 38, 39, 40, 41, 42, 43, 44, 45, 46, 47, 48, 49, 50, 51] (by decide +kernel) (by decide +kernel)
set_option maxRecDepth 20000 in
theorem gX6_doBreak_X6_size : GoodIn wsX6_doBreak (wsV RX6 50 RX6 yX6_size wsX6_size) := goodIn_app (goodIn_of _ (by decide +kernel)) ggX6_doBreak_X6_size
set_option maxRecDepth 20000 in
theorem ggX6_doBreak_X6_doSplit : GoodIn wsX6_doBreak wsX6_doSplit := goodIn_r _ [22, 14, 23, 24, 25, 4, 26, 15, 16, 17, 18, 10, 11, 12, 13, 6, 7, 8, 9, 27, 28, 29, 30, 31, 32, 33, 34, 35, 36, 37, 38, 39, 40, 41, 42, 43, 44, 45, 46, 47, 48, 49, 50, 51] (by decide +kernel) (by decide +kernel)
set_option maxRecDepth 20000 in
theorem gX6_doBreak_X6_doSplit : GoodIn wsX6_doBreak (wsV RX6 137 RX6 yX6_doSplit wsX6_doSplit) := goodIn_app (goodIn_of _ (by decide +kernel)) ggX6_doBreak_X6_doSplit
theorem dX6_doBreak_0 : decode cX6_doBreak 0 = .ok (.aload_n 0, 1) := by decide +kernel
theorem dX6_doBreak_1 : decode cX6_doBreak 1 = .ok (.iload_n 1, 1) := by decide +kernel
theorem dX6_doBreak_2 : decode cX6_doBreak 2 = .ok (.invokevirtual 144, 3) := by decide +kernel
theorem dX6_doBreak_5 : decode cX6_doBreak 5 = .ok (.istore_n 2, 1) := by decide +kernel
theorem dX6_doBreak_6 : decode cX6_doBreak 6 = .ok (.aload_n 0, 1) := by decide +kernel
theorem dX6_doBreak_7 : decode cX6_doBreak 7 = .ok (.iload_n 1, 1) := by decide +kernel
theorem dX6_doBreak_8 : decode cX6_doBreak 8 = .ok (.iload_n 2, 1) := by decide +kernel
theorem dX6_doBreak_9 : decode cX6_doBreak 9 = .ok (.aload_n 0, 1) := by decide +kernel
theorem dX6_doBreak_10 : decode cX6_doBreak 10 = .ok (.iload_n 1, 1) := by decide +kernel
theorem dX6_doBreak_11 : decode cX6_doBreak 11 = .ok (.iload_n 2, 1) := by decide +kernel
theorem dX6_doBreak_12 : decode cX6_doBreak 12 = .ok (.invokevirtual 47, 3) := by decide +kernel
theorem dX6_doBreak_15 : decode cX6_doBreak 15 = .ok (.aload_n 0, 1) := by decide +kernel
theorem dX6_doBreak_16 : decode cX6_doBreak 16 = .ok (.iload_n 1, 1) := by decide +kernel
theorem dX6_doBreak_17 : decode cX6_doBreak 17 = .ok (.iload_n 2, 1) := by decide +kernel
theorem dX6_doBreak_18 : decode cX6_doBreak 18 = .ok (.invokevirtual 50, 3) := by decide +kernel
theorem dX6_doBreak_21 : decode cX6_doBreak 21 = .ok (.iconst 2, 1) := by decide +kernel
theorem dX6_doBreak_22 : decode cX6_doBreak 22 = .ok (.idiv, 1) := by decide +kernel
theorem dX6_doBreak_23 : decode cX6_doBreak 23 = .ok (.iadd, 1) := by decide +kernel
theorem dX6_doBreak_24 : decode cX6_doBreak 24 = .ok (.invokevirtual 137, 3) := by decide +kernel
theorem dX6_doBreak_27 : decode cX6_doBreak 27 = .ok (.ireturn, 1) := by decide +kernel
set_option maxRecDepth 20000 in
theorem ggX6_breakRing_X6_breakAt : GoodIn wsX6_breakRing wsX6_breakAt := goodIn_r _ [6, 1, 7, 8, 9, 5, 10, 11, 12, 13, 14, 15, 16, 17, 18, 19, 20, 21, 22, 23, 24, 25, 26, 27, 28, 29, 30, 31, 32, 33, 34, 35, 36, 37, 38, 39, 40, 41, 42, 43, 44, 45, 46, 47, 48, 49, 50, 51, 82, 83, 84, 85, 86, 87, 88, 89, 90, 91, 92, 93, 94, 95, 96, 97, 98] (by decide +kernel) (by decide +kernel)
set_option maxRecDepth 20000 in
theorem gX6_breakRing_X6_breakAt : GoodIn wsX6_breakRing (wsV RX6 147 RX6 yX6_breakAt wsX6_breakAt) := goodIn_app (goodIn_of _ (by decide +kernel)) ggX6_breakRing_X6_breakAt
set_option maxRecDepth 20000 in
theorem ggX6_breakRing_X6_whyNoBreak : GoodIn wsX6_breakRing wsX6_whyNoBreak := goodIn_r _ [55, 1, 56, 57, 58, 5, 59, 29, 30, 31, 32, 21, 22, 23, 24, 82, 83, 84, 85, 86, 87, 88, 89, 90, 91, 92, 93, 94, 95, 96, 97, 98] (by decide +kernel) (by decide +kernel)
set_option maxRecDepth 20000 in
theorem gX6_breakRing_X6_whyNoBreak : GoodIn wsX6_breakRing (wsV RX6 150 RX6 yX6_whyNoBreak wsX6_whyNoBreak) := goodIn_app (goodIn_of _ (by decide +kernel)) ggX6_breakRing_X6_whyNoBreak
set_option maxRecDepth 20000 in
theorem ggX6_breakRing_X6_push : GoodIn wsX6_breakRing wsX6_push := goodIn_r _ [63, 64, 65, 82, 83, 84, 85, 86, 87, 88, 89, 90, 91, 92, 93, 94, 95, 96, 97, 98] (by decide +kernel) (by decide +kernel)
set_option maxRecDepth 20000 in
theorem gX6_breakRing_X6_push : GoodIn wsX6_breakRing (wsV RX6 110 RX6 yX6_push wsX6_push) := goodIn_app (goodIn_of _ (by decide +kernel)) ggX6_breakRing_X6_push
set_option maxRecDepth 20000 in
theorem ggX6_breakRing_X6_doBreak : GoodIn wsX6_breakRing wsX6_doBreak := goodIn_r _ [69, 56, 57, 58, 5, 59, 29, 30, 31, 32, 21, 22, 23, 24, 1, 17, 18, 19, 20, 70, 71, 72, 73, 25, 26, 27, 28, 74, 75, 76, 77, 78, 79, 80, 81, 82, 83, 84, 85, 86, 87, 88, 89, 90, 91, 92, 93, 94, 95, 96, 97, 98] (by decide +kernel) (by decide +kernel)
set_option maxRecDepth 20000 in
theorem gX6_breakRing_X6_doBreak : GoodIn wsX6_breakRing (wsV RX6 153 RX6 yX6_doBreak wsX6_doBreak) := goodIn_app (goodIn_of _ (by decide +kernel)) ggX6_breakRing_X6_doBreak
theorem dX6_breakRing_0 : decode cX6_breakRing 0 = .ok (.aload_n 0, 1) := by decide +kernel
theorem dX6_breakRing_1 : decode cX6_breakRing 1 = .ok (.invokevirtual 147, 3) := by decide +kernel
theorem dX6_breakRing_4 : decode cX6_breakRing 4 = .ok (.istore_n 1, 1) := by decide +kernel
theorem dX6_breakRing_5 : decode cX6_breakRing 5 = .ok (.aload_n 0, 1) := by decide +kernel
theorem dX6_breakRing_6 : decode cX6_breakRing 6 = .ok (.iload_n 1, 1) := by decide +kernel
theorem dX6_breakRing_7 : decode cX6_breakRing 7 = .ok (.invokevirtual 150, 3) := by decide +kernel
theorem dX6_breakRing_10 : decode cX6_breakRing 10 = .ok (.istore_n 2, 1) := by decide +kernel
theorem dX6_breakRing_11 : decode cX6_breakRing 11 = .ok (.iload_n 2, 1) := by decide +kernel
theorem dX6_breakRing_12 : decode cX6_breakRing 12 = .ok (.ifCond .ge 5, 3) := by decide +kernel
theorem dX6_breakRing_15 : decode cX6_breakRing 15 = .ok (.iload_n 2, 1) := by decide +kernel
theorem dX6_breakRing_16 : decode cX6_breakRing 16 = .ok (.ireturn, 1) := by decide +kernel
theorem dX6_breakRing_17 : decode cX6_breakRing 17 = .ok (.aload_n 0, 1) := by decide +kernel
theorem dX6_breakRing_18 : decode cX6_breakRing 18 = .ok (.aload_n 0, 1) := by decide +kernel
theorem dX6_breakRing_19 : decode cX6_breakRing 19 = .ok (.getfield 7, 3) := by decide +kernel
theorem dX6_breakRing_22 : decode cX6_breakRing 22 = .ok (.invokevirtual 110, 3) := by decide +kernel
theorem dX6_breakRing_25 : decode cX6_breakRing 25 = .ok (.aload_n 0, 1) := by decide +kernel
theorem dX6_breakRing_26 : decode cX6_breakRing 26 = .ok (.iload_n 1, 1) := by decide +kernel
theorem dX6_breakRing_27 : decode cX6_breakRing 27 = .ok (.invokevirtual 153, 3) := by decide +kernel
theorem dX6_breakRing_30 : decode cX6_breakRing 30 = .ok (.ireturn, 1) := by decide +kernel
set_option maxRecDepth 20000 in
theorem ggX6_turn_X6_push : GoodIn wsX6_turn wsX6_push := goodIn_r _ [8, 9, 10, 54, 55, 56, 57, 58, 59, 60, 61, 62, 63, 64, 65, 66, 67, 68, 69, 70] (by decide +kernel) (by decide +kernel)
set_option maxRecDepth 20000 in
theorem gX6_turn_X6_push : GoodIn wsX6_turn (wsV RX6 110 RX6 yX6_push wsX6_push) := goodIn_app (goodIn_of _ (by decide +kernel)) ggX6_turn_X6_push
set_option maxRecDepth 20000 in
theorem ggX6_turn_X6_findHiding : GoodIn wsX6_turn wsX6_findHiding := goodIn_r _ [14, 1, 3, 15, 16, 17, 18, 7, 19, 20, 21, 22, 23, 24, 25, 26, 27, 28, 29, 30, 31, 32, 33, 34, 35, 36, 37, 38, 39, 40, 41, 42, 43, 44, 45, 46, 54, 55, 56, 57, 58, 59, 60, 61, 62, 63, 64, 65, 66, 67, 68, 69, 70] (by decide +kernel) (by decide +kernel)
set_option maxRecDepth 20000 in
theorem gX6_turn_X6_findHiding : GoodIn wsX6_turn (wsV RX6 141 RX6 yX6_findHiding wsX6_findHiding) := goodIn_app (goodIn_of _ (by decide +kernel)) ggX6_turn_X6_findHiding
set_option maxRecDepth 20000 in
theorem ggX6_turn_X6_low : GoodIn wsX6_turn wsX6_low := goodIn_r _ [23, 24, 25, 26, 7, 27, 1, 54, 55, 56, 57, 58, 59, 60, 61, 62, 63, 64, 65, 66, 67, 68, 69, 70] (by decide +kernel) (by decide +kernel)
set_option maxRecDepth 20000 in
theorem gX6_turn_X6_low : GoodIn wsX6_turn (wsV RX6 47 RX6 yX6_low wsX6_low) := goodIn_app (goodIn_of _ (by decide +kernel)) ggX6_turn_X6_low
set_option maxRecDepth 20000 in
theorem ggX6_turn_X6_size : GoodIn wsX6_turn wsX6_size := goodIn_r _ [35, 24, 25, 26, 7, 27, 1, 54, 55, 56, 57, 58, 59, 60, 61, 62, 63, 64, 65, 66, 67, 68, 69, 70] (by decide +kernel) (by decide +kernel)
set_option maxRecDepth 20000 in
theorem gX6_turn_X6_size : GoodIn wsX6_turn (wsV RX6 50 RX6 yX6_size wsX6_size) := goodIn_app (goodIn_of _ (by decide +kernel)) ggX6_turn_X6_size
set_option maxRecDepth 20000 in
theorem ggX6_turn_X6_high : GoodIn wsX6_turn wsX6_high := goodIn_r _ [31, 20, 21, 22, 7, 23, 24, 25, 26, 27, 1, 32, 33, 34, 35, 54, 55, 56, 57, 58, 59, 60, 61, 62, 63, 64, 65, 66, 67, 68, 69, 70] (by decide +kernel) (by decide +kernel)
set_option maxRecDepth 20000 in
theorem gX6_turn_X6_high : GoodIn wsX6_turn (wsV RX6 57 RX6 yX6_high wsX6_high) := goodIn_app (goodIn_of _ (by decide +kernel)) ggX6_turn_X6_high
set_option maxRecDepth 20000 in
theorem ggX6_turn_X6_put : GoodIn wsX6_turn wsX6_put := goodIn_r _ [50, 1, 54, 55, 56, 57, 58, 59, 60, 61, 62, 63, 64, 65, 66, 67, 68, 69, 70] (by decide +kernel) (by decide +kernel)
set_option maxRecDepth 20000 in
theorem gX6_turn_X6_put : GoodIn wsX6_turn (wsV RX6 114 RX6 yX6_put wsX6_put) := goodIn_app (goodIn_of _ (by decide +kernel)) ggX6_turn_X6_put
set_option maxRecDepth 20000 in
theorem ggX6_turn_X6_ones : GoodIn wsX6_turn wsX6_ones := goodIn_r _ [53] (by decide +kernel) (by decide +kernel)
set_option maxRecDepth 20000 in
theorem gX6_turn_X6_ones : GoodIn wsX6_turn (va_wsS RX6 156 yX6_ones wsX6_ones) := goodIn_app (goodIn_of _ (by decide +kernel)) ggX6_turn_X6_ones
theorem dX6_turn_0 : decode cX6_turn 0 = .ok (.aload_n 0, 1) := by decide +kernel
theorem dX6_turn_1 : decode cX6_turn 1 = .ok (.getfield 7, 3) := by decide +kernel
theorem dX6_turn_4 : decode cX6_turn 4 = .ok (.iconst 0, 1) := by decide +kernel
theorem dX6_turn_5 : decode cX6_turn 5 = .ok (.iaload, 1) := by decide +kernel
theorem dX6_turn_6 : decode cX6_turn 6 = .ok (.ifCond .ne 6, 3) := by decide +kernel
theorem dX6_turn_9 : decode cX6_turn 9 = .ok (.bipush (-5), 2) := by decide +kernel
theorem dX6_turn_11 : decode cX6_turn 11 = .ok (.ireturn, 1) := by decide +kernel
theorem dX6_turn_12 : decode cX6_turn 12 = .ok (.aload_n 0, 1) := by decide +kernel
theorem dX6_turn_13 : decode cX6_turn 13 = .ok (.aload_n 0, 1) := by decide +kernel
theorem dX6_turn_14 : decode cX6_turn 14 = .ok (.getfield 7, 3) := by decide +kernel
theorem dX6_turn_17 : decode cX6_turn 17 = .ok (.invokevirtual 110, 3) := by decide +kernel
theorem dX6_turn_20 : decode cX6_turn 20 = .ok (.aload_n 0, 1) := by decide +kernel
theorem dX6_turn_21 : decode cX6_turn 21 = .ok (.invokevirtual 141, 3) := by decide +kernel
theorem dX6_turn_24 : decode cX6_turn 24 = .ok (.iconst 0, 1) := by decide +kernel
theorem dX6_turn_25 : decode cX6_turn 25 = .ok (.istore_n 1, 1) := by decide +kernel
theorem dX6_turn_26 : decode cX6_turn 26 = .ok (.iload_n 1, 1) := by decide +kernel
theorem dX6_turn_27 : decode cX6_turn 27 = .ok (.aload_n 0, 1) := by decide +kernel
theorem dX6_turn_28 : decode cX6_turn 28 = .ok (.getfield 7, 3) := by decide +kernel
theorem dX6_turn_31 : decode cX6_turn 31 = .ok (.iconst 0, 1) := by decide +kernel
theorem dX6_turn_32 : decode cX6_turn 32 = .ok (.iaload, 1) := by decide +kernel
theorem dX6_turn_33 : decode cX6_turn 33 = .ok (.if_icmp .ge 21, 3) := by decide +kernel
theorem dX6_turn_36 : decode cX6_turn 36 = .ok (.aload_n 0, 1) := by decide +kernel
theorem dX6_turn_37 : decode cX6_turn 37 = .ok (.getfield 37, 3) := by decide +kernel
theorem dX6_turn_40 : decode cX6_turn 40 = .ok (.iload_n 1, 1) := by decide +kernel
theorem dX6_turn_41 : decode cX6_turn 41 = .ok (.aload_n 0, 1) := by decide +kernel
theorem dX6_turn_42 : decode cX6_turn 42 = .ok (.getfield 25, 3) := by decide +kernel
theorem dX6_turn_45 : decode cX6_turn 45 = .ok (.iload_n 1, 1) := by decide +kernel
theorem dX6_turn_46 : decode cX6_turn 46 = .ok (.iaload, 1) := by decide +kernel
theorem dX6_turn_47 : decode cX6_turn 47 = .ok (.iastore, 1) := by decide +kernel
theorem dX6_turn_48 : decode cX6_turn 48 = .ok (.iinc 1 1, 3) := by decide +kernel
theorem dX6_turn_51 : decode cX6_turn 51 = .ok (.goto (-25), 3) := by decide +kernel
theorem dX6_turn_54 : decode cX6_turn 54 = .ok (.iconst 0, 1) := by decide +kernel
theorem dX6_turn_55 : decode cX6_turn 55 = .ok (.istore_n 1, 1) := by decide +kernel
theorem dX6_turn_56 : decode cX6_turn 56 = .ok (.iload_n 1, 1) := by decide +kernel
theorem dX6_turn_57 : decode cX6_turn 57 = .ok (.aload_n 0, 1) := by decide +kernel
theorem dX6_turn_58 : decode cX6_turn 58 = .ok (.getfield 7, 3) := by decide +kernel
theorem dX6_turn_61 : decode cX6_turn 61 = .ok (.iconst 0, 1) := by decide +kernel
theorem dX6_turn_62 : decode cX6_turn 62 = .ok (.iaload, 1) := by decide +kernel
theorem dX6_turn_63 : decode cX6_turn 63 = .ok (.if_icmp .ge 64, 3) := by decide +kernel
theorem dX6_turn_66 : decode cX6_turn 66 = .ok (.aload_n 0, 1) := by decide +kernel
theorem dX6_turn_67 : decode cX6_turn 67 = .ok (.iload_n 1, 1) := by decide +kernel
theorem dX6_turn_68 : decode cX6_turn 68 = .ok (.iconst 0, 1) := by decide +kernel
theorem dX6_turn_69 : decode cX6_turn 69 = .ok (.invokevirtual 47, 3) := by decide +kernel
theorem dX6_turn_72 : decode cX6_turn 72 = .ok (.istore_n 2, 1) := by decide +kernel
theorem dX6_turn_73 : decode cX6_turn 73 = .ok (.aload_n 0, 1) := by decide +kernel
theorem dX6_turn_74 : decode cX6_turn 74 = .ok (.iload_n 1, 1) := by decide +kernel
theorem dX6_turn_75 : decode cX6_turn 75 = .ok (.iconst 0, 1) := by decide +kernel
theorem dX6_turn_76 : decode cX6_turn 76 = .ok (.invokevirtual 50, 3) := by decide +kernel
theorem dX6_turn_79 : decode cX6_turn 79 = .ok (.istore_n 3, 1) := by decide +kernel
theorem dX6_turn_80 : decode cX6_turn 80 = .ok (.aload_n 0, 1) := by decide +kernel
theorem dX6_turn_81 : decode cX6_turn 81 = .ok (.iload_n 1, 1) := by decide +kernel
theorem dX6_turn_82 : decode cX6_turn 82 = .ok (.iconst 1, 1) := by decide +kernel
theorem dX6_turn_83 : decode cX6_turn 83 = .ok (.bipush 32, 2) := by decide +kernel
theorem dX6_turn_85 : decode cX6_turn 85 = .ok (.aload_n 0, 1) := by decide +kernel
theorem dX6_turn_86 : decode cX6_turn 86 = .ok (.iload_n 1, 1) := by decide +kernel
theorem dX6_turn_87 : decode cX6_turn 87 = .ok (.iconst 1, 1) := by decide +kernel
theorem dX6_turn_88 : decode cX6_turn 88 = .ok (.invokevirtual 57, 3) := by decide +kernel
theorem dX6_turn_91 : decode cX6_turn 91 = .ok (.isub, 1) := by decide +kernel
theorem dX6_turn_92 : decode cX6_turn 92 = .ok (.invokevirtual 114, 3) := by decide +kernel
theorem dX6_turn_95 : decode cX6_turn 95 = .ok (.aload_n 0, 1) := by decide +kernel
theorem dX6_turn_96 : decode cX6_turn 96 = .ok (.iload_n 1, 1) := by decide +kernel
theorem dX6_turn_97 : decode cX6_turn 97 = .ok (.iconst 4, 1) := by decide +kernel
theorem dX6_turn_98 : decode cX6_turn 98 = .ok (.aload_n 0, 1) := by decide +kernel
theorem dX6_turn_99 : decode cX6_turn 99 = .ok (.iload_n 1, 1) := by decide +kernel
theorem dX6_turn_100 : decode cX6_turn 100 = .ok (.iconst 1, 1) := by decide +kernel
theorem dX6_turn_101 : decode cX6_turn 101 = .ok (.invokevirtual 50, 3) := by decide +kernel
theorem dX6_turn_104 : decode cX6_turn 104 = .ok (.invokevirtual 114, 3) := by decide +kernel
theorem dX6_turn_107 : decode cX6_turn 107 = .ok (.aload_n 0, 1) := by decide +kernel
theorem dX6_turn_108 : decode cX6_turn 108 = .ok (.iload_n 1, 1) := by decide +kernel
theorem dX6_turn_109 : decode cX6_turn 109 = .ok (.iconst 2, 1) := by decide +kernel
theorem dX6_turn_110 : decode cX6_turn 110 = .ok (.iload_n 2, 1) := by decide +kernel
theorem dX6_turn_111 : decode cX6_turn 111 = .ok (.invokevirtual 114, 3) := by decide +kernel
theorem dX6_turn_114 : decode cX6_turn 114 = .ok (.aload_n 0, 1) := by decide +kernel
theorem dX6_turn_115 : decode cX6_turn 115 = .ok (.iload_n 1, 1) := by decide +kernel
theorem dX6_turn_116 : decode cX6_turn 116 = .ok (.iconst 5, 1) := by decide +kernel
theorem dX6_turn_117 : decode cX6_turn 117 = .ok (.iload_n 3, 1) := by decide +kernel
theorem dX6_turn_118 : decode cX6_turn 118 = .ok (.invokevirtual 114, 3) := by decide +kernel
theorem dX6_turn_121 : decode cX6_turn 121 = .ok (.iinc 1 1, 3) := by decide +kernel
theorem dX6_turn_124 : decode cX6_turn 124 = .ok (.goto (-68), 3) := by decide +kernel
theorem dX6_turn_127 : decode cX6_turn 127 = .ok (.aload_n 0, 1) := by decide +kernel
theorem dX6_turn_128 : decode cX6_turn 128 = .ok (.invokevirtual 141, 3) := by decide +kernel
theorem dX6_turn_131 : decode cX6_turn 131 = .ok (.iconst 0, 1) := by decide +kernel
theorem dX6_turn_132 : decode cX6_turn 132 = .ok (.istore_n 1, 1) := by decide +kernel
theorem dX6_turn_133 : decode cX6_turn 133 = .ok (.iconst 0, 1) := by decide +kernel
theorem dX6_turn_134 : decode cX6_turn 134 = .ok (.istore_n 2, 1) := by decide +kernel
theorem dX6_turn_135 : decode cX6_turn 135 = .ok (.iload_n 2, 1) := by decide +kernel
theorem dX6_turn_136 : decode cX6_turn 136 = .ok (.aload_n 0, 1) := by decide +kernel
theorem dX6_turn_137 : decode cX6_turn 137 = .ok (.getfield 7, 3) := by decide +kernel
theorem dX6_turn_140 : decode cX6_turn 140 = .ok (.iconst 0, 1) := by decide +kernel
theorem dX6_turn_141 : decode cX6_turn 141 = .ok (.iaload, 1) := by decide +kernel
theorem dX6_turn_142 : decode cX6_turn 142 = .ok (.if_icmp .ge 30, 3) := by decide +kernel
theorem dX6_turn_145 : decode cX6_turn 145 = .ok (.iload_n 1, 1) := by decide +kernel
theorem dX6_turn_146 : decode cX6_turn 146 = .ok (.aload_n 0, 1) := by decide +kernel
theorem dX6_turn_147 : decode cX6_turn 147 = .ok (.getfield 37, 3) := by decide +kernel
theorem dX6_turn_150 : decode cX6_turn 150 = .ok (.iload_n 2, 1) := by decide +kernel
theorem dX6_turn_151 : decode cX6_turn 151 = .ok (.iaload, 1) := by decide +kernel
theorem dX6_turn_152 : decode cX6_turn 152 = .ok (.aload_n 0, 1) := by decide +kernel
theorem dX6_turn_153 : decode cX6_turn 153 = .ok (.getfield 25, 3) := by decide +kernel
theorem dX6_turn_156 : decode cX6_turn 156 = .ok (.iload_n 2, 1) := by decide +kernel
theorem dX6_turn_157 : decode cX6_turn 157 = .ok (.iaload, 1) := by decide +kernel
theorem dX6_turn_158 : decode cX6_turn 158 = .ok (.iconst (-1), 1) := by decide +kernel
theorem dX6_turn_159 : decode cX6_turn 159 = .ok (.ixor, 1) := by decide +kernel
theorem dX6_turn_160 : decode cX6_turn 160 = .ok (.iand, 1) := by decide +kernel
theorem dX6_turn_161 : decode cX6_turn 161 = .ok (.invokestatic 156, 3) := by decide +kernel
theorem dX6_turn_164 : decode cX6_turn 164 = .ok (.iadd, 1) := by decide +kernel
theorem dX6_turn_165 : decode cX6_turn 165 = .ok (.istore_n 1, 1) := by decide +kernel
theorem dX6_turn_166 : decode cX6_turn 166 = .ok (.iinc 2 1, 3) := by decide +kernel
theorem dX6_turn_169 : decode cX6_turn 169 = .ok (.goto (-34), 3) := by decide +kernel
theorem dX6_turn_172 : decode cX6_turn 172 = .ok (.iload_n 1, 1) := by decide +kernel
theorem dX6_turn_173 : decode cX6_turn 173 = .ok (.ireturn, 1) := by decide +kernel
set_option maxRecDepth 20000 in
theorem ggX6_set_X6_in : GoodIn wsX6_set wsX6_in := goodIn_r _ [5] (by decide +kernel) (by decide +kernel)
set_option maxRecDepth 20000 in
theorem gX6_set_X6_in : GoodIn wsX6_set (va_wsS RX6 53 yX6_in wsX6_in) := goodIn_app (goodIn_of _ (by decide +kernel)) ggX6_set_X6_in
set_option maxRecDepth 20000 in
theorem ggX6_set_X6_push : GoodIn wsX6_set wsX6_push := goodIn_r _ [9, 10, 11, 12, 13, 14, 15, 16, 17, 18, 19, 20, 21, 22, 23, 24, 25, 26, 27, 28] (by decide +kernel) (by decide +kernel)
set_option maxRecDepth 20000 in
theorem gX6_set_X6_push : GoodIn wsX6_set (wsV RX6 110 RX6 yX6_push wsX6_push) := goodIn_app (goodIn_of _ (by decide +kernel)) ggX6_set_X6_push
theorem dX6_set_0 : decode cX6_set 0 = .ok (.iload_n 1, 1) := by decide +kernel
theorem dX6_set_1 : decode cX6_set 1 = .ok (.ifCond .eq 5, 3) := by decide +kernel
theorem dX6_set_4 : decode cX6_set 4 = .ok (.iconst (-1), 1) := by decide +kernel
theorem dX6_set_5 : decode cX6_set 5 = .ok (.ireturn, 1) := by decide +kernel
theorem dX6_set_6 : decode cX6_set 6 = .ok (.iload_n 2, 1) := by decide +kernel
theorem dX6_set_7 : decode cX6_set 7 = .ok (.i2l, 1) := by decide +kernel
theorem dX6_set_8 : decode cX6_set 8 = .ok (.iconst 0, 1) := by decide +kernel
theorem dX6_set_9 : decode cX6_set 9 = .ok (.iconst 2, 1) := by decide +kernel
theorem dX6_set_10 : decode cX6_set 10 = .ok (.invokestatic 53, 3) := by decide +kernel
theorem dX6_set_13 : decode cX6_set 13 = .ok (.ifCond .ne 6, 3) := by decide +kernel
theorem dX6_set_16 : decode cX6_set 16 = .ok (.bipush (-2), 2) := by decide +kernel
theorem dX6_set_18 : decode cX6_set 18 = .ok (.ireturn, 1) := by decide +kernel
theorem dX6_set_19 : decode cX6_set 19 = .ok (.aload_n 0, 1) := by decide +kernel
theorem dX6_set_20 : decode cX6_set 20 = .ok (.getfield 7, 3) := by decide +kernel
theorem dX6_set_23 : decode cX6_set 23 = .ok (.iconst 3, 1) := by decide +kernel
theorem dX6_set_24 : decode cX6_set 24 = .ok (.iaload, 1) := by decide +kernel
theorem dX6_set_25 : decode cX6_set 25 = .ok (.iload_n 2, 1) := by decide +kernel
theorem dX6_set_26 : decode cX6_set 26 = .ok (.if_icmp .ne 6, 3) := by decide +kernel
theorem dX6_set_29 : decode cX6_set 29 = .ok (.bipush (-5), 2) := by decide +kernel
theorem dX6_set_31 : decode cX6_set 31 = .ok (.ireturn, 1) := by decide +kernel
theorem dX6_set_32 : decode cX6_set 32 = .ok (.aload_n 0, 1) := by decide +kernel
theorem dX6_set_33 : decode cX6_set 33 = .ok (.aload_n 0, 1) := by decide +kernel
theorem dX6_set_34 : decode cX6_set 34 = .ok (.getfield 7, 3) := by decide +kernel
theorem dX6_set_37 : decode cX6_set 37 = .ok (.invokevirtual 110, 3) := by decide +kernel
theorem dX6_set_40 : decode cX6_set 40 = .ok (.aload_n 0, 1) := by decide +kernel
theorem dX6_set_41 : decode cX6_set 41 = .ok (.getfield 7, 3) := by decide +kernel
theorem dX6_set_44 : decode cX6_set 44 = .ok (.iconst 3, 1) := by decide +kernel
theorem dX6_set_45 : decode cX6_set 45 = .ok (.iaload, 1) := by decide +kernel
theorem dX6_set_46 : decode cX6_set 46 = .ok (.istore_n 3, 1) := by decide +kernel
theorem dX6_set_47 : decode cX6_set 47 = .ok (.aload_n 0, 1) := by decide +kernel
theorem dX6_set_48 : decode cX6_set 48 = .ok (.getfield 7, 3) := by decide +kernel
theorem dX6_set_51 : decode cX6_set 51 = .ok (.iconst 3, 1) := by decide +kernel
theorem dX6_set_52 : decode cX6_set 52 = .ok (.iload_n 2, 1) := by decide +kernel
theorem dX6_set_53 : decode cX6_set 53 = .ok (.iastore, 1) := by decide +kernel
theorem dX6_set_54 : decode cX6_set 54 = .ok (.iload_n 3, 1) := by decide +kernel
theorem dX6_set_55 : decode cX6_set 55 = .ok (.ireturn, 1) := by decide +kernel
theorem dX6_type_0 : decode cX6_type 0 = .ok (.aload_n 0, 1) := by decide +kernel
theorem dX6_type_1 : decode cX6_type 1 = .ok (.getfield 159, 3) := by decide +kernel
theorem dX6_type_4 : decode cX6_type 4 = .ok (.bipush 80, 2) := by decide +kernel
theorem dX6_type_6 : decode cX6_type 6 = .ok (.if_icmp .ne 6, 3) := by decide +kernel
theorem dX6_type_9 : decode cX6_type 9 = .ok (.bipush (-3), 2) := by decide +kernel
theorem dX6_type_11 : decode cX6_type 11 = .ok (.ireturn, 1) := by decide +kernel
theorem dX6_type_12 : decode cX6_type 12 = .ok (.aload_n 0, 1) := by decide +kernel
theorem dX6_type_13 : decode cX6_type 13 = .ok (.getfield 22, 3) := by decide +kernel
theorem dX6_type_16 : decode cX6_type 16 = .ok (.aload_n 0, 1) := by decide +kernel
theorem dX6_type_17 : decode cX6_type 17 = .ok (.getfield 159, 3) := by decide +kernel
theorem dX6_type_20 : decode cX6_type 20 = .ok (.iload_n 1, 1) := by decide +kernel
theorem dX6_type_21 : decode cX6_type 21 = .ok (.iastore, 1) := by decide +kernel
theorem dX6_type_22 : decode cX6_type 22 = .ok (.aload_n 0, 1) := by decide +kernel
theorem dX6_type_23 : decode cX6_type 23 = .ok (.dup, 1) := by decide +kernel
theorem dX6_type_24 : decode cX6_type 24 = .ok (.getfield 159, 3) := by decide +kernel
theorem dX6_type_27 : decode cX6_type 27 = .ok (.iconst 1, 1) := by decide +kernel
theorem dX6_type_28 : decode cX6_type 28 = .ok (.iadd, 1) := by decide +kernel
theorem dX6_type_29 : decode cX6_type 29 = .ok (.putfield 159, 3) := by decide +kernel
theorem dX6_type_32 : decode cX6_type 32 = .ok (.aload_n 0, 1) := by decide +kernel
theorem dX6_type_33 : decode cX6_type 33 = .ok (.getfield 159, 3) := by decide +kernel
theorem dX6_type_36 : decode cX6_type 36 = .ok (.ireturn, 1) := by decide +kernel
theorem dX6_clearText_0 : decode cX6_clearText 0 = .ok (.aload_n 0, 1) := by decide +kernel
theorem dX6_clearText_1 : decode cX6_clearText 1 = .ok (.getfield 159, 3) := by decide +kernel
theorem dX6_clearText_4 : decode cX6_clearText 4 = .ok (.istore_n 1, 1) := by decide +kernel
theorem dX6_clearText_5 : decode cX6_clearText 5 = .ok (.aload_n 0, 1) := by decide +kernel
theorem dX6_clearText_6 : decode cX6_clearText 6 = .ok (.iconst 0, 1) := by decide +kernel
theorem dX6_clearText_7 : decode cX6_clearText 7 = .ok (.putfield 159, 3) := by decide +kernel
theorem dX6_clearText_10 : decode cX6_clearText 10 = .ok (.iload_n 1, 1) := by decide +kernel
theorem dX6_clearText_11 : decode cX6_clearText 11 = .ok (.ireturn, 1) := by decide +kernel
theorem dX6_sign_0 : decode cX6_sign 0 = .ok (.aload_n 0, 1) := by decide +kernel
theorem dX6_sign_1 : decode cX6_sign 1 = .ok (.getfield 162, 3) := by decide +kernel
theorem dX6_sign_4 : decode cX6_sign 4 = .ok (.aload_n 0, 1) := by decide +kernel
theorem dX6_sign_5 : decode cX6_sign 5 = .ok (.getfield 159, 3) := by decide +kernel
theorem dX6_sign_8 : decode cX6_sign 8 = .ok (.if_icmp .ge 15, 3) := by decide +kernel
theorem dX6_sign_11 : decode cX6_sign 11 = .ok (.aload_n 0, 1) := by decide +kernel
theorem dX6_sign_12 : decode cX6_sign 12 = .ok (.getfield 22, 3) := by decide +kernel
theorem dX6_sign_15 : decode cX6_sign 15 = .ok (.aload_n 0, 1) := by decide +kernel
theorem dX6_sign_16 : decode cX6_sign 16 = .ok (.getfield 162, 3) := by decide +kernel
theorem dX6_sign_19 : decode cX6_sign 19 = .ok (.iaload, 1) := by decide +kernel
theorem dX6_sign_20 : decode cX6_sign 20 = .ok (.goto 4, 3) := by decide +kernel
theorem dX6_sign_23 : decode cX6_sign 23 = .ok (.iconst 0, 1) := by decide +kernel
theorem dX6_sign_24 : decode cX6_sign 24 = .ok (.ireturn, 1) := by decide +kernel
theorem dX6_take_0 : decode cX6_take 0 = .ok (.aload_n 0, 1) := by decide +kernel
theorem dX6_take_1 : decode cX6_take 1 = .ok (.aload_n 0, 1) := by decide +kernel
theorem dX6_take_2 : decode cX6_take 2 = .ok (.getfield 165, 3) := by decide +kernel
theorem dX6_take_5 : decode cX6_take 5 = .ok (.ifCond .ne 7, 3) := by decide +kernel
theorem dX6_take_8 : decode cX6_take 8 = .ok (.iload_n 1, 1) := by decide +kernel
theorem dX6_take_9 : decode cX6_take 9 = .ok (.ifCond .ne 7, 3) := by decide +kernel
theorem dX6_take_12 : decode cX6_take 12 = .ok (.iconst 1, 1) := by decide +kernel
theorem dX6_take_13 : decode cX6_take 13 = .ok (.goto 4, 3) := by decide +kernel
theorem dX6_take_16 : decode cX6_take 16 = .ok (.iconst 0, 1) := by decide +kernel
theorem dX6_take_17 : decode cX6_take 17 = .ok (.putfield 165, 3) := by decide +kernel
theorem dX6_take_20 : decode cX6_take 20 = .ok (.aload_n 0, 1) := by decide +kernel
theorem dX6_take_21 : decode cX6_take 21 = .ok (.dup, 1) := by decide +kernel
theorem dX6_take_22 : decode cX6_take 22 = .ok (.getfield 162, 3) := by decide +kernel
theorem dX6_take_25 : decode cX6_take 25 = .ok (.aload_n 0, 1) := by decide +kernel
theorem dX6_take_26 : decode cX6_take 26 = .ok (.getfield 165, 3) := by decide +kernel
theorem dX6_take_29 : decode cX6_take 29 = .ok (.ifCond .eq 7, 3) := by decide +kernel
theorem dX6_take_32 : decode cX6_take 32 = .ok (.iconst 0, 1) := by decide +kernel
theorem dX6_take_33 : decode cX6_take 33 = .ok (.goto 4, 3) := by decide +kernel
theorem dX6_take_36 : decode cX6_take 36 = .ok (.iconst 1, 1) := by decide +kernel
theorem dX6_take_37 : decode cX6_take 37 = .ok (.iadd, 1) := by decide +kernel
theorem dX6_take_38 : decode cX6_take 38 = .ok (.putfield 162, 3) := by decide +kernel
theorem dX6_take_41 : decode cX6_take 41 = .ok (.return_, 1) := by decide +kernel
set_option maxRecDepth 20000 in
theorem ggX6_readNumber_X6_sign : GoodIn wsX6_readNumber wsX6_sign := goodIn_r _ [7, 2, 8, 9, 17, 18, 19, 20, 21, 22, 23, 24, 25, 26, 27, 28, 29, 30, 31, 32, 33] (by decide +kernel) (by decide +kernel)
set_option maxRecDepth 20000 in
theorem gX6_readNumber_X6_sign : GoodIn wsX6_readNumber (wsV RX6 168 RX6 yX6_sign wsX6_sign) := goodIn_app (goodIn_of _ (by decide +kernel)) ggX6_readNumber_X6_sign
set_option maxRecDepth 20000 in
theorem ggX6_readNumber_X6_in : GoodIn wsX6_readNumber wsX6_in := goodIn_r _ [12] (by decide +kernel) (by decide +kernel)
set_option maxRecDepth 20000 in
theorem gX6_readNumber_X6_in : GoodIn wsX6_readNumber (va_wsS RX6 53 yX6_in wsX6_in) := goodIn_app (goodIn_of _ (by decide +kernel)) ggX6_readNumber_X6_in
set_option maxRecDepth 20000 in
theorem ggX6_readNumber_X6_take : GoodIn wsX6_readNumber wsX6_take := goodIn_r _ [16, 1, 2, 17, 18, 19, 20, 21, 22, 23, 24, 25, 26, 27, 28, 29, 30, 31, 32, 33] (by decide +kernel) (by decide +kernel)
set_option maxRecDepth 20000 in
theorem gX6_readNumber_X6_take : GoodIn wsX6_readNumber (wsV RX6 171 RX6 yX6_take wsX6_take) := goodIn_app (goodIn_of _ (by decide +kernel)) ggX6_readNumber_X6_take
theorem dX6_readNumber_0 : decode cX6_readNumber 0 = .ok (.aload_n 0, 1) := by decide +kernel
theorem dX6_readNumber_1 : decode cX6_readNumber 1 = .ok (.invokevirtual 168, 3) := by decide +kernel
theorem dX6_readNumber_4 : decode cX6_readNumber 4 = .ok (.bipush 48, 2) := by decide +kernel
theorem dX6_readNumber_6 : decode cX6_readNumber 6 = .ok (.isub, 1) := by decide +kernel
theorem dX6_readNumber_7 : decode cX6_readNumber 7 = .ok (.istore_n 3, 1) := by decide +kernel
theorem dX6_readNumber_8 : decode cX6_readNumber 8 = .ok (.aload_n 0, 1) := by decide +kernel
theorem dX6_readNumber_9 : decode cX6_readNumber 9 = .ok (.iload_n 3, 1) := by decide +kernel
theorem dX6_readNumber_10 : decode cX6_readNumber 10 = .ok (.i2l, 1) := by decide +kernel
theorem dX6_readNumber_11 : decode cX6_readNumber 11 = .ok (.iload_n 1, 1) := by decide +kernel
theorem dX6_readNumber_12 : decode cX6_readNumber 12 = .ok (.bipush 9, 2) := by decide +kernel
theorem dX6_readNumber_14 : decode cX6_readNumber 14 = .ok (.invokestatic 53, 3) := by decide +kernel
theorem dX6_readNumber_17 : decode cX6_readNumber 17 = .ok (.invokevirtual 171, 3) := by decide +kernel
theorem dX6_readNumber_20 : decode cX6_readNumber 20 = .ok (.aload_n 0, 1) := by decide +kernel
theorem dX6_readNumber_21 : decode cX6_readNumber 21 = .ok (.getfield 165, 3) := by decide +kernel
theorem dX6_readNumber_24 : decode cX6_readNumber 24 = .ok (.ifCond .ne 64, 3) := by decide +kernel
theorem dX6_readNumber_27 : decode cX6_readNumber 27 = .ok (.iload_n 3, 1) := by decide +kernel
theorem dX6_readNumber_28 : decode cX6_readNumber 28 = .ok (.ifCond .le 60, 3) := by decide +kernel
theorem dX6_readNumber_31 : decode cX6_readNumber 31 = .ok (.aload_n 0, 1) := by decide +kernel
theorem dX6_readNumber_32 : decode cX6_readNumber 32 = .ok (.invokevirtual 168, 3) := by decide +kernel
theorem dX6_readNumber_35 : decode cX6_readNumber 35 = .ok (.i2l, 1) := by decide +kernel
theorem dX6_readNumber_36 : decode cX6_readNumber 36 = .ok (.bipush 48, 2) := by decide +kernel
theorem dX6_readNumber_38 : decode cX6_readNumber 38 = .ok (.bipush 57, 2) := by decide +kernel
theorem dX6_readNumber_40 : decode cX6_readNumber 40 = .ok (.invokestatic 53, 3) := by decide +kernel
theorem dX6_readNumber_43 : decode cX6_readNumber 43 = .ok (.ifCond .eq 45, 3) := by decide +kernel
theorem dX6_readNumber_46 : decode cX6_readNumber 46 = .ok (.bipush 10, 2) := by decide +kernel
theorem dX6_readNumber_48 : decode cX6_readNumber 48 = .ok (.iload_n 3, 1) := by decide +kernel
theorem dX6_readNumber_49 : decode cX6_readNumber 49 = .ok (.imul, 1) := by decide +kernel
theorem dX6_readNumber_50 : decode cX6_readNumber 50 = .ok (.aload_n 0, 1) := by decide +kernel
theorem dX6_readNumber_51 : decode cX6_readNumber 51 = .ok (.invokevirtual 168, 3) := by decide +kernel
theorem dX6_readNumber_54 : decode cX6_readNumber 54 = .ok (.iadd, 1) := by decide +kernel
theorem dX6_readNumber_55 : decode cX6_readNumber 55 = .ok (.bipush 48, 2) := by decide +kernel
theorem dX6_readNumber_57 : decode cX6_readNumber 57 = .ok (.isub, 1) := by decide +kernel
theorem dX6_readNumber_58 : decode cX6_readNumber 58 = .ok (.iload_n 2, 1) := by decide +kernel
theorem dX6_readNumber_59 : decode cX6_readNumber 59 = .ok (.if_icmp .gt 29, 3) := by decide +kernel
theorem dX6_readNumber_62 : decode cX6_readNumber 62 = .ok (.bipush 10, 2) := by decide +kernel
theorem dX6_readNumber_64 : decode cX6_readNumber 64 = .ok (.iload_n 3, 1) := by decide +kernel
theorem dX6_readNumber_65 : decode cX6_readNumber 65 = .ok (.imul, 1) := by decide +kernel
theorem dX6_readNumber_66 : decode cX6_readNumber 66 = .ok (.aload_n 0, 1) := by decide +kernel
theorem dX6_readNumber_67 : decode cX6_readNumber 67 = .ok (.invokevirtual 168, 3) := by decide +kernel
theorem dX6_readNumber_70 : decode cX6_readNumber 70 = .ok (.iadd, 1) := by decide +kernel
theorem dX6_readNumber_71 : decode cX6_readNumber 71 = .ok (.bipush 48, 2) := by decide +kernel
theorem dX6_readNumber_73 : decode cX6_readNumber 73 = .ok (.isub, 1) := by decide +kernel
theorem dX6_readNumber_74 : decode cX6_readNumber 74 = .ok (.istore_n 3, 1) := by decide +kernel
theorem dX6_readNumber_75 : decode cX6_readNumber 75 = .ok (.aload_n 0, 1) := by decide +kernel
theorem dX6_readNumber_76 : decode cX6_readNumber 76 = .ok (.dup, 1) := by decide +kernel
theorem dX6_readNumber_77 : decode cX6_readNumber 77 = .ok (.getfield 162, 3) := by decide +kernel
theorem dX6_readNumber_80 : decode cX6_readNumber 80 = .ok (.iconst 1, 1) := by decide +kernel
theorem dX6_readNumber_81 : decode cX6_readNumber 81 = .ok (.iadd, 1) := by decide +kernel
theorem dX6_readNumber_82 : decode cX6_readNumber 82 = .ok (.putfield 162, 3) := by decide +kernel
theorem dX6_readNumber_85 : decode cX6_readNumber 85 = .ok (.goto (-65), 3) := by decide +kernel
theorem dX6_readNumber_88 : decode cX6_readNumber 88 = .ok (.iload_n 3, 1) := by decide +kernel
theorem dX6_readNumber_89 : decode cX6_readNumber 89 = .ok (.ireturn, 1) := by decide +kernel
set_option maxRecDepth 20000 in
theorem ggX6_readBox_X6_sign : GoodIn wsX6_readBox wsX6_sign := goodIn_r _ [7, 8, 9, 10, 22, 23, 24, 25, 26, 27, 28, 29, 30, 31, 32, 33, 34, 35, 36, 37, 38] (by decide +kernel) (by decide +kernel)
set_option maxRecDepth 20000 in
theorem gX6_readBox_X6_sign : GoodIn wsX6_readBox (wsV RX6 168 RX6 yX6_sign wsX6_sign) := goodIn_app (goodIn_of _ (by decide +kernel)) ggX6_readBox_X6_sign
set_option maxRecDepth 20000 in
theorem ggX6_readBox_X6_take : GoodIn wsX6_readBox wsX6_take := goodIn_r _ [14, 1, 8, 22, 23, 24, 25, 26, 27, 28, 29, 30, 31, 32, 33, 34, 35, 36, 37, 38] (by decide +kernel) (by decide +kernel)
set_option maxRecDepth 20000 in
theorem gX6_readBox_X6_take : GoodIn wsX6_readBox (wsV RX6 171 RX6 yX6_take wsX6_take) := goodIn_app (goodIn_of _ (by decide +kernel)) ggX6_readBox_X6_take
set_option maxRecDepth 20000 in
theorem ggX6_readBox_X6_readNumber : GoodIn wsX6_readBox wsX6_readNumber := goodIn_r _ [18, 1, 8, 3, 4, 5, 6, 7, 9, 10, 19, 20, 21, 11, 12, 13, 14, 22, 23, 24, 25, 26, 27, 28, 29, 30, 31, 32, 33, 34, 35, 36, 37, 38] (by decide +kernel) (by decide +kernel)
set_option maxRecDepth 20000 in
theorem gX6_readBox_X6_readNumber : GoodIn wsX6_readBox (wsV RX6 175 RX6 yX6_readNumber wsX6_readNumber) := goodIn_app (goodIn_of _ (by decide +kernel)) ggX6_readBox_X6_readNumber
theorem dX6_readBox_0 : decode cX6_readBox 0 = .ok (.iconst 0, 1) := by decide +kernel
theorem dX6_readBox_1 : decode cX6_readBox 1 = .ok (.istore_n 1, 1) := by decide +kernel
theorem dX6_readBox_2 : decode cX6_readBox 2 = .ok (.iload_n 1, 1) := by decide +kernel
theorem dX6_readBox_3 : decode cX6_readBox 3 = .ok (.bipush 6, 2) := by decide +kernel
theorem dX6_readBox_5 : decode cX6_readBox 5 = .ok (.if_icmp .ge 76, 3) := by decide +kernel
theorem dX6_readBox_8 : decode cX6_readBox 8 = .ok (.iload_n 1, 1) := by decide +kernel
theorem dX6_readBox_9 : decode cX6_readBox 9 = .ok (.ifCond .le 31, 3) := by decide +kernel
theorem dX6_readBox_12 : decode cX6_readBox 12 = .ok (.aload_n 0, 1) := by decide +kernel
theorem dX6_readBox_13 : decode cX6_readBox 13 = .ok (.aload_n 0, 1) := by decide +kernel
theorem dX6_readBox_14 : decode cX6_readBox 14 = .ok (.invokevirtual 168, 3) := by decide +kernel
theorem dX6_readBox_17 : decode cX6_readBox 17 = .ok (.iload_n 1, 1) := by decide +kernel
theorem dX6_readBox_18 : decode cX6_readBox 18 = .ok (.iconst 3, 1) := by decide +kernel
theorem dX6_readBox_19 : decode cX6_readBox 19 = .ok (.if_icmp .ne 8, 3) := by decide +kernel
theorem dX6_readBox_22 : decode cX6_readBox 22 = .ok (.bipush 58, 2) := by decide +kernel
theorem dX6_readBox_24 : decode cX6_readBox 24 = .ok (.goto 5, 3) := by decide +kernel
theorem dX6_readBox_27 : decode cX6_readBox 27 = .ok (.bipush 44, 2) := by decide +kernel
theorem dX6_readBox_29 : decode cX6_readBox 29 = .ok (.if_icmp .ne 7, 3) := by decide +kernel
theorem dX6_readBox_32 : decode cX6_readBox 32 = .ok (.iconst 1, 1) := by decide +kernel
theorem dX6_readBox_33 : decode cX6_readBox 33 = .ok (.goto 4, 3) := by decide +kernel
theorem dX6_readBox_36 : decode cX6_readBox 36 = .ok (.iconst 0, 1) := by decide +kernel
theorem dX6_readBox_37 : decode cX6_readBox 37 = .ok (.invokevirtual 171, 3) := by decide +kernel
theorem dX6_readBox_40 : decode cX6_readBox 40 = .ok (.aload_n 0, 1) := by decide +kernel
theorem dX6_readBox_41 : decode cX6_readBox 41 = .ok (.getfield 165, 3) := by decide +kernel
theorem dX6_readBox_44 : decode cX6_readBox 44 = .ok (.ifCond .ne 31, 3) := by decide +kernel
theorem dX6_readBox_47 : decode cX6_readBox 47 = .ok (.aload_n 0, 1) := by decide +kernel
theorem dX6_readBox_48 : decode cX6_readBox 48 = .ok (.getfield 40, 3) := by decide +kernel
theorem dX6_readBox_51 : decode cX6_readBox 51 = .ok (.iload_n 1, 1) := by decide +kernel
theorem dX6_readBox_52 : decode cX6_readBox 52 = .ok (.iload_n 1, 1) := by decide +kernel
theorem dX6_readBox_53 : decode cX6_readBox 53 = .ok (.iconst 3, 1) := by decide +kernel
theorem dX6_readBox_54 : decode cX6_readBox 54 = .ok (.if_icmp .ge 13, 3) := by decide +kernel
theorem dX6_readBox_57 : decode cX6_readBox 57 = .ok (.aload_n 0, 1) := by decide +kernel
theorem dX6_readBox_58 : decode cX6_readBox 58 = .ok (.iconst 0, 1) := by decide +kernel
theorem dX6_readBox_59 : decode cX6_readBox 59 = .ok (.bipush 31, 2) := by decide +kernel
theorem dX6_readBox_61 : decode cX6_readBox 61 = .ok (.invokevirtual 175, 3) := by decide +kernel
theorem dX6_readBox_64 : decode cX6_readBox 64 = .ok (.goto 10, 3) := by decide +kernel
theorem dX6_readBox_67 : decode cX6_readBox 67 = .ok (.aload_n 0, 1) := by decide +kernel
theorem dX6_readBox_68 : decode cX6_readBox 68 = .ok (.iconst 1, 1) := by decide +kernel
theorem dX6_readBox_69 : decode cX6_readBox 69 = .ok (.bipush 12, 2) := by decide +kernel
theorem dX6_readBox_71 : decode cX6_readBox 71 = .ok (.invokevirtual 175, 3) := by decide +kernel
theorem dX6_readBox_74 : decode cX6_readBox 74 = .ok (.iastore, 1) := by decide +kernel
theorem dX6_readBox_75 : decode cX6_readBox 75 = .ok (.iinc 1 1, 3) := by decide +kernel
theorem dX6_readBox_78 : decode cX6_readBox 78 = .ok (.goto (-76), 3) := by decide +kernel
theorem dX6_readBox_81 : decode cX6_readBox 81 = .ok (.return_, 1) := by decide +kernel
set_option maxRecDepth 20000 in
theorem ggX6_findFault_X6_readBox : GoodIn wsX6_findFault wsX6_readBox := goodIn_r _ [8, 2, 9, 10, 11, 12, 7, 13, 1, 3, 14, 15, 16, 17, 18, 19, 20, 21, 22, 23, 24, 25, 26, 27, 28, 29, 30, 31, 32, 33, 34, 35, 36, 37, 38, 39, 40, 41, 42] (by decide +kernel) (by decide +kernel)
set_option maxRecDepth 20000 in
theorem gX6_findFault_X6_readBox : GoodIn wsX6_findFault (wsV RX6 178 RX6 yX6_readBox wsX6_readBox) := goodIn_app (goodIn_of _ (by decide +kernel)) ggX6_findFault_X6_readBox
set_option maxRecDepth 20000 in
theorem ggX6_findFault_X6_sign : GoodIn wsX6_findFault wsX6_sign := goodIn_r _ [13, 1, 3, 14, 26, 27, 28, 29, 30, 31, 32, 33, 34, 35, 36, 37, 38, 39, 40, 41, 42] (by decide +kernel) (by decide +kernel)
set_option maxRecDepth 20000 in
theorem gX6_findFault_X6_sign : GoodIn wsX6_findFault (wsV RX6 168 RX6 yX6_sign wsX6_sign) := goodIn_app (goodIn_of _ (by decide +kernel)) ggX6_findFault_X6_sign
set_option maxRecDepth 20000 in
theorem ggX6_findFault_X6_take : GoodIn wsX6_findFault wsX6_take := goodIn_r _ [18, 2, 1, 26, 27, 28, 29, 30, 31, 32, 33, 34, 35, 36, 37, 38, 39, 40, 41, 42] (by decide +kernel) (by decide +kernel)
set_option maxRecDepth 20000 in
theorem gX6_findFault_X6_take : GoodIn wsX6_findFault (wsV RX6 171 RX6 yX6_take wsX6_take) := goodIn_app (goodIn_of _ (by decide +kernel)) ggX6_findFault_X6_take
theorem dX6_findFault_0 : decode cX6_findFault 0 = .ok (.aload_n 0, 1) := by decide +kernel
theorem dX6_findFault_1 : decode cX6_findFault 1 = .ok (.iconst 0, 1) := by decide +kernel
theorem dX6_findFault_2 : decode cX6_findFault 2 = .ok (.putfield 162, 3) := by decide +kernel
theorem dX6_findFault_5 : decode cX6_findFault 5 = .ok (.aload_n 0, 1) := by decide +kernel
theorem dX6_findFault_6 : decode cX6_findFault 6 = .ok (.iconst 0, 1) := by decide +kernel
theorem dX6_findFault_7 : decode cX6_findFault 7 = .ok (.putfield 165, 3) := by decide +kernel
theorem dX6_findFault_10 : decode cX6_findFault 10 = .ok (.aload_n 0, 1) := by decide +kernel
theorem dX6_findFault_11 : decode cX6_findFault 11 = .ok (.invokevirtual 178, 3) := by decide +kernel
theorem dX6_findFault_14 : decode cX6_findFault 14 = .ok (.aload_n 0, 1) := by decide +kernel
theorem dX6_findFault_15 : decode cX6_findFault 15 = .ok (.getfield 165, 3) := by decide +kernel
theorem dX6_findFault_18 : decode cX6_findFault 18 = .ok (.ifCond .eq 8, 3) := by decide +kernel
theorem dX6_findFault_21 : decode cX6_findFault 21 = .ok (.aload_n 0, 1) := by decide +kernel
theorem dX6_findFault_22 : decode cX6_findFault 22 = .ok (.getfield 162, 3) := by decide +kernel
theorem dX6_findFault_25 : decode cX6_findFault 25 = .ok (.ireturn, 1) := by decide +kernel
theorem dX6_findFault_26 : decode cX6_findFault 26 = .ok (.aload_n 0, 1) := by decide +kernel
theorem dX6_findFault_27 : decode cX6_findFault 27 = .ok (.getfield 162, 3) := by decide +kernel
theorem dX6_findFault_30 : decode cX6_findFault 30 = .ok (.aload_n 0, 1) := by decide +kernel
theorem dX6_findFault_31 : decode cX6_findFault 31 = .ok (.getfield 159, 3) := by decide +kernel
theorem dX6_findFault_34 : decode cX6_findFault 34 = .ok (.if_icmp .ne 6, 3) := by decide +kernel
theorem dX6_findFault_37 : decode cX6_findFault 37 = .ok (.bipush (-5), 2) := by decide +kernel
theorem dX6_findFault_39 : decode cX6_findFault 39 = .ok (.ireturn, 1) := by decide +kernel
theorem dX6_findFault_40 : decode cX6_findFault 40 = .ok (.aload_n 0, 1) := by decide +kernel
theorem dX6_findFault_41 : decode cX6_findFault 41 = .ok (.aload_n 0, 1) := by decide +kernel
theorem dX6_findFault_42 : decode cX6_findFault 42 = .ok (.invokevirtual 168, 3) := by decide +kernel
theorem dX6_findFault_45 : decode cX6_findFault 45 = .ok (.bipush 59, 2) := by decide +kernel
theorem dX6_findFault_47 : decode cX6_findFault 47 = .ok (.if_icmp .ne 7, 3) := by decide +kernel
theorem dX6_findFault_50 : decode cX6_findFault 50 = .ok (.iconst 1, 1) := by decide +kernel
theorem dX6_findFault_51 : decode cX6_findFault 51 = .ok (.goto 4, 3) := by decide +kernel
theorem dX6_findFault_54 : decode cX6_findFault 54 = .ok (.iconst 0, 1) := by decide +kernel
theorem dX6_findFault_55 : decode cX6_findFault 55 = .ok (.invokevirtual 171, 3) := by decide +kernel
theorem dX6_findFault_58 : decode cX6_findFault 58 = .ok (.goto (-48), 3) := by decide +kernel
set_option maxRecDepth 20000 in
theorem ggX6_addAll_X6_findFault : GoodIn wsX6_addAll wsX6_findFault := goodIn_r _ [9, 1, 10, 2, 11, 12, 13, 8, 14, 3, 15, 16, 17, 18, 19, 20, 21, 22, 23, 24, 25, 26, 27, 28, 29, 30, 74, 75, 76, 77, 78, 79, 80, 81, 82, 83, 84, 85, 86, 87, 88, 89, 90] (by decide +kernel) (by decide +kernel)
set_option maxRecDepth 20000 in
theorem gX6_addAll_X6_findFault : GoodIn wsX6_addAll (wsV RX6 181 RX6 yX6_findFault wsX6_findFault) := goodIn_app (goodIn_of _ (by decide +kernel)) ggX6_addAll_X6_findFault
set_option maxRecDepth 20000 in
theorem ggX6_addAll_X6_putAside : GoodIn wsX6_addAll wsX6_putAside := goodIn_r _ [34, 4, 35, 74, 75, 76, 77, 78, 79, 80, 81, 82, 83, 84, 85, 86, 87, 88, 89, 90] (by decide +kernel) (by decide +kernel)
set_option maxRecDepth 20000 in
theorem gX6_addAll_X6_putAside : GoodIn wsX6_addAll (wsV RX6 184 RX6 yX6_putAside wsX6_putAside) := goodIn_app (goodIn_of _ (by decide +kernel)) ggX6_addAll_X6_putAside
set_option maxRecDepth 20000 in
theorem ggX6_addAll_X6_readBox : GoodIn wsX6_addAll wsX6_readBox := goodIn_r _ [14, 10, 3, 15, 16, 17, 8, 18, 1, 2, 19, 20, 21, 22, 23, 24, 25, 26, 27, 28, 29, 30, 74, 75, 76, 77, 78, 79, 80, 81, 82, 83, 84, 85, 86, 87, 88, 89, 90] (by decide +kernel) (by decide +kernel)
set_option maxRecDepth 20000 in
theorem gX6_addAll_X6_readBox : GoodIn wsX6_addAll (wsV RX6 178 RX6 yX6_readBox wsX6_readBox) := goodIn_app (goodIn_of _ (by decide +kernel)) ggX6_addAll_X6_readBox
set_option maxRecDepth 20000 in
theorem ggX6_addAll_X6_tryBox : GoodIn wsX6_addAll wsX6_tryBox := goodIn_r _ [39, 35, 28, 29, 8, 30, 40, 41, 42, 43, 44, 45, 46, 47, 48, 49, 50, 51, 52, 53, 54, 55, 74, 75, 76, 77, 78, 79, 80, 81, 82, 83, 84, 85, 86, 87, 88, 89, 90] (by decide +kernel) (by decide +kernel)
set_option maxRecDepth 20000 in
theorem gX6_addAll_X6_tryBox : GoodIn wsX6_addAll (wsV RX6 118 RX6 yX6_tryBox wsX6_tryBox) := goodIn_app (goodIn_of _ (by decide +kernel)) ggX6_addAll_X6_tryBox
set_option maxRecDepth 20000 in
theorem ggX6_addAll_X6_putBox : GoodIn wsX6_addAll wsX6_putBox := goodIn_r _ [59, 35, 60, 61, 62, 8, 63, 74, 75, 76, 77, 78, 79, 80, 81, 82, 83, 84, 85, 86, 87, 88, 89, 90] (by decide +kernel) (by decide +kernel)
set_option maxRecDepth 20000 in
theorem gX6_addAll_X6_putBox : GoodIn wsX6_addAll (wsV RX6 122 RX6 yX6_putBox wsX6_putBox) := goodIn_app (goodIn_of _ (by decide +kernel)) ggX6_addAll_X6_putBox
set_option maxRecDepth 20000 in
theorem ggX6_addAll_X6_putBack : GoodIn wsX6_addAll wsX6_putBack := goodIn_r _ [67, 35, 4, 74, 75, 76, 77, 78, 79, 80, 81, 82, 83, 84, 85, 86, 87, 88, 89, 90] (by decide +kernel) (by decide +kernel)
set_option maxRecDepth 20000 in
theorem gX6_addAll_X6_putBack : GoodIn wsX6_addAll (wsV RX6 187 RX6 yX6_putBack wsX6_putBack) := goodIn_app (goodIn_of _ (by decide +kernel)) ggX6_addAll_X6_putBack
set_option maxRecDepth 20000 in
theorem ggX6_addAll_X6_push : GoodIn wsX6_addAll wsX6_push := goodIn_r _ [71, 72, 73, 74, 75, 76, 77, 78, 79, 80, 81, 82, 83, 84, 85, 86, 87, 88, 89, 90] (by decide +kernel) (by decide +kernel)
set_option maxRecDepth 20000 in
theorem gX6_addAll_X6_push : GoodIn wsX6_addAll (wsV RX6 110 RX6 yX6_push wsX6_push) := goodIn_app (goodIn_of _ (by decide +kernel)) ggX6_addAll_X6_push
theorem dX6_addAll_0 : decode cX6_addAll 0 = .ok (.aload_n 0, 1) := by decide +kernel
theorem dX6_addAll_1 : decode cX6_addAll 1 = .ok (.invokevirtual 181, 3) := by decide +kernel
theorem dX6_addAll_4 : decode cX6_addAll 4 = .ok (.istore_n 1, 1) := by decide +kernel
theorem dX6_addAll_5 : decode cX6_addAll 5 = .ok (.iload_n 1, 1) := by decide +kernel
theorem dX6_addAll_6 : decode cX6_addAll 6 = .ok (.ifCond .lt 8, 3) := by decide +kernel
theorem dX6_addAll_9 : decode cX6_addAll 9 = .ok (.bipush (-100), 2) := by decide +kernel
theorem dX6_addAll_11 : decode cX6_addAll 11 = .ok (.iload_n 1, 1) := by decide +kernel
theorem dX6_addAll_12 : decode cX6_addAll 12 = .ok (.isub, 1) := by decide +kernel
theorem dX6_addAll_13 : decode cX6_addAll 13 = .ok (.ireturn, 1) := by decide +kernel
theorem dX6_addAll_14 : decode cX6_addAll 14 = .ok (.aload_n 0, 1) := by decide +kernel
theorem dX6_addAll_15 : decode cX6_addAll 15 = .ok (.invokevirtual 184, 3) := by decide +kernel
theorem dX6_addAll_18 : decode cX6_addAll 18 = .ok (.iconst 0, 1) := by decide +kernel
theorem dX6_addAll_19 : decode cX6_addAll 19 = .ok (.istore_n 2, 1) := by decide +kernel
theorem dX6_addAll_20 : decode cX6_addAll 20 = .ok (.iconst 0, 1) := by decide +kernel
theorem dX6_addAll_21 : decode cX6_addAll 21 = .ok (.istore_n 3, 1) := by decide +kernel
theorem dX6_addAll_22 : decode cX6_addAll 22 = .ok (.aload_n 0, 1) := by decide +kernel
theorem dX6_addAll_23 : decode cX6_addAll 23 = .ok (.iconst 0, 1) := by decide +kernel
theorem dX6_addAll_24 : decode cX6_addAll 24 = .ok (.putfield 162, 3) := by decide +kernel
theorem dX6_addAll_27 : decode cX6_addAll 27 = .ok (.aload_n 0, 1) := by decide +kernel
theorem dX6_addAll_28 : decode cX6_addAll 28 = .ok (.getfield 162, 3) := by decide +kernel
theorem dX6_addAll_31 : decode cX6_addAll 31 = .ok (.aload_n 0, 1) := by decide +kernel
theorem dX6_addAll_32 : decode cX6_addAll 32 = .ok (.getfield 159, 3) := by decide +kernel
theorem dX6_addAll_35 : decode cX6_addAll 35 = .ok (.if_icmp .ge 113, 3) := by decide +kernel
theorem dX6_addAll_38 : decode cX6_addAll 38 = .ok (.iload_n 3, 1) := by decide +kernel
theorem dX6_addAll_39 : decode cX6_addAll 39 = .ok (.ifCond .ne 109, 3) := by decide +kernel
theorem dX6_addAll_42 : decode cX6_addAll 42 = .ok (.aload_n 0, 1) := by decide +kernel
theorem dX6_addAll_43 : decode cX6_addAll 43 = .ok (.invokevirtual 178, 3) := by decide +kernel
theorem dX6_addAll_46 : decode cX6_addAll 46 = .ok (.aload_n 0, 1) := by decide +kernel
theorem dX6_addAll_47 : decode cX6_addAll 47 = .ok (.dup, 1) := by decide +kernel
theorem dX6_addAll_48 : decode cX6_addAll 48 = .ok (.getfield 162, 3) := by decide +kernel
theorem dX6_addAll_51 : decode cX6_addAll 51 = .ok (.iconst 1, 1) := by decide +kernel
theorem dX6_addAll_52 : decode cX6_addAll 52 = .ok (.iadd, 1) := by decide +kernel
theorem dX6_addAll_53 : decode cX6_addAll 53 = .ok (.putfield 162, 3) := by decide +kernel
theorem dX6_addAll_56 : decode cX6_addAll 56 = .ok (.aload_n 0, 1) := by decide +kernel
theorem dX6_addAll_57 : decode cX6_addAll 57 = .ok (.aload_n 0, 1) := by decide +kernel
theorem dX6_addAll_58 : decode cX6_addAll 58 = .ok (.getfield 40, 3) := by decide +kernel
theorem dX6_addAll_61 : decode cX6_addAll 61 = .ok (.iconst 0, 1) := by decide +kernel
theorem dX6_addAll_62 : decode cX6_addAll 62 = .ok (.iaload, 1) := by decide +kernel
theorem dX6_addAll_63 : decode cX6_addAll 63 = .ok (.aload_n 0, 1) := by decide +kernel
theorem dX6_addAll_64 : decode cX6_addAll 64 = .ok (.getfield 40, 3) := by decide +kernel
theorem dX6_addAll_67 : decode cX6_addAll 67 = .ok (.iconst 1, 1) := by decide +kernel
theorem dX6_addAll_68 : decode cX6_addAll 68 = .ok (.iaload, 1) := by decide +kernel
theorem dX6_addAll_69 : decode cX6_addAll 69 = .ok (.aload_n 0, 1) := by decide +kernel
theorem dX6_addAll_70 : decode cX6_addAll 70 = .ok (.getfield 40, 3) := by decide +kernel
theorem dX6_addAll_73 : decode cX6_addAll 73 = .ok (.iconst 2, 1) := by decide +kernel
theorem dX6_addAll_74 : decode cX6_addAll 74 = .ok (.iaload, 1) := by decide +kernel
theorem dX6_addAll_75 : decode cX6_addAll 75 = .ok (.aload_n 0, 1) := by decide +kernel
theorem dX6_addAll_76 : decode cX6_addAll 76 = .ok (.getfield 40, 3) := by decide +kernel
theorem dX6_addAll_79 : decode cX6_addAll 79 = .ok (.iconst 3, 1) := by decide +kernel
theorem dX6_addAll_80 : decode cX6_addAll 80 = .ok (.iaload, 1) := by decide +kernel
theorem dX6_addAll_81 : decode cX6_addAll 81 = .ok (.aload_n 0, 1) := by decide +kernel
theorem dX6_addAll_82 : decode cX6_addAll 82 = .ok (.getfield 40, 3) := by decide +kernel
theorem dX6_addAll_85 : decode cX6_addAll 85 = .ok (.iconst 4, 1) := by decide +kernel
theorem dX6_addAll_86 : decode cX6_addAll 86 = .ok (.iaload, 1) := by decide +kernel
theorem dX6_addAll_87 : decode cX6_addAll 87 = .ok (.aload_n 0, 1) := by decide +kernel
theorem dX6_addAll_88 : decode cX6_addAll 88 = .ok (.getfield 40, 3) := by decide +kernel
theorem dX6_addAll_91 : decode cX6_addAll 91 = .ok (.iconst 5, 1) := by decide +kernel
theorem dX6_addAll_92 : decode cX6_addAll 92 = .ok (.iaload, 1) := by decide +kernel
theorem dX6_addAll_93 : decode cX6_addAll 93 = .ok (.invokevirtual 118, 3) := by decide +kernel
theorem dX6_addAll_96 : decode cX6_addAll 96 = .ok (.istore_n 3, 1) := by decide +kernel
theorem dX6_addAll_97 : decode cX6_addAll 97 = .ok (.iload_n 3, 1) := by decide +kernel
theorem dX6_addAll_98 : decode cX6_addAll 98 = .ok (.ifCond .ne (-71), 3) := by decide +kernel
theorem dX6_addAll_101 : decode cX6_addAll 101 = .ok (.aload_n 0, 1) := by decide +kernel
theorem dX6_addAll_102 : decode cX6_addAll 102 = .ok (.aload_n 0, 1) := by decide +kernel
theorem dX6_addAll_103 : decode cX6_addAll 103 = .ok (.getfield 40, 3) := by decide +kernel
theorem dX6_addAll_106 : decode cX6_addAll 106 = .ok (.iconst 0, 1) := by decide +kernel
theorem dX6_addAll_107 : decode cX6_addAll 107 = .ok (.iaload, 1) := by decide +kernel
theorem dX6_addAll_108 : decode cX6_addAll 108 = .ok (.aload_n 0, 1) := by decide +kernel
theorem dX6_addAll_109 : decode cX6_addAll 109 = .ok (.getfield 40, 3) := by decide +kernel
theorem dX6_addAll_112 : decode cX6_addAll 112 = .ok (.iconst 1, 1) := by decide +kernel
theorem dX6_addAll_113 : decode cX6_addAll 113 = .ok (.iaload, 1) := by decide +kernel
theorem dX6_addAll_114 : decode cX6_addAll 114 = .ok (.aload_n 0, 1) := by decide +kernel
theorem dX6_addAll_115 : decode cX6_addAll 115 = .ok (.getfield 40, 3) := by decide +kernel
theorem dX6_addAll_118 : decode cX6_addAll 118 = .ok (.iconst 2, 1) := by decide +kernel
theorem dX6_addAll_119 : decode cX6_addAll 119 = .ok (.iaload, 1) := by decide +kernel
theorem dX6_addAll_120 : decode cX6_addAll 120 = .ok (.aload_n 0, 1) := by decide +kernel
theorem dX6_addAll_121 : decode cX6_addAll 121 = .ok (.getfield 40, 3) := by decide +kernel
theorem dX6_addAll_124 : decode cX6_addAll 124 = .ok (.iconst 3, 1) := by decide +kernel
theorem dX6_addAll_125 : decode cX6_addAll 125 = .ok (.iaload, 1) := by decide +kernel
theorem dX6_addAll_126 : decode cX6_addAll 126 = .ok (.aload_n 0, 1) := by decide +kernel
theorem dX6_addAll_127 : decode cX6_addAll 127 = .ok (.getfield 40, 3) := by decide +kernel
theorem dX6_addAll_130 : decode cX6_addAll 130 = .ok (.iconst 4, 1) := by decide +kernel
theorem dX6_addAll_131 : decode cX6_addAll 131 = .ok (.iaload, 1) := by decide +kernel
theorem dX6_addAll_132 : decode cX6_addAll 132 = .ok (.aload_n 0, 1) := by decide +kernel
theorem dX6_addAll_133 : decode cX6_addAll 133 = .ok (.getfield 40, 3) := by decide +kernel
theorem dX6_addAll_136 : decode cX6_addAll 136 = .ok (.iconst 5, 1) := by decide +kernel
theorem dX6_addAll_137 : decode cX6_addAll 137 = .ok (.iaload, 1) := by decide +kernel
theorem dX6_addAll_138 : decode cX6_addAll 138 = .ok (.invokevirtual 122, 3) := by decide +kernel
theorem dX6_addAll_141 : decode cX6_addAll 141 = .ok (.pop, 1) := by decide +kernel
theorem dX6_addAll_142 : decode cX6_addAll 142 = .ok (.iinc 2 1, 3) := by decide +kernel
theorem dX6_addAll_145 : decode cX6_addAll 145 = .ok (.goto (-118), 3) := by decide +kernel
theorem dX6_addAll_148 : decode cX6_addAll 148 = .ok (.iload_n 3, 1) := by decide +kernel
theorem dX6_addAll_149 : decode cX6_addAll 149 = .ok (.ifCond .ge 9, 3) := by decide +kernel
theorem dX6_addAll_152 : decode cX6_addAll 152 = .ok (.aload_n 0, 1) := by decide +kernel
theorem dX6_addAll_153 : decode cX6_addAll 153 = .ok (.invokevirtual 187, 3) := by decide +kernel
theorem dX6_addAll_156 : decode cX6_addAll 156 = .ok (.iload_n 3, 1) := by decide +kernel
theorem dX6_addAll_157 : decode cX6_addAll 157 = .ok (.ireturn, 1) := by decide +kernel
theorem dX6_addAll_158 : decode cX6_addAll 158 = .ok (.aload_n 0, 1) := by decide +kernel
theorem dX6_addAll_159 : decode cX6_addAll 159 = .ok (.aload_n 0, 1) := by decide +kernel
theorem dX6_addAll_160 : decode cX6_addAll 160 = .ok (.getfield 13, 3) := by decide +kernel
theorem dX6_addAll_163 : decode cX6_addAll 163 = .ok (.invokevirtual 110, 3) := by decide +kernel
theorem dX6_addAll_166 : decode cX6_addAll 166 = .ok (.iload_n 2, 1) := by decide +kernel
theorem dX6_addAll_167 : decode cX6_addAll 167 = .ok (.ireturn, 1) := by decide +kernel
set_option maxRecDepth 20000 in
theorem ggX6_box_X6_of : GoodIn wsX6_box wsX6_of := goodIn_r _ [6, 1, 7, 8, 9, 10, 11, 12, 13, 14, 15, 16, 17, 18, 19, 20, 21, 22, 23] (by decide +kernel) (by decide +kernel)
set_option maxRecDepth 20000 in
theorem gX6_box_X6_of : GoodIn wsX6_box (wsV RX6 43 RX6 yX6_of wsX6_of) := goodIn_app (goodIn_of _ (by decide +kernel)) ggX6_box_X6_of
theorem dX6_box_0 : decode cX6_box 0 = .ok (.iload_n 1, 1) := by decide +kernel
theorem dX6_box_1 : decode cX6_box 1 = .ok (.ifCond .ge 6, 3) := by decide +kernel
theorem dX6_box_4 : decode cX6_box 4 = .ok (.bipush (-2), 2) := by decide +kernel
theorem dX6_box_6 : decode cX6_box 6 = .ok (.ireturn, 1) := by decide +kernel
theorem dX6_box_7 : decode cX6_box 7 = .ok (.iload_n 1, 1) := by decide +kernel
theorem dX6_box_8 : decode cX6_box 8 = .ok (.aload_n 0, 1) := by decide +kernel
theorem dX6_box_9 : decode cX6_box 9 = .ok (.getfield 7, 3) := by decide +kernel
theorem dX6_box_12 : decode cX6_box 12 = .ok (.iconst 0, 1) := by decide +kernel
theorem dX6_box_13 : decode cX6_box 13 = .ok (.iaload, 1) := by decide +kernel
theorem dX6_box_14 : decode cX6_box 14 = .ok (.if_icmp .ge 12, 3) := by decide +kernel
theorem dX6_box_17 : decode cX6_box 17 = .ok (.aload_n 0, 1) := by decide +kernel
theorem dX6_box_18 : decode cX6_box 18 = .ok (.iload_n 1, 1) := by decide +kernel
theorem dX6_box_19 : decode cX6_box 19 = .ok (.iconst 0, 1) := by decide +kernel
theorem dX6_box_20 : decode cX6_box 20 = .ok (.invokevirtual 43, 3) := by decide +kernel
theorem dX6_box_23 : decode cX6_box 23 = .ok (.goto 5, 3) := by decide +kernel
theorem dX6_box_26 : decode cX6_box 26 = .ok (.bipush (-5), 2) := by decide +kernel
theorem dX6_box_28 : decode cX6_box 28 = .ok (.ireturn, 1) := by decide +kernel
set_option maxRecDepth 20000 in
theorem ggX6_end_X6_rankOf : GoodIn wsX6_end wsX6_rankOf := goodIn_r _ [5, 6, 7, 8, 9, 4, 10, 29, 30, 31, 32, 33, 34, 35, 36, 37, 38, 39, 40, 41, 42, 43, 44, 45] (by decide +kernel) (by decide +kernel)
set_option maxRecDepth 20000 in
theorem gX6_end_X6_rankOf : GoodIn wsX6_end (wsV RX6 125 RX6 yX6_rankOf wsX6_rankOf) := goodIn_app (goodIn_of _ (by decide +kernel)) ggX6_end_X6_rankOf
set_option maxRecDepth 20000 in
theorem ggX6_end_X6_isDirection : GoodIn wsX6_end wsX6_isDirection := goodIn_r _ [13, 14, 15, 4, 16] (by decide +kernel) (by decide +kernel)
set_option maxRecDepth 20000 in
theorem gX6_end_X6_isDirection : GoodIn wsX6_end (va_wsS RX6 128 yX6_isDirection wsX6_isDirection) := goodIn_app (goodIn_of _ (by decide +kernel)) ggX6_end_X6_isDirection
set_option maxRecDepth 20000 in
theorem ggX6_end_X6_high : GoodIn wsX6_end wsX6_high := goodIn_r _ [20, 21, 22, 23, 4, 24, 7, 8, 9, 10, 6, 25, 26, 27, 28, 29, 30, 31, 32, 33, 34, 35, 36, 37, 38, 39, 40, 41, 42, 43, 44, 45] (by decide +kernel) (by decide +kernel)
set_option maxRecDepth 20000 in
theorem gX6_end_X6_high : GoodIn wsX6_end (wsV RX6 57 RX6 yX6_high wsX6_high) := goodIn_app (goodIn_of _ (by decide +kernel)) ggX6_end_X6_high
set_option maxRecDepth 20000 in
theorem ggX6_end_X6_low : GoodIn wsX6_end wsX6_low := goodIn_r _ [24, 7, 8, 9, 4, 10, 6, 29, 30, 31, 32, 33, 34, 35, 36, 37, 38, 39, 40, 41, 42, 43, 44, 45] (by decide +kernel) (by decide +kernel)
set_option maxRecDepth 20000 in
theorem gX6_end_X6_low : GoodIn wsX6_end (wsV RX6 47 RX6 yX6_low wsX6_low) := goodIn_app (goodIn_of _ (by decide +kernel)) ggX6_end_X6_low
theorem dX6_end_0 : decode cX6_end 0 = .ok (.aload_n 0, 1) := by decide +kernel
theorem dX6_end_1 : decode cX6_end 1 = .ok (.iload_n 1, 1) := by decide +kernel
theorem dX6_end_2 : decode cX6_end 2 = .ok (.invokevirtual 125, 3) := by decide +kernel
theorem dX6_end_5 : decode cX6_end 5 = .ok (.istore 4, 2) := by decide +kernel
theorem dX6_end_7 : decode cX6_end 7 = .ok (.iload 4, 2) := by decide +kernel
theorem dX6_end_9 : decode cX6_end 9 = .ok (.ifCond .lt 10, 3) := by decide +kernel
theorem dX6_end_12 : decode cX6_end 12 = .ok (.iload_n 2, 1) := by decide +kernel
theorem dX6_end_13 : decode cX6_end 13 = .ok (.invokestatic 128, 3) := by decide +kernel
theorem dX6_end_16 : decode cX6_end 16 = .ok (.ifCond .ne 5, 3) := by decide +kernel
theorem dX6_end_19 : decode cX6_end 19 = .ok (.iconst (-1), 1) := by decide +kernel
theorem dX6_end_20 : decode cX6_end 20 = .ok (.ireturn, 1) := by decide +kernel
theorem dX6_end_21 : decode cX6_end 21 = .ok (.iload_n 3, 1) := by decide +kernel
theorem dX6_end_22 : decode cX6_end 22 = .ok (.ifCond .eq 13, 3) := by decide +kernel
theorem dX6_end_25 : decode cX6_end 25 = .ok (.aload_n 0, 1) := by decide +kernel
theorem dX6_end_26 : decode cX6_end 26 = .ok (.iload 4, 2) := by decide +kernel
theorem dX6_end_28 : decode cX6_end 28 = .ok (.iload_n 2, 1) := by decide +kernel
theorem dX6_end_29 : decode cX6_end 29 = .ok (.invokevirtual 57, 3) := by decide +kernel
theorem dX6_end_32 : decode cX6_end 32 = .ok (.goto 10, 3) := by decide +kernel
theorem dX6_end_35 : decode cX6_end 35 = .ok (.aload_n 0, 1) := by decide +kernel
theorem dX6_end_36 : decode cX6_end 36 = .ok (.iload 4, 2) := by decide +kernel
theorem dX6_end_38 : decode cX6_end 38 = .ok (.iload_n 2, 1) := by decide +kernel
theorem dX6_end_39 : decode cX6_end 39 = .ok (.invokevirtual 47, 3) := by decide +kernel
theorem dX6_end_42 : decode cX6_end 42 = .ok (.ireturn, 1) := by decide +kernel
set_option maxRecDepth 20000 in
theorem ggX6_hiders_X6_has : GoodIn wsX6_hiders wsX6_has := goodIn_r _ [6] (by decide +kernel) (by decide +kernel)
set_option maxRecDepth 20000 in
theorem gX6_hiders_X6_has : GoodIn wsX6_hiders (va_wsS RX6 75 yX6_has wsX6_has) := goodIn_app (goodIn_of _ (by decide +kernel)) ggX6_hiders_X6_has
theorem dX6_hiders_0 : decode cX6_hiders 0 = .ok (.iconst 0, 1) := by decide +kernel
theorem dX6_hiders_1 : decode cX6_hiders 1 = .ok (.istore_n 2, 1) := by decide +kernel
theorem dX6_hiders_2 : decode cX6_hiders 2 = .ok (.iconst 0, 1) := by decide +kernel
theorem dX6_hiders_3 : decode cX6_hiders 3 = .ok (.istore_n 3, 1) := by decide +kernel
theorem dX6_hiders_4 : decode cX6_hiders 4 = .ok (.iload_n 3, 1) := by decide +kernel
theorem dX6_hiders_5 : decode cX6_hiders 5 = .ok (.aload_n 0, 1) := by decide +kernel
theorem dX6_hiders_6 : decode cX6_hiders 6 = .ok (.getfield 7, 3) := by decide +kernel
theorem dX6_hiders_9 : decode cX6_hiders 9 = .ok (.iconst 0, 1) := by decide +kernel
theorem dX6_hiders_10 : decode cX6_hiders 10 = .ok (.iaload, 1) := by decide +kernel
theorem dX6_hiders_11 : decode cX6_hiders 11 = .ok (.if_icmp .ge 30, 3) := by decide +kernel
theorem dX6_hiders_14 : decode cX6_hiders 14 = .ok (.iload_n 2, 1) := by decide +kernel
theorem dX6_hiders_15 : decode cX6_hiders 15 = .ok (.aload_n 0, 1) := by decide +kernel
theorem dX6_hiders_16 : decode cX6_hiders 16 = .ok (.getfield 25, 3) := by decide +kernel
theorem dX6_hiders_19 : decode cX6_hiders 19 = .ok (.iload_n 3, 1) := by decide +kernel
theorem dX6_hiders_20 : decode cX6_hiders 20 = .ok (.iaload, 1) := by decide +kernel
theorem dX6_hiders_21 : decode cX6_hiders 21 = .ok (.iload_n 1, 1) := by decide +kernel
theorem dX6_hiders_22 : decode cX6_hiders 22 = .ok (.invokestatic 75, 3) := by decide +kernel
theorem dX6_hiders_25 : decode cX6_hiders 25 = .ok (.ifCond .eq 7, 3) := by decide +kernel
theorem dX6_hiders_28 : decode cX6_hiders 28 = .ok (.iconst 1, 1) := by decide +kernel
theorem dX6_hiders_29 : decode cX6_hiders 29 = .ok (.goto 4, 3) := by decide +kernel
theorem dX6_hiders_32 : decode cX6_hiders 32 = .ok (.iconst 0, 1) := by decide +kernel
theorem dX6_hiders_33 : decode cX6_hiders 33 = .ok (.iadd, 1) := by decide +kernel
theorem dX6_hiders_34 : decode cX6_hiders 34 = .ok (.istore_n 2, 1) := by decide +kernel
theorem dX6_hiders_35 : decode cX6_hiders 35 = .ok (.iinc 3 1, 3) := by decide +kernel
theorem dX6_hiders_38 : decode cX6_hiders 38 = .ok (.goto (-34), 3) := by decide +kernel
theorem dX6_hiders_41 : decode cX6_hiders 41 = .ok (.iload_n 2, 1) := by decide +kernel
theorem dX6_hiders_42 : decode cX6_hiders 42 = .ok (.ireturn, 1) := by decide +kernel
set_option maxRecDepth 20000 in
theorem ggX6_boxesBelow_X6_isBelow : GoodIn wsX6_boxesBelow wsX6_isBelow := goodIn_r _ [6, 7, 8, 9, 5, 10, 11, 12, 13, 14, 15, 16, 17, 18, 1, 19, 20, 21, 22, 23, 24, 25, 26, 27, 28, 29, 30, 31, 32, 33, 34, 35, 36, 37, 38, 39, 40, 41, 42, 43] (by decide +kernel) (by decide +kernel)
set_option maxRecDepth 20000 in
theorem gX6_boxesBelow_X6_isBelow : GoodIn wsX6_boxesBelow (wsV RX6 134 RX6 yX6_isBelow wsX6_isBelow) := goodIn_app (goodIn_of _ (by decide +kernel)) ggX6_boxesBelow_X6_isBelow
set_option maxRecDepth 20000 in
theorem ggX6_boxesBelow_X6_high : GoodIn wsX6_boxesBelow wsX6_high := goodIn_r _ [22, 11, 12, 13, 5, 14, 15, 16, 17, 18, 1, 23, 24, 25, 26, 27, 28, 29, 30, 31, 32, 33, 34, 35, 36, 37, 38, 39, 40, 41, 42, 43] (by decide +kernel) (by decide +kernel)
set_option maxRecDepth 20000 in
theorem gX6_boxesBelow_X6_high : GoodIn wsX6_boxesBelow (wsV RX6 57 RX6 yX6_high wsX6_high) := goodIn_app (goodIn_of _ (by decide +kernel)) ggX6_boxesBelow_X6_high
set_option maxRecDepth 20000 in
theorem ggX6_boxesBelow_X6_low : GoodIn wsX6_boxesBelow wsX6_low := goodIn_r _ [14, 15, 16, 17, 5, 18, 1, 27, 28, 29, 30, 31, 32, 33, 34, 35, 36, 37, 38, 39, 40, 41, 42, 43] (by decide +kernel) (by decide +kernel)
set_option maxRecDepth 20000 in
theorem gX6_boxesBelow_X6_low : GoodIn wsX6_boxesBelow (wsV RX6 47 RX6 yX6_low wsX6_low) := goodIn_app (goodIn_of _ (by decide +kernel)) ggX6_boxesBelow_X6_low
theorem dX6_boxesBelow_0 : decode cX6_boxesBelow 0 = .ok (.iconst 0, 1) := by decide +kernel
theorem dX6_boxesBelow_1 : decode cX6_boxesBelow 1 = .ok (.istore_n 3, 1) := by decide +kernel
theorem dX6_boxesBelow_2 : decode cX6_boxesBelow 2 = .ok (.iconst 0, 1) := by decide +kernel
theorem dX6_boxesBelow_3 : decode cX6_boxesBelow 3 = .ok (.istore 4, 2) := by decide +kernel
theorem dX6_boxesBelow_5 : decode cX6_boxesBelow 5 = .ok (.iload 4, 2) := by decide +kernel
theorem dX6_boxesBelow_7 : decode cX6_boxesBelow 7 = .ok (.aload_n 0, 1) := by decide +kernel
theorem dX6_boxesBelow_8 : decode cX6_boxesBelow 8 = .ok (.getfield 7, 3) := by decide +kernel
theorem dX6_boxesBelow_11 : decode cX6_boxesBelow 11 = .ok (.iconst 0, 1) := by decide +kernel
theorem dX6_boxesBelow_12 : decode cX6_boxesBelow 12 = .ok (.iaload, 1) := by decide +kernel
theorem dX6_boxesBelow_13 : decode cX6_boxesBelow 13 = .ok (.if_icmp .ge 47, 3) := by decide +kernel
theorem dX6_boxesBelow_16 : decode cX6_boxesBelow 16 = .ok (.iload_n 3, 1) := by decide +kernel
theorem dX6_boxesBelow_17 : decode cX6_boxesBelow 17 = .ok (.aload_n 0, 1) := by decide +kernel
theorem dX6_boxesBelow_18 : decode cX6_boxesBelow 18 = .ok (.iload 4, 2) := by decide +kernel
theorem dX6_boxesBelow_20 : decode cX6_boxesBelow 20 = .ok (.iload_n 1, 1) := by decide +kernel
theorem dX6_boxesBelow_21 : decode cX6_boxesBelow 21 = .ok (.invokevirtual 134, 3) := by decide +kernel
theorem dX6_boxesBelow_24 : decode cX6_boxesBelow 24 = .ok (.ifCond .eq 27, 3) := by decide +kernel
theorem dX6_boxesBelow_27 : decode cX6_boxesBelow 27 = .ok (.iload_n 2, 1) := by decide +kernel
theorem dX6_boxesBelow_28 : decode cX6_boxesBelow 28 = .ok (.ifCond .eq 19, 3) := by decide +kernel
theorem dX6_boxesBelow_31 : decode cX6_boxesBelow 31 = .ok (.aload_n 0, 1) := by decide +kernel
theorem dX6_boxesBelow_32 : decode cX6_boxesBelow 32 = .ok (.iload 4, 2) := by decide +kernel
theorem dX6_boxesBelow_34 : decode cX6_boxesBelow 34 = .ok (.iconst 2, 1) := by decide +kernel
theorem dX6_boxesBelow_35 : decode cX6_boxesBelow 35 = .ok (.invokevirtual 57, 3) := by decide +kernel
theorem dX6_boxesBelow_38 : decode cX6_boxesBelow 38 = .ok (.aload_n 0, 1) := by decide +kernel
theorem dX6_boxesBelow_39 : decode cX6_boxesBelow 39 = .ok (.iload_n 1, 1) := by decide +kernel
theorem dX6_boxesBelow_40 : decode cX6_boxesBelow 40 = .ok (.iconst 2, 1) := by decide +kernel
theorem dX6_boxesBelow_41 : decode cX6_boxesBelow 41 = .ok (.invokevirtual 47, 3) := by decide +kernel
theorem dX6_boxesBelow_44 : decode cX6_boxesBelow 44 = .ok (.if_icmp .ne 7, 3) := by decide +kernel
theorem dX6_boxesBelow_47 : decode cX6_boxesBelow 47 = .ok (.iconst 1, 1) := by decide +kernel
theorem dX6_boxesBelow_48 : decode cX6_boxesBelow 48 = .ok (.goto 4, 3) := by decide +kernel
theorem dX6_boxesBelow_51 : decode cX6_boxesBelow 51 = .ok (.iconst 0, 1) := by decide +kernel
theorem dX6_boxesBelow_52 : decode cX6_boxesBelow 52 = .ok (.iadd, 1) := by decide +kernel
theorem dX6_boxesBelow_53 : decode cX6_boxesBelow 53 = .ok (.istore_n 3, 1) := by decide +kernel
theorem dX6_boxesBelow_54 : decode cX6_boxesBelow 54 = .ok (.iinc 4 1, 3) := by decide +kernel
theorem dX6_boxesBelow_57 : decode cX6_boxesBelow 57 = .ok (.goto (-52), 3) := by decide +kernel
theorem dX6_boxesBelow_60 : decode cX6_boxesBelow 60 = .ok (.iload_n 3, 1) := by decide +kernel
theorem dX6_boxesBelow_61 : decode cX6_boxesBelow 61 = .ok (.ireturn, 1) := by decide +kernel
set_option maxRecDepth 20000 in
theorem ggX6_covers_X6_low : GoodIn wsX6_covers wsX6_low := goodIn_r _ [5, 6, 7, 8, 4, 9, 10, 22, 23, 24, 25, 26, 27, 28, 29, 30, 31, 32, 33, 34, 35, 36, 37, 38] (by decide +kernel) (by decide +kernel)
set_option maxRecDepth 20000 in
theorem gX6_covers_X6_low : GoodIn wsX6_covers (wsV RX6 47 RX6 yX6_low wsX6_low) := goodIn_app (goodIn_of _ (by decide +kernel)) ggX6_covers_X6_low
set_option maxRecDepth 20000 in
theorem ggX6_covers_X6_high : GoodIn wsX6_covers wsX6_high := goodIn_r _ [14, 1, 2, 3, 4, 5, 6, 7, 8, 9, 10, 15, 16, 17, 18, 22, 23, 24, 25, 26, 27, 28, 29, 30, 31, 32, 33, 34, 35, 36, 37, 38] (by decide +kernel) (by decide +kernel)
set_option maxRecDepth 20000 in
theorem gX6_covers_X6_high : GoodIn wsX6_covers (wsV RX6 57 RX6 yX6_high wsX6_high) := goodIn_app (goodIn_of _ (by decide +kernel)) ggX6_covers_X6_high
set_option maxRecDepth 20000 in
theorem ggX6_covers_X6_in : GoodIn wsX6_covers wsX6_in := goodIn_r _ [21] (by decide +kernel) (by decide +kernel)
set_option maxRecDepth 20000 in
theorem gX6_covers_X6_in : GoodIn wsX6_covers (va_wsS RX6 53 yX6_in wsX6_in) := goodIn_app (goodIn_of _ (by decide +kernel)) ggX6_covers_X6_in
theorem dX6_covers_0 : decode cX6_covers 0 = .ok (.iload_n 2, 1) := by decide +kernel
theorem dX6_covers_1 : decode cX6_covers 1 = .ok (.i2l, 1) := by decide +kernel
theorem dX6_covers_2 : decode cX6_covers 2 = .ok (.aload_n 0, 1) := by decide +kernel
theorem dX6_covers_3 : decode cX6_covers 3 = .ok (.iload_n 1, 1) := by decide +kernel
theorem dX6_covers_4 : decode cX6_covers 4 = .ok (.iconst 0, 1) := by decide +kernel
theorem dX6_covers_5 : decode cX6_covers 5 = .ok (.invokevirtual 47, 3) := by decide +kernel
theorem dX6_covers_8 : decode cX6_covers 8 = .ok (.aload_n 0, 1) := by decide +kernel
theorem dX6_covers_9 : decode cX6_covers 9 = .ok (.iload_n 1, 1) := by decide +kernel
theorem dX6_covers_10 : decode cX6_covers 10 = .ok (.iconst 0, 1) := by decide +kernel
theorem dX6_covers_11 : decode cX6_covers 11 = .ok (.invokevirtual 57, 3) := by decide +kernel
theorem dX6_covers_14 : decode cX6_covers 14 = .ok (.iconst 1, 1) := by decide +kernel
theorem dX6_covers_15 : decode cX6_covers 15 = .ok (.isub, 1) := by decide +kernel
theorem dX6_covers_16 : decode cX6_covers 16 = .ok (.invokestatic 53, 3) := by decide +kernel
theorem dX6_covers_19 : decode cX6_covers 19 = .ok (.ifCond .eq 29, 3) := by decide +kernel
theorem dX6_covers_22 : decode cX6_covers 22 = .ok (.iload_n 3, 1) := by decide +kernel
theorem dX6_covers_23 : decode cX6_covers 23 = .ok (.i2l, 1) := by decide +kernel
theorem dX6_covers_24 : decode cX6_covers 24 = .ok (.aload_n 0, 1) := by decide +kernel
theorem dX6_covers_25 : decode cX6_covers 25 = .ok (.iload_n 1, 1) := by decide +kernel
theorem dX6_covers_26 : decode cX6_covers 26 = .ok (.iconst 1, 1) := by decide +kernel
theorem dX6_covers_27 : decode cX6_covers 27 = .ok (.invokevirtual 47, 3) := by decide +kernel
theorem dX6_covers_30 : decode cX6_covers 30 = .ok (.aload_n 0, 1) := by decide +kernel
theorem dX6_covers_31 : decode cX6_covers 31 = .ok (.iload_n 1, 1) := by decide +kernel
theorem dX6_covers_32 : decode cX6_covers 32 = .ok (.iconst 1, 1) := by decide +kernel
theorem dX6_covers_33 : decode cX6_covers 33 = .ok (.invokevirtual 57, 3) := by decide +kernel
theorem dX6_covers_36 : decode cX6_covers 36 = .ok (.iconst 1, 1) := by decide +kernel
theorem dX6_covers_37 : decode cX6_covers 37 = .ok (.isub, 1) := by decide +kernel
theorem dX6_covers_38 : decode cX6_covers 38 = .ok (.invokestatic 53, 3) := by decide +kernel
theorem dX6_covers_41 : decode cX6_covers 41 = .ok (.ifCond .eq 7, 3) := by decide +kernel
theorem dX6_covers_44 : decode cX6_covers 44 = .ok (.iconst 1, 1) := by decide +kernel
theorem dX6_covers_45 : decode cX6_covers 45 = .ok (.goto 4, 3) := by decide +kernel
theorem dX6_covers_48 : decode cX6_covers 48 = .ok (.iconst 0, 1) := by decide +kernel
theorem dX6_covers_49 : decode cX6_covers 49 = .ok (.ireturn, 1) := by decide +kernel
set_option maxRecDepth 20000 in
theorem ggX6_shadows_X6_low : GoodIn wsX6_shadows wsX6_low := goodIn_r _ [6, 7, 8, 9, 5, 10, 1, 34, 35, 36, 37, 38, 39, 40, 41, 42, 43, 44, 45, 46, 47, 48, 49, 50] (by decide +kernel) (by decide +kernel)
set_option maxRecDepth 20000 in
theorem gX6_shadows_X6_low : GoodIn wsX6_shadows (wsV RX6 47 RX6 yX6_low wsX6_low) := goodIn_app (goodIn_of _ (by decide +kernel)) ggX6_shadows_X6_low
set_option maxRecDepth 20000 in
theorem ggX6_shadows_X6_high : GoodIn wsX6_shadows wsX6_high := goodIn_r _ [14, 2, 3, 4, 5, 6, 7, 8, 9, 10, 1, 15, 16, 17, 18, 34, 35, 36, 37, 38, 39, 40, 41, 42, 43, 44, 45, 46, 47, 48, 49, 50] (by decide +kernel) (by decide +kernel)
set_option maxRecDepth 20000 in
theorem gX6_shadows_X6_high : GoodIn wsX6_shadows (wsV RX6 57 RX6 yX6_high wsX6_high) := goodIn_app (goodIn_of _ (by decide +kernel)) ggX6_shadows_X6_high
set_option maxRecDepth 20000 in
theorem ggX6_shadows_X6_isBelow : GoodIn wsX6_shadows wsX6_isBelow := goodIn_r _ [22, 23, 24, 25, 5, 26, 2, 3, 4, 6, 7, 8, 9, 10, 1, 11, 12, 13, 14, 15, 16, 17, 18, 34, 35, 36, 37, 38, 39, 40, 41, 42, 43, 44, 45, 46, 47, 48, 49, 50] (by decide +kernel) (by decide +kernel)
set_option maxRecDepth 20000 in
theorem gX6_shadows_X6_isBelow : GoodIn wsX6_shadows (wsV RX6 134 RX6 yX6_isBelow wsX6_isBelow) := goodIn_app (goodIn_of _ (by decide +kernel)) ggX6_shadows_X6_isBelow
set_option maxRecDepth 20000 in
theorem ggX6_shadows_X6_covers : GoodIn wsX6_shadows wsX6_covers := goodIn_r _ [30, 2, 3, 4, 5, 6, 7, 8, 9, 10, 1, 11, 12, 13, 14, 15, 16, 17, 18, 31, 32, 33, 34, 35, 36, 37, 38, 39, 40, 41, 42, 43, 44, 45, 46, 47, 48, 49, 50] (by decide +kernel) (by decide +kernel)
set_option maxRecDepth 20000 in
theorem gX6_shadows_X6_covers : GoodIn wsX6_shadows (wsV RX6 190 RX6 yX6_covers wsX6_covers) := goodIn_app (goodIn_of _ (by decide +kernel)) ggX6_shadows_X6_covers
theorem dX6_shadows_0 : decode cX6_shadows 0 = .ok (.iconst 0, 1) := by decide +kernel
theorem dX6_shadows_1 : decode cX6_shadows 1 = .ok (.istore_n 2, 1) := by decide +kernel
theorem dX6_shadows_2 : decode cX6_shadows 2 = .ok (.aload_n 0, 1) := by decide +kernel
theorem dX6_shadows_3 : decode cX6_shadows 3 = .ok (.iload_n 1, 1) := by decide +kernel
theorem dX6_shadows_4 : decode cX6_shadows 4 = .ok (.iconst 0, 1) := by decide +kernel
theorem dX6_shadows_5 : decode cX6_shadows 5 = .ok (.invokevirtual 47, 3) := by decide +kernel
theorem dX6_shadows_8 : decode cX6_shadows 8 = .ok (.istore_n 3, 1) := by decide +kernel
theorem dX6_shadows_9 : decode cX6_shadows 9 = .ok (.iload_n 3, 1) := by decide +kernel
theorem dX6_shadows_10 : decode cX6_shadows 10 = .ok (.aload_n 0, 1) := by decide +kernel
theorem dX6_shadows_11 : decode cX6_shadows 11 = .ok (.iload_n 1, 1) := by decide +kernel
theorem dX6_shadows_12 : decode cX6_shadows 12 = .ok (.iconst 0, 1) := by decide +kernel
theorem dX6_shadows_13 : decode cX6_shadows 13 = .ok (.invokevirtual 57, 3) := by decide +kernel
theorem dX6_shadows_16 : decode cX6_shadows 16 = .ok (.if_icmp .ge 104, 3) := by decide +kernel
theorem dX6_shadows_19 : decode cX6_shadows 19 = .ok (.aload_n 0, 1) := by decide +kernel
theorem dX6_shadows_20 : decode cX6_shadows 20 = .ok (.iload_n 1, 1) := by decide +kernel
theorem dX6_shadows_21 : decode cX6_shadows 21 = .ok (.iconst 1, 1) := by decide +kernel
theorem dX6_shadows_22 : decode cX6_shadows 22 = .ok (.invokevirtual 47, 3) := by decide +kernel
theorem dX6_shadows_25 : decode cX6_shadows 25 = .ok (.istore 4, 2) := by decide +kernel
theorem dX6_shadows_27 : decode cX6_shadows 27 = .ok (.iload 4, 2) := by decide +kernel
theorem dX6_shadows_29 : decode cX6_shadows 29 = .ok (.aload_n 0, 1) := by decide +kernel
theorem dX6_shadows_30 : decode cX6_shadows 30 = .ok (.iload_n 1, 1) := by decide +kernel
theorem dX6_shadows_31 : decode cX6_shadows 31 = .ok (.iconst 1, 1) := by decide +kernel
theorem dX6_shadows_32 : decode cX6_shadows 32 = .ok (.invokevirtual 57, 3) := by decide +kernel
theorem dX6_shadows_35 : decode cX6_shadows 35 = .ok (.if_icmp .ge 79, 3) := by decide +kernel
theorem dX6_shadows_38 : decode cX6_shadows 38 = .ok (.iconst 0, 1) := by decide +kernel
theorem dX6_shadows_39 : decode cX6_shadows 39 = .ok (.istore 5, 2) := by decide +kernel
theorem dX6_shadows_41 : decode cX6_shadows 41 = .ok (.iconst 0, 1) := by decide +kernel
theorem dX6_shadows_42 : decode cX6_shadows 42 = .ok (.istore 6, 2) := by decide +kernel
theorem dX6_shadows_44 : decode cX6_shadows 44 = .ok (.iload 6, 2) := by decide +kernel
theorem dX6_shadows_46 : decode cX6_shadows 46 = .ok (.aload_n 0, 1) := by decide +kernel
theorem dX6_shadows_47 : decode cX6_shadows 47 = .ok (.getfield 7, 3) := by decide +kernel
theorem dX6_shadows_50 : decode cX6_shadows 50 = .ok (.iconst 0, 1) := by decide +kernel
theorem dX6_shadows_51 : decode cX6_shadows 51 = .ok (.iaload, 1) := by decide +kernel
theorem dX6_shadows_52 : decode cX6_shadows 52 = .ok (.if_icmp .ge 43, 3) := by decide +kernel
theorem dX6_shadows_55 : decode cX6_shadows 55 = .ok (.iload 5, 2) := by decide +kernel
theorem dX6_shadows_57 : decode cX6_shadows 57 = .ok (.ifCond .ne 25, 3) := by decide +kernel
theorem dX6_shadows_60 : decode cX6_shadows 60 = .ok (.aload_n 0, 1) := by decide +kernel
theorem dX6_shadows_61 : decode cX6_shadows 61 = .ok (.iload_n 1, 1) := by decide +kernel
theorem dX6_shadows_62 : decode cX6_shadows 62 = .ok (.iload 6, 2) := by decide +kernel
theorem dX6_shadows_64 : decode cX6_shadows 64 = .ok (.invokevirtual 134, 3) := by decide +kernel
theorem dX6_shadows_67 : decode cX6_shadows 67 = .ok (.ifCond .eq 19, 3) := by decide +kernel
theorem dX6_shadows_70 : decode cX6_shadows 70 = .ok (.aload_n 0, 1) := by decide +kernel
theorem dX6_shadows_71 : decode cX6_shadows 71 = .ok (.iload 6, 2) := by decide +kernel
theorem dX6_shadows_73 : decode cX6_shadows 73 = .ok (.iload_n 3, 1) := by decide +kernel
theorem dX6_shadows_74 : decode cX6_shadows 74 = .ok (.iload 4, 2) := by decide +kernel
theorem dX6_shadows_76 : decode cX6_shadows 76 = .ok (.invokevirtual 190, 3) := by decide +kernel
theorem dX6_shadows_79 : decode cX6_shadows 79 = .ok (.ifCond .eq 7, 3) := by decide +kernel
theorem dX6_shadows_82 : decode cX6_shadows 82 = .ok (.iconst 1, 1) := by decide +kernel
theorem dX6_shadows_83 : decode cX6_shadows 83 = .ok (.goto 4, 3) := by decide +kernel
theorem dX6_shadows_86 : decode cX6_shadows 86 = .ok (.iconst 0, 1) := by decide +kernel
theorem dX6_shadows_87 : decode cX6_shadows 87 = .ok (.istore 5, 2) := by decide +kernel
theorem dX6_shadows_89 : decode cX6_shadows 89 = .ok (.iinc 6 1, 3) := by decide +kernel
theorem dX6_shadows_92 : decode cX6_shadows 92 = .ok (.goto (-48), 3) := by decide +kernel
theorem dX6_shadows_95 : decode cX6_shadows 95 = .ok (.iload_n 2, 1) := by decide +kernel
theorem dX6_shadows_96 : decode cX6_shadows 96 = .ok (.iload 5, 2) := by decide +kernel
theorem dX6_shadows_98 : decode cX6_shadows 98 = .ok (.ifCond .eq 7, 3) := by decide +kernel
theorem dX6_shadows_101 : decode cX6_shadows 101 = .ok (.iconst 1, 1) := by decide +kernel
theorem dX6_shadows_102 : decode cX6_shadows 102 = .ok (.goto 4, 3) := by decide +kernel
theorem dX6_shadows_105 : decode cX6_shadows 105 = .ok (.iconst 0, 1) := by decide +kernel
theorem dX6_shadows_106 : decode cX6_shadows 106 = .ok (.iadd, 1) := by decide +kernel
theorem dX6_shadows_107 : decode cX6_shadows 107 = .ok (.istore_n 2, 1) := by decide +kernel
theorem dX6_shadows_108 : decode cX6_shadows 108 = .ok (.iinc 4 1, 3) := by decide +kernel
theorem dX6_shadows_111 : decode cX6_shadows 111 = .ok (.goto (-84), 3) := by decide +kernel
theorem dX6_shadows_114 : decode cX6_shadows 114 = .ok (.iinc 3 1, 3) := by decide +kernel
theorem dX6_shadows_117 : decode cX6_shadows 117 = .ok (.goto (-108), 3) := by decide +kernel
theorem dX6_shadows_120 : decode cX6_shadows 120 = .ok (.iload_n 2, 1) := by decide +kernel
theorem dX6_shadows_121 : decode cX6_shadows 121 = .ok (.ireturn, 1) := by decide +kernel
set_option maxRecDepth 20000 in
theorem ggX6_ofBox_X6_rankOf : GoodIn wsX6_ofBox wsX6_rankOf := goodIn_r _ [7, 8, 9, 10, 11, 6, 12, 99, 100, 101, 102, 103, 104, 105, 106, 107, 108, 109, 110, 111, 112, 113, 114, 115] (by decide +kernel) (by decide +kernel)
set_option maxRecDepth 20000 in
theorem gX6_ofBox_X6_rankOf : GoodIn wsX6_ofBox (wsV RX6 125 RX6 yX6_rankOf wsX6_rankOf) := goodIn_app (goodIn_of _ (by decide +kernel)) ggX6_ofBox_X6_rankOf
set_option maxRecDepth 20000 in
theorem ggX6_ofBox_X6_findHiding : GoodIn wsX6_ofBox wsX6_findHiding := goodIn_r _ [16, 8, 1, 17, 18, 19, 20, 6, 21, 22, 23, 24, 25, 9, 10, 11, 12, 26, 27, 28, 29, 30, 31, 32, 33, 34, 35, 36, 37, 38, 39, 40, 41, 42, 43, 44, 99, 100, 101, 102, 103, 104, 105, 106, 107, 108, 109, 110, 111, 112, 113, 114, 115] (by decide +kernel) (by decide +kernel)
set_option maxRecDepth 20000 in
theorem gX6_ofBox_X6_findHiding : GoodIn wsX6_ofBox (wsV RX6 141 RX6 yX6_findHiding wsX6_findHiding) := goodIn_app (goodIn_of _ (by decide +kernel)) ggX6_ofBox_X6_findHiding
set_option maxRecDepth 20000 in
theorem ggX6_ofBox_X6_findLayers : GoodIn wsX6_ofBox wsX6_findLayers := goodIn_r _ [48, 8, 2, 17, 1, 49, 50, 51, 6, 52, 53, 54, 55, 56, 42, 43, 44, 99, 100, 101, 102, 103, 104, 105, 106, 107, 108, 109, 110, 111, 112, 113, 114, 115] (by decide +kernel) (by decide +kernel)
set_option maxRecDepth 20000 in
theorem gX6_ofBox_X6_findLayers : GoodIn wsX6_ofBox (wsV RX6 193 RX6 yX6_findLayers wsX6_findLayers) := goodIn_app (goodIn_of _ (by decide +kernel)) ggX6_ofBox_X6_findLayers
set_option maxRecDepth 20000 in
theorem ggX6_ofBox_X6_volume : GoodIn wsX6_ofBox wsX6_volume := goodIn_r _ [60, 30, 31, 32, 6, 33, 9, 10, 11, 12, 8, 99, 100, 101, 102, 103, 104, 105, 106, 107, 108, 109, 110, 111, 112, 113, 114, 115] (by decide +kernel) (by decide +kernel)
set_option maxRecDepth 20000 in
theorem gX6_ofBox_X6_volume : GoodIn wsX6_ofBox (wsV RX6 93 RX6 yX6_volume wsX6_volume) := goodIn_app (goodIn_of _ (by decide +kernel)) ggX6_ofBox_X6_volume
set_option maxRecDepth 20000 in
theorem ggX6_ofBox_X6_ones : GoodIn wsX6_ofBox wsX6_ones := goodIn_r _ [63] (by decide +kernel) (by decide +kernel)
set_option maxRecDepth 20000 in
theorem gX6_ofBox_X6_ones : GoodIn wsX6_ofBox (va_wsS RX6 156 yX6_ones wsX6_ones) := goodIn_app (goodIn_of _ (by decide +kernel)) ggX6_ofBox_X6_ones
set_option maxRecDepth 20000 in
theorem ggX6_ofBox_X6_hiders : GoodIn wsX6_ofBox wsX6_hiders := goodIn_r _ [67, 8, 1, 42, 43, 6, 44, 99, 100, 101, 102, 103, 104, 105, 106, 107, 108, 109, 110, 111, 112, 113, 114, 115] (by decide +kernel) (by decide +kernel)
set_option maxRecDepth 20000 in
theorem gX6_ofBox_X6_hiders : GoodIn wsX6_ofBox (wsV RX6 196 RX6 yX6_hiders wsX6_hiders) := goodIn_app (goodIn_of _ (by decide +kernel)) ggX6_ofBox_X6_hiders
set_option maxRecDepth 20000 in
theorem ggX6_ofBox_X6_isInRing : GoodIn wsX6_ofBox wsX6_isInRing := goodIn_r _ [56, 17, 42, 43, 6, 44, 99, 100, 101, 102, 103, 104, 105, 106, 107, 108, 109, 110, 111, 112, 113, 114, 115] (by decide +kernel) (by decide +kernel)
set_option maxRecDepth 20000 in
theorem gX6_ofBox_X6_isInRing : GoodIn wsX6_ofBox (wsV RX6 78 RX6 yX6_isInRing wsX6_isInRing) := goodIn_app (goodIn_of _ (by decide +kernel)) ggX6_ofBox_X6_isInRing
set_option maxRecDepth 20000 in
theorem ggX6_ofBox_X6_shortestRing : GoodIn wsX6_ofBox wsX6_shortestRing := goodIn_r _ [71, 1, 42, 43, 6, 44, 72, 73, 74, 75, 8, 99, 100, 101, 102, 103, 104, 105, 106, 107, 108, 109, 110, 111, 112, 113, 114, 115] (by decide +kernel) (by decide +kernel)
set_option maxRecDepth 20000 in
theorem gX6_ofBox_X6_shortestRing : GoodIn wsX6_ofBox (wsV RX6 86 RX6 yX6_shortestRing wsX6_shortestRing) := goodIn_app (goodIn_of _ (by decide +kernel)) ggX6_ofBox_X6_shortestRing
set_option maxRecDepth 20000 in
theorem ggX6_ofBox_X6_boxesBelow : GoodIn wsX6_ofBox wsX6_boxesBelow := goodIn_r _ [79, 8, 80, 81, 82, 6, 83, 84, 85, 86, 87, 22, 23, 24, 25, 9, 10, 11, 12, 26, 27, 28, 29, 30, 31, 32, 33, 99, 100, 101, 102, 103, 104, 105, 106, 107, 108, 109, 110, 111, 112, 113, 114, 115] (by decide +kernel) (by decide +kernel)
set_option maxRecDepth 20000 in
theorem gX6_ofBox_X6_boxesBelow : GoodIn wsX6_ofBox (wsV RX6 199 RX6 yX6_boxesBelow wsX6_boxesBelow) := goodIn_app (goodIn_of _ (by decide +kernel)) ggX6_ofBox_X6_boxesBelow
set_option maxRecDepth 20000 in
theorem ggX6_ofBox_X6_shadows : GoodIn wsX6_ofBox wsX6_shadows := goodIn_r _ [91, 8, 22, 23, 24, 6, 25, 9, 10, 11, 12, 26, 27, 28, 29, 30, 31, 32, 33, 80, 81, 82, 83, 84, 85, 86, 87, 92, 93, 94, 95, 96, 97, 98, 99, 100, 101, 102, 103, 104, 105, 106, 107, 108, 109, 110, 111, 112, 113, 114, 115] (by decide +kernel) (by decide +kernel)
set_option maxRecDepth 20000 in
theorem gX6_ofBox_X6_shadows : GoodIn wsX6_ofBox (wsV RX6 203 RX6 yX6_shadows wsX6_shadows) := goodIn_app (goodIn_of _ (by decide +kernel)) ggX6_ofBox_X6_shadows
set_option maxRecDepth 20000 in
theorem ggX6_ofBox_X6_low : GoodIn wsX6_ofBox wsX6_low := goodIn_r _ [25, 9, 10, 11, 6, 12, 8, 99, 100, 101, 102, 103, 104, 105, 106, 107, 108, 109, 110, 111, 112, 113, 114, 115] (by decide +kernel) (by decide +kernel)
set_option maxRecDepth 20000 in
theorem gX6_ofBox_X6_low : GoodIn wsX6_ofBox (wsV RX6 47 RX6 yX6_low wsX6_low) := goodIn_app (goodIn_of _ (by decide +kernel)) ggX6_ofBox_X6_low
theorem dX6_ofBox_0 : decode cX6_ofBox 0 = .ok (.aload_n 0, 1) := by decide +kernel
theorem dX6_ofBox_1 : decode cX6_ofBox 1 = .ok (.iload_n 1, 1) := by decide +kernel
theorem dX6_ofBox_2 : decode cX6_ofBox 2 = .ok (.invokevirtual 125, 3) := by decide +kernel
theorem dX6_ofBox_5 : decode cX6_ofBox 5 = .ok (.istore_n 3, 1) := by decide +kernel
theorem dX6_ofBox_6 : decode cX6_ofBox 6 = .ok (.iload_n 3, 1) := by decide +kernel
theorem dX6_ofBox_7 : decode cX6_ofBox 7 = .ok (.ifCond .ge 5, 3) := by decide +kernel
theorem dX6_ofBox_10 : decode cX6_ofBox 10 = .ok (.iconst (-1), 1) := by decide +kernel
theorem dX6_ofBox_11 : decode cX6_ofBox 11 = .ok (.ireturn, 1) := by decide +kernel
theorem dX6_ofBox_12 : decode cX6_ofBox 12 = .ok (.aload_n 0, 1) := by decide +kernel
theorem dX6_ofBox_13 : decode cX6_ofBox 13 = .ok (.invokevirtual 141, 3) := by decide +kernel
theorem dX6_ofBox_16 : decode cX6_ofBox 16 = .ok (.aload_n 0, 1) := by decide +kernel
theorem dX6_ofBox_17 : decode cX6_ofBox 17 = .ok (.invokevirtual 193, 3) := by decide +kernel
theorem dX6_ofBox_20 : decode cX6_ofBox 20 = .ok (.iload_n 2, 1) := by decide +kernel
theorem dX6_ofBox_21 : decode cX6_ofBox 21 = .ok (.tableswitch 143 0 8 #[51, 57, 67, 73, 80, 99, 106, 113, 119], 51) := by decide +kernel
theorem dX6_ofBox_72 : decode cX6_ofBox 72 = .ok (.aload_n 0, 1) := by decide +kernel
theorem dX6_ofBox_73 : decode cX6_ofBox 73 = .ok (.iload_n 3, 1) := by decide +kernel
theorem dX6_ofBox_74 : decode cX6_ofBox 74 = .ok (.invokevirtual 93, 3) := by decide +kernel
theorem dX6_ofBox_77 : decode cX6_ofBox 77 = .ok (.ireturn, 1) := by decide +kernel
theorem dX6_ofBox_78 : decode cX6_ofBox 78 = .ok (.aload_n 0, 1) := by decide +kernel
theorem dX6_ofBox_79 : decode cX6_ofBox 79 = .ok (.getfield 25, 3) := by decide +kernel
theorem dX6_ofBox_82 : decode cX6_ofBox 82 = .ok (.iload_n 3, 1) := by decide +kernel
theorem dX6_ofBox_83 : decode cX6_ofBox 83 = .ok (.iaload, 1) := by decide +kernel
theorem dX6_ofBox_84 : decode cX6_ofBox 84 = .ok (.invokestatic 156, 3) := by decide +kernel
theorem dX6_ofBox_87 : decode cX6_ofBox 87 = .ok (.ireturn, 1) := by decide +kernel
theorem dX6_ofBox_88 : decode cX6_ofBox 88 = .ok (.aload_n 0, 1) := by decide +kernel
theorem dX6_ofBox_89 : decode cX6_ofBox 89 = .ok (.iload_n 3, 1) := by decide +kernel
theorem dX6_ofBox_90 : decode cX6_ofBox 90 = .ok (.invokevirtual 196, 3) := by decide +kernel
theorem dX6_ofBox_93 : decode cX6_ofBox 93 = .ok (.ireturn, 1) := by decide +kernel
theorem dX6_ofBox_94 : decode cX6_ofBox 94 = .ok (.aload_n 0, 1) := by decide +kernel
theorem dX6_ofBox_95 : decode cX6_ofBox 95 = .ok (.getfield 31, 3) := by decide +kernel
theorem dX6_ofBox_98 : decode cX6_ofBox 98 = .ok (.iload_n 3, 1) := by decide +kernel
theorem dX6_ofBox_99 : decode cX6_ofBox 99 = .ok (.iaload, 1) := by decide +kernel
theorem dX6_ofBox_100 : decode cX6_ofBox 100 = .ok (.ireturn, 1) := by decide +kernel
theorem dX6_ofBox_101 : decode cX6_ofBox 101 = .ok (.aload_n 0, 1) := by decide +kernel
theorem dX6_ofBox_102 : decode cX6_ofBox 102 = .ok (.iload_n 3, 1) := by decide +kernel
theorem dX6_ofBox_103 : decode cX6_ofBox 103 = .ok (.invokevirtual 78, 3) := by decide +kernel
theorem dX6_ofBox_106 : decode cX6_ofBox 106 = .ok (.ifCond .eq 11, 3) := by decide +kernel
theorem dX6_ofBox_109 : decode cX6_ofBox 109 = .ok (.aload_n 0, 1) := by decide +kernel
theorem dX6_ofBox_110 : decode cX6_ofBox 110 = .ok (.iload_n 3, 1) := by decide +kernel
theorem dX6_ofBox_111 : decode cX6_ofBox 111 = .ok (.invokevirtual 86, 3) := by decide +kernel
theorem dX6_ofBox_114 : decode cX6_ofBox 114 = .ok (.goto 5, 3) := by decide +kernel
theorem dX6_ofBox_117 : decode cX6_ofBox 117 = .ok (.bipush (-5), 2) := by decide +kernel
theorem dX6_ofBox_119 : decode cX6_ofBox 119 = .ok (.ireturn, 1) := by decide +kernel
theorem dX6_ofBox_120 : decode cX6_ofBox 120 = .ok (.aload_n 0, 1) := by decide +kernel
theorem dX6_ofBox_121 : decode cX6_ofBox 121 = .ok (.iload_n 3, 1) := by decide +kernel
theorem dX6_ofBox_122 : decode cX6_ofBox 122 = .ok (.iconst 1, 1) := by decide +kernel
theorem dX6_ofBox_123 : decode cX6_ofBox 123 = .ok (.invokevirtual 199, 3) := by decide +kernel
theorem dX6_ofBox_126 : decode cX6_ofBox 126 = .ok (.ireturn, 1) := by decide +kernel
theorem dX6_ofBox_127 : decode cX6_ofBox 127 = .ok (.aload_n 0, 1) := by decide +kernel
theorem dX6_ofBox_128 : decode cX6_ofBox 128 = .ok (.iload_n 3, 1) := by decide +kernel
theorem dX6_ofBox_129 : decode cX6_ofBox 129 = .ok (.iconst 0, 1) := by decide +kernel
theorem dX6_ofBox_130 : decode cX6_ofBox 130 = .ok (.invokevirtual 199, 3) := by decide +kernel
theorem dX6_ofBox_133 : decode cX6_ofBox 133 = .ok (.ireturn, 1) := by decide +kernel
theorem dX6_ofBox_134 : decode cX6_ofBox 134 = .ok (.aload_n 0, 1) := by decide +kernel
theorem dX6_ofBox_135 : decode cX6_ofBox 135 = .ok (.iload_n 3, 1) := by decide +kernel
theorem dX6_ofBox_136 : decode cX6_ofBox 136 = .ok (.invokevirtual 203, 3) := by decide +kernel
theorem dX6_ofBox_139 : decode cX6_ofBox 139 = .ok (.ireturn, 1) := by decide +kernel
theorem dX6_ofBox_140 : decode cX6_ofBox 140 = .ok (.aload_n 0, 1) := by decide +kernel
theorem dX6_ofBox_141 : decode cX6_ofBox 141 = .ok (.iload_n 3, 1) := by decide +kernel
theorem dX6_ofBox_142 : decode cX6_ofBox 142 = .ok (.iconst 2, 1) := by decide +kernel
theorem dX6_ofBox_143 : decode cX6_ofBox 143 = .ok (.invokevirtual 47, 3) := by decide +kernel
theorem dX6_ofBox_146 : decode cX6_ofBox 146 = .ok (.ifCond .eq 12, 3) := by decide +kernel
theorem dX6_ofBox_149 : decode cX6_ofBox 149 = .ok (.aload_n 0, 1) := by decide +kernel
theorem dX6_ofBox_150 : decode cX6_ofBox 150 = .ok (.iload_n 3, 1) := by decide +kernel
theorem dX6_ofBox_151 : decode cX6_ofBox 151 = .ok (.iconst 1, 1) := by decide +kernel
theorem dX6_ofBox_152 : decode cX6_ofBox 152 = .ok (.invokevirtual 199, 3) := by decide +kernel
theorem dX6_ofBox_155 : decode cX6_ofBox 155 = .ok (.ifCond .le 7, 3) := by decide +kernel
theorem dX6_ofBox_158 : decode cX6_ofBox 158 = .ok (.iconst 1, 1) := by decide +kernel
theorem dX6_ofBox_159 : decode cX6_ofBox 159 = .ok (.goto 4, 3) := by decide +kernel
theorem dX6_ofBox_162 : decode cX6_ofBox 162 = .ok (.iconst 0, 1) := by decide +kernel
theorem dX6_ofBox_163 : decode cX6_ofBox 163 = .ok (.ireturn, 1) := by decide +kernel
theorem dX6_ofBox_164 : decode cX6_ofBox 164 = .ok (.bipush (-2), 2) := by decide +kernel
theorem dX6_ofBox_166 : decode cX6_ofBox 166 = .ok (.ireturn, 1) := by decide +kernel
set_option maxRecDepth 20000 in
theorem ggX6_pair_X6_rankOf : GoodIn wsX6_pair wsX6_rankOf := goodIn_r _ [5, 6, 7, 8, 9, 4, 10, 35, 36, 37, 38, 39, 40, 41, 42, 43, 44, 45, 46, 47, 48, 49, 50, 51] (by decide +kernel) (by decide +kernel)
set_option maxRecDepth 20000 in
theorem gX6_pair_X6_rankOf : GoodIn wsX6_pair (wsV RX6 125 RX6 yX6_rankOf wsX6_rankOf) := goodIn_app (goodIn_of _ (by decide +kernel)) ggX6_pair_X6_rankOf
set_option maxRecDepth 20000 in
theorem ggX6_pair_X6_hidesBy : GoodIn wsX6_pair wsX6_hidesBy := goodIn_r _ [14, 15, 16, 17, 4, 18, 7, 8, 9, 10, 6, 19, 20, 21, 22, 23, 24, 25, 26, 27, 28, 29, 30, 31, 32, 33, 34, 35, 36, 37, 38, 39, 40, 41, 42, 43, 44, 45, 46, 47, 48, 49, 50, 51] (by decide +kernel) (by decide +kernel)
set_option maxRecDepth 20000 in
theorem gX6_pair_X6_hidesBy : GoodIn wsX6_pair (wsV RX6 72 RX6 yX6_hidesBy wsX6_hidesBy) := goodIn_app (goodIn_of _ (by decide +kernel)) ggX6_pair_X6_hidesBy
theorem dX6_pair_0 : decode cX6_pair 0 = .ok (.aload_n 0, 1) := by decide +kernel
theorem dX6_pair_1 : decode cX6_pair 1 = .ok (.iload_n 1, 1) := by decide +kernel
theorem dX6_pair_2 : decode cX6_pair 2 = .ok (.invokevirtual 125, 3) := by decide +kernel
theorem dX6_pair_5 : decode cX6_pair 5 = .ok (.istore_n 3, 1) := by decide +kernel
theorem dX6_pair_6 : decode cX6_pair 6 = .ok (.aload_n 0, 1) := by decide +kernel
theorem dX6_pair_7 : decode cX6_pair 7 = .ok (.iload_n 2, 1) := by decide +kernel
theorem dX6_pair_8 : decode cX6_pair 8 = .ok (.invokevirtual 125, 3) := by decide +kernel
theorem dX6_pair_11 : decode cX6_pair 11 = .ok (.istore 4, 2) := by decide +kernel
theorem dX6_pair_13 : decode cX6_pair 13 = .ok (.iload_n 3, 1) := by decide +kernel
theorem dX6_pair_14 : decode cX6_pair 14 = .ok (.ifCond .lt 8, 3) := by decide +kernel
theorem dX6_pair_17 : decode cX6_pair 17 = .ok (.iload 4, 2) := by decide +kernel
theorem dX6_pair_19 : decode cX6_pair 19 = .ok (.ifCond .ge 5, 3) := by decide +kernel
theorem dX6_pair_22 : decode cX6_pair 22 = .ok (.iconst (-1), 1) := by decide +kernel
theorem dX6_pair_23 : decode cX6_pair 23 = .ok (.ireturn, 1) := by decide +kernel
theorem dX6_pair_24 : decode cX6_pair 24 = .ok (.iload_n 3, 1) := by decide +kernel
theorem dX6_pair_25 : decode cX6_pair 25 = .ok (.iload 4, 2) := by decide +kernel
theorem dX6_pair_27 : decode cX6_pair 27 = .ok (.if_icmp .ne 6, 3) := by decide +kernel
theorem dX6_pair_30 : decode cX6_pair 30 = .ok (.bipush (-2), 2) := by decide +kernel
theorem dX6_pair_32 : decode cX6_pair 32 = .ok (.ireturn, 1) := by decide +kernel
theorem dX6_pair_33 : decode cX6_pair 33 = .ok (.aload_n 0, 1) := by decide +kernel
theorem dX6_pair_34 : decode cX6_pair 34 = .ok (.iload 4, 2) := by decide +kernel
theorem dX6_pair_36 : decode cX6_pair 36 = .ok (.iload_n 3, 1) := by decide +kernel
theorem dX6_pair_37 : decode cX6_pair 37 = .ok (.invokevirtual 72, 3) := by decide +kernel
theorem dX6_pair_40 : decode cX6_pair 40 = .ok (.istore 5, 2) := by decide +kernel
theorem dX6_pair_42 : decode cX6_pair 42 = .ok (.iload 5, 2) := by decide +kernel
theorem dX6_pair_44 : decode cX6_pair 44 = .ok (.ifCond .le 10, 3) := by decide +kernel
theorem dX6_pair_47 : decode cX6_pair 47 = .ok (.iconst 3, 1) := by decide +kernel
theorem dX6_pair_48 : decode cX6_pair 48 = .ok (.iload 5, 2) := by decide +kernel
theorem dX6_pair_50 : decode cX6_pair 50 = .ok (.iadd, 1) := by decide +kernel
theorem dX6_pair_51 : decode cX6_pair 51 = .ok (.goto 10, 3) := by decide +kernel
theorem dX6_pair_54 : decode cX6_pair 54 = .ok (.aload_n 0, 1) := by decide +kernel
theorem dX6_pair_55 : decode cX6_pair 55 = .ok (.iload_n 3, 1) := by decide +kernel
theorem dX6_pair_56 : decode cX6_pair 56 = .ok (.iload 4, 2) := by decide +kernel
theorem dX6_pair_58 : decode cX6_pair 58 = .ok (.invokevirtual 72, 3) := by decide +kernel
theorem dX6_pair_61 : decode cX6_pair 61 = .ok (.ireturn, 1) := by decide +kernel
set_option maxRecDepth 20000 in
theorem ggX6_drawn_X6_findHiding : GoodIn wsX6_drawn wsX6_findHiding := goodIn_r _ [7, 8, 9, 10, 11, 12, 13, 6, 14, 15, 16, 17, 18, 19, 20, 21, 22, 23, 24, 25, 26, 27, 28, 29, 30, 31, 32, 33, 34, 35, 36, 37, 38, 39, 40, 41, 54, 55, 56, 57, 58, 59, 60, 61, 62, 63, 64, 65, 66, 67, 68, 69, 70] (by decide +kernel) (by decide +kernel)
set_option maxRecDepth 20000 in
theorem gX6_drawn_X6_findHiding : GoodIn wsX6_drawn (wsV RX6 141 RX6 yX6_findHiding wsX6_findHiding) := goodIn_app (goodIn_of _ (by decide +kernel)) ggX6_drawn_X6_findHiding
set_option maxRecDepth 20000 in
theorem ggX6_drawn_X6_drawAll : GoodIn wsX6_drawn wsX6_drawAll := goodIn_r _ [45, 8, 1, 9, 2, 39, 40, 6, 41, 46, 47, 48, 49, 15, 16, 17, 18, 19, 20, 21, 22, 50, 51, 52, 53, 27, 28, 29, 30, 54, 55, 56, 57, 58, 59, 60, 61, 62, 63, 64, 65, 66, 67, 68, 69, 70] (by decide +kernel) (by decide +kernel)
set_option maxRecDepth 20000 in
theorem gX6_drawn_X6_drawAll : GoodIn wsX6_drawn (wsV RX6 206 RX6 yX6_drawAll wsX6_drawAll) := goodIn_app (goodIn_of _ (by decide +kernel)) ggX6_drawn_X6_drawAll
set_option maxRecDepth 20000 in
theorem ggX6_drawn_X6_of : GoodIn wsX6_drawn wsX6_of := goodIn_r _ [22, 8, 54, 55, 56, 57, 58, 59, 60, 61, 62, 63, 64, 65, 66, 67, 68, 69, 70] (by decide +kernel) (by decide +kernel)
set_option maxRecDepth 20000 in
theorem gX6_drawn_X6_of : GoodIn wsX6_drawn (wsV RX6 43 RX6 yX6_of wsX6_of) := goodIn_app (goodIn_of _ (by decide +kernel)) ggX6_drawn_X6_of
theorem dX6_drawn_0 : decode cX6_drawn 0 = .ok (.iload_n 1, 1) := by decide +kernel
theorem dX6_drawn_1 : decode cX6_drawn 1 = .ok (.ifCond .ge 6, 3) := by decide +kernel
theorem dX6_drawn_4 : decode cX6_drawn 4 = .ok (.bipush (-2), 2) := by decide +kernel
theorem dX6_drawn_6 : decode cX6_drawn 6 = .ok (.ireturn, 1) := by decide +kernel
theorem dX6_drawn_7 : decode cX6_drawn 7 = .ok (.aload_n 0, 1) := by decide +kernel
theorem dX6_drawn_8 : decode cX6_drawn 8 = .ok (.invokevirtual 141, 3) := by decide +kernel
theorem dX6_drawn_11 : decode cX6_drawn 11 = .ok (.aload_n 0, 1) := by decide +kernel
theorem dX6_drawn_12 : decode cX6_drawn 12 = .ok (.iconst 0, 1) := by decide +kernel
theorem dX6_drawn_13 : decode cX6_drawn 13 = .ok (.invokevirtual 206, 3) := by decide +kernel
theorem dX6_drawn_16 : decode cX6_drawn 16 = .ok (.iload_n 1, 1) := by decide +kernel
theorem dX6_drawn_17 : decode cX6_drawn 17 = .ok (.aload_n 0, 1) := by decide +kernel
theorem dX6_drawn_18 : decode cX6_drawn 18 = .ok (.getfield 96, 3) := by decide +kernel
theorem dX6_drawn_21 : decode cX6_drawn 21 = .ok (.if_icmp .ge 17, 3) := by decide +kernel
theorem dX6_drawn_24 : decode cX6_drawn 24 = .ok (.aload_n 0, 1) := by decide +kernel
theorem dX6_drawn_25 : decode cX6_drawn 25 = .ok (.aload_n 0, 1) := by decide +kernel
theorem dX6_drawn_26 : decode cX6_drawn 26 = .ok (.getfield 34, 3) := by decide +kernel
theorem dX6_drawn_29 : decode cX6_drawn 29 = .ok (.iload_n 1, 1) := by decide +kernel
theorem dX6_drawn_30 : decode cX6_drawn 30 = .ok (.iaload, 1) := by decide +kernel
theorem dX6_drawn_31 : decode cX6_drawn 31 = .ok (.iconst 0, 1) := by decide +kernel
theorem dX6_drawn_32 : decode cX6_drawn 32 = .ok (.invokevirtual 43, 3) := by decide +kernel
theorem dX6_drawn_35 : decode cX6_drawn 35 = .ok (.goto 5, 3) := by decide +kernel
theorem dX6_drawn_38 : decode cX6_drawn 38 = .ok (.bipush (-5), 2) := by decide +kernel
theorem dX6_drawn_40 : decode cX6_drawn 40 = .ok (.ireturn, 1) := by decide +kernel
set_option maxRecDepth 20000 in
theorem ggX6_total_X6_findHiding : GoodIn wsX6_total wsX6_findHiding := goodIn_r _ [11, 1, 2, 12, 13, 14, 15, 10, 16, 17, 18, 19, 20, 21, 22, 23, 24, 25, 26, 27, 28, 29, 30, 31, 32, 33, 34, 35, 36, 37, 38, 39, 40, 41, 42, 43, 103, 104, 105, 106, 107, 108, 109, 110, 111, 112, 113, 114, 115, 116, 117, 118, 119] (by decide +kernel) (by decide +kernel)
set_option maxRecDepth 20000 in
theorem gX6_total_X6_findHiding : GoodIn wsX6_total (wsV RX6 141 RX6 yX6_findHiding wsX6_findHiding) := goodIn_app (goodIn_of _ (by decide +kernel)) ggX6_total_X6_findHiding
set_option maxRecDepth 20000 in
theorem ggX6_total_X6_findLayers : GoodIn wsX6_total wsX6_findLayers := goodIn_r _ [47, 1, 3, 12, 2, 48, 49, 50, 10, 51, 52, 53, 54, 55, 41, 42, 43, 103, 104, 105, 106, 107, 108, 109, 110, 111, 112, 113, 114, 115, 116, 117, 118, 119] (by decide +kernel) (by decide +kernel)
set_option maxRecDepth 20000 in
theorem gX6_total_X6_findLayers : GoodIn wsX6_total (wsV RX6 193 RX6 yX6_findLayers wsX6_findLayers) := goodIn_app (goodIn_of _ (by decide +kernel)) ggX6_total_X6_findLayers
set_option maxRecDepth 20000 in
theorem ggX6_total_X6_drawAll : GoodIn wsX6_total wsX6_drawAll := goodIn_r _ [59, 1, 4, 2, 60, 41, 42, 10, 43, 61, 62, 63, 64, 17, 18, 19, 20, 21, 22, 23, 24, 65, 66, 67, 68, 29, 30, 31, 32, 103, 104, 105, 106, 107, 108, 109, 110, 111, 112, 113, 114, 115, 116, 117, 118, 119] (by decide +kernel) (by decide +kernel)
set_option maxRecDepth 20000 in
theorem gX6_total_X6_drawAll : GoodIn wsX6_total (wsV RX6 206 RX6 yX6_drawAll wsX6_drawAll) := goodIn_app (goodIn_of _ (by decide +kernel)) ggX6_total_X6_drawAll
set_option maxRecDepth 20000 in
theorem ggX6_total_X6_ones : GoodIn wsX6_total wsX6_ones := goodIn_r _ [71] (by decide +kernel) (by decide +kernel)
set_option maxRecDepth 20000 in
theorem gX6_total_X6_ones : GoodIn wsX6_total (va_wsS RX6 156 yX6_ones wsX6_ones) := goodIn_app (goodIn_of _ (by decide +kernel)) ggX6_total_X6_ones
set_option maxRecDepth 20000 in
theorem ggX6_total_X6_volume : GoodIn wsX6_total wsX6_volume := goodIn_r _ [68, 29, 30, 31, 10, 32, 21, 22, 23, 24, 1, 103, 104, 105, 106, 107, 108, 109, 110, 111, 112, 113, 114, 115, 116, 117, 118, 119] (by decide +kernel) (by decide +kernel)
set_option maxRecDepth 20000 in
theorem gX6_total_X6_volume : GoodIn wsX6_total (wsV RX6 93 RX6 yX6_volume wsX6_volume) := goodIn_app (goodIn_of _ (by decide +kernel)) ggX6_total_X6_volume
set_option maxRecDepth 20000 in
theorem ggX6_total_X6_shadows : GoodIn wsX6_total wsX6_shadows := goodIn_r _ [75, 1, 17, 18, 19, 10, 20, 21, 22, 23, 24, 25, 26, 27, 28, 29, 30, 31, 32, 76, 77, 78, 79, 80, 81, 82, 83, 84, 85, 86, 87, 88, 89, 90, 103, 104, 105, 106, 107, 108, 109, 110, 111, 112, 113, 114, 115, 116, 117, 118, 119] (by decide +kernel) (by decide +kernel)
set_option maxRecDepth 20000 in
theorem gX6_total_X6_shadows : GoodIn wsX6_total (wsV RX6 203 RX6 yX6_shadows wsX6_shadows) := goodIn_app (goodIn_of _ (by decide +kernel)) ggX6_total_X6_shadows
set_option maxRecDepth 20000 in
theorem ggX6_total_X6_ringBoxes : GoodIn wsX6_total wsX6_ringBoxes := goodIn_r _ [51, 1, 52, 53, 54, 10, 55, 12, 41, 42, 43, 103, 104, 105, 106, 107, 108, 109, 110, 111, 112, 113, 114, 115, 116, 117, 118, 119] (by decide +kernel) (by decide +kernel)
set_option maxRecDepth 20000 in
theorem gX6_total_X6_ringBoxes : GoodIn wsX6_total (wsV RX6 89 RX6 yX6_ringBoxes wsX6_ringBoxes) := goodIn_app (goodIn_of _ (by decide +kernel)) ggX6_total_X6_ringBoxes
set_option maxRecDepth 20000 in
theorem ggX6_total_X6_shortestOfAll : GoodIn wsX6_total wsX6_shortestOfAll := goodIn_r _ [94, 1, 52, 53, 54, 10, 55, 12, 41, 42, 43, 95, 96, 97, 98, 2, 99, 100, 101, 102, 103, 104, 105, 106, 107, 108, 109, 110, 111, 112, 113, 114, 115, 116, 117, 118, 119] (by decide +kernel) (by decide +kernel)
set_option maxRecDepth 20000 in
theorem gX6_total_X6_shortestOfAll : GoodIn wsX6_total (wsV RX6 210 RX6 yX6_shortestOfAll wsX6_shortestOfAll) := goodIn_app (goodIn_of _ (by decide +kernel)) ggX6_total_X6_shortestOfAll
theorem dX6_total_0 : decode cX6_total 0 = .ok (.aload_n 0, 1) := by decide +kernel
theorem dX6_total_1 : decode cX6_total 1 = .ok (.invokevirtual 141, 3) := by decide +kernel
theorem dX6_total_4 : decode cX6_total 4 = .ok (.aload_n 0, 1) := by decide +kernel
theorem dX6_total_5 : decode cX6_total 5 = .ok (.invokevirtual 193, 3) := by decide +kernel
theorem dX6_total_8 : decode cX6_total 8 = .ok (.aload_n 0, 1) := by decide +kernel
theorem dX6_total_9 : decode cX6_total 9 = .ok (.iconst 0, 1) := by decide +kernel
theorem dX6_total_10 : decode cX6_total 10 = .ok (.invokevirtual 206, 3) := by decide +kernel
theorem dX6_total_13 : decode cX6_total 13 = .ok (.iconst 0, 1) := by decide +kernel
theorem dX6_total_14 : decode cX6_total 14 = .ok (.istore_n 2, 1) := by decide +kernel
theorem dX6_total_15 : decode cX6_total 15 = .ok (.bipush (-5), 2) := by decide +kernel
theorem dX6_total_17 : decode cX6_total 17 = .ok (.istore_n 3, 1) := by decide +kernel
theorem dX6_total_18 : decode cX6_total 18 = .ok (.iconst 0, 1) := by decide +kernel
theorem dX6_total_19 : decode cX6_total 19 = .ok (.istore 4, 2) := by decide +kernel
theorem dX6_total_21 : decode cX6_total 21 = .ok (.iconst 0, 1) := by decide +kernel
theorem dX6_total_22 : decode cX6_total 22 = .ok (.istore 5, 2) := by decide +kernel
theorem dX6_total_24 : decode cX6_total 24 = .ok (.iconst 0, 1) := by decide +kernel
theorem dX6_total_25 : decode cX6_total 25 = .ok (.istore 6, 2) := by decide +kernel
theorem dX6_total_27 : decode cX6_total 27 = .ok (.iload 6, 2) := by decide +kernel
theorem dX6_total_29 : decode cX6_total 29 = .ok (.aload_n 0, 1) := by decide +kernel
theorem dX6_total_30 : decode cX6_total 30 = .ok (.getfield 7, 3) := by decide +kernel
theorem dX6_total_33 : decode cX6_total 33 = .ok (.iconst 0, 1) := by decide +kernel
theorem dX6_total_34 : decode cX6_total 34 = .ok (.iaload, 1) := by decide +kernel
theorem dX6_total_35 : decode cX6_total 35 = .ok (.if_icmp .ge 77, 3) := by decide +kernel
theorem dX6_total_38 : decode cX6_total 38 = .ok (.iload_n 2, 1) := by decide +kernel
theorem dX6_total_39 : decode cX6_total 39 = .ok (.aload_n 0, 1) := by decide +kernel
theorem dX6_total_40 : decode cX6_total 40 = .ok (.getfield 25, 3) := by decide +kernel
theorem dX6_total_43 : decode cX6_total 43 = .ok (.iload 6, 2) := by decide +kernel
theorem dX6_total_45 : decode cX6_total 45 = .ok (.iaload, 1) := by decide +kernel
theorem dX6_total_46 : decode cX6_total 46 = .ok (.invokestatic 156, 3) := by decide +kernel
theorem dX6_total_49 : decode cX6_total 49 = .ok (.iadd, 1) := by decide +kernel
theorem dX6_total_50 : decode cX6_total 50 = .ok (.istore_n 2, 1) := by decide +kernel
theorem dX6_total_51 : decode cX6_total 51 = .ok (.aload_n 0, 1) := by decide +kernel
theorem dX6_total_52 : decode cX6_total 52 = .ok (.getfield 31, 3) := by decide +kernel
theorem dX6_total_55 : decode cX6_total 55 = .ok (.iload 6, 2) := by decide +kernel
theorem dX6_total_57 : decode cX6_total 57 = .ok (.iaload, 1) := by decide +kernel
theorem dX6_total_58 : decode cX6_total 58 = .ok (.iload_n 3, 1) := by decide +kernel
theorem dX6_total_59 : decode cX6_total 59 = .ok (.if_icmp .le 13, 3) := by decide +kernel
theorem dX6_total_62 : decode cX6_total 62 = .ok (.aload_n 0, 1) := by decide +kernel
theorem dX6_total_63 : decode cX6_total 63 = .ok (.getfield 31, 3) := by decide +kernel
theorem dX6_total_66 : decode cX6_total 66 = .ok (.iload 6, 2) := by decide +kernel
theorem dX6_total_68 : decode cX6_total 68 = .ok (.iaload, 1) := by decide +kernel
theorem dX6_total_69 : decode cX6_total 69 = .ok (.goto 4, 3) := by decide +kernel
theorem dX6_total_72 : decode cX6_total 72 = .ok (.iload_n 3, 1) := by decide +kernel
theorem dX6_total_73 : decode cX6_total 73 = .ok (.istore_n 3, 1) := by decide +kernel
theorem dX6_total_74 : decode cX6_total 74 = .ok (.iload 4, 2) := by decide +kernel
theorem dX6_total_76 : decode cX6_total 76 = .ok (.aload_n 0, 1) := by decide +kernel
theorem dX6_total_77 : decode cX6_total 77 = .ok (.iload 6, 2) := by decide +kernel
theorem dX6_total_79 : decode cX6_total 79 = .ok (.invokevirtual 93, 3) := by decide +kernel
theorem dX6_total_82 : decode cX6_total 82 = .ok (.iadd, 1) := by decide +kernel
theorem dX6_total_83 : decode cX6_total 83 = .ok (.istore 4, 2) := by decide +kernel
theorem dX6_total_85 : decode cX6_total 85 = .ok (.iload 5, 2) := by decide +kernel
theorem dX6_total_87 : decode cX6_total 87 = .ok (.iload_n 1, 1) := by decide +kernel
theorem dX6_total_88 : decode cX6_total 88 = .ok (.bipush 9, 2) := by decide +kernel
theorem dX6_total_90 : decode cX6_total 90 = .ok (.if_icmp .ne 12, 3) := by decide +kernel
theorem dX6_total_93 : decode cX6_total 93 = .ok (.aload_n 0, 1) := by decide +kernel
theorem dX6_total_94 : decode cX6_total 94 = .ok (.iload 6, 2) := by decide +kernel
theorem dX6_total_96 : decode cX6_total 96 = .ok (.invokevirtual 203, 3) := by decide +kernel
theorem dX6_total_99 : decode cX6_total 99 = .ok (.goto 4, 3) := by decide +kernel
theorem dX6_total_102 : decode cX6_total 102 = .ok (.iconst 0, 1) := by decide +kernel
theorem dX6_total_103 : decode cX6_total 103 = .ok (.iadd, 1) := by decide +kernel
theorem dX6_total_104 : decode cX6_total 104 = .ok (.istore 5, 2) := by decide +kernel
theorem dX6_total_106 : decode cX6_total 106 = .ok (.iinc 6 1, 3) := by decide +kernel
theorem dX6_total_109 : decode cX6_total 109 = .ok (.goto (-82), 3) := by decide +kernel
theorem dX6_total_112 : decode cX6_total 112 = .ok (.iload_n 1, 1) := by decide +kernel
theorem dX6_total_113 : decode cX6_total 113 = .ok (.tableswitch 133 0 12 #[67, 74, 81, 83, 88, 96, 101, 103, 110, 113, 116, 123, 128], 67) := by decide +kernel
theorem dX6_total_180 : decode cX6_total 180 = .ok (.aload_n 0, 1) := by decide +kernel
theorem dX6_total_181 : decode cX6_total 181 = .ok (.getfield 7, 3) := by decide +kernel
theorem dX6_total_184 : decode cX6_total 184 = .ok (.iconst 0, 1) := by decide +kernel
theorem dX6_total_185 : decode cX6_total 185 = .ok (.iaload, 1) := by decide +kernel
theorem dX6_total_186 : decode cX6_total 186 = .ok (.ireturn, 1) := by decide +kernel
theorem dX6_total_187 : decode cX6_total 187 = .ok (.aload_n 0, 1) := by decide +kernel
theorem dX6_total_188 : decode cX6_total 188 = .ok (.getfield 7, 3) := by decide +kernel
theorem dX6_total_191 : decode cX6_total 191 = .ok (.iconst 1, 1) := by decide +kernel
theorem dX6_total_192 : decode cX6_total 192 = .ok (.iaload, 1) := by decide +kernel
theorem dX6_total_193 : decode cX6_total 193 = .ok (.ireturn, 1) := by decide +kernel
theorem dX6_total_194 : decode cX6_total 194 = .ok (.iload_n 2, 1) := by decide +kernel
theorem dX6_total_195 : decode cX6_total 195 = .ok (.ireturn, 1) := by decide +kernel
theorem dX6_total_196 : decode cX6_total 196 = .ok (.aload_n 0, 1) := by decide +kernel
theorem dX6_total_197 : decode cX6_total 197 = .ok (.getfield 96, 3) := by decide +kernel
theorem dX6_total_200 : decode cX6_total 200 = .ok (.ireturn, 1) := by decide +kernel
theorem dX6_total_201 : decode cX6_total 201 = .ok (.aload_n 0, 1) := by decide +kernel
theorem dX6_total_202 : decode cX6_total 202 = .ok (.invokevirtual 89, 3) := by decide +kernel
theorem dX6_total_205 : decode cX6_total 205 = .ok (.invokestatic 156, 3) := by decide +kernel
theorem dX6_total_208 : decode cX6_total 208 = .ok (.ireturn, 1) := by decide +kernel
theorem dX6_total_209 : decode cX6_total 209 = .ok (.aload_n 0, 1) := by decide +kernel
theorem dX6_total_210 : decode cX6_total 210 = .ok (.invokevirtual 210, 3) := by decide +kernel
theorem dX6_total_213 : decode cX6_total 213 = .ok (.ireturn, 1) := by decide +kernel
theorem dX6_total_214 : decode cX6_total 214 = .ok (.iload_n 3, 1) := by decide +kernel
theorem dX6_total_215 : decode cX6_total 215 = .ok (.ireturn, 1) := by decide +kernel
theorem dX6_total_216 : decode cX6_total 216 = .ok (.aload_n 0, 1) := by decide +kernel
theorem dX6_total_217 : decode cX6_total 217 = .ok (.getfield 7, 3) := by decide +kernel
theorem dX6_total_220 : decode cX6_total 220 = .ok (.iconst 2, 1) := by decide +kernel
theorem dX6_total_221 : decode cX6_total 221 = .ok (.iaload, 1) := by decide +kernel
theorem dX6_total_222 : decode cX6_total 222 = .ok (.ireturn, 1) := by decide +kernel
theorem dX6_total_223 : decode cX6_total 223 = .ok (.iload 4, 2) := by decide +kernel
theorem dX6_total_225 : decode cX6_total 225 = .ok (.ireturn, 1) := by decide +kernel
theorem dX6_total_226 : decode cX6_total 226 = .ok (.iload 5, 2) := by decide +kernel
theorem dX6_total_228 : decode cX6_total 228 = .ok (.ireturn, 1) := by decide +kernel
theorem dX6_total_229 : decode cX6_total 229 = .ok (.aload_n 0, 1) := by decide +kernel
theorem dX6_total_230 : decode cX6_total 230 = .ok (.getfield 7, 3) := by decide +kernel
theorem dX6_total_233 : decode cX6_total 233 = .ok (.iconst 3, 1) := by decide +kernel
theorem dX6_total_234 : decode cX6_total 234 = .ok (.iaload, 1) := by decide +kernel
theorem dX6_total_235 : decode cX6_total 235 = .ok (.ireturn, 1) := by decide +kernel
theorem dX6_total_236 : decode cX6_total 236 = .ok (.aload_n 0, 1) := by decide +kernel
theorem dX6_total_237 : decode cX6_total 237 = .ok (.getfield 103, 3) := by decide +kernel
theorem dX6_total_240 : decode cX6_total 240 = .ok (.ireturn, 1) := by decide +kernel
theorem dX6_total_241 : decode cX6_total 241 = .ok (.aload_n 0, 1) := by decide +kernel
theorem dX6_total_242 : decode cX6_total 242 = .ok (.getfield 159, 3) := by decide +kernel
theorem dX6_total_245 : decode cX6_total 245 = .ok (.ireturn, 1) := by decide +kernel
theorem dX6_total_246 : decode cX6_total 246 = .ok (.bipush (-2), 2) := by decide +kernel
theorem dX6_total_248 : decode cX6_total 248 = .ok (.ireturn, 1) := by decide +kernel
set_option maxRecDepth 20000 in
theorem ggX6_waitsFor_X6_rankOf : GoodIn wsX6_waitsFor wsX6_rankOf := goodIn_r _ [7, 2, 8, 9, 10, 6, 11, 62, 63, 64, 65, 66, 67, 68, 69, 70, 71, 72, 73, 74, 75, 76, 77, 78] (by decide +kernel) (by decide +kernel)
set_option maxRecDepth 20000 in
theorem gX6_waitsFor_X6_rankOf : GoodIn wsX6_waitsFor (wsV RX6 125 RX6 yX6_rankOf wsX6_rankOf) := goodIn_app (goodIn_of _ (by decide +kernel)) ggX6_waitsFor_X6_rankOf
set_option maxRecDepth 20000 in
theorem ggX6_waitsFor_X6_findHiding : GoodIn wsX6_waitsFor wsX6_findHiding := goodIn_r _ [15, 2, 1, 16, 17, 18, 19, 6, 20, 21, 22, 23, 24, 8, 9, 10, 11, 25, 26, 27, 28, 29, 30, 31, 32, 33, 34, 35, 36, 37, 38, 39, 40, 41, 42, 43, 62, 63, 64, 65, 66, 67, 68, 69, 70, 71, 72, 73, 74, 75, 76, 77, 78] (by decide +kernel) (by decide +kernel)
set_option maxRecDepth 20000 in
theorem gX6_waitsFor_X6_findHiding : GoodIn wsX6_waitsFor (wsV RX6 141 RX6 yX6_findHiding wsX6_findHiding) := goodIn_app (goodIn_of _ (by decide +kernel)) ggX6_waitsFor_X6_findHiding
set_option maxRecDepth 20000 in
theorem ggX6_waitsFor_X6_drawAll : GoodIn wsX6_waitsFor wsX6_drawAll := goodIn_r _ [47, 2, 48, 1, 49, 41, 42, 6, 43, 50, 51, 52, 53, 21, 22, 23, 24, 8, 9, 10, 11, 54, 55, 56, 57, 29, 30, 31, 32, 62, 63, 64, 65, 66, 67, 68, 69, 70, 71, 72, 73, 74, 75, 76, 77, 78] (by decide +kernel) (by decide +kernel)
set_option maxRecDepth 20000 in
theorem gX6_waitsFor_X6_drawAll : GoodIn wsX6_waitsFor (wsV RX6 206 RX6 yX6_drawAll wsX6_drawAll) := goodIn_app (goodIn_of _ (by decide +kernel)) ggX6_waitsFor_X6_drawAll
set_option maxRecDepth 20000 in
theorem ggX6_waitsFor_X6_drawnSet : GoodIn wsX6_waitsFor wsX6_drawnSet := goodIn_r _ [61, 48, 49, 62, 63, 64, 65, 66, 67, 68, 69, 70, 71, 72, 73, 74, 75, 76, 77, 78] (by decide +kernel) (by decide +kernel)
set_option maxRecDepth 20000 in
theorem gX6_waitsFor_X6_drawnSet : GoodIn wsX6_waitsFor (wsV RX6 213 RX6 yX6_drawnSet wsX6_drawnSet) := goodIn_app (goodIn_of _ (by decide +kernel)) ggX6_waitsFor_X6_drawnSet
set_option maxRecDepth 20000 in
theorem ggX6_waitsFor_X6_has : GoodIn wsX6_waitsFor wsX6_has := goodIn_r _ [43] (by decide +kernel) (by decide +kernel)
set_option maxRecDepth 20000 in
theorem gX6_waitsFor_X6_has : GoodIn wsX6_waitsFor (va_wsS RX6 75 yX6_has wsX6_has) := goodIn_app (goodIn_of _ (by decide +kernel)) ggX6_waitsFor_X6_has
set_option maxRecDepth 20000 in
theorem ggX6_waitsFor_X6_of : GoodIn wsX6_waitsFor wsX6_of := goodIn_r _ [11, 2, 62, 63, 64, 65, 66, 67, 68, 69, 70, 71, 72, 73, 74, 75, 76, 77, 78] (by decide +kernel) (by decide +kernel)
set_option maxRecDepth 20000 in
theorem gX6_waitsFor_X6_of : GoodIn wsX6_waitsFor (wsV RX6 43 RX6 yX6_of wsX6_of) := goodIn_app (goodIn_of _ (by decide +kernel)) ggX6_waitsFor_X6_of
theorem dX6_waitsFor_0 : decode cX6_waitsFor 0 = .ok (.aload_n 0, 1) := by decide +kernel
theorem dX6_waitsFor_1 : decode cX6_waitsFor 1 = .ok (.iload_n 1, 1) := by decide +kernel
theorem dX6_waitsFor_2 : decode cX6_waitsFor 2 = .ok (.invokevirtual 125, 3) := by decide +kernel
theorem dX6_waitsFor_5 : decode cX6_waitsFor 5 = .ok (.istore_n 2, 1) := by decide +kernel
theorem dX6_waitsFor_6 : decode cX6_waitsFor 6 = .ok (.iload_n 2, 1) := by decide +kernel
theorem dX6_waitsFor_7 : decode cX6_waitsFor 7 = .ok (.ifCond .ge 5, 3) := by decide +kernel
theorem dX6_waitsFor_10 : decode cX6_waitsFor 10 = .ok (.iconst (-1), 1) := by decide +kernel
theorem dX6_waitsFor_11 : decode cX6_waitsFor 11 = .ok (.ireturn, 1) := by decide +kernel
theorem dX6_waitsFor_12 : decode cX6_waitsFor 12 = .ok (.aload_n 0, 1) := by decide +kernel
theorem dX6_waitsFor_13 : decode cX6_waitsFor 13 = .ok (.invokevirtual 141, 3) := by decide +kernel
theorem dX6_waitsFor_16 : decode cX6_waitsFor 16 = .ok (.aload_n 0, 1) := by decide +kernel
theorem dX6_waitsFor_17 : decode cX6_waitsFor 17 = .ok (.iconst 0, 1) := by decide +kernel
theorem dX6_waitsFor_18 : decode cX6_waitsFor 18 = .ok (.invokevirtual 206, 3) := by decide +kernel
theorem dX6_waitsFor_21 : decode cX6_waitsFor 21 = .ok (.aload_n 0, 1) := by decide +kernel
theorem dX6_waitsFor_22 : decode cX6_waitsFor 22 = .ok (.getfield 25, 3) := by decide +kernel
theorem dX6_waitsFor_25 : decode cX6_waitsFor 25 = .ok (.iload_n 2, 1) := by decide +kernel
theorem dX6_waitsFor_26 : decode cX6_waitsFor 26 = .ok (.iaload, 1) := by decide +kernel
theorem dX6_waitsFor_27 : decode cX6_waitsFor 27 = .ok (.aload_n 0, 1) := by decide +kernel
theorem dX6_waitsFor_28 : decode cX6_waitsFor 28 = .ok (.invokevirtual 213, 3) := by decide +kernel
theorem dX6_waitsFor_31 : decode cX6_waitsFor 31 = .ok (.iconst (-1), 1) := by decide +kernel
theorem dX6_waitsFor_32 : decode cX6_waitsFor 32 = .ok (.ixor, 1) := by decide +kernel
theorem dX6_waitsFor_33 : decode cX6_waitsFor 33 = .ok (.iand, 1) := by decide +kernel
theorem dX6_waitsFor_34 : decode cX6_waitsFor 34 = .ok (.istore_n 3, 1) := by decide +kernel
theorem dX6_waitsFor_35 : decode cX6_waitsFor 35 = .ok (.bipush (-5), 2) := by decide +kernel
theorem dX6_waitsFor_37 : decode cX6_waitsFor 37 = .ok (.istore 4, 2) := by decide +kernel
theorem dX6_waitsFor_39 : decode cX6_waitsFor 39 = .ok (.aload_n 0, 1) := by decide +kernel
theorem dX6_waitsFor_40 : decode cX6_waitsFor 40 = .ok (.getfield 7, 3) := by decide +kernel
theorem dX6_waitsFor_43 : decode cX6_waitsFor 43 = .ok (.iconst 0, 1) := by decide +kernel
theorem dX6_waitsFor_44 : decode cX6_waitsFor 44 = .ok (.iaload, 1) := by decide +kernel
theorem dX6_waitsFor_45 : decode cX6_waitsFor 45 = .ok (.iconst 1, 1) := by decide +kernel
theorem dX6_waitsFor_46 : decode cX6_waitsFor 46 = .ok (.isub, 1) := by decide +kernel
theorem dX6_waitsFor_47 : decode cX6_waitsFor 47 = .ok (.istore 5, 2) := by decide +kernel
theorem dX6_waitsFor_49 : decode cX6_waitsFor 49 = .ok (.iload 5, 2) := by decide +kernel
theorem dX6_waitsFor_51 : decode cX6_waitsFor 51 = .ok (.ifCond .lt 32, 3) := by decide +kernel
theorem dX6_waitsFor_54 : decode cX6_waitsFor 54 = .ok (.iload_n 3, 1) := by decide +kernel
theorem dX6_waitsFor_55 : decode cX6_waitsFor 55 = .ok (.iload 5, 2) := by decide +kernel
theorem dX6_waitsFor_57 : decode cX6_waitsFor 57 = .ok (.invokestatic 75, 3) := by decide +kernel
theorem dX6_waitsFor_60 : decode cX6_waitsFor 60 = .ok (.ifCond .eq 13, 3) := by decide +kernel
theorem dX6_waitsFor_63 : decode cX6_waitsFor 63 = .ok (.aload_n 0, 1) := by decide +kernel
theorem dX6_waitsFor_64 : decode cX6_waitsFor 64 = .ok (.iload 5, 2) := by decide +kernel
theorem dX6_waitsFor_66 : decode cX6_waitsFor 66 = .ok (.iconst 0, 1) := by decide +kernel
theorem dX6_waitsFor_67 : decode cX6_waitsFor 67 = .ok (.invokevirtual 43, 3) := by decide +kernel
theorem dX6_waitsFor_70 : decode cX6_waitsFor 70 = .ok (.goto 5, 3) := by decide +kernel
theorem dX6_waitsFor_73 : decode cX6_waitsFor 73 = .ok (.iload 4, 2) := by decide +kernel
theorem dX6_waitsFor_75 : decode cX6_waitsFor 75 = .ok (.istore 4, 2) := by decide +kernel
theorem dX6_waitsFor_77 : decode cX6_waitsFor 77 = .ok (.iinc 5 (-1), 3) := by decide +kernel
theorem dX6_waitsFor_80 : decode cX6_waitsFor 80 = .ok (.goto (-31), 3) := by decide +kernel
theorem dX6_waitsFor_83 : decode cX6_waitsFor 83 = .ok (.aload_n 0, 1) := by decide +kernel
theorem dX6_waitsFor_84 : decode cX6_waitsFor 84 = .ok (.invokevirtual 213, 3) := by decide +kernel
theorem dX6_waitsFor_87 : decode cX6_waitsFor 87 = .ok (.iload_n 2, 1) := by decide +kernel
theorem dX6_waitsFor_88 : decode cX6_waitsFor 88 = .ok (.invokestatic 75, 3) := by decide +kernel
theorem dX6_waitsFor_91 : decode cX6_waitsFor 91 = .ok (.ifCond .eq 8, 3) := by decide +kernel
theorem dX6_waitsFor_94 : decode cX6_waitsFor 94 = .ok (.bipush (-5), 2) := by decide +kernel
theorem dX6_waitsFor_96 : decode cX6_waitsFor 96 = .ok (.goto 5, 3) := by decide +kernel
theorem dX6_waitsFor_99 : decode cX6_waitsFor 99 = .ok (.iload 4, 2) := by decide +kernel
theorem dX6_waitsFor_101 : decode cX6_waitsFor 101 = .ok (.ireturn, 1) := by decide +kernel
set_option maxRecDepth 20000 in
theorem ggX6_breaks_X6_putAside : GoodIn wsX6_breaks wsX6_putAside := goodIn_r _ [5, 6, 7, 85, 86, 87, 88, 89, 90, 91, 92, 93, 94, 95, 96, 97, 98, 99, 100, 101] (by decide +kernel) (by decide +kernel)
set_option maxRecDepth 20000 in
theorem gX6_breaks_X6_putAside : GoodIn wsX6_breaks (wsV RX6 184 RX6 yX6_putAside wsX6_putAside) := goodIn_app (goodIn_of _ (by decide +kernel)) ggX6_breaks_X6_putAside
set_option maxRecDepth 20000 in
theorem ggX6_breaks_X6_breakAt : GoodIn wsX6_breaks wsX6_breakAt := goodIn_r _ [11, 7, 12, 13, 14, 4, 15, 16, 17, 18, 19, 20, 21, 22, 23, 24, 25, 26, 27, 28, 29, 30, 31, 32, 33, 34, 35, 36, 37, 38, 39, 40, 41, 42, 43, 44, 45, 46, 47, 48, 49, 50, 51, 52, 53, 54, 55, 56, 85, 86, 87, 88, 89, 90, 91, 92, 93, 94, 95, 96, 97, 98, 99, 100, 101] (by decide +kernel) (by decide +kernel)
set_option maxRecDepth 20000 in
theorem gX6_breaks_X6_breakAt : GoodIn wsX6_breaks (wsV RX6 147 RX6 yX6_breakAt wsX6_breakAt) := goodIn_app (goodIn_of _ (by decide +kernel)) ggX6_breaks_X6_breakAt
set_option maxRecDepth 20000 in
theorem ggX6_breaks_X6_whyNoBreak : GoodIn wsX6_breaks wsX6_whyNoBreak := goodIn_r _ [60, 7, 61, 62, 63, 4, 64, 34, 35, 36, 37, 26, 27, 28, 29, 85, 86, 87, 88, 89, 90, 91, 92, 93, 94, 95, 96, 97, 98, 99, 100, 101] (by decide +kernel) (by decide +kernel)
set_option maxRecDepth 20000 in
theorem gX6_breaks_X6_whyNoBreak : GoodIn wsX6_breaks (wsV RX6 150 RX6 yX6_whyNoBreak wsX6_whyNoBreak) := goodIn_app (goodIn_of _ (by decide +kernel)) ggX6_breaks_X6_whyNoBreak
set_option maxRecDepth 20000 in
theorem ggX6_breaks_X6_doBreak : GoodIn wsX6_breaks wsX6_doBreak := goodIn_r _ [68, 61, 62, 63, 4, 64, 34, 35, 36, 37, 26, 27, 28, 29, 7, 22, 23, 24, 25, 69, 70, 71, 72, 30, 31, 32, 33, 73, 74, 75, 76, 77, 78, 79, 80, 85, 86, 87, 88, 89, 90, 91, 92, 93, 94, 95, 96, 97, 98, 99, 100, 101] (by decide +kernel) (by decide +kernel)
set_option maxRecDepth 20000 in
theorem gX6_breaks_X6_doBreak : GoodIn wsX6_breaks (wsV RX6 153 RX6 yX6_doBreak wsX6_doBreak) := goodIn_app (goodIn_of _ (by decide +kernel)) ggX6_breaks_X6_doBreak
set_option maxRecDepth 20000 in
theorem ggX6_breaks_X6_putBack : GoodIn wsX6_breaks wsX6_putBack := goodIn_r _ [84, 7, 6, 85, 86, 87, 88, 89, 90, 91, 92, 93, 94, 95, 96, 97, 98, 99, 100, 101] (by decide +kernel) (by decide +kernel)
set_option maxRecDepth 20000 in
theorem gX6_breaks_X6_putBack : GoodIn wsX6_breaks (wsV RX6 187 RX6 yX6_putBack wsX6_putBack) := goodIn_app (goodIn_of _ (by decide +kernel)) ggX6_breaks_X6_putBack
theorem dX6_breaks_0 : decode cX6_breaks 0 = .ok (.aload_n 0, 1) := by decide +kernel
theorem dX6_breaks_1 : decode cX6_breaks 1 = .ok (.invokevirtual 184, 3) := by decide +kernel
theorem dX6_breaks_4 : decode cX6_breaks 4 = .ok (.iconst 0, 1) := by decide +kernel
theorem dX6_breaks_5 : decode cX6_breaks 5 = .ok (.istore_n 1, 1) := by decide +kernel
theorem dX6_breaks_6 : decode cX6_breaks 6 = .ok (.aload_n 0, 1) := by decide +kernel
theorem dX6_breaks_7 : decode cX6_breaks 7 = .ok (.invokevirtual 147, 3) := by decide +kernel
theorem dX6_breaks_10 : decode cX6_breaks 10 = .ok (.istore_n 2, 1) := by decide +kernel
theorem dX6_breaks_11 : decode cX6_breaks 11 = .ok (.aload_n 0, 1) := by decide +kernel
theorem dX6_breaks_12 : decode cX6_breaks 12 = .ok (.iload_n 2, 1) := by decide +kernel
theorem dX6_breaks_13 : decode cX6_breaks 13 = .ok (.invokevirtual 150, 3) := by decide +kernel
theorem dX6_breaks_16 : decode cX6_breaks 16 = .ok (.istore_n 3, 1) := by decide +kernel
theorem dX6_breaks_17 : decode cX6_breaks 17 = .ok (.iload_n 3, 1) := by decide +kernel
theorem dX6_breaks_18 : decode cX6_breaks 18 = .ok (.ifCond .ne 26, 3) := by decide +kernel
theorem dX6_breaks_21 : decode cX6_breaks 21 = .ok (.aload_n 0, 1) := by decide +kernel
theorem dX6_breaks_22 : decode cX6_breaks 22 = .ok (.iload_n 2, 1) := by decide +kernel
theorem dX6_breaks_23 : decode cX6_breaks 23 = .ok (.invokevirtual 153, 3) := by decide +kernel
theorem dX6_breaks_26 : decode cX6_breaks 26 = .ok (.pop, 1) := by decide +kernel
theorem dX6_breaks_27 : decode cX6_breaks 27 = .ok (.iinc 1 1, 3) := by decide +kernel
theorem dX6_breaks_30 : decode cX6_breaks 30 = .ok (.aload_n 0, 1) := by decide +kernel
theorem dX6_breaks_31 : decode cX6_breaks 31 = .ok (.invokevirtual 147, 3) := by decide +kernel
theorem dX6_breaks_34 : decode cX6_breaks 34 = .ok (.istore_n 2, 1) := by decide +kernel
theorem dX6_breaks_35 : decode cX6_breaks 35 = .ok (.aload_n 0, 1) := by decide +kernel
theorem dX6_breaks_36 : decode cX6_breaks 36 = .ok (.iload_n 2, 1) := by decide +kernel
theorem dX6_breaks_37 : decode cX6_breaks 37 = .ok (.invokevirtual 150, 3) := by decide +kernel
theorem dX6_breaks_40 : decode cX6_breaks 40 = .ok (.istore_n 3, 1) := by decide +kernel
theorem dX6_breaks_41 : decode cX6_breaks 41 = .ok (.goto (-24), 3) := by decide +kernel
theorem dX6_breaks_44 : decode cX6_breaks 44 = .ok (.aload_n 0, 1) := by decide +kernel
theorem dX6_breaks_45 : decode cX6_breaks 45 = .ok (.invokevirtual 187, 3) := by decide +kernel
theorem dX6_breaks_48 : decode cX6_breaks 48 = .ok (.iload_n 3, 1) := by decide +kernel
theorem dX6_breaks_49 : decode cX6_breaks 49 = .ok (.bipush (-5), 2) := by decide +kernel
theorem dX6_breaks_51 : decode cX6_breaks 51 = .ok (.if_icmp .ne 7, 3) := by decide +kernel
theorem dX6_breaks_54 : decode cX6_breaks 54 = .ok (.iload_n 1, 1) := by decide +kernel
theorem dX6_breaks_55 : decode cX6_breaks 55 = .ok (.goto 4, 3) := by decide +kernel
theorem dX6_breaks_58 : decode cX6_breaks 58 = .ok (.iload_n 3, 1) := by decide +kernel
theorem dX6_breaks_59 : decode cX6_breaks 59 = .ok (.ireturn, 1) := by decide +kernel
set_option maxRecDepth 20000 in
theorem ggX6_drawnWithout_X6_rankOf : GoodIn wsX6_drawnWithout wsX6_rankOf := goodIn_r _ [6, 7, 8, 9, 10, 5, 11, 58, 59, 60, 61, 62, 63, 64, 65, 66, 67, 68, 69, 70, 71, 72, 73, 74] (by decide +kernel) (by decide +kernel)
set_option maxRecDepth 20000 in
theorem gX6_drawnWithout_X6_rankOf : GoodIn wsX6_drawnWithout (wsV RX6 125 RX6 yX6_rankOf wsX6_rankOf) := goodIn_app (goodIn_of _ (by decide +kernel)) ggX6_drawnWithout_X6_rankOf
set_option maxRecDepth 20000 in
theorem ggX6_drawnWithout_X6_findHiding : GoodIn wsX6_drawnWithout wsX6_findHiding := goodIn_r _ [15, 7, 16, 17, 18, 19, 20, 5, 21, 22, 23, 24, 25, 8, 9, 10, 11, 26, 27, 28, 29, 30, 31, 32, 33, 34, 35, 36, 37, 38, 39, 40, 41, 42, 43, 44, 58, 59, 60, 61, 62, 63, 64, 65, 66, 67, 68, 69, 70, 71, 72, 73, 74] (by decide +kernel) (by decide +kernel)
set_option maxRecDepth 20000 in
theorem gX6_drawnWithout_X6_findHiding : GoodIn wsX6_drawnWithout (wsV RX6 141 RX6 yX6_findHiding wsX6_findHiding) := goodIn_app (goodIn_of _ (by decide +kernel)) ggX6_drawnWithout_X6_findHiding
set_option maxRecDepth 20000 in
theorem ggX6_drawnWithout_X6_drawAll : GoodIn wsX6_drawnWithout wsX6_drawAll := goodIn_r _ [48, 7, 1, 16, 49, 42, 43, 5, 44, 50, 51, 52, 53, 22, 23, 24, 25, 8, 9, 10, 11, 54, 55, 56, 57, 30, 31, 32, 33, 58, 59, 60, 61, 62, 63, 64, 65, 66, 67, 68, 69, 70, 71, 72, 73, 74] (by decide +kernel) (by decide +kernel)
set_option maxRecDepth 20000 in
theorem gX6_drawnWithout_X6_drawAll : GoodIn wsX6_drawnWithout (wsV RX6 206 RX6 yX6_drawAll wsX6_drawAll) := goodIn_app (goodIn_of _ (by decide +kernel)) ggX6_drawnWithout_X6_drawAll
theorem dX6_drawnWithout_0 : decode cX6_drawnWithout 0 = .ok (.aload_n 0, 1) := by decide +kernel
theorem dX6_drawnWithout_1 : decode cX6_drawnWithout 1 = .ok (.iload_n 1, 1) := by decide +kernel
theorem dX6_drawnWithout_2 : decode cX6_drawnWithout 2 = .ok (.invokevirtual 125, 3) := by decide +kernel
theorem dX6_drawnWithout_5 : decode cX6_drawnWithout 5 = .ok (.istore_n 2, 1) := by decide +kernel
theorem dX6_drawnWithout_6 : decode cX6_drawnWithout 6 = .ok (.iload_n 2, 1) := by decide +kernel
theorem dX6_drawnWithout_7 : decode cX6_drawnWithout 7 = .ok (.ifCond .ge 5, 3) := by decide +kernel
theorem dX6_drawnWithout_10 : decode cX6_drawnWithout 10 = .ok (.iconst (-1), 1) := by decide +kernel
theorem dX6_drawnWithout_11 : decode cX6_drawnWithout 11 = .ok (.ireturn, 1) := by decide +kernel
theorem dX6_drawnWithout_12 : decode cX6_drawnWithout 12 = .ok (.aload_n 0, 1) := by decide +kernel
theorem dX6_drawnWithout_13 : decode cX6_drawnWithout 13 = .ok (.invokevirtual 141, 3) := by decide +kernel
theorem dX6_drawnWithout_16 : decode cX6_drawnWithout 16 = .ok (.aload_n 0, 1) := by decide +kernel
theorem dX6_drawnWithout_17 : decode cX6_drawnWithout 17 = .ok (.iconst 1, 1) := by decide +kernel
theorem dX6_drawnWithout_18 : decode cX6_drawnWithout 18 = .ok (.iload_n 2, 1) := by decide +kernel
theorem dX6_drawnWithout_19 : decode cX6_drawnWithout 19 = .ok (.ishl, 1) := by decide +kernel
theorem dX6_drawnWithout_20 : decode cX6_drawnWithout 20 = .ok (.invokevirtual 206, 3) := by decide +kernel
theorem dX6_drawnWithout_23 : decode cX6_drawnWithout 23 = .ok (.aload_n 0, 1) := by decide +kernel
theorem dX6_drawnWithout_24 : decode cX6_drawnWithout 24 = .ok (.getfield 96, 3) := by decide +kernel
theorem dX6_drawnWithout_27 : decode cX6_drawnWithout 27 = .ok (.ireturn, 1) := by decide +kernel
theorem dJ6_bitCount_0f7a4_0 : decode cJ6_bitCount_0f7a4 0 = .ok (.iload_n 0, 1) := by decide +kernel
theorem dJ6_bitCount_0f7a4_1 : decode cJ6_bitCount_0f7a4 1 = .ok (.iload_n 0, 1) := by decide +kernel
theorem dJ6_bitCount_0f7a4_2 : decode cJ6_bitCount_0f7a4 2 = .ok (.iconst 1, 1) := by decide +kernel
theorem dJ6_bitCount_0f7a4_3 : decode cJ6_bitCount_0f7a4 3 = .ok (.iushr, 1) := by decide +kernel
theorem dJ6_bitCount_0f7a4_4 : decode cJ6_bitCount_0f7a4 4 = .ok (.ldc_w 265, 3) := by decide +kernel
theorem dJ6_bitCount_0f7a4_7 : decode cJ6_bitCount_0f7a4 7 = .ok (.iand, 1) := by decide +kernel
theorem dJ6_bitCount_0f7a4_8 : decode cJ6_bitCount_0f7a4 8 = .ok (.isub, 1) := by decide +kernel
theorem dJ6_bitCount_0f7a4_9 : decode cJ6_bitCount_0f7a4 9 = .ok (.istore_n 0, 1) := by decide +kernel
theorem dJ6_bitCount_0f7a4_10 : decode cJ6_bitCount_0f7a4 10 = .ok (.iload_n 0, 1) := by decide +kernel
theorem dJ6_bitCount_0f7a4_11 : decode cJ6_bitCount_0f7a4 11 = .ok (.ldc_w 266, 3) := by decide +kernel
theorem dJ6_bitCount_0f7a4_14 : decode cJ6_bitCount_0f7a4 14 = .ok (.iand, 1) := by decide +kernel
theorem dJ6_bitCount_0f7a4_15 : decode cJ6_bitCount_0f7a4 15 = .ok (.iload_n 0, 1) := by decide +kernel
theorem dJ6_bitCount_0f7a4_16 : decode cJ6_bitCount_0f7a4 16 = .ok (.iconst 2, 1) := by decide +kernel
theorem dJ6_bitCount_0f7a4_17 : decode cJ6_bitCount_0f7a4 17 = .ok (.iushr, 1) := by decide +kernel
theorem dJ6_bitCount_0f7a4_18 : decode cJ6_bitCount_0f7a4 18 = .ok (.ldc_w 266, 3) := by decide +kernel
theorem dJ6_bitCount_0f7a4_21 : decode cJ6_bitCount_0f7a4 21 = .ok (.iand, 1) := by decide +kernel
theorem dJ6_bitCount_0f7a4_22 : decode cJ6_bitCount_0f7a4 22 = .ok (.iadd, 1) := by decide +kernel
theorem dJ6_bitCount_0f7a4_23 : decode cJ6_bitCount_0f7a4 23 = .ok (.istore_n 0, 1) := by decide +kernel
theorem dJ6_bitCount_0f7a4_24 : decode cJ6_bitCount_0f7a4 24 = .ok (.iload_n 0, 1) := by decide +kernel
theorem dJ6_bitCount_0f7a4_25 : decode cJ6_bitCount_0f7a4 25 = .ok (.iload_n 0, 1) := by decide +kernel
theorem dJ6_bitCount_0f7a4_26 : decode cJ6_bitCount_0f7a4 26 = .ok (.iconst 4, 1) := by decide +kernel
theorem dJ6_bitCount_0f7a4_27 : decode cJ6_bitCount_0f7a4 27 = .ok (.iushr, 1) := by decide +kernel
theorem dJ6_bitCount_0f7a4_28 : decode cJ6_bitCount_0f7a4 28 = .ok (.iadd, 1) := by decide +kernel
theorem dJ6_bitCount_0f7a4_29 : decode cJ6_bitCount_0f7a4 29 = .ok (.ldc_w 267, 3) := by decide +kernel
theorem dJ6_bitCount_0f7a4_32 : decode cJ6_bitCount_0f7a4 32 = .ok (.iand, 1) := by decide +kernel
theorem dJ6_bitCount_0f7a4_33 : decode cJ6_bitCount_0f7a4 33 = .ok (.istore_n 0, 1) := by decide +kernel
theorem dJ6_bitCount_0f7a4_34 : decode cJ6_bitCount_0f7a4 34 = .ok (.iload_n 0, 1) := by decide +kernel
theorem dJ6_bitCount_0f7a4_35 : decode cJ6_bitCount_0f7a4 35 = .ok (.iload_n 0, 1) := by decide +kernel
theorem dJ6_bitCount_0f7a4_36 : decode cJ6_bitCount_0f7a4 36 = .ok (.bipush 8, 2) := by decide +kernel
theorem dJ6_bitCount_0f7a4_38 : decode cJ6_bitCount_0f7a4 38 = .ok (.iushr, 1) := by decide +kernel
theorem dJ6_bitCount_0f7a4_39 : decode cJ6_bitCount_0f7a4 39 = .ok (.iadd, 1) := by decide +kernel
theorem dJ6_bitCount_0f7a4_40 : decode cJ6_bitCount_0f7a4 40 = .ok (.istore_n 0, 1) := by decide +kernel
theorem dJ6_bitCount_0f7a4_41 : decode cJ6_bitCount_0f7a4 41 = .ok (.iload_n 0, 1) := by decide +kernel
theorem dJ6_bitCount_0f7a4_42 : decode cJ6_bitCount_0f7a4 42 = .ok (.iload_n 0, 1) := by decide +kernel
theorem dJ6_bitCount_0f7a4_43 : decode cJ6_bitCount_0f7a4 43 = .ok (.bipush 16, 2) := by decide +kernel
theorem dJ6_bitCount_0f7a4_45 : decode cJ6_bitCount_0f7a4 45 = .ok (.iushr, 1) := by decide +kernel
theorem dJ6_bitCount_0f7a4_46 : decode cJ6_bitCount_0f7a4 46 = .ok (.iadd, 1) := by decide +kernel
theorem dJ6_bitCount_0f7a4_47 : decode cJ6_bitCount_0f7a4 47 = .ok (.istore_n 0, 1) := by decide +kernel
theorem dJ6_bitCount_0f7a4_48 : decode cJ6_bitCount_0f7a4 48 = .ok (.iload_n 0, 1) := by decide +kernel
theorem dJ6_bitCount_0f7a4_49 : decode cJ6_bitCount_0f7a4 49 = .ok (.bipush 63, 2) := by decide +kernel
theorem dJ6_bitCount_0f7a4_51 : decode cJ6_bitCount_0f7a4 51 = .ok (.iand, 1) := by decide +kernel
theorem dJ6_bitCount_0f7a4_52 : decode cJ6_bitCount_0f7a4 52 = .ok (.ireturn, 1) := by decide +kernel
theorem dJ9_max_7cf53_0 : decode cJ9_max_7cf53 0 = .ok (.iload_n 0, 1) := by decide +kernel
theorem dJ9_max_7cf53_1 : decode cJ9_max_7cf53 1 = .ok (.iload_n 1, 1) := by decide +kernel
theorem dJ9_max_7cf53_2 : decode cJ9_max_7cf53 2 = .ok (.if_icmp .lt 7, 3) := by decide +kernel
theorem dJ9_max_7cf53_5 : decode cJ9_max_7cf53 5 = .ok (.iload_n 0, 1) := by decide +kernel
theorem dJ9_max_7cf53_6 : decode cJ9_max_7cf53 6 = .ok (.goto 4, 3) := by decide +kernel
theorem dJ9_max_7cf53_9 : decode cJ9_max_7cf53 9 = .ok (.iload_n 1, 1) := by decide +kernel
theorem dJ9_max_7cf53_10 : decode cJ9_max_7cf53 10 = .ok (.ireturn, 1) := by decide +kernel
theorem dJ7_fill_53178_0 : decode cJ7_fill_53178 0 = .ok (.iconst 0, 1) := by decide +kernel
theorem dJ7_fill_53178_1 : decode cJ7_fill_53178 1 = .ok (.istore_n 2, 1) := by decide +kernel
theorem dJ7_fill_53178_2 : decode cJ7_fill_53178 2 = .ok (.aload_n 0, 1) := by decide +kernel
theorem dJ7_fill_53178_3 : decode cJ7_fill_53178 3 = .ok (.arraylength, 1) := by decide +kernel
theorem dJ7_fill_53178_4 : decode cJ7_fill_53178 4 = .ok (.istore_n 3, 1) := by decide +kernel
theorem dJ7_fill_53178_5 : decode cJ7_fill_53178 5 = .ok (.iload_n 2, 1) := by decide +kernel
theorem dJ7_fill_53178_6 : decode cJ7_fill_53178 6 = .ok (.iload_n 3, 1) := by decide +kernel
theorem dJ7_fill_53178_7 : decode cJ7_fill_53178 7 = .ok (.if_icmp .ge 13, 3) := by decide +kernel
theorem dJ7_fill_53178_10 : decode cJ7_fill_53178 10 = .ok (.aload_n 0, 1) := by decide +kernel
theorem dJ7_fill_53178_11 : decode cJ7_fill_53178 11 = .ok (.iload_n 2, 1) := by decide +kernel
theorem dJ7_fill_53178_12 : decode cJ7_fill_53178 12 = .ok (.iload_n 1, 1) := by decide +kernel
theorem dJ7_fill_53178_13 : decode cJ7_fill_53178 13 = .ok (.iastore, 1) := by decide +kernel
theorem dJ7_fill_53178_14 : decode cJ7_fill_53178 14 = .ok (.iinc 2 1, 3) := by decide +kernel
theorem dJ7_fill_53178_17 : decode cJ7_fill_53178 17 = .ok (.goto (-12), 3) := by decide +kernel
theorem dJ7_fill_53178_20 : decode cJ7_fill_53178 20 = .ok (.return_, 1) := by decide +kernel
