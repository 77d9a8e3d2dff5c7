theorem dL_ring_53 : decode cL_ring 53 = .ok (.goto 4, 3) := by decide +kernel
theorem dL_ring_56 : decode cL_ring 56 = .ok (.iconst 0, 1) := by decide +kernel
theorem dL_ring_57 : decode cL_ring 57 = .ok (.ior, 1) := by decide +kernel
theorem dL_ring_58 : decode cL_ring 58 = .ok (.istore 5, 2) := by decide +kernel
theorem dL_ring_60 : decode cL_ring 60 = .ok (.iinc 6 1, 3) := by decide +kernel
theorem dL_ring_63 : decode cL_ring 63 = .ok (.goto (-32), 3) := by decide +kernel
theorem dL_ring_66 : decode cL_ring 66 = .ok (.iload 5, 2) := by decide +kernel
theorem dL_ring_68 : decode cL_ring 68 = .ok (.istore_n 3, 1) := by decide +kernel
theorem dL_ring_69 : decode cL_ring 69 = .ok (.iinc 4 1, 3) := by decide +kernel
theorem dL_ring_72 : decode cL_ring 72 = .ok (.goto (-65), 3) := by decide +kernel
theorem dL_ring_75 : decode cL_ring 75 = .ok (.iconst (-1), 1) := by decide +kernel
theorem dL_ring_76 : decode cL_ring 76 = .ok (.ireturn, 1) := by decide +kernel
theorem dL_drawn_0 : decode cL_drawn 0 = .ok (.aload_n 0, 1) := by decide +kernel
theorem dL_drawn_1 : decode cL_drawn 1 = .ok (.bipush 10, 2) := by decide +kernel
theorem dL_drawn_3 : decode cL_drawn 3 = .ok (.invokevirtual 9, 3) := by decide +kernel
theorem dL_drawn_6 : decode cL_drawn 6 = .ok (.istore 6, 2) := by decide +kernel
theorem dL_drawn_8 : decode cL_drawn 8 = .ok (.iload 4, 2) := by decide +kernel
theorem dL_drawn_10 : decode cL_drawn 10 = .ok (.istore 7, 2) := by decide +kernel
theorem dL_drawn_12 : decode cL_drawn 12 = .ok (.iconst 0, 1) := by decide +kernel
theorem dL_drawn_13 : decode cL_drawn 13 = .ok (.istore 8, 2) := by decide +kernel
theorem dL_drawn_15 : decode cL_drawn 15 = .ok (.iconst (-1), 1) := by decide +kernel
theorem dL_drawn_16 : decode cL_drawn 16 = .ok (.istore 9, 2) := by decide +kernel
theorem dL_drawn_18 : decode cL_drawn 18 = .ok (.iconst 0, 1) := by decide +kernel
theorem dL_drawn_19 : decode cL_drawn 19 = .ok (.istore 10, 2) := by decide +kernel
theorem dL_drawn_21 : decode cL_drawn 21 = .ok (.iconst 0, 1) := by decide +kernel
theorem dL_drawn_22 : decode cL_drawn 22 = .ok (.istore 11, 2) := by decide +kernel
theorem dL_drawn_24 : decode cL_drawn 24 = .ok (.iload 11, 2) := by decide +kernel
theorem dL_drawn_26 : decode cL_drawn 26 = .ok (.iload_n 3, 1) := by decide +kernel
theorem dL_drawn_27 : decode cL_drawn 27 = .ok (.if_icmp .ge 109, 3) := by decide +kernel
theorem dL_drawn_30 : decode cL_drawn 30 = .ok (.iload 7, 2) := by decide +kernel
theorem dL_drawn_32 : decode cL_drawn 32 = .ok (.iload 11, 2) := by decide +kernel
theorem dL_drawn_34 : decode cL_drawn 34 = .ok (.ishr, 1) := by decide +kernel
theorem dL_drawn_35 : decode cL_drawn 35 = .ok (.iconst 1, 1) := by decide +kernel
theorem dL_drawn_36 : decode cL_drawn 36 = .ok (.iand, 1) := by decide +kernel
theorem dL_drawn_37 : decode cL_drawn 37 = .ok (.iconst 1, 1) := by decide +kernel
theorem dL_drawn_38 : decode cL_drawn 38 = .ok (.if_icmp .eq 92, 3) := by decide +kernel
theorem dL_drawn_41 : decode cL_drawn 41 = .ok (.aload_n 2, 1) := by decide +kernel
theorem dL_drawn_42 : decode cL_drawn 42 = .ok (.iload 11, 2) := by decide +kernel
theorem dL_drawn_44 : decode cL_drawn 44 = .ok (.iaload, 1) := by decide +kernel
theorem dL_drawn_45 : decode cL_drawn 45 = .ok (.iload 7, 2) := by decide +kernel
theorem dL_drawn_47 : decode cL_drawn 47 = .ok (.iconst (-1), 1) := by decide +kernel
theorem dL_drawn_48 : decode cL_drawn 48 = .ok (.ixor, 1) := by decide +kernel
theorem dL_drawn_49 : decode cL_drawn 49 = .ok (.iand, 1) := by decide +kernel
theorem dL_drawn_50 : decode cL_drawn 50 = .ok (.ifCond .eq 6, 3) := by decide +kernel
theorem dL_drawn_53 : decode cL_drawn 53 = .ok (.goto 77, 3) := by decide +kernel
theorem dL_drawn_56 : decode cL_drawn 56 = .ok (.iload 6, 2) := by decide +kernel
theorem dL_drawn_58 : decode cL_drawn 58 = .ok (.ifCond .ne 8, 3) := by decide +kernel
theorem dL_drawn_61 : decode cL_drawn 61 = .ok (.iload 11, 2) := by decide +kernel
theorem dL_drawn_63 : decode cL_drawn 63 = .ok (.goto 45, 3) := by decide +kernel
theorem dL_drawn_66 : decode cL_drawn 66 = .ok (.iload 6, 2) := by decide +kernel
theorem dL_drawn_68 : decode cL_drawn 68 = .ok (.iconst 1, 1) := by decide +kernel
theorem dL_drawn_69 : decode cL_drawn 69 = .ok (.if_icmp .ne 33, 3) := by decide +kernel
theorem dL_drawn_72 : decode cL_drawn 72 = .ok (.aload_n 1, 1) := by decide +kernel
theorem dL_drawn_73 : decode cL_drawn 73 = .ok (.bipush 6, 2) := by decide +kernel
theorem dL_drawn_75 : decode cL_drawn 75 = .ok (.iload 11, 2) := by decide +kernel
theorem dL_drawn_77 : decode cL_drawn 77 = .ok (.imul, 1) := by decide +kernel
theorem dL_drawn_78 : decode cL_drawn 78 = .ok (.iaload, 1) := by decide +kernel
theorem dL_drawn_79 : decode cL_drawn 79 = .ok (.aload_n 1, 1) := by decide +kernel
theorem dL_drawn_80 : decode cL_drawn 80 = .ok (.bipush 6, 2) := by decide +kernel
theorem dL_drawn_82 : decode cL_drawn 82 = .ok (.iload 11, 2) := by decide +kernel
theorem dL_drawn_84 : decode cL_drawn 84 = .ok (.imul, 1) := by decide +kernel
theorem dL_drawn_85 : decode cL_drawn 85 = .ok (.iconst 1, 1) := by decide +kernel
theorem dL_drawn_86 : decode cL_drawn 86 = .ok (.iadd, 1) := by decide +kernel
theorem dL_drawn_87 : decode cL_drawn 87 = .ok (.iaload, 1) := by decide +kernel
theorem dL_drawn_88 : decode cL_drawn 88 = .ok (.iadd, 1) := by decide +kernel
theorem dL_drawn_89 : decode cL_drawn 89 = .ok (.aload_n 1, 1) := by decide +kernel
theorem dL_drawn_90 : decode cL_drawn 90 = .ok (.bipush 6, 2) := by decide +kernel
theorem dL_drawn_92 : decode cL_drawn 92 = .ok (.iload 11, 2) := by decide +kernel
theorem dL_drawn_94 : decode cL_drawn 94 = .ok (.imul, 1) := by decide +kernel
theorem dL_drawn_95 : decode cL_drawn 95 = .ok (.iconst 2, 1) := by decide +kernel
theorem dL_drawn_96 : decode cL_drawn 96 = .ok (.iadd, 1) := by decide +kernel
theorem dL_drawn_97 : decode cL_drawn 97 = .ok (.iaload, 1) := by decide +kernel
theorem dL_drawn_98 : decode cL_drawn 98 = .ok (.iadd, 1) := by decide +kernel
theorem dL_drawn_99 : decode cL_drawn 99 = .ok (.goto 9, 3) := by decide +kernel
theorem dL_drawn_102 : decode cL_drawn 102 = .ok (.aload_n 1, 1) := by decide +kernel
theorem dL_drawn_103 : decode cL_drawn 103 = .ok (.iload 11, 2) := by decide +kernel
theorem dL_drawn_105 : decode cL_drawn 105 = .ok (.invokestatic 32, 3) := by decide +kernel
theorem dL_drawn_108 : decode cL_drawn 108 = .ok (.istore 12, 2) := by decide +kernel
theorem dL_drawn_110 : decode cL_drawn 110 = .ok (.iload 9, 2) := by decide +kernel
theorem dL_drawn_112 : decode cL_drawn 112 = .ok (.ifCond .lt 10, 3) := by decide +kernel
theorem dL_drawn_115 : decode cL_drawn 115 = .ok (.iload 12, 2) := by decide +kernel
theorem dL_drawn_117 : decode cL_drawn 117 = .ok (.iload 10, 2) := by decide +kernel
theorem dL_drawn_119 : decode cL_drawn 119 = .ok (.if_icmp .ge 11, 3) := by decide +kernel
theorem dL_drawn_122 : decode cL_drawn 122 = .ok (.iload 11, 2) := by decide +kernel
theorem dL_drawn_124 : decode cL_drawn 124 = .ok (.istore 9, 2) := by decide +kernel
theorem dL_drawn_126 : decode cL_drawn 126 = .ok (.iload 12, 2) := by decide +kernel
theorem dL_drawn_128 : decode cL_drawn 128 = .ok (.istore 10, 2) := by decide +kernel
theorem dL_drawn_130 : decode cL_drawn 130 = .ok (.iinc 11 1, 3) := by decide +kernel
theorem dL_drawn_133 : decode cL_drawn 133 = .ok (.goto (-109), 3) := by decide +kernel
theorem dL_drawn_136 : decode cL_drawn 136 = .ok (.iload 9, 2) := by decide +kernel
theorem dL_drawn_138 : decode cL_drawn 138 = .ok (.ifCond .ge 31, 3) := by decide +kernel
theorem dL_drawn_141 : decode cL_drawn 141 = .ok (.iload 5, 2) := by decide +kernel
theorem dL_drawn_143 : decode cL_drawn 143 = .ok (.ifCond .eq 18, 3) := by decide +kernel
theorem dL_drawn_146 : decode cL_drawn 146 = .ok (.aload_n 0, 1) := by decide +kernel
theorem dL_drawn_147 : decode cL_drawn 147 = .ok (.iload 8, 2) := by decide +kernel
theorem dL_drawn_149 : decode cL_drawn 149 = .ok (.invokevirtual 36, 3) := by decide +kernel
theorem dL_drawn_152 : decode cL_drawn 152 = .ok (.bipush (-5), 2) := by decide +kernel
theorem dL_drawn_154 : decode cL_drawn 154 = .ok (.if_icmp .eq 7, 3) := by decide +kernel
theorem dL_drawn_157 : decode cL_drawn 157 = .ok (.iconst (-1), 1) := by decide +kernel
theorem dL_drawn_158 : decode cL_drawn 158 = .ok (.goto 10, 3) := by decide +kernel
theorem dL_drawn_161 : decode cL_drawn 161 = .ok (.iload 7, 2) := by decide +kernel
theorem dL_drawn_163 : decode cL_drawn 163 = .ok (.iload 4, 2) := by decide +kernel
theorem dL_drawn_165 : decode cL_drawn 165 = .ok (.iconst (-1), 1) := by decide +kernel
theorem dL_drawn_166 : decode cL_drawn 166 = .ok (.ixor, 1) := by decide +kernel
theorem dL_drawn_167 : decode cL_drawn 167 = .ok (.iand, 1) := by decide +kernel
theorem dL_drawn_168 : decode cL_drawn 168 = .ok (.ireturn, 1) := by decide +kernel
theorem dL_drawn_169 : decode cL_drawn 169 = .ok (.iload 5, 2) := by decide +kernel
theorem dL_drawn_171 : decode cL_drawn 171 = .ok (.ifCond .eq 20, 3) := by decide +kernel
theorem dL_drawn_174 : decode cL_drawn 174 = .ok (.aload_n 0, 1) := by decide +kernel
theorem dL_drawn_175 : decode cL_drawn 175 = .ok (.iload 8, 2) := by decide +kernel
theorem dL_drawn_177 : decode cL_drawn 177 = .ok (.invokevirtual 36, 3) := by decide +kernel
theorem dL_drawn_180 : decode cL_drawn 180 = .ok (.aload_n 0, 1) := by decide +kernel
theorem dL_drawn_181 : decode cL_drawn 181 = .ok (.iload 9, 2) := by decide +kernel
theorem dL_drawn_183 : decode cL_drawn 183 = .ok (.invokevirtual 15, 3) := by decide +kernel
theorem dL_drawn_186 : decode cL_drawn 186 = .ok (.if_icmp .eq 5, 3) := by decide +kernel
theorem dL_drawn_189 : decode cL_drawn 189 = .ok (.iconst (-1), 1) := by decide +kernel
theorem dL_drawn_190 : decode cL_drawn 190 = .ok (.ireturn, 1) := by decide +kernel
theorem dL_drawn_191 : decode cL_drawn 191 = .ok (.iload 7, 2) := by decide +kernel
theorem dL_drawn_193 : decode cL_drawn 193 = .ok (.iconst 1, 1) := by decide +kernel
theorem dL_drawn_194 : decode cL_drawn 194 = .ok (.iload 9, 2) := by decide +kernel
theorem dL_drawn_196 : decode cL_drawn 196 = .ok (.ishl, 1) := by decide +kernel
theorem dL_drawn_197 : decode cL_drawn 197 = .ok (.ior, 1) := by decide +kernel
theorem dL_drawn_198 : decode cL_drawn 198 = .ok (.istore 7, 2) := by decide +kernel
theorem dL_drawn_200 : decode cL_drawn 200 = .ok (.iinc 8 1, 3) := by decide +kernel
theorem dL_drawn_203 : decode cL_drawn 203 = .ok (.goto (-188), 3) := by decide +kernel
theorem dL_isBox_0 : decode cL_isBox 0 = .ok (.aload_n 0, 1) := by decide +kernel
theorem dL_isBox_1 : decode cL_isBox 1 = .ok (.iload 4, 2) := by decide +kernel
theorem dL_isBox_3 : decode cL_isBox 3 = .ok (.invokevirtual 15, 3) := by decide +kernel
theorem dL_isBox_6 : decode cL_isBox 6 = .ok (.istore 5, 2) := by decide +kernel
theorem dL_isBox_8 : decode cL_isBox 8 = .ok (.iconst 0, 1) := by decide +kernel
theorem dL_isBox_9 : decode cL_isBox 9 = .ok (.istore 6, 2) := by decide +kernel
theorem dL_isBox_11 : decode cL_isBox 11 = .ok (.iconst 0, 1) := by decide +kernel
theorem dL_isBox_12 : decode cL_isBox 12 = .ok (.istore 7, 2) := by decide +kernel
theorem dL_isBox_14 : decode cL_isBox 14 = .ok (.iconst 0, 1) := by decide +kernel
theorem dL_isBox_15 : decode cL_isBox 15 = .ok (.istore 8, 2) := by decide +kernel
theorem dL_isBox_17 : decode cL_isBox 17 = .ok (.iconst 0, 1) := by decide +kernel
theorem dL_isBox_18 : decode cL_isBox 18 = .ok (.istore 9, 2) := by decide +kernel
theorem dL_isBox_20 : decode cL_isBox 20 = .ok (.iconst 0, 1) := by decide +kernel
theorem dL_isBox_21 : decode cL_isBox 21 = .ok (.istore 10, 2) := by decide +kernel
theorem dL_isBox_23 : decode cL_isBox 23 = .ok (.iload 10, 2) := by decide +kernel
theorem dL_isBox_25 : decode cL_isBox 25 = .ok (.iload_n 3, 1) := by decide +kernel
theorem dL_isBox_26 : decode cL_isBox 26 = .ok (.if_icmp .ge 142, 3) := by decide +kernel
theorem dL_isBox_29 : decode cL_isBox 29 = .ok (.iload 6, 2) := by decide +kernel
theorem dL_isBox_31 : decode cL_isBox 31 = .ok (.aload_n 2, 1) := by decide +kernel
theorem dL_isBox_32 : decode cL_isBox 32 = .ok (.iload 10, 2) := by decide +kernel
theorem dL_isBox_34 : decode cL_isBox 34 = .ok (.iaload, 1) := by decide +kernel
theorem dL_isBox_35 : decode cL_isBox 35 = .ok (.iload 4, 2) := by decide +kernel
theorem dL_isBox_37 : decode cL_isBox 37 = .ok (.ishr, 1) := by decide +kernel
theorem dL_isBox_38 : decode cL_isBox 38 = .ok (.iconst 1, 1) := by decide +kernel
theorem dL_isBox_39 : decode cL_isBox 39 = .ok (.iand, 1) := by decide +kernel
theorem dL_isBox_40 : decode cL_isBox 40 = .ok (.iadd, 1) := by decide +kernel
theorem dL_isBox_41 : decode cL_isBox 41 = .ok (.istore 6, 2) := by decide +kernel
theorem dL_isBox_43 : decode cL_isBox 43 = .ok (.iload 7, 2) := by decide +kernel
theorem dL_isBox_45 : decode cL_isBox 45 = .ok (.aload_n 1, 1) := by decide +kernel
theorem dL_isBox_46 : decode cL_isBox 46 = .ok (.iload 10, 2) := by decide +kernel
theorem dL_isBox_48 : decode cL_isBox 48 = .ok (.iload 4, 2) := by decide +kernel
theorem dL_isBox_50 : decode cL_isBox 50 = .ok (.invokestatic 39, 3) := by decide +kernel
theorem dL_isBox_53 : decode cL_isBox 53 = .ok (.ifCond .eq 7, 3) := by decide +kernel
theorem dL_isBox_56 : decode cL_isBox 56 = .ok (.iconst 1, 1) := by decide +kernel
theorem dL_isBox_57 : decode cL_isBox 57 = .ok (.goto 4, 3) := by decide +kernel
theorem dL_isBox_60 : decode cL_isBox 60 = .ok (.iconst 0, 1) := by decide +kernel
theorem dL_isBox_61 : decode cL_isBox 61 = .ok (.iadd, 1) := by decide +kernel
theorem dL_isBox_62 : decode cL_isBox 62 = .ok (.istore 7, 2) := by decide +kernel
theorem dL_isBox_64 : decode cL_isBox 64 = .ok (.iload 8, 2) := by decide +kernel
theorem dL_isBox_66 : decode cL_isBox 66 = .ok (.aload_n 1, 1) := by decide +kernel
theorem dL_isBox_67 : decode cL_isBox 67 = .ok (.iload 10, 2) := by decide +kernel
theorem dL_isBox_69 : decode cL_isBox 69 = .ok (.iload 4, 2) := by decide +kernel
theorem dL_isBox_71 : decode cL_isBox 71 = .ok (.invokestatic 39, 3) := by decide +kernel
theorem dL_isBox_74 : decode cL_isBox 74 = .ok (.ifCond .eq 28, 3) := by decide +kernel
theorem dL_isBox_77 : decode cL_isBox 77 = .ok (.aload_n 1, 1) := by decide +kernel
theorem dL_isBox_78 : decode cL_isBox 78 = .ok (.bipush 6, 2) := by decide +kernel
theorem dL_isBox_80 : decode cL_isBox 80 = .ok (.iload 10, 2) := by decide +kernel
theorem dL_isBox_82 : decode cL_isBox 82 = .ok (.imul, 1) := by decide +kernel
theorem dL_isBox_83 : decode cL_isBox 83 = .ok (.iconst 5, 1) := by decide +kernel
theorem dL_isBox_84 : decode cL_isBox 84 = .ok (.iadd, 1) := by decide +kernel
theorem dL_isBox_85 : decode cL_isBox 85 = .ok (.iaload, 1) := by decide +kernel
theorem dL_isBox_86 : decode cL_isBox 86 = .ok (.aload_n 1, 1) := by decide +kernel
theorem dL_isBox_87 : decode cL_isBox 87 = .ok (.bipush 6, 2) := by decide +kernel
theorem dL_isBox_89 : decode cL_isBox 89 = .ok (.iload 4, 2) := by decide +kernel
theorem dL_isBox_91 : decode cL_isBox 91 = .ok (.imul, 1) := by decide +kernel
theorem dL_isBox_92 : decode cL_isBox 92 = .ok (.iconst 2, 1) := by decide +kernel
theorem dL_isBox_93 : decode cL_isBox 93 = .ok (.iadd, 1) := by decide +kernel
theorem dL_isBox_94 : decode cL_isBox 94 = .ok (.iaload, 1) := by decide +kernel
theorem dL_isBox_95 : decode cL_isBox 95 = .ok (.if_icmp .ne 7, 3) := by decide +kernel
theorem dL_isBox_98 : decode cL_isBox 98 = .ok (.iconst 1, 1) := by decide +kernel
theorem dL_isBox_99 : decode cL_isBox 99 = .ok (.goto 4, 3) := by decide +kernel
theorem dL_isBox_102 : decode cL_isBox 102 = .ok (.iconst 0, 1) := by decide +kernel
theorem dL_isBox_103 : decode cL_isBox 103 = .ok (.iadd, 1) := by decide +kernel
theorem dL_isBox_104 : decode cL_isBox 104 = .ok (.istore 8, 2) := by decide +kernel
theorem dL_isBox_106 : decode cL_isBox 106 = .ok (.iload 10, 2) := by decide +kernel
theorem dL_isBox_108 : decode cL_isBox 108 = .ok (.iload 4, 2) := by decide +kernel
theorem dL_isBox_110 : decode cL_isBox 110 = .ok (.if_icmp .eq 52, 3) := by decide +kernel
theorem dL_isBox_113 : decode cL_isBox 113 = .ok (.aload_n 0, 1) := by decide +kernel
theorem dL_isBox_114 : decode cL_isBox 114 = .ok (.iload 5, 2) := by decide +kernel
theorem dL_isBox_116 : decode cL_isBox 116 = .ok (.aload_n 0, 1) := by decide +kernel
theorem dL_isBox_117 : decode cL_isBox 117 = .ok (.iload 10, 2) := by decide +kernel
theorem dL_isBox_119 : decode cL_isBox 119 = .ok (.invokevirtual 15, 3) := by decide +kernel
theorem dL_isBox_122 : decode cL_isBox 122 = .ok (.invokevirtual 42, 3) := by decide +kernel
theorem dL_isBox_125 : decode cL_isBox 125 = .ok (.aload_n 1, 1) := by decide +kernel
theorem dL_isBox_126 : decode cL_isBox 126 = .ok (.iload 10, 2) := by decide +kernel
theorem dL_isBox_128 : decode cL_isBox 128 = .ok (.iload 4, 2) := by decide +kernel
theorem dL_isBox_130 : decode cL_isBox 130 = .ok (.invokestatic 46, 3) := by decide +kernel
theorem dL_isBox_133 : decode cL_isBox 133 = .ok (.ifCond .le 16, 3) := by decide +kernel
theorem dL_isBox_136 : decode cL_isBox 136 = .ok (.iconst 3, 1) := by decide +kernel
theorem dL_isBox_137 : decode cL_isBox 137 = .ok (.aload_n 1, 1) := by decide +kernel
theorem dL_isBox_138 : decode cL_isBox 138 = .ok (.iload 10, 2) := by decide +kernel
theorem dL_isBox_140 : decode cL_isBox 140 = .ok (.iload 4, 2) := by decide +kernel
theorem dL_isBox_142 : decode cL_isBox 142 = .ok (.invokestatic 46, 3) := by decide +kernel
theorem dL_isBox_145 : decode cL_isBox 145 = .ok (.iadd, 1) := by decide +kernel
theorem dL_isBox_146 : decode cL_isBox 146 = .ok (.goto 11, 3) := by decide +kernel
theorem dL_isBox_149 : decode cL_isBox 149 = .ok (.aload_n 1, 1) := by decide +kernel
theorem dL_isBox_150 : decode cL_isBox 150 = .ok (.iload 4, 2) := by decide +kernel
theorem dL_isBox_152 : decode cL_isBox 152 = .ok (.iload 10, 2) := by decide +kernel
theorem dL_isBox_154 : decode cL_isBox 154 = .ok (.invokestatic 46, 3) := by decide +kernel
theorem dL_isBox_157 : decode cL_isBox 157 = .ok (.if_icmp .eq 5, 3) := by decide +kernel
theorem dL_isBox_160 : decode cL_isBox 160 = .ok (.iconst 0, 1) := by decide +kernel
theorem dL_isBox_161 : decode cL_isBox 161 = .ok (.ireturn, 1) := by decide +kernel
theorem dL_isBox_162 : decode cL_isBox 162 = .ok (.iinc 10 1, 3) := by decide +kernel
theorem dL_isBox_165 : decode cL_isBox 165 = .ok (.goto (-142), 3) := by decide +kernel
theorem dL_isBox_168 : decode cL_isBox 168 = .ok (.aload_n 1, 1) := by decide +kernel
theorem dL_isBox_169 : decode cL_isBox 169 = .ok (.bipush 6, 2) := by decide +kernel
theorem dL_isBox_171 : decode cL_isBox 171 = .ok (.iload 4, 2) := by decide +kernel
theorem dL_isBox_173 : decode cL_isBox 173 = .ok (.imul, 1) := by decide +kernel
theorem dL_isBox_174 : decode cL_isBox 174 = .ok (.iaload, 1) := by decide +kernel
theorem dL_isBox_175 : decode cL_isBox 175 = .ok (.istore 10, 2) := by decide +kernel
theorem dL_isBox_177 : decode cL_isBox 177 = .ok (.iload 10, 2) := by decide +kernel
theorem dL_isBox_179 : decode cL_isBox 179 = .ok (.aload_n 1, 1) := by decide +kernel
theorem dL_isBox_180 : decode cL_isBox 180 = .ok (.bipush 6, 2) := by decide +kernel
theorem dL_isBox_182 : decode cL_isBox 182 = .ok (.iload 4, 2) := by decide +kernel
theorem dL_isBox_184 : decode cL_isBox 184 = .ok (.imul, 1) := by decide +kernel
theorem dL_isBox_185 : decode cL_isBox 185 = .ok (.iconst 3, 1) := by decide +kernel
theorem dL_isBox_186 : decode cL_isBox 186 = .ok (.iadd, 1) := by decide +kernel
theorem dL_isBox_187 : decode cL_isBox 187 = .ok (.iaload, 1) := by decide +kernel
theorem dL_isBox_188 : decode cL_isBox 188 = .ok (.if_icmp .ge 167, 3) := by decide +kernel
theorem dL_isBox_191 : decode cL_isBox 191 = .ok (.aload_n 1, 1) := by decide +kernel
theorem dL_isBox_192 : decode cL_isBox 192 = .ok (.bipush 6, 2) := by decide +kernel
theorem dL_isBox_194 : decode cL_isBox 194 = .ok (.iload 4, 2) := by decide +kernel
theorem dL_isBox_196 : decode cL_isBox 196 = .ok (.imul, 1) := by decide +kernel
theorem dL_isBox_197 : decode cL_isBox 197 = .ok (.iconst 1, 1) := by decide +kernel
theorem dL_isBox_198 : decode cL_isBox 198 = .ok (.iadd, 1) := by decide +kernel
theorem dL_isBox_199 : decode cL_isBox 199 = .ok (.iaload, 1) := by decide +kernel
theorem dL_isBox_200 : decode cL_isBox 200 = .ok (.istore 11, 2) := by decide +kernel
theorem dL_isBox_202 : decode cL_isBox 202 = .ok (.iload 11, 2) := by decide +kernel
theorem dL_isBox_204 : decode cL_isBox 204 = .ok (.aload_n 1, 1) := by decide +kernel
theorem dL_isBox_205 : decode cL_isBox 205 = .ok (.bipush 6, 2) := by decide +kernel
theorem dL_isBox_207 : decode cL_isBox 207 = .ok (.iload 4, 2) := by decide +kernel
theorem dL_isBox_209 : decode cL_isBox 209 = .ok (.imul, 1) := by decide +kernel
theorem dL_isBox_210 : decode cL_isBox 210 = .ok (.iconst 4, 1) := by decide +kernel
theorem dL_isBox_211 : decode cL_isBox 211 = .ok (.iadd, 1) := by decide +kernel
theorem dL_isBox_212 : decode cL_isBox 212 = .ok (.iaload, 1) := by decide +kernel
theorem dL_isBox_213 : decode cL_isBox 213 = .ok (.if_icmp .ge 136, 3) := by decide +kernel
theorem dL_isBox_216 : decode cL_isBox 216 = .ok (.iconst 0, 1) := by decide +kernel
theorem dL_isBox_217 : decode cL_isBox 217 = .ok (.istore 12, 2) := by decide +kernel
theorem dL_isBox_219 : decode cL_isBox 219 = .ok (.iconst 0, 1) := by decide +kernel
theorem dL_isBox_220 : decode cL_isBox 220 = .ok (.istore 13, 2) := by decide +kernel
theorem dL_isBox_222 : decode cL_isBox 222 = .ok (.iload 13, 2) := by decide +kernel
theorem dL_isBox_224 : decode cL_isBox 224 = .ok (.iload_n 3, 1) := by decide +kernel
theorem dL_isBox_225 : decode cL_isBox 225 = .ok (.if_icmp .ge 103, 3) := by decide +kernel
theorem dL_isBox_228 : decode cL_isBox 228 = .ok (.iload 12, 2) := by decide +kernel
theorem dL_isBox_230 : decode cL_isBox 230 = .ok (.ifCond .ne 85, 3) := by decide +kernel
theorem dL_isBox_233 : decode cL_isBox 233 = .ok (.iload 13, 2) := by decide +kernel
theorem dL_isBox_235 : decode cL_isBox 235 = .ok (.iload 4, 2) := by decide +kernel
theorem dL_isBox_237 : decode cL_isBox 237 = .ok (.if_icmp .eq 82, 3) := by decide +kernel
theorem dL_isBox_240 : decode cL_isBox 240 = .ok (.aload_n 1, 1) := by decide +kernel
theorem dL_isBox_241 : decode cL_isBox 241 = .ok (.bipush 6, 2) := by decide +kernel
theorem dL_isBox_243 : decode cL_isBox 243 = .ok (.iload 13, 2) := by decide +kernel
theorem dL_isBox_245 : decode cL_isBox 245 = .ok (.imul, 1) := by decide +kernel
theorem dL_isBox_246 : decode cL_isBox 246 = .ok (.iconst 2, 1) := by decide +kernel
theorem dL_isBox_247 : decode cL_isBox 247 = .ok (.iadd, 1) := by decide +kernel
theorem dL_isBox_248 : decode cL_isBox 248 = .ok (.iaload, 1) := by decide +kernel
theorem dL_isBox_249 : decode cL_isBox 249 = .ok (.aload_n 1, 1) := by decide +kernel
theorem dL_isBox_250 : decode cL_isBox 250 = .ok (.bipush 6, 2) := by decide +kernel
theorem dL_isBox_252 : decode cL_isBox 252 = .ok (.iload 4, 2) := by decide +kernel
theorem dL_isBox_254 : decode cL_isBox 254 = .ok (.imul, 1) := by decide +kernel
theorem dL_isBox_255 : decode cL_isBox 255 = .ok (.iconst 5, 1) := by decide +kernel
theorem dL_isBox_256 : decode cL_isBox 256 = .ok (.iadd, 1) := by decide +kernel
theorem dL_isBox_257 : decode cL_isBox 257 = .ok (.iaload, 1) := by decide +kernel
theorem dL_isBox_258 : decode cL_isBox 258 = .ok (.if_icmp .lt 61, 3) := by decide +kernel
theorem dL_isBox_261 : decode cL_isBox 261 = .ok (.aload_n 1, 1) := by decide +kernel
theorem dL_isBox_262 : decode cL_isBox 262 = .ok (.bipush 6, 2) := by decide +kernel
theorem dL_isBox_264 : decode cL_isBox 264 = .ok (.iload 13, 2) := by decide +kernel
theorem dL_isBox_266 : decode cL_isBox 266 = .ok (.imul, 1) := by decide +kernel
theorem dL_isBox_267 : decode cL_isBox 267 = .ok (.iaload, 1) := by decide +kernel
theorem dL_isBox_268 : decode cL_isBox 268 = .ok (.iload 10, 2) := by decide +kernel
theorem dL_isBox_270 : decode cL_isBox 270 = .ok (.if_icmp .gt 49, 3) := by decide +kernel
theorem dL_isBox_273 : decode cL_isBox 273 = .ok (.iload 10, 2) := by decide +kernel
theorem dL_isBox_275 : decode cL_isBox 275 = .ok (.aload_n 1, 1) := by decide +kernel
theorem dL_isBox_276 : decode cL_isBox 276 = .ok (.bipush 6, 2) := by decide +kernel
theorem dL_isBox_278 : decode cL_isBox 278 = .ok (.iload 13, 2) := by decide +kernel
theorem dL_isBox_280 : decode cL_isBox 280 = .ok (.imul, 1) := by decide +kernel
theorem dL_isBox_281 : decode cL_isBox 281 = .ok (.iconst 3, 1) := by decide +kernel
theorem dL_isBox_282 : decode cL_isBox 282 = .ok (.iadd, 1) := by decide +kernel
theorem dL_isBox_283 : decode cL_isBox 283 = .ok (.iaload, 1) := by decide +kernel
theorem dL_isBox_284 : decode cL_isBox 284 = .ok (.if_icmp .ge 35, 3) := by decide +kernel
theorem dL_isBox_287 : decode cL_isBox 287 = .ok (.aload_n 1, 1) := by decide +kernel
theorem dL_isBox_288 : decode cL_isBox 288 = .ok (.bipush 6, 2) := by decide +kernel
theorem dL_isBox_290 : decode cL_isBox 290 = .ok (.iload 13, 2) := by decide +kernel
theorem dL_isBox_292 : decode cL_isBox 292 = .ok (.imul, 1) := by decide +kernel
theorem dL_isBox_293 : decode cL_isBox 293 = .ok (.iconst 1, 1) := by decide +kernel
theorem dL_isBox_294 : decode cL_isBox 294 = .ok (.iadd, 1) := by decide +kernel
theorem dL_isBox_295 : decode cL_isBox 295 = .ok (.iaload, 1) := by decide +kernel
theorem dL_isBox_296 : decode cL_isBox 296 = .ok (.iload 11, 2) := by decide +kernel
theorem dL_isBox_298 : decode cL_isBox 298 = .ok (.if_icmp .gt 21, 3) := by decide +kernel
theorem dL_isBox_301 : decode cL_isBox 301 = .ok (.iload 11, 2) := by decide +kernel
theorem dL_isBox_303 : decode cL_isBox 303 = .ok (.aload_n 1, 1) := by decide +kernel
theorem dL_isBox_304 : decode cL_isBox 304 = .ok (.bipush 6, 2) := by decide +kernel
theorem dL_isBox_306 : decode cL_isBox 306 = .ok (.iload 13, 2) := by decide +kernel
theorem dL_isBox_308 : decode cL_isBox 308 = .ok (.imul, 1) := by decide +kernel
theorem dL_isBox_309 : decode cL_isBox 309 = .ok (.iconst 4, 1) := by decide +kernel
theorem dL_isBox_310 : decode cL_isBox 310 = .ok (.iadd, 1) := by decide +kernel
theorem dL_isBox_311 : decode cL_isBox 311 = .ok (.iaload, 1) := by decide +kernel
theorem dL_isBox_312 : decode cL_isBox 312 = .ok (.if_icmp .ge 7, 3) := by decide +kernel
theorem dL_isBox_315 : decode cL_isBox 315 = .ok (.iconst 1, 1) := by decide +kernel
theorem dL_isBox_316 : decode cL_isBox 316 = .ok (.goto 4, 3) := by decide +kernel
theorem dL_isBox_319 : decode cL_isBox 319 = .ok (.iconst 0, 1) := by decide +kernel
theorem dL_isBox_320 : decode cL_isBox 320 = .ok (.istore 12, 2) := by decide +kernel
theorem dL_isBox_322 : decode cL_isBox 322 = .ok (.iinc 13 1, 3) := by decide +kernel
theorem dL_isBox_325 : decode cL_isBox 325 = .ok (.goto (-103), 3) := by decide +kernel
theorem dL_isBox_328 : decode cL_isBox 328 = .ok (.iload 9, 2) := by decide +kernel
theorem dL_isBox_330 : decode cL_isBox 330 = .ok (.iload 12, 2) := by decide +kernel
theorem dL_isBox_332 : decode cL_isBox 332 = .ok (.ifCond .eq 7, 3) := by decide +kernel
theorem dL_isBox_335 : decode cL_isBox 335 = .ok (.iconst 1, 1) := by decide +kernel
theorem dL_isBox_336 : decode cL_isBox 336 = .ok (.goto 4, 3) := by decide +kernel
theorem dL_isBox_339 : decode cL_isBox 339 = .ok (.iconst 0, 1) := by decide +kernel
theorem dL_isBox_340 : decode cL_isBox 340 = .ok (.iadd, 1) := by decide +kernel
theorem dL_isBox_341 : decode cL_isBox 341 = .ok (.istore 9, 2) := by decide +kernel
theorem dL_isBox_343 : decode cL_isBox 343 = .ok (.iinc 11 1, 3) := by decide +kernel
theorem dL_isBox_346 : decode cL_isBox 346 = .ok (.goto (-144), 3) := by decide +kernel
theorem dL_isBox_349 : decode cL_isBox 349 = .ok (.iinc 10 1, 3) := by decide +kernel
theorem dL_isBox_352 : decode cL_isBox 352 = .ok (.goto (-175), 3) := by decide +kernel
theorem dL_isBox_355 : decode cL_isBox 355 = .ok (.aload_n 2, 1) := by decide +kernel
theorem dL_isBox_356 : decode cL_isBox 356 = .ok (.iload_n 3, 1) := by decide +kernel
theorem dL_isBox_357 : decode cL_isBox 357 = .ok (.iload 4, 2) := by decide +kernel
theorem dL_isBox_359 : decode cL_isBox 359 = .ok (.invokestatic 50, 3) := by decide +kernel
theorem dL_isBox_362 : decode cL_isBox 362 = .ok (.istore 10, 2) := by decide +kernel
theorem dL_isBox_364 : decode cL_isBox 364 = .ok (.aload_n 0, 1) := by decide +kernel
theorem dL_isBox_365 : decode cL_isBox 365 = .ok (.iload 5, 2) := by decide +kernel
theorem dL_isBox_367 : decode cL_isBox 367 = .ok (.iconst 0, 1) := by decide +kernel
theorem dL_isBox_368 : decode cL_isBox 368 = .ok (.invokevirtual 53, 3) := by decide +kernel
theorem dL_isBox_371 : decode cL_isBox 371 = .ok (.aload_n 1, 1) := by decide +kernel
theorem dL_isBox_372 : decode cL_isBox 372 = .ok (.iload 4, 2) := by decide +kernel
theorem dL_isBox_374 : decode cL_isBox 374 = .ok (.invokestatic 32, 3) := by decide +kernel
theorem dL_isBox_377 : decode cL_isBox 377 = .ok (.if_icmp .ne 129, 3) := by decide +kernel
theorem dL_isBox_380 : decode cL_isBox 380 = .ok (.aload_n 0, 1) := by decide +kernel
theorem dL_isBox_381 : decode cL_isBox 381 = .ok (.iload 5, 2) := by decide +kernel
theorem dL_isBox_383 : decode cL_isBox 383 = .ok (.iconst 1, 1) := by decide +kernel
theorem dL_isBox_384 : decode cL_isBox 384 = .ok (.invokevirtual 53, 3) := by decide +kernel
theorem dL_isBox_387 : decode cL_isBox 387 = .ok (.aload_n 2, 1) := by decide +kernel
theorem dL_isBox_388 : decode cL_isBox 388 = .ok (.iload 4, 2) := by decide +kernel
theorem dL_isBox_390 : decode cL_isBox 390 = .ok (.iaload, 1) := by decide +kernel
theorem dL_isBox_391 : decode cL_isBox 391 = .ok (.invokestatic 56, 3) := by decide +kernel
theorem dL_isBox_394 : decode cL_isBox 394 = .ok (.if_icmp .ne 112, 3) := by decide +kernel
theorem dL_isBox_397 : decode cL_isBox 397 = .ok (.aload_n 0, 1) := by decide +kernel
theorem dL_isBox_398 : decode cL_isBox 398 = .ok (.iload 5, 2) := by decide +kernel
theorem dL_isBox_400 : decode cL_isBox 400 = .ok (.iconst 2, 1) := by decide +kernel
theorem dL_isBox_401 : decode cL_isBox 401 = .ok (.invokevirtual 53, 3) := by decide +kernel
theorem dL_isBox_404 : decode cL_isBox 404 = .ok (.iload 6, 2) := by decide +kernel
theorem dL_isBox_406 : decode cL_isBox 406 = .ok (.if_icmp .ne 100, 3) := by decide +kernel
theorem dL_isBox_409 : decode cL_isBox 409 = .ok (.aload_n 0, 1) := by decide +kernel
theorem dL_isBox_410 : decode cL_isBox 410 = .ok (.iload 5, 2) := by decide +kernel
theorem dL_isBox_412 : decode cL_isBox 412 = .ok (.iconst 4, 1) := by decide +kernel
theorem dL_isBox_413 : decode cL_isBox 413 = .ok (.invokevirtual 53, 3) := by decide +kernel
theorem dL_isBox_416 : decode cL_isBox 416 = .ok (.iload 10, 2) := by decide +kernel
theorem dL_isBox_418 : decode cL_isBox 418 = .ok (.ifCond .ge 8, 3) := by decide +kernel
theorem dL_isBox_421 : decode cL_isBox 421 = .ok (.bipush (-5), 2) := by decide +kernel
theorem dL_isBox_423 : decode cL_isBox 423 = .ok (.goto 5, 3) := by decide +kernel
theorem dL_isBox_426 : decode cL_isBox 426 = .ok (.iload 10, 2) := by decide +kernel
theorem dL_isBox_428 : decode cL_isBox 428 = .ok (.if_icmp .ne 78, 3) := by decide +kernel
theorem dL_isBox_431 : decode cL_isBox 431 = .ok (.aload_n 0, 1) := by decide +kernel
theorem dL_isBox_432 : decode cL_isBox 432 = .ok (.iload 5, 2) := by decide +kernel
theorem dL_isBox_434 : decode cL_isBox 434 = .ok (.iconst 5, 1) := by decide +kernel
theorem dL_isBox_435 : decode cL_isBox 435 = .ok (.invokevirtual 53, 3) := by decide +kernel
theorem dL_isBox_438 : decode cL_isBox 438 = .ok (.iload 8, 2) := by decide +kernel
theorem dL_isBox_440 : decode cL_isBox 440 = .ok (.if_icmp .ne 66, 3) := by decide +kernel
theorem dL_isBox_443 : decode cL_isBox 443 = .ok (.aload_n 0, 1) := by decide +kernel
theorem dL_isBox_444 : decode cL_isBox 444 = .ok (.iload 5, 2) := by decide +kernel
theorem dL_isBox_446 : decode cL_isBox 446 = .ok (.bipush 6, 2) := by decide +kernel
theorem dL_isBox_448 : decode cL_isBox 448 = .ok (.invokevirtual 53, 3) := by decide +kernel
theorem dL_isBox_451 : decode cL_isBox 451 = .ok (.iload 7, 2) := by decide +kernel
theorem dL_isBox_453 : decode cL_isBox 453 = .ok (.if_icmp .ne 53, 3) := by decide +kernel
theorem dL_isBox_456 : decode cL_isBox 456 = .ok (.aload_n 0, 1) := by decide +kernel
theorem dL_isBox_457 : decode cL_isBox 457 = .ok (.iload 5, 2) := by decide +kernel
theorem dL_isBox_459 : decode cL_isBox 459 = .ok (.bipush 7, 2) := by decide +kernel
theorem dL_isBox_461 : decode cL_isBox 461 = .ok (.invokevirtual 53, 3) := by decide +kernel
theorem dL_isBox_464 : decode cL_isBox 464 = .ok (.iload 9, 2) := by decide +kernel
theorem dL_isBox_466 : decode cL_isBox 466 = .ok (.if_icmp .ne 40, 3) := by decide +kernel
theorem dL_isBox_469 : decode cL_isBox 469 = .ok (.aload_n 0, 1) := by decide +kernel
theorem dL_isBox_470 : decode cL_isBox 470 = .ok (.iload 5, 2) := by decide +kernel
theorem dL_isBox_472 : decode cL_isBox 472 = .ok (.bipush 8, 2) := by decide +kernel
theorem dL_isBox_474 : decode cL_isBox 474 = .ok (.invokevirtual 53, 3) := by decide +kernel
theorem dL_isBox_477 : decode cL_isBox 477 = .ok (.aload_n 1, 1) := by decide +kernel
theorem dL_isBox_478 : decode cL_isBox 478 = .ok (.bipush 6, 2) := by decide +kernel
theorem dL_isBox_480 : decode cL_isBox 480 = .ok (.iload 4, 2) := by decide +kernel
theorem dL_isBox_482 : decode cL_isBox 482 = .ok (.imul, 1) := by decide +kernel
theorem dL_isBox_483 : decode cL_isBox 483 = .ok (.iconst 2, 1) := by decide +kernel
theorem dL_isBox_484 : decode cL_isBox 484 = .ok (.iadd, 1) := by decide +kernel
theorem dL_isBox_485 : decode cL_isBox 485 = .ok (.iaload, 1) := by decide +kernel
theorem dL_isBox_486 : decode cL_isBox 486 = .ok (.ifCond .eq 8, 3) := by decide +kernel
theorem dL_isBox_489 : decode cL_isBox 489 = .ok (.iload 8, 2) := by decide +kernel
theorem dL_isBox_491 : decode cL_isBox 491 = .ok (.ifCond .le 7, 3) := by decide +kernel
theorem dL_isBox_494 : decode cL_isBox 494 = .ok (.iconst 1, 1) := by decide +kernel
theorem dL_isBox_495 : decode cL_isBox 495 = .ok (.goto 4, 3) := by decide +kernel
theorem dL_isBox_498 : decode cL_isBox 498 = .ok (.iconst 0, 1) := by decide +kernel
theorem dL_isBox_499 : decode cL_isBox 499 = .ok (.if_icmp .ne 7, 3) := by decide +kernel
theorem dL_isBox_502 : decode cL_isBox 502 = .ok (.iconst 1, 1) := by decide +kernel
theorem dL_isBox_503 : decode cL_isBox 503 = .ok (.goto 4, 3) := by decide +kernel
theorem dL_isBox_506 : decode cL_isBox 506 = .ok (.iconst 0, 1) := by decide +kernel
theorem dL_isBox_507 : decode cL_isBox 507 = .ok (.ireturn, 1) := by decide +kernel
theorem dL_isSo_0 : decode cL_isSo 0 = .ok (.aload_n 0, 1) := by decide +kernel
theorem dL_isSo_1 : decode cL_isSo 1 = .ok (.aload_n 1, 1) := by decide +kernel
theorem dL_isSo_2 : decode cL_isSo 2 = .ok (.invokestatic 59, 3) := by decide +kernel
theorem dL_isSo_5 : decode cL_isSo 5 = .ok (.istore_n 3, 1) := by decide +kernel
theorem dL_isSo_6 : decode cL_isSo 6 = .ok (.iconst 0, 1) := by decide +kernel
theorem dL_isSo_7 : decode cL_isSo 7 = .ok (.istore 4, 2) := by decide +kernel
theorem dL_isSo_9 : decode cL_isSo 9 = .ok (.iconst 0, 1) := by decide +kernel
theorem dL_isSo_10 : decode cL_isSo 10 = .ok (.istore 5, 2) := by decide +kernel
theorem dL_isSo_12 : decode cL_isSo 12 = .ok (.bipush (-5), 2) := by decide +kernel
theorem dL_isSo_14 : decode cL_isSo 14 = .ok (.istore 6, 2) := by decide +kernel
theorem dL_isSo_16 : decode cL_isSo 16 = .ok (.iconst 0, 1) := by decide +kernel
theorem dL_isSo_17 : decode cL_isSo 17 = .ok (.istore 7, 2) := by decide +kernel
theorem dL_isSo_19 : decode cL_isSo 19 = .ok (.iconst 0, 1) := by decide +kernel
theorem dL_isSo_20 : decode cL_isSo 20 = .ok (.istore 8, 2) := by decide +kernel
theorem dL_isSo_22 : decode cL_isSo 22 = .ok (.bipush (-5), 2) := by decide +kernel
theorem dL_isSo_24 : decode cL_isSo 24 = .ok (.istore 9, 2) := by decide +kernel
theorem dL_isSo_26 : decode cL_isSo 26 = .ok (.iconst 0, 1) := by decide +kernel
theorem dL_isSo_27 : decode cL_isSo 27 = .ok (.istore 10, 2) := by decide +kernel
theorem dL_isSo_29 : decode cL_isSo 29 = .ok (.iload 10, 2) := by decide +kernel
theorem dL_isSo_31 : decode cL_isSo 31 = .ok (.iload_n 3, 1) := by decide +kernel
theorem dL_isSo_32 : decode cL_isSo 32 = .ok (.if_icmp .ge 158, 3) := by decide +kernel
theorem dL_isSo_35 : decode cL_isSo 35 = .ok (.aload_n 2, 1) := by decide +kernel
theorem dL_isSo_36 : decode cL_isSo 36 = .ok (.iload 10, 2) := by decide +kernel
theorem dL_isSo_38 : decode cL_isSo 38 = .ok (.iconst 0, 1) := by decide +kernel
theorem dL_isSo_39 : decode cL_isSo 39 = .ok (.iastore, 1) := by decide +kernel
theorem dL_isSo_40 : decode cL_isSo 40 = .ok (.iconst 0, 1) := by decide +kernel
theorem dL_isSo_41 : decode cL_isSo 41 = .ok (.istore 11, 2) := by decide +kernel
theorem dL_isSo_43 : decode cL_isSo 43 = .ok (.iload 11, 2) := by decide +kernel
theorem dL_isSo_45 : decode cL_isSo 45 = .ok (.iload_n 3, 1) := by decide +kernel
theorem dL_isSo_46 : decode cL_isSo 46 = .ok (.if_icmp .ge 138, 3) := by decide +kernel
theorem dL_isSo_49 : decode cL_isSo 49 = .ok (.aload_n 2, 1) := by decide +kernel
theorem dL_isSo_50 : decode cL_isSo 50 = .ok (.iload 10, 2) := by decide +kernel
theorem dL_isSo_52 : decode cL_isSo 52 = .ok (.dup2, 1) := by decide +kernel
theorem dL_isSo_53 : decode cL_isSo 53 = .ok (.iaload, 1) := by decide +kernel
theorem dL_isSo_54 : decode cL_isSo 54 = .ok (.aload_n 1, 1) := by decide +kernel
theorem dL_isSo_55 : decode cL_isSo 55 = .ok (.iload 10, 2) := by decide +kernel
theorem dL_isSo_57 : decode cL_isSo 57 = .ok (.iload 11, 2) := by decide +kernel
theorem dL_isSo_59 : decode cL_isSo 59 = .ok (.invokestatic 46, 3) := by decide +kernel
theorem dL_isSo_62 : decode cL_isSo 62 = .ok (.ifCond .le 10, 3) := by decide +kernel
theorem dL_isSo_65 : decode cL_isSo 65 = .ok (.iconst 1, 1) := by decide +kernel
theorem dL_isSo_66 : decode cL_isSo 66 = .ok (.iload 11, 2) := by decide +kernel
theorem dL_isSo_68 : decode cL_isSo 68 = .ok (.ishl, 1) := by decide +kernel
theorem dL_isSo_69 : decode cL_isSo 69 = .ok (.goto 4, 3) := by decide +kernel
theorem dL_isSo_72 : decode cL_isSo 72 = .ok (.iconst 0, 1) := by decide +kernel
theorem dL_isSo_73 : decode cL_isSo 73 = .ok (.ior, 1) := by decide +kernel
theorem dL_isSo_74 : decode cL_isSo 74 = .ok (.iastore, 1) := by decide +kernel
theorem dL_isSo_75 : decode cL_isSo 75 = .ok (.iload 11, 2) := by decide +kernel
theorem dL_isSo_77 : decode cL_isSo 77 = .ok (.iload 10, 2) := by decide +kernel
theorem dL_isSo_79 : decode cL_isSo 79 = .ok (.if_icmp .eq 99, 3) := by decide +kernel
theorem dL_isSo_82 : decode cL_isSo 82 = .ok (.aload_n 1, 1) := by decide +kernel
theorem dL_isSo_83 : decode cL_isSo 83 = .ok (.iload 10, 2) := by decide +kernel
theorem dL_isSo_85 : decode cL_isSo 85 = .ok (.iload 11, 2) := by decide +kernel
theorem dL_isSo_87 : decode cL_isSo 87 = .ok (.iconst 0, 1) := by decide +kernel
theorem dL_isSo_88 : decode cL_isSo 88 = .ok (.invokestatic 28, 3) := by decide +kernel
theorem dL_isSo_91 : decode cL_isSo 91 = .ok (.ifCond .eq 27, 3) := by decide +kernel
