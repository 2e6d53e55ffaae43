theorem dX5_make_55 : decode cX5_make 55 = .ok (.aload_n 0, 1) := by decide +kernel
theorem dX5_make_56 : decode cX5_make 56 = .ok (.iload_n 2, 1) := by decide +kernel
theorem dX5_make_57 : decode cX5_make 57 = .ok (.iload_n 3, 1) := by decide +kernel
theorem dX5_make_58 : decode cX5_make 58 = .ok (.iconst 2, 1) := by decide +kernel
theorem dX5_make_59 : decode cX5_make 59 = .ok (.iload 4, 2) := by decide +kernel
theorem dX5_make_61 : decode cX5_make 61 = .ok (.iadd, 1) := by decide +kernel
theorem dX5_make_62 : decode cX5_make 62 = .ok (.invokevirtual 123, 3) := by decide +kernel
theorem dX5_make_65 : decode cX5_make 65 = .ok (.aload_n 0, 1) := by decide +kernel
theorem dX5_make_66 : decode cX5_make 66 = .ok (.getfield 73, 3) := by decide +kernel
theorem dX5_make_69 : decode cX5_make 69 = .ok (.bipush 11, 2) := by decide +kernel
theorem dX5_make_71 : decode cX5_make 71 = .ok (.if_icmp .le 8, 3) := by decide +kernel
theorem dX5_make_74 : decode cX5_make 74 = .ok (.bipush (-4), 2) := by decide +kernel
theorem dX5_make_76 : decode cX5_make 76 = .ok (.goto 8, 3) := by decide +kernel
theorem dX5_make_79 : decode cX5_make 79 = .ok (.aload_n 0, 1) := by decide +kernel
theorem dX5_make_80 : decode cX5_make 80 = .ok (.iload_n 1, 1) := by decide +kernel
theorem dX5_make_81 : decode cX5_make 81 = .ok (.invokevirtual 113, 3) := by decide +kernel
theorem dX5_make_84 : decode cX5_make 84 = .ok (.ireturn, 1) := by decide +kernel
theorem dX5_cut_0 : decode cX5_cut 0 = .ok (.aload_n 0, 1) := by decide +kernel
theorem dX5_cut_1 : decode cX5_cut 1 = .ok (.iconst 0, 1) := by decide +kernel
theorem dX5_cut_2 : decode cX5_cut 2 = .ok (.putfield 73, 3) := by decide +kernel
theorem dX5_cut_5 : decode cX5_cut 5 = .ok (.iconst 0, 1) := by decide +kernel
theorem dX5_cut_6 : decode cX5_cut 6 = .ok (.istore_n 3, 1) := by decide +kernel
theorem dX5_cut_7 : decode cX5_cut 7 = .ok (.iload_n 3, 1) := by decide +kernel
theorem dX5_cut_8 : decode cX5_cut 8 = .ok (.bipush 11, 2) := by decide +kernel
theorem dX5_cut_10 : decode cX5_cut 10 = .ok (.if_icmp .ge 17, 3) := by decide +kernel
theorem dX5_cut_13 : decode cX5_cut 13 = .ok (.aload_n 0, 1) := by decide +kernel
theorem dX5_cut_14 : decode cX5_cut 14 = .ok (.getfield 47, 3) := by decide +kernel
theorem dX5_cut_17 : decode cX5_cut 17 = .ok (.iload_n 3, 1) := by decide +kernel
theorem dX5_cut_18 : decode cX5_cut 18 = .ok (.bipush (-6), 2) := by decide +kernel
theorem dX5_cut_20 : decode cX5_cut 20 = .ok (.iastore, 1) := by decide +kernel
theorem dX5_cut_21 : decode cX5_cut 21 = .ok (.iinc 3 1, 3) := by decide +kernel
theorem dX5_cut_24 : decode cX5_cut 24 = .ok (.goto (-17), 3) := by decide +kernel
theorem dX5_cut_27 : decode cX5_cut 27 = .ok (.iconst 1, 1) := by decide +kernel
theorem dX5_cut_28 : decode cX5_cut 28 = .ok (.istore_n 3, 1) := by decide +kernel
theorem dX5_cut_29 : decode cX5_cut 29 = .ok (.aload_n 0, 1) := by decide +kernel
theorem dX5_cut_30 : decode cX5_cut 30 = .ok (.getfield 50, 3) := by decide +kernel
theorem dX5_cut_33 : decode cX5_cut 33 = .ok (.iconst 0, 1) := by decide +kernel
theorem dX5_cut_34 : decode cX5_cut 34 = .ok (.iload_n 2, 1) := by decide +kernel
theorem dX5_cut_35 : decode cX5_cut 35 = .ok (.iastore, 1) := by decide +kernel
theorem dX5_cut_36 : decode cX5_cut 36 = .ok (.iload_n 3, 1) := by decide +kernel
theorem dX5_cut_37 : decode cX5_cut 37 = .ok (.ifCond .le 196, 3) := by decide +kernel
theorem dX5_cut_40 : decode cX5_cut 40 = .ok (.aload_n 0, 1) := by decide +kernel
theorem dX5_cut_41 : decode cX5_cut 41 = .ok (.getfield 50, 3) := by decide +kernel
theorem dX5_cut_44 : decode cX5_cut 44 = .ok (.iload_n 3, 1) := by decide +kernel
theorem dX5_cut_45 : decode cX5_cut 45 = .ok (.iconst 1, 1) := by decide +kernel
theorem dX5_cut_46 : decode cX5_cut 46 = .ok (.isub, 1) := by decide +kernel
theorem dX5_cut_47 : decode cX5_cut 47 = .ok (.iaload, 1) := by decide +kernel
theorem dX5_cut_48 : decode cX5_cut 48 = .ok (.istore 4, 2) := by decide +kernel
theorem dX5_cut_50 : decode cX5_cut 50 = .ok (.bipush 11, 2) := by decide +kernel
theorem dX5_cut_52 : decode cX5_cut 52 = .ok (.iload_n 1, 1) := by decide +kernel
theorem dX5_cut_53 : decode cX5_cut 53 = .ok (.imul, 1) := by decide +kernel
theorem dX5_cut_54 : decode cX5_cut 54 = .ok (.iload 4, 2) := by decide +kernel
theorem dX5_cut_56 : decode cX5_cut 56 = .ok (.iadd, 1) := by decide +kernel
theorem dX5_cut_57 : decode cX5_cut 57 = .ok (.istore 5, 2) := by decide +kernel
theorem dX5_cut_59 : decode cX5_cut 59 = .ok (.aload_n 0, 1) := by decide +kernel
theorem dX5_cut_60 : decode cX5_cut 60 = .ok (.getfield 13, 3) := by decide +kernel
theorem dX5_cut_63 : decode cX5_cut 63 = .ok (.iload 5, 2) := by decide +kernel
theorem dX5_cut_65 : decode cX5_cut 65 = .ok (.iaload, 1) := by decide +kernel
theorem dX5_cut_66 : decode cX5_cut 66 = .ok (.iconst 1, 1) := by decide +kernel
theorem dX5_cut_67 : decode cX5_cut 67 = .ok (.if_icmp .le 7, 3) := by decide +kernel
theorem dX5_cut_70 : decode cX5_cut 70 = .ok (.iconst 1, 1) := by decide +kernel
theorem dX5_cut_71 : decode cX5_cut 71 = .ok (.goto 4, 3) := by decide +kernel
theorem dX5_cut_74 : decode cX5_cut 74 = .ok (.iconst 0, 1) := by decide +kernel
theorem dX5_cut_75 : decode cX5_cut 75 = .ok (.istore 6, 2) := by decide +kernel
theorem dX5_cut_77 : decode cX5_cut 77 = .ok (.iload 6, 2) := by decide +kernel
theorem dX5_cut_79 : decode cX5_cut 79 = .ok (.ifCond .eq 37, 3) := by decide +kernel
theorem dX5_cut_82 : decode cX5_cut 82 = .ok (.aload_n 0, 1) := by decide +kernel
theorem dX5_cut_83 : decode cX5_cut 83 = .ok (.getfield 47, 3) := by decide +kernel
theorem dX5_cut_86 : decode cX5_cut 86 = .ok (.aload_n 0, 1) := by decide +kernel
theorem dX5_cut_87 : decode cX5_cut 87 = .ok (.getfield 16, 3) := by decide +kernel
theorem dX5_cut_90 : decode cX5_cut 90 = .ok (.iload 5, 2) := by decide +kernel
theorem dX5_cut_92 : decode cX5_cut 92 = .ok (.iaload, 1) := by decide +kernel
theorem dX5_cut_93 : decode cX5_cut 93 = .ok (.iaload, 1) := by decide +kernel
theorem dX5_cut_94 : decode cX5_cut 94 = .ok (.ifCond .ge 22, 3) := by decide +kernel
theorem dX5_cut_97 : decode cX5_cut 97 = .ok (.aload_n 0, 1) := by decide +kernel
theorem dX5_cut_98 : decode cX5_cut 98 = .ok (.getfield 50, 3) := by decide +kernel
theorem dX5_cut_101 : decode cX5_cut 101 = .ok (.iload_n 3, 1) := by decide +kernel
theorem dX5_cut_102 : decode cX5_cut 102 = .ok (.aload_n 0, 1) := by decide +kernel
theorem dX5_cut_103 : decode cX5_cut 103 = .ok (.getfield 16, 3) := by decide +kernel
theorem dX5_cut_106 : decode cX5_cut 106 = .ok (.iload 5, 2) := by decide +kernel
theorem dX5_cut_108 : decode cX5_cut 108 = .ok (.iaload, 1) := by decide +kernel
theorem dX5_cut_109 : decode cX5_cut 109 = .ok (.iastore, 1) := by decide +kernel
theorem dX5_cut_110 : decode cX5_cut 110 = .ok (.iinc 3 1, 3) := by decide +kernel
theorem dX5_cut_113 : decode cX5_cut 113 = .ok (.goto 117, 3) := by decide +kernel
theorem dX5_cut_116 : decode cX5_cut 116 = .ok (.iload 6, 2) := by decide +kernel
theorem dX5_cut_118 : decode cX5_cut 118 = .ok (.ifCond .eq 37, 3) := by decide +kernel
theorem dX5_cut_121 : decode cX5_cut 121 = .ok (.aload_n 0, 1) := by decide +kernel
theorem dX5_cut_122 : decode cX5_cut 122 = .ok (.getfield 47, 3) := by decide +kernel
theorem dX5_cut_125 : decode cX5_cut 125 = .ok (.aload_n 0, 1) := by decide +kernel
theorem dX5_cut_126 : decode cX5_cut 126 = .ok (.getfield 19, 3) := by decide +kernel
theorem dX5_cut_129 : decode cX5_cut 129 = .ok (.iload 5, 2) := by decide +kernel
theorem dX5_cut_131 : decode cX5_cut 131 = .ok (.iaload, 1) := by decide +kernel
theorem dX5_cut_132 : decode cX5_cut 132 = .ok (.iaload, 1) := by decide +kernel
theorem dX5_cut_133 : decode cX5_cut 133 = .ok (.ifCond .ge 22, 3) := by decide +kernel
theorem dX5_cut_136 : decode cX5_cut 136 = .ok (.aload_n 0, 1) := by decide +kernel
theorem dX5_cut_137 : decode cX5_cut 137 = .ok (.getfield 50, 3) := by decide +kernel
theorem dX5_cut_140 : decode cX5_cut 140 = .ok (.iload_n 3, 1) := by decide +kernel
theorem dX5_cut_141 : decode cX5_cut 141 = .ok (.aload_n 0, 1) := by decide +kernel
theorem dX5_cut_142 : decode cX5_cut 142 = .ok (.getfield 19, 3) := by decide +kernel
theorem dX5_cut_145 : decode cX5_cut 145 = .ok (.iload 5, 2) := by decide +kernel
theorem dX5_cut_147 : decode cX5_cut 147 = .ok (.iaload, 1) := by decide +kernel
theorem dX5_cut_148 : decode cX5_cut 148 = .ok (.iastore, 1) := by decide +kernel
theorem dX5_cut_149 : decode cX5_cut 149 = .ok (.iinc 3 1, 3) := by decide +kernel
theorem dX5_cut_152 : decode cX5_cut 152 = .ok (.goto 78, 3) := by decide +kernel
theorem dX5_cut_155 : decode cX5_cut 155 = .ok (.aload_n 0, 1) := by decide +kernel
theorem dX5_cut_156 : decode cX5_cut 156 = .ok (.getfield 47, 3) := by decide +kernel
theorem dX5_cut_159 : decode cX5_cut 159 = .ok (.iload 4, 2) := by decide +kernel
theorem dX5_cut_161 : decode cX5_cut 161 = .ok (.aload_n 0, 1) := by decide +kernel
theorem dX5_cut_162 : decode cX5_cut 162 = .ok (.aload_n 0, 1) := by decide +kernel
theorem dX5_cut_163 : decode cX5_cut 163 = .ok (.getfield 13, 3) := by decide +kernel
theorem dX5_cut_166 : decode cX5_cut 166 = .ok (.iload 5, 2) := by decide +kernel
theorem dX5_cut_168 : decode cX5_cut 168 = .ok (.iaload, 1) := by decide +kernel
theorem dX5_cut_169 : decode cX5_cut 169 = .ok (.iload 6, 2) := by decide +kernel
theorem dX5_cut_171 : decode cX5_cut 171 = .ok (.ifCond .eq 18, 3) := by decide +kernel
theorem dX5_cut_174 : decode cX5_cut 174 = .ok (.aload_n 0, 1) := by decide +kernel
theorem dX5_cut_175 : decode cX5_cut 175 = .ok (.getfield 47, 3) := by decide +kernel
theorem dX5_cut_178 : decode cX5_cut 178 = .ok (.aload_n 0, 1) := by decide +kernel
theorem dX5_cut_179 : decode cX5_cut 179 = .ok (.getfield 16, 3) := by decide +kernel
theorem dX5_cut_182 : decode cX5_cut 182 = .ok (.iload 5, 2) := by decide +kernel
theorem dX5_cut_184 : decode cX5_cut 184 = .ok (.iaload, 1) := by decide +kernel
theorem dX5_cut_185 : decode cX5_cut 185 = .ok (.iaload, 1) := by decide +kernel
theorem dX5_cut_186 : decode cX5_cut 186 = .ok (.goto 10, 3) := by decide +kernel
theorem dX5_cut_189 : decode cX5_cut 189 = .ok (.aload_n 0, 1) := by decide +kernel
theorem dX5_cut_190 : decode cX5_cut 190 = .ok (.getfield 16, 3) := by decide +kernel
theorem dX5_cut_193 : decode cX5_cut 193 = .ok (.iload 5, 2) := by decide +kernel
theorem dX5_cut_195 : decode cX5_cut 195 = .ok (.iaload, 1) := by decide +kernel
theorem dX5_cut_196 : decode cX5_cut 196 = .ok (.iload 6, 2) := by decide +kernel
theorem dX5_cut_198 : decode cX5_cut 198 = .ok (.ifCond .eq 18, 3) := by decide +kernel
theorem dX5_cut_201 : decode cX5_cut 201 = .ok (.aload_n 0, 1) := by decide +kernel
theorem dX5_cut_202 : decode cX5_cut 202 = .ok (.getfield 47, 3) := by decide +kernel
theorem dX5_cut_205 : decode cX5_cut 205 = .ok (.aload_n 0, 1) := by decide +kernel
theorem dX5_cut_206 : decode cX5_cut 206 = .ok (.getfield 19, 3) := by decide +kernel
theorem dX5_cut_209 : decode cX5_cut 209 = .ok (.iload 5, 2) := by decide +kernel
theorem dX5_cut_211 : decode cX5_cut 211 = .ok (.iaload, 1) := by decide +kernel
theorem dX5_cut_212 : decode cX5_cut 212 = .ok (.iaload, 1) := by decide +kernel
theorem dX5_cut_213 : decode cX5_cut 213 = .ok (.goto 10, 3) := by decide +kernel
theorem dX5_cut_216 : decode cX5_cut 216 = .ok (.aload_n 0, 1) := by decide +kernel
theorem dX5_cut_217 : decode cX5_cut 217 = .ok (.getfield 19, 3) := by decide +kernel
theorem dX5_cut_220 : decode cX5_cut 220 = .ok (.iload 5, 2) := by decide +kernel
theorem dX5_cut_222 : decode cX5_cut 222 = .ok (.iaload, 1) := by decide +kernel
theorem dX5_cut_223 : decode cX5_cut 223 = .ok (.invokevirtual 82, 3) := by decide +kernel
theorem dX5_cut_226 : decode cX5_cut 226 = .ok (.iastore, 1) := by decide +kernel
theorem dX5_cut_227 : decode cX5_cut 227 = .ok (.iinc 3 (-1), 3) := by decide +kernel
theorem dX5_cut_230 : decode cX5_cut 230 = .ok (.goto (-194), 3) := by decide +kernel
theorem dX5_cut_233 : decode cX5_cut 233 = .ok (.return_, 1) := by decide +kernel
theorem dX5_part_0 : decode cX5_part 0 = .ok (.iload_n 1, 1) := by decide +kernel
theorem dX5_part_1 : decode cX5_part 1 = .ok (.invokestatic 106, 3) := by decide +kernel
theorem dX5_part_4 : decode cX5_part 4 = .ok (.ifCond .eq 10, 3) := by decide +kernel
theorem dX5_part_7 : decode cX5_part 7 = .ok (.iload_n 2, 1) := by decide +kernel
theorem dX5_part_8 : decode cX5_part 8 = .ok (.invokestatic 106, 3) := by decide +kernel
theorem dX5_part_11 : decode cX5_part 11 = .ok (.ifCond .ne 5, 3) := by decide +kernel
theorem dX5_part_14 : decode cX5_part 14 = .ok (.iconst (-1), 1) := by decide +kernel
theorem dX5_part_15 : decode cX5_part 15 = .ok (.ireturn, 1) := by decide +kernel
theorem dX5_part_16 : decode cX5_part 16 = .ok (.aload_n 0, 1) := by decide +kernel
theorem dX5_part_17 : decode cX5_part 17 = .ok (.iload_n 2, 1) := by decide +kernel
theorem dX5_part_18 : decode cX5_part 18 = .ok (.invokevirtual 120, 3) := by decide +kernel
theorem dX5_part_21 : decode cX5_part 21 = .ok (.ifCond .eq 6, 3) := by decide +kernel
theorem dX5_part_24 : decode cX5_part 24 = .ok (.bipush (-3), 2) := by decide +kernel
theorem dX5_part_26 : decode cX5_part 26 = .ok (.ireturn, 1) := by decide +kernel
theorem dX5_part_27 : decode cX5_part 27 = .ok (.iload_n 3, 1) := by decide +kernel
theorem dX5_part_28 : decode cX5_part 28 = .ok (.iconst 0, 1) := by decide +kernel
theorem dX5_part_29 : decode cX5_part 29 = .ok (.aload_n 0, 1) := by decide +kernel
theorem dX5_part_30 : decode cX5_part 30 = .ok (.getfield 7, 3) := by decide +kernel
theorem dX5_part_33 : decode cX5_part 33 = .ok (.iload_n 2, 1) := by decide +kernel
theorem dX5_part_34 : decode cX5_part 34 = .ok (.iaload, 1) := by decide +kernel
theorem dX5_part_35 : decode cX5_part 35 = .ok (.iconst 1, 1) := by decide +kernel
theorem dX5_part_36 : decode cX5_part 36 = .ok (.isub, 1) := by decide +kernel
theorem dX5_part_37 : decode cX5_part 37 = .ok (.invokestatic 69, 3) := by decide +kernel
theorem dX5_part_40 : decode cX5_part 40 = .ok (.ifCond .ne 6, 3) := by decide +kernel
theorem dX5_part_43 : decode cX5_part 43 = .ok (.bipush (-2), 2) := by decide +kernel
theorem dX5_part_45 : decode cX5_part 45 = .ok (.ireturn, 1) := by decide +kernel
theorem dX5_part_46 : decode cX5_part 46 = .ok (.aload_n 0, 1) := by decide +kernel
theorem dX5_part_47 : decode cX5_part 47 = .ok (.iload_n 2, 1) := by decide +kernel
theorem dX5_part_48 : decode cX5_part 48 = .ok (.iload_n 3, 1) := by decide +kernel
theorem dX5_part_49 : decode cX5_part 49 = .ok (.invokevirtual 127, 3) := by decide +kernel
theorem dX5_part_52 : decode cX5_part 52 = .ok (.aload_n 0, 1) := by decide +kernel
theorem dX5_part_53 : decode cX5_part 53 = .ok (.iload_n 1, 1) := by decide +kernel
theorem dX5_part_54 : decode cX5_part 54 = .ok (.invokevirtual 113, 3) := by decide +kernel
theorem dX5_part_57 : decode cX5_part 57 = .ok (.ireturn, 1) := by decide +kernel
theorem dX5_signAt_0 : decode cX5_signAt 0 = .ok (.aload_n 0, 1) := by decide +kernel
theorem dX5_signAt_1 : decode cX5_signAt 1 = .ok (.getfield 73, 3) := by decide +kernel
theorem dX5_signAt_4 : decode cX5_signAt 4 = .ok (.iconst 1, 1) := by decide +kernel
theorem dX5_signAt_5 : decode cX5_signAt 5 = .ok (.isub, 1) := by decide +kernel
theorem dX5_signAt_6 : decode cX5_signAt 6 = .ok (.istore_n 2, 1) := by decide +kernel
theorem dX5_signAt_7 : decode cX5_signAt 7 = .ok (.iload_n 1, 1) := by decide +kernel
theorem dX5_signAt_8 : decode cX5_signAt 8 = .ok (.istore_n 3, 1) := by decide +kernel
theorem dX5_signAt_9 : decode cX5_signAt 9 = .ok (.aload_n 0, 1) := by decide +kernel
theorem dX5_signAt_10 : decode cX5_signAt 10 = .ok (.getfield 29, 3) := by decide +kernel
theorem dX5_signAt_13 : decode cX5_signAt 13 = .ok (.iload_n 2, 1) := by decide +kernel
theorem dX5_signAt_14 : decode cX5_signAt 14 = .ok (.iaload, 1) := by decide +kernel
theorem dX5_signAt_15 : decode cX5_signAt 15 = .ok (.iconst 1, 1) := by decide +kernel
theorem dX5_signAt_16 : decode cX5_signAt 16 = .ok (.if_icmp .le 134, 3) := by decide +kernel
theorem dX5_signAt_19 : decode cX5_signAt 19 = .ok (.aload_n 0, 1) := by decide +kernel
theorem dX5_signAt_20 : decode cX5_signAt 20 = .ok (.getfield 53, 3) := by decide +kernel
theorem dX5_signAt_23 : decode cX5_signAt 23 = .ok (.aload_n 0, 1) := by decide +kernel
theorem dX5_signAt_24 : decode cX5_signAt 24 = .ok (.getfield 32, 3) := by decide +kernel
theorem dX5_signAt_27 : decode cX5_signAt 27 = .ok (.iload_n 2, 1) := by decide +kernel
theorem dX5_signAt_28 : decode cX5_signAt 28 = .ok (.iaload, 1) := by decide +kernel
theorem dX5_signAt_29 : decode cX5_signAt 29 = .ok (.iaload, 1) := by decide +kernel
theorem dX5_signAt_30 : decode cX5_signAt 30 = .ok (.istore 4, 2) := by decide +kernel
theorem dX5_signAt_32 : decode cX5_signAt 32 = .ok (.iload_n 3, 1) := by decide +kernel
theorem dX5_signAt_33 : decode cX5_signAt 33 = .ok (.ifCond .ne 6, 3) := by decide +kernel
theorem dX5_signAt_36 : decode cX5_signAt 36 = .ok (.bipush 40, 2) := by decide +kernel
theorem dX5_signAt_38 : decode cX5_signAt 38 = .ok (.ireturn, 1) := by decide +kernel
theorem dX5_signAt_39 : decode cX5_signAt 39 = .ok (.iload_n 3, 1) := by decide +kernel
theorem dX5_signAt_40 : decode cX5_signAt 40 = .ok (.iload 4, 2) := by decide +kernel
theorem dX5_signAt_42 : decode cX5_signAt 42 = .ok (.iconst 1, 1) := by decide +kernel
theorem dX5_signAt_43 : decode cX5_signAt 43 = .ok (.iadd, 1) := by decide +kernel
theorem dX5_signAt_44 : decode cX5_signAt 44 = .ok (.if_icmp .ne 36, 3) := by decide +kernel
theorem dX5_signAt_47 : decode cX5_signAt 47 = .ok (.aload_n 0, 1) := by decide +kernel
theorem dX5_signAt_48 : decode cX5_signAt 48 = .ok (.getfield 29, 3) := by decide +kernel
theorem dX5_signAt_51 : decode cX5_signAt 51 = .ok (.iload_n 2, 1) := by decide +kernel
theorem dX5_signAt_52 : decode cX5_signAt 52 = .ok (.iaload, 1) := by decide +kernel
theorem dX5_signAt_53 : decode cX5_signAt 53 = .ok (.iconst 2, 1) := by decide +kernel
theorem dX5_signAt_54 : decode cX5_signAt 54 = .ok (.if_icmp .ne 8, 3) := by decide +kernel
theorem dX5_signAt_57 : decode cX5_signAt 57 = .ok (.bipush 38, 2) := by decide +kernel
theorem dX5_signAt_59 : decode cX5_signAt 59 = .ok (.goto 20, 3) := by decide +kernel
theorem dX5_signAt_62 : decode cX5_signAt 62 = .ok (.aload_n 0, 1) := by decide +kernel
theorem dX5_signAt_63 : decode cX5_signAt 63 = .ok (.getfield 29, 3) := by decide +kernel
theorem dX5_signAt_66 : decode cX5_signAt 66 = .ok (.iload_n 2, 1) := by decide +kernel
theorem dX5_signAt_67 : decode cX5_signAt 67 = .ok (.iaload, 1) := by decide +kernel
theorem dX5_signAt_68 : decode cX5_signAt 68 = .ok (.iconst 3, 1) := by decide +kernel
theorem dX5_signAt_69 : decode cX5_signAt 69 = .ok (.if_icmp .ne 8, 3) := by decide +kernel
theorem dX5_signAt_72 : decode cX5_signAt 72 = .ok (.bipush 124, 2) := by decide +kernel
theorem dX5_signAt_74 : decode cX5_signAt 74 = .ok (.goto 5, 3) := by decide +kernel
theorem dX5_signAt_77 : decode cX5_signAt 77 = .ok (.bipush 62, 2) := by decide +kernel
theorem dX5_signAt_79 : decode cX5_signAt 79 = .ok (.ireturn, 1) := by decide +kernel
theorem dX5_signAt_80 : decode cX5_signAt 80 = .ok (.iload_n 3, 1) := by decide +kernel
theorem dX5_signAt_81 : decode cX5_signAt 81 = .ok (.aload_n 0, 1) := by decide +kernel
theorem dX5_signAt_82 : decode cX5_signAt 82 = .ok (.getfield 53, 3) := by decide +kernel
theorem dX5_signAt_85 : decode cX5_signAt 85 = .ok (.iload_n 2, 1) := by decide +kernel
theorem dX5_signAt_86 : decode cX5_signAt 86 = .ok (.iaload, 1) := by decide +kernel
theorem dX5_signAt_87 : decode cX5_signAt 87 = .ok (.iconst 1, 1) := by decide +kernel
theorem dX5_signAt_88 : decode cX5_signAt 88 = .ok (.isub, 1) := by decide +kernel
theorem dX5_signAt_89 : decode cX5_signAt 89 = .ok (.if_icmp .ne 6, 3) := by decide +kernel
theorem dX5_signAt_92 : decode cX5_signAt 92 = .ok (.bipush 41, 2) := by decide +kernel
theorem dX5_signAt_94 : decode cX5_signAt 94 = .ok (.ireturn, 1) := by decide +kernel
theorem dX5_signAt_95 : decode cX5_signAt 95 = .ok (.iload_n 3, 1) := by decide +kernel
theorem dX5_signAt_96 : decode cX5_signAt 96 = .ok (.iload 4, 2) := by decide +kernel
theorem dX5_signAt_98 : decode cX5_signAt 98 = .ok (.if_icmp .gt 7, 3) := by decide +kernel
theorem dX5_signAt_101 : decode cX5_signAt 101 = .ok (.iconst 1, 1) := by decide +kernel
theorem dX5_signAt_102 : decode cX5_signAt 102 = .ok (.goto 4, 3) := by decide +kernel
theorem dX5_signAt_105 : decode cX5_signAt 105 = .ok (.iconst 0, 1) := by decide +kernel
theorem dX5_signAt_106 : decode cX5_signAt 106 = .ok (.istore 5, 2) := by decide +kernel
theorem dX5_signAt_108 : decode cX5_signAt 108 = .ok (.iload 5, 2) := by decide +kernel
theorem dX5_signAt_110 : decode cX5_signAt 110 = .ok (.ifCond .eq 9, 3) := by decide +kernel
theorem dX5_signAt_113 : decode cX5_signAt 113 = .ok (.iload_n 3, 1) := by decide +kernel
theorem dX5_signAt_114 : decode cX5_signAt 114 = .ok (.iconst 1, 1) := by decide +kernel
theorem dX5_signAt_115 : decode cX5_signAt 115 = .ok (.isub, 1) := by decide +kernel
theorem dX5_signAt_116 : decode cX5_signAt 116 = .ok (.goto 9, 3) := by decide +kernel
theorem dX5_signAt_119 : decode cX5_signAt 119 = .ok (.iload_n 3, 1) := by decide +kernel
theorem dX5_signAt_120 : decode cX5_signAt 120 = .ok (.iload 4, 2) := by decide +kernel
theorem dX5_signAt_122 : decode cX5_signAt 122 = .ok (.isub, 1) := by decide +kernel
theorem dX5_signAt_123 : decode cX5_signAt 123 = .ok (.iconst 2, 1) := by decide +kernel
theorem dX5_signAt_124 : decode cX5_signAt 124 = .ok (.isub, 1) := by decide +kernel
theorem dX5_signAt_125 : decode cX5_signAt 125 = .ok (.istore_n 3, 1) := by decide +kernel
theorem dX5_signAt_126 : decode cX5_signAt 126 = .ok (.iload 5, 2) := by decide +kernel
theorem dX5_signAt_128 : decode cX5_signAt 128 = .ok (.ifCond .eq 12, 3) := by decide +kernel
theorem dX5_signAt_131 : decode cX5_signAt 131 = .ok (.aload_n 0, 1) := by decide +kernel
theorem dX5_signAt_132 : decode cX5_signAt 132 = .ok (.getfield 32, 3) := by decide +kernel
theorem dX5_signAt_135 : decode cX5_signAt 135 = .ok (.iload_n 2, 1) := by decide +kernel
theorem dX5_signAt_136 : decode cX5_signAt 136 = .ok (.iaload, 1) := by decide +kernel
theorem dX5_signAt_137 : decode cX5_signAt 137 = .ok (.goto 9, 3) := by decide +kernel
theorem dX5_signAt_140 : decode cX5_signAt 140 = .ok (.aload_n 0, 1) := by decide +kernel
theorem dX5_signAt_141 : decode cX5_signAt 141 = .ok (.getfield 35, 3) := by decide +kernel
theorem dX5_signAt_144 : decode cX5_signAt 144 = .ok (.iload_n 2, 1) := by decide +kernel
theorem dX5_signAt_145 : decode cX5_signAt 145 = .ok (.iaload, 1) := by decide +kernel
theorem dX5_signAt_146 : decode cX5_signAt 146 = .ok (.istore_n 2, 1) := by decide +kernel
theorem dX5_signAt_147 : decode cX5_signAt 147 = .ok (.goto (-138), 3) := by decide +kernel
theorem dX5_signAt_150 : decode cX5_signAt 150 = .ok (.aload_n 0, 1) := by decide +kernel
theorem dX5_signAt_151 : decode cX5_signAt 151 = .ok (.getfield 29, 3) := by decide +kernel
theorem dX5_signAt_154 : decode cX5_signAt 154 = .ok (.iload_n 2, 1) := by decide +kernel
theorem dX5_signAt_155 : decode cX5_signAt 155 = .ok (.iaload, 1) := by decide +kernel
theorem dX5_signAt_156 : decode cX5_signAt 156 = .ok (.iconst 1, 1) := by decide +kernel
theorem dX5_signAt_157 : decode cX5_signAt 157 = .ok (.if_icmp .ne 8, 3) := by decide +kernel
theorem dX5_signAt_160 : decode cX5_signAt 160 = .ok (.bipush 70, 2) := by decide +kernel
theorem dX5_signAt_162 : decode cX5_signAt 162 = .ok (.goto 12, 3) := by decide +kernel
theorem dX5_signAt_165 : decode cX5_signAt 165 = .ok (.bipush 112, 2) := by decide +kernel
theorem dX5_signAt_167 : decode cX5_signAt 167 = .ok (.aload_n 0, 1) := by decide +kernel
theorem dX5_signAt_168 : decode cX5_signAt 168 = .ok (.getfield 32, 3) := by decide +kernel
theorem dX5_signAt_171 : decode cX5_signAt 171 = .ok (.iload_n 2, 1) := by decide +kernel
theorem dX5_signAt_172 : decode cX5_signAt 172 = .ok (.iaload, 1) := by decide +kernel
theorem dX5_signAt_173 : decode cX5_signAt 173 = .ok (.iadd, 1) := by decide +kernel
theorem dX5_signAt_174 : decode cX5_signAt 174 = .ok (.ireturn, 1) := by decide +kernel
theorem dX5_sign_0 : decode cX5_sign 0 = .ok (.iload_n 1, 1) := by decide +kernel
theorem dX5_sign_1 : decode cX5_sign 1 = .ok (.invokestatic 106, 3) := by decide +kernel
theorem dX5_sign_4 : decode cX5_sign 4 = .ok (.ifCond .ne 5, 3) := by decide +kernel
theorem dX5_sign_7 : decode cX5_sign 7 = .ok (.iconst (-1), 1) := by decide +kernel
theorem dX5_sign_8 : decode cX5_sign 8 = .ok (.ireturn, 1) := by decide +kernel
theorem dX5_sign_9 : decode cX5_sign 9 = .ok (.iload_n 2, 1) := by decide +kernel
theorem dX5_sign_10 : decode cX5_sign 10 = .ok (.iconst (-1), 1) := by decide +kernel
theorem dX5_sign_11 : decode cX5_sign 11 = .ok (.if_icmp .ge 6, 3) := by decide +kernel
theorem dX5_sign_14 : decode cX5_sign 14 = .ok (.bipush (-2), 2) := by decide +kernel
theorem dX5_sign_16 : decode cX5_sign 16 = .ok (.ireturn, 1) := by decide +kernel
theorem dX5_sign_17 : decode cX5_sign 17 = .ok (.aload_n 0, 1) := by decide +kernel
theorem dX5_sign_18 : decode cX5_sign 18 = .ok (.iload_n 1, 1) := by decide +kernel
theorem dX5_sign_19 : decode cX5_sign 19 = .ok (.invokevirtual 120, 3) := by decide +kernel
theorem dX5_sign_22 : decode cX5_sign 22 = .ok (.ifCond .eq 6, 3) := by decide +kernel
theorem dX5_sign_25 : decode cX5_sign 25 = .ok (.bipush (-3), 2) := by decide +kernel
theorem dX5_sign_27 : decode cX5_sign 27 = .ok (.ireturn, 1) := by decide +kernel
theorem dX5_sign_28 : decode cX5_sign 28 = .ok (.aload_n 0, 1) := by decide +kernel
theorem dX5_sign_29 : decode cX5_sign 29 = .ok (.iload_n 1, 1) := by decide +kernel
theorem dX5_sign_30 : decode cX5_sign 30 = .ok (.invokevirtual 117, 3) := by decide +kernel
theorem dX5_sign_33 : decode cX5_sign 33 = .ok (.iconst 0, 1) := by decide +kernel
theorem dX5_sign_34 : decode cX5_sign 34 = .ok (.istore_n 3, 1) := by decide +kernel
theorem dX5_sign_35 : decode cX5_sign 35 = .ok (.iload_n 3, 1) := by decide +kernel
theorem dX5_sign_36 : decode cX5_sign 36 = .ok (.aload_n 0, 1) := by decide +kernel
theorem dX5_sign_37 : decode cX5_sign 37 = .ok (.getfield 73, 3) := by decide +kernel
theorem dX5_sign_40 : decode cX5_sign 40 = .ok (.if_icmp .ge 54, 3) := by decide +kernel
theorem dX5_sign_43 : decode cX5_sign 43 = .ok (.aload_n 0, 1) := by decide +kernel
theorem dX5_sign_44 : decode cX5_sign 44 = .ok (.getfield 53, 3) := by decide +kernel
theorem dX5_sign_47 : decode cX5_sign 47 = .ok (.iload_n 3, 1) := by decide +kernel
theorem dX5_sign_48 : decode cX5_sign 48 = .ok (.aload_n 0, 1) := by decide +kernel
theorem dX5_sign_49 : decode cX5_sign 49 = .ok (.getfield 29, 3) := by decide +kernel
theorem dX5_sign_52 : decode cX5_sign 52 = .ok (.iload_n 3, 1) := by decide +kernel
theorem dX5_sign_53 : decode cX5_sign 53 = .ok (.iaload, 1) := by decide +kernel
theorem dX5_sign_54 : decode cX5_sign 54 = .ok (.iconst 1, 1) := by decide +kernel
theorem dX5_sign_55 : decode cX5_sign 55 = .ok (.if_icmp .le 31, 3) := by decide +kernel
theorem dX5_sign_58 : decode cX5_sign 58 = .ok (.iconst 3, 1) := by decide +kernel
theorem dX5_sign_59 : decode cX5_sign 59 = .ok (.aload_n 0, 1) := by decide +kernel
theorem dX5_sign_60 : decode cX5_sign 60 = .ok (.getfield 53, 3) := by decide +kernel
theorem dX5_sign_63 : decode cX5_sign 63 = .ok (.aload_n 0, 1) := by decide +kernel
theorem dX5_sign_64 : decode cX5_sign 64 = .ok (.getfield 32, 3) := by decide +kernel
theorem dX5_sign_67 : decode cX5_sign 67 = .ok (.iload_n 3, 1) := by decide +kernel
theorem dX5_sign_68 : decode cX5_sign 68 = .ok (.iaload, 1) := by decide +kernel
theorem dX5_sign_69 : decode cX5_sign 69 = .ok (.iaload, 1) := by decide +kernel
theorem dX5_sign_70 : decode cX5_sign 70 = .ok (.iadd, 1) := by decide +kernel
theorem dX5_sign_71 : decode cX5_sign 71 = .ok (.aload_n 0, 1) := by decide +kernel
theorem dX5_sign_72 : decode cX5_sign 72 = .ok (.getfield 53, 3) := by decide +kernel
theorem dX5_sign_75 : decode cX5_sign 75 = .ok (.aload_n 0, 1) := by decide +kernel
theorem dX5_sign_76 : decode cX5_sign 76 = .ok (.getfield 35, 3) := by decide +kernel
theorem dX5_sign_79 : decode cX5_sign 79 = .ok (.iload_n 3, 1) := by decide +kernel
theorem dX5_sign_80 : decode cX5_sign 80 = .ok (.iaload, 1) := by decide +kernel
theorem dX5_sign_81 : decode cX5_sign 81 = .ok (.iaload, 1) := by decide +kernel
theorem dX5_sign_82 : decode cX5_sign 82 = .ok (.iadd, 1) := by decide +kernel
theorem dX5_sign_83 : decode cX5_sign 83 = .ok (.goto 4, 3) := by decide +kernel
theorem dX5_sign_86 : decode cX5_sign 86 = .ok (.iconst 1, 1) := by decide +kernel
theorem dX5_sign_87 : decode cX5_sign 87 = .ok (.iastore, 1) := by decide +kernel
theorem dX5_sign_88 : decode cX5_sign 88 = .ok (.iinc 3 1, 3) := by decide +kernel
theorem dX5_sign_91 : decode cX5_sign 91 = .ok (.goto (-56), 3) := by decide +kernel
theorem dX5_sign_94 : decode cX5_sign 94 = .ok (.iload_n 2, 1) := by decide +kernel
theorem dX5_sign_95 : decode cX5_sign 95 = .ok (.iconst (-1), 1) := by decide +kernel
theorem dX5_sign_96 : decode cX5_sign 96 = .ok (.if_icmp .ne 17, 3) := by decide +kernel
theorem dX5_sign_99 : decode cX5_sign 99 = .ok (.aload_n 0, 1) := by decide +kernel
theorem dX5_sign_100 : decode cX5_sign 100 = .ok (.getfield 53, 3) := by decide +kernel
theorem dX5_sign_103 : decode cX5_sign 103 = .ok (.aload_n 0, 1) := by decide +kernel
theorem dX5_sign_104 : decode cX5_sign 104 = .ok (.getfield 73, 3) := by decide +kernel
theorem dX5_sign_107 : decode cX5_sign 107 = .ok (.iconst 1, 1) := by decide +kernel
theorem dX5_sign_108 : decode cX5_sign 108 = .ok (.isub, 1) := by decide +kernel
theorem dX5_sign_109 : decode cX5_sign 109 = .ok (.iaload, 1) := by decide +kernel
theorem dX5_sign_110 : decode cX5_sign 110 = .ok (.goto 28, 3) := by decide +kernel
theorem dX5_sign_113 : decode cX5_sign 113 = .ok (.iload_n 2, 1) := by decide +kernel
theorem dX5_sign_114 : decode cX5_sign 114 = .ok (.aload_n 0, 1) := by decide +kernel
theorem dX5_sign_115 : decode cX5_sign 115 = .ok (.getfield 53, 3) := by decide +kernel
theorem dX5_sign_118 : decode cX5_sign 118 = .ok (.aload_n 0, 1) := by decide +kernel
theorem dX5_sign_119 : decode cX5_sign 119 = .ok (.getfield 73, 3) := by decide +kernel
theorem dX5_sign_122 : decode cX5_sign 122 = .ok (.iconst 1, 1) := by decide +kernel
theorem dX5_sign_123 : decode cX5_sign 123 = .ok (.isub, 1) := by decide +kernel
theorem dX5_sign_124 : decode cX5_sign 124 = .ok (.iaload, 1) := by decide +kernel
theorem dX5_sign_125 : decode cX5_sign 125 = .ok (.if_icmp .ge 11, 3) := by decide +kernel
theorem dX5_sign_128 : decode cX5_sign 128 = .ok (.aload_n 0, 1) := by decide +kernel
theorem dX5_sign_129 : decode cX5_sign 129 = .ok (.iload_n 2, 1) := by decide +kernel
theorem dX5_sign_130 : decode cX5_sign 130 = .ok (.invokevirtual 131, 3) := by decide +kernel
theorem dX5_sign_133 : decode cX5_sign 133 = .ok (.goto 5, 3) := by decide +kernel
theorem dX5_sign_136 : decode cX5_sign 136 = .ok (.bipush (-6), 2) := by decide +kernel
theorem dX5_sign_138 : decode cX5_sign 138 = .ok (.ireturn, 1) := by decide +kernel
theorem dX5_told_0 : decode cX5_told 0 = .ok (.iload_n 1, 1) := by decide +kernel
theorem dX5_told_1 : decode cX5_told 1 = .ok (.invokestatic 106, 3) := by decide +kernel
theorem dX5_told_4 : decode cX5_told 4 = .ok (.ifCond .ne 5, 3) := by decide +kernel
theorem dX5_told_7 : decode cX5_told 7 = .ok (.iconst (-1), 1) := by decide +kernel
theorem dX5_told_8 : decode cX5_told 8 = .ok (.ireturn, 1) := by decide +kernel
theorem dX5_told_9 : decode cX5_told 9 = .ok (.aload_n 0, 1) := by decide +kernel
theorem dX5_told_10 : decode cX5_told 10 = .ok (.iload_n 1, 1) := by decide +kernel
theorem dX5_told_11 : decode cX5_told 11 = .ok (.invokevirtual 120, 3) := by decide +kernel
theorem dX5_told_14 : decode cX5_told 14 = .ok (.ifCond .eq 6, 3) := by decide +kernel
theorem dX5_told_17 : decode cX5_told 17 = .ok (.bipush (-3), 2) := by decide +kernel
theorem dX5_told_19 : decode cX5_told 19 = .ok (.ireturn, 1) := by decide +kernel
theorem dX5_told_20 : decode cX5_told 20 = .ok (.iload_n 2, 1) := by decide +kernel
theorem dX5_told_21 : decode cX5_told 21 = .ok (.iconst 0, 1) := by decide +kernel
theorem dX5_told_22 : decode cX5_told 22 = .ok (.aload_n 0, 1) := by decide +kernel
theorem dX5_told_23 : decode cX5_told 23 = .ok (.getfield 7, 3) := by decide +kernel
theorem dX5_told_26 : decode cX5_told 26 = .ok (.iload_n 1, 1) := by decide +kernel
theorem dX5_told_27 : decode cX5_told 27 = .ok (.iaload, 1) := by decide +kernel
theorem dX5_told_28 : decode cX5_told 28 = .ok (.iconst 1, 1) := by decide +kernel
theorem dX5_told_29 : decode cX5_told 29 = .ok (.isub, 1) := by decide +kernel
theorem dX5_told_30 : decode cX5_told 30 = .ok (.invokestatic 69, 3) := by decide +kernel
theorem dX5_told_33 : decode cX5_told 33 = .ok (.ifCond .eq 12, 3) := by decide +kernel
theorem dX5_told_36 : decode cX5_told 36 = .ok (.iload_n 3, 1) := by decide +kernel
theorem dX5_told_37 : decode cX5_told 37 = .ok (.iconst 0, 1) := by decide +kernel
theorem dX5_told_38 : decode cX5_told 38 = .ok (.iconst 2, 1) := by decide +kernel
theorem dX5_told_39 : decode cX5_told 39 = .ok (.invokestatic 69, 3) := by decide +kernel
theorem dX5_told_42 : decode cX5_told 42 = .ok (.ifCond .ne 6, 3) := by decide +kernel
theorem dX5_told_45 : decode cX5_told 45 = .ok (.bipush (-2), 2) := by decide +kernel
theorem dX5_told_47 : decode cX5_told 47 = .ok (.ireturn, 1) := by decide +kernel
theorem dX5_told_48 : decode cX5_told 48 = .ok (.bipush 11, 2) := by decide +kernel
theorem dX5_told_50 : decode cX5_told 50 = .ok (.iload_n 1, 1) := by decide +kernel
theorem dX5_told_51 : decode cX5_told 51 = .ok (.imul, 1) := by decide +kernel
theorem dX5_told_52 : decode cX5_told 52 = .ok (.iload_n 2, 1) := by decide +kernel
theorem dX5_told_53 : decode cX5_told 53 = .ok (.iadd, 1) := by decide +kernel
theorem dX5_told_54 : decode cX5_told 54 = .ok (.istore 4, 2) := by decide +kernel
theorem dX5_told_56 : decode cX5_told 56 = .ok (.iload_n 3, 1) := by decide +kernel
theorem dX5_told_57 : decode cX5_told 57 = .ok (.ifCond .ne 13, 3) := by decide +kernel
theorem dX5_told_60 : decode cX5_told 60 = .ok (.aload_n 0, 1) := by decide +kernel
theorem dX5_told_61 : decode cX5_told 61 = .ok (.getfield 13, 3) := by decide +kernel
theorem dX5_told_64 : decode cX5_told 64 = .ok (.iload 4, 2) := by decide +kernel
theorem dX5_told_66 : decode cX5_told 66 = .ok (.iaload, 1) := by decide +kernel
theorem dX5_told_67 : decode cX5_told 67 = .ok (.goto 25, 3) := by decide +kernel
theorem dX5_told_70 : decode cX5_told 70 = .ok (.iload_n 3, 1) := by decide +kernel
theorem dX5_told_71 : decode cX5_told 71 = .ok (.iconst 1, 1) := by decide +kernel
theorem dX5_told_72 : decode cX5_told 72 = .ok (.if_icmp .ne 13, 3) := by decide +kernel
theorem dX5_told_75 : decode cX5_told 75 = .ok (.aload_n 0, 1) := by decide +kernel
theorem dX5_told_76 : decode cX5_told 76 = .ok (.getfield 16, 3) := by decide +kernel
theorem dX5_told_79 : decode cX5_told 79 = .ok (.iload 4, 2) := by decide +kernel
theorem dX5_told_81 : decode cX5_told 81 = .ok (.iaload, 1) := by decide +kernel
theorem dX5_told_82 : decode cX5_told 82 = .ok (.goto 10, 3) := by decide +kernel
theorem dX5_told_85 : decode cX5_told 85 = .ok (.aload_n 0, 1) := by decide +kernel
theorem dX5_told_86 : decode cX5_told 86 = .ok (.getfield 19, 3) := by decide +kernel
theorem dX5_told_89 : decode cX5_told 89 = .ok (.iload 4, 2) := by decide +kernel
theorem dX5_told_91 : decode cX5_told 91 = .ok (.iaload, 1) := by decide +kernel
theorem dX5_told_92 : decode cX5_told 92 = .ok (.ireturn, 1) := by decide +kernel
theorem dX5_drop_0 : decode cX5_drop 0 = .ok (.iload_n 1, 1) := by decide +kernel
theorem dX5_drop_1 : decode cX5_drop 1 = .ok (.invokestatic 106, 3) := by decide +kernel
theorem dX5_drop_4 : decode cX5_drop 4 = .ok (.ifCond .ne 5, 3) := by decide +kernel
theorem dX5_drop_7 : decode cX5_drop 7 = .ok (.iconst (-1), 1) := by decide +kernel
theorem dX5_drop_8 : decode cX5_drop 8 = .ok (.ireturn, 1) := by decide +kernel
theorem dX5_drop_9 : decode cX5_drop 9 = .ok (.aload_n 0, 1) := by decide +kernel
theorem dX5_drop_10 : decode cX5_drop 10 = .ok (.iload_n 1, 1) := by decide +kernel
theorem dX5_drop_11 : decode cX5_drop 11 = .ok (.invokevirtual 120, 3) := by decide +kernel
theorem dX5_drop_14 : decode cX5_drop 14 = .ok (.ifCond .eq 7, 3) := by decide +kernel
theorem dX5_drop_17 : decode cX5_drop 17 = .ok (.iconst 0, 1) := by decide +kernel
theorem dX5_drop_18 : decode cX5_drop 18 = .ok (.goto 4, 3) := by decide +kernel
theorem dX5_drop_21 : decode cX5_drop 21 = .ok (.iconst 1, 1) := by decide +kernel
theorem dX5_drop_22 : decode cX5_drop 22 = .ok (.istore_n 2, 1) := by decide +kernel
theorem dX5_drop_23 : decode cX5_drop 23 = .ok (.aload_n 0, 1) := by decide +kernel
theorem dX5_drop_24 : decode cX5_drop 24 = .ok (.getfield 7, 3) := by decide +kernel
theorem dX5_drop_27 : decode cX5_drop 27 = .ok (.iload_n 1, 1) := by decide +kernel
theorem dX5_drop_28 : decode cX5_drop 28 = .ok (.iconst 0, 1) := by decide +kernel
theorem dX5_drop_29 : decode cX5_drop 29 = .ok (.iastore, 1) := by decide +kernel
theorem dX5_drop_30 : decode cX5_drop 30 = .ok (.iload_n 2, 1) := by decide +kernel
theorem dX5_drop_31 : decode cX5_drop 31 = .ok (.ireturn, 1) := by decide +kernel
theorem dX5_isClosed_0 : decode cX5_isClosed 0 = .ok (.iconst 1, 1) := by decide +kernel
theorem dX5_isClosed_1 : decode cX5_isClosed 1 = .ok (.istore_n 2, 1) := by decide +kernel
theorem dX5_isClosed_2 : decode cX5_isClosed 2 = .ok (.iconst 0, 1) := by decide +kernel
theorem dX5_isClosed_3 : decode cX5_isClosed 3 = .ok (.istore_n 3, 1) := by decide +kernel
theorem dX5_isClosed_4 : decode cX5_isClosed 4 = .ok (.iload_n 3, 1) := by decide +kernel
theorem dX5_isClosed_5 : decode cX5_isClosed 5 = .ok (.aload_n 0, 1) := by decide +kernel
theorem dX5_isClosed_6 : decode cX5_isClosed 6 = .ok (.getfield 73, 3) := by decide +kernel
theorem dX5_isClosed_9 : decode cX5_isClosed 9 = .ok (.if_icmp .ge 173, 3) := by decide +kernel
theorem dX5_isClosed_12 : decode cX5_isClosed 12 = .ok (.iload_n 1, 1) := by decide +kernel
theorem dX5_isClosed_13 : decode cX5_isClosed 13 = .ok (.iload_n 3, 1) := by decide +kernel
theorem dX5_isClosed_14 : decode cX5_isClosed 14 = .ok (.invokestatic 134, 3) := by decide +kernel
theorem dX5_isClosed_17 : decode cX5_isClosed 17 = .ok (.istore 4, 2) := by decide +kernel
theorem dX5_isClosed_19 : decode cX5_isClosed 19 = .ok (.aload_n 0, 1) := by decide +kernel
theorem dX5_isClosed_20 : decode cX5_isClosed 20 = .ok (.getfield 29, 3) := by decide +kernel
theorem dX5_isClosed_23 : decode cX5_isClosed 23 = .ok (.iload_n 3, 1) := by decide +kernel
theorem dX5_isClosed_24 : decode cX5_isClosed 24 = .ok (.iaload, 1) := by decide +kernel
theorem dX5_isClosed_25 : decode cX5_isClosed 25 = .ok (.iconst 1, 1) := by decide +kernel
theorem dX5_isClosed_26 : decode cX5_isClosed 26 = .ok (.if_icmp .ne 21, 3) := by decide +kernel
theorem dX5_isClosed_29 : decode cX5_isClosed 29 = .ok (.iload_n 2, 1) := by decide +kernel
theorem dX5_isClosed_30 : decode cX5_isClosed 30 = .ok (.ifCond .eq 12, 3) := by decide +kernel
theorem dX5_isClosed_33 : decode cX5_isClosed 33 = .ok (.iload 4, 2) := by decide +kernel
theorem dX5_isClosed_35 : decode cX5_isClosed 35 = .ok (.ifCond .ne 7, 3) := by decide +kernel
theorem dX5_isClosed_38 : decode cX5_isClosed 38 = .ok (.iconst 1, 1) := by decide +kernel
theorem dX5_isClosed_39 : decode cX5_isClosed 39 = .ok (.goto 4, 3) := by decide +kernel
theorem dX5_isClosed_42 : decode cX5_isClosed 42 = .ok (.iconst 0, 1) := by decide +kernel
theorem dX5_isClosed_43 : decode cX5_isClosed 43 = .ok (.istore_n 2, 1) := by decide +kernel
theorem dX5_isClosed_44 : decode cX5_isClosed 44 = .ok (.goto 132, 3) := by decide +kernel
theorem dX5_isClosed_47 : decode cX5_isClosed 47 = .ok (.aload_n 0, 1) := by decide +kernel
theorem dX5_isClosed_48 : decode cX5_isClosed 48 = .ok (.getfield 29, 3) := by decide +kernel
theorem dX5_isClosed_51 : decode cX5_isClosed 51 = .ok (.iload_n 3, 1) := by decide +kernel
theorem dX5_isClosed_52 : decode cX5_isClosed 52 = .ok (.iaload, 1) := by decide +kernel
theorem dX5_isClosed_53 : decode cX5_isClosed 53 = .ok (.iconst 1, 1) := by decide +kernel
theorem dX5_isClosed_54 : decode cX5_isClosed 54 = .ok (.if_icmp .le 122, 3) := by decide +kernel
theorem dX5_isClosed_57 : decode cX5_isClosed 57 = .ok (.iload_n 1, 1) := by decide +kernel
theorem dX5_isClosed_58 : decode cX5_isClosed 58 = .ok (.aload_n 0, 1) := by decide +kernel
theorem dX5_isClosed_59 : decode cX5_isClosed 59 = .ok (.getfield 32, 3) := by decide +kernel
theorem dX5_isClosed_62 : decode cX5_isClosed 62 = .ok (.iload_n 3, 1) := by decide +kernel
theorem dX5_isClosed_63 : decode cX5_isClosed 63 = .ok (.iaload, 1) := by decide +kernel
theorem dX5_isClosed_64 : decode cX5_isClosed 64 = .ok (.invokestatic 134, 3) := by decide +kernel
theorem dX5_isClosed_67 : decode cX5_isClosed 67 = .ok (.istore 5, 2) := by decide +kernel
theorem dX5_isClosed_69 : decode cX5_isClosed 69 = .ok (.iload_n 1, 1) := by decide +kernel
theorem dX5_isClosed_70 : decode cX5_isClosed 70 = .ok (.aload_n 0, 1) := by decide +kernel
theorem dX5_isClosed_71 : decode cX5_isClosed 71 = .ok (.getfield 35, 3) := by decide +kernel
theorem dX5_isClosed_74 : decode cX5_isClosed 74 = .ok (.iload_n 3, 1) := by decide +kernel
theorem dX5_isClosed_75 : decode cX5_isClosed 75 = .ok (.iaload, 1) := by decide +kernel
theorem dX5_isClosed_76 : decode cX5_isClosed 76 = .ok (.invokestatic 134, 3) := by decide +kernel
theorem dX5_isClosed_79 : decode cX5_isClosed 79 = .ok (.istore 6, 2) := by decide +kernel
theorem dX5_isClosed_81 : decode cX5_isClosed 81 = .ok (.aload_n 0, 1) := by decide +kernel
theorem dX5_isClosed_82 : decode cX5_isClosed 82 = .ok (.getfield 29, 3) := by decide +kernel
theorem dX5_isClosed_85 : decode cX5_isClosed 85 = .ok (.iload_n 3, 1) := by decide +kernel
theorem dX5_isClosed_86 : decode cX5_isClosed 86 = .ok (.iaload, 1) := by decide +kernel
theorem dX5_isClosed_87 : decode cX5_isClosed 87 = .ok (.iconst 2, 1) := by decide +kernel
theorem dX5_isClosed_88 : decode cX5_isClosed 88 = .ok (.if_icmp .ne 21, 3) := by decide +kernel
theorem dX5_isClosed_91 : decode cX5_isClosed 91 = .ok (.iload 5, 2) := by decide +kernel
theorem dX5_isClosed_93 : decode cX5_isClosed 93 = .ok (.ifCond .eq 12, 3) := by decide +kernel
theorem dX5_isClosed_96 : decode cX5_isClosed 96 = .ok (.iload 6, 2) := by decide +kernel
theorem dX5_isClosed_98 : decode cX5_isClosed 98 = .ok (.ifCond .eq 7, 3) := by decide +kernel
theorem dX5_isClosed_101 : decode cX5_isClosed 101 = .ok (.iconst 1, 1) := by decide +kernel
theorem dX5_isClosed_102 : decode cX5_isClosed 102 = .ok (.goto 55, 3) := by decide +kernel
theorem dX5_isClosed_105 : decode cX5_isClosed 105 = .ok (.iconst 0, 1) := by decide +kernel
theorem dX5_isClosed_106 : decode cX5_isClosed 106 = .ok (.goto 51, 3) := by decide +kernel
theorem dX5_isClosed_109 : decode cX5_isClosed 109 = .ok (.aload_n 0, 1) := by decide +kernel
theorem dX5_isClosed_110 : decode cX5_isClosed 110 = .ok (.getfield 29, 3) := by decide +kernel
theorem dX5_isClosed_113 : decode cX5_isClosed 113 = .ok (.iload_n 3, 1) := by decide +kernel
theorem dX5_isClosed_114 : decode cX5_isClosed 114 = .ok (.iaload, 1) := by decide +kernel
theorem dX5_isClosed_115 : decode cX5_isClosed 115 = .ok (.iconst 3, 1) := by decide +kernel
theorem dX5_isClosed_116 : decode cX5_isClosed 116 = .ok (.if_icmp .ne 21, 3) := by decide +kernel
theorem dX5_isClosed_119 : decode cX5_isClosed 119 = .ok (.iload 5, 2) := by decide +kernel
theorem dX5_isClosed_121 : decode cX5_isClosed 121 = .ok (.ifCond .ne 8, 3) := by decide +kernel
theorem dX5_isClosed_124 : decode cX5_isClosed 124 = .ok (.iload 6, 2) := by decide +kernel
theorem dX5_isClosed_126 : decode cX5_isClosed 126 = .ok (.ifCond .eq 7, 3) := by decide +kernel
theorem dX5_isClosed_129 : decode cX5_isClosed 129 = .ok (.iconst 1, 1) := by decide +kernel
theorem dX5_isClosed_130 : decode cX5_isClosed 130 = .ok (.goto 27, 3) := by decide +kernel
theorem dX5_isClosed_133 : decode cX5_isClosed 133 = .ok (.iconst 0, 1) := by decide +kernel
theorem dX5_isClosed_134 : decode cX5_isClosed 134 = .ok (.goto 23, 3) := by decide +kernel
theorem dX5_isClosed_137 : decode cX5_isClosed 137 = .ok (.iload 6, 2) := by decide +kernel
theorem dX5_isClosed_139 : decode cX5_isClosed 139 = .ok (.ifCond .ne 13, 3) := by decide +kernel
theorem dX5_isClosed_142 : decode cX5_isClosed 142 = .ok (.iload 4, 2) := by decide +kernel
theorem dX5_isClosed_144 : decode cX5_isClosed 144 = .ok (.ifCond .eq 12, 3) := by decide +kernel
theorem dX5_isClosed_147 : decode cX5_isClosed 147 = .ok (.iload 5, 2) := by decide +kernel
theorem dX5_isClosed_149 : decode cX5_isClosed 149 = .ok (.ifCond .ne 7, 3) := by decide +kernel
theorem dX5_isClosed_152 : decode cX5_isClosed 152 = .ok (.iconst 1, 1) := by decide +kernel
theorem dX5_isClosed_153 : decode cX5_isClosed 153 = .ok (.goto 4, 3) := by decide +kernel
theorem dX5_isClosed_156 : decode cX5_isClosed 156 = .ok (.iconst 0, 1) := by decide +kernel
theorem dX5_isClosed_157 : decode cX5_isClosed 157 = .ok (.istore 7, 2) := by decide +kernel
theorem dX5_isClosed_159 : decode cX5_isClosed 159 = .ok (.iload_n 2, 1) := by decide +kernel
theorem dX5_isClosed_160 : decode cX5_isClosed 160 = .ok (.ifCond .eq 14, 3) := by decide +kernel
theorem dX5_isClosed_163 : decode cX5_isClosed 163 = .ok (.iload 4, 2) := by decide +kernel
theorem dX5_isClosed_165 : decode cX5_isClosed 165 = .ok (.iload 7, 2) := by decide +kernel
theorem dX5_isClosed_167 : decode cX5_isClosed 167 = .ok (.if_icmp .ne 7, 3) := by decide +kernel
theorem dX5_isClosed_170 : decode cX5_isClosed 170 = .ok (.iconst 1, 1) := by decide +kernel
theorem dX5_isClosed_171 : decode cX5_isClosed 171 = .ok (.goto 4, 3) := by decide +kernel
theorem dX5_isClosed_174 : decode cX5_isClosed 174 = .ok (.iconst 0, 1) := by decide +kernel
theorem dX5_isClosed_175 : decode cX5_isClosed 175 = .ok (.istore_n 2, 1) := by decide +kernel
theorem dX5_isClosed_176 : decode cX5_isClosed 176 = .ok (.iinc 3 1, 3) := by decide +kernel
theorem dX5_isClosed_179 : decode cX5_isClosed 179 = .ok (.goto (-175), 3) := by decide +kernel
theorem dX5_isClosed_182 : decode cX5_isClosed 182 = .ok (.iload_n 2, 1) := by decide +kernel
theorem dX5_isClosed_183 : decode cX5_isClosed 183 = .ok (.ireturn, 1) := by decide +kernel
theorem dX5_isNeeded_0 : decode cX5_isNeeded 0 = .ok (.iconst 0, 1) := by decide +kernel
theorem dX5_isNeeded_1 : decode cX5_isNeeded 1 = .ok (.istore_n 2, 1) := by decide +kernel
theorem dX5_isNeeded_2 : decode cX5_isNeeded 2 = .ok (.iload_n 2, 1) := by decide +kernel
theorem dX5_isNeeded_3 : decode cX5_isNeeded 3 = .ok (.aload_n 0, 1) := by decide +kernel
theorem dX5_isNeeded_4 : decode cX5_isNeeded 4 = .ok (.getfield 73, 3) := by decide +kernel
theorem dX5_isNeeded_7 : decode cX5_isNeeded 7 = .ok (.if_icmp .ge 125, 3) := by decide +kernel
theorem dX5_isNeeded_10 : decode cX5_isNeeded 10 = .ok (.aload_n 0, 1) := by decide +kernel
theorem dX5_isNeeded_11 : decode cX5_isNeeded 11 = .ok (.getfield 29, 3) := by decide +kernel
theorem dX5_isNeeded_14 : decode cX5_isNeeded 14 = .ok (.iload_n 2, 1) := by decide +kernel
theorem dX5_isNeeded_15 : decode cX5_isNeeded 15 = .ok (.iaload, 1) := by decide +kernel
theorem dX5_isNeeded_16 : decode cX5_isNeeded 16 = .ok (.iconst 4, 1) := by decide +kernel
theorem dX5_isNeeded_17 : decode cX5_isNeeded 17 = .ok (.if_icmp .ne 109, 3) := by decide +kernel
theorem dX5_isNeeded_20 : decode cX5_isNeeded 20 = .ok (.iload_n 1, 1) := by decide +kernel
theorem dX5_isNeeded_21 : decode cX5_isNeeded 21 = .ok (.iload_n 2, 1) := by decide +kernel
theorem dX5_isNeeded_22 : decode cX5_isNeeded 22 = .ok (.invokestatic 134, 3) := by decide +kernel
theorem dX5_isNeeded_25 : decode cX5_isNeeded 25 = .ok (.ifCond .ne 101, 3) := by decide +kernel
theorem dX5_isNeeded_28 : decode cX5_isNeeded 28 = .ok (.iconst 0, 1) := by decide +kernel
theorem dX5_isNeeded_29 : decode cX5_isNeeded 29 = .ok (.istore_n 3, 1) := by decide +kernel
theorem dX5_isNeeded_30 : decode cX5_isNeeded 30 = .ok (.iconst 0, 1) := by decide +kernel
theorem dX5_isNeeded_31 : decode cX5_isNeeded 31 = .ok (.istore 4, 2) := by decide +kernel
theorem dX5_isNeeded_33 : decode cX5_isNeeded 33 = .ok (.iload 4, 2) := by decide +kernel
theorem dX5_isNeeded_35 : decode cX5_isNeeded 35 = .ok (.aload_n 0, 1) := by decide +kernel
theorem dX5_isNeeded_36 : decode cX5_isNeeded 36 = .ok (.getfield 138, 3) := by decide +kernel
theorem dX5_isNeeded_39 : decode cX5_isNeeded 39 = .ok (.if_icmp .ge 81, 3) := by decide +kernel
theorem dX5_isNeeded_42 : decode cX5_isNeeded 42 = .ok (.iload_n 3, 1) := by decide +kernel
theorem dX5_isNeeded_43 : decode cX5_isNeeded 43 = .ok (.ifCond .ne 77, 3) := by decide +kernel
theorem dX5_isNeeded_46 : decode cX5_isNeeded 46 = .ok (.aload_n 0, 1) := by decide +kernel
theorem dX5_isNeeded_47 : decode cX5_isNeeded 47 = .ok (.getfield 59, 3) := by decide +kernel
theorem dX5_isNeeded_50 : decode cX5_isNeeded 50 = .ok (.iload 4, 2) := by decide +kernel
theorem dX5_isNeeded_52 : decode cX5_isNeeded 52 = .ok (.baload, 1) := by decide +kernel
theorem dX5_isNeeded_53 : decode cX5_isNeeded 53 = .ok (.ifCond .ne 59, 3) := by decide +kernel
theorem dX5_isNeeded_56 : decode cX5_isNeeded 56 = .ok (.iload_n 1, 1) := by decide +kernel
theorem dX5_isNeeded_57 : decode cX5_isNeeded 57 = .ok (.aload_n 0, 1) := by decide +kernel
theorem dX5_isNeeded_58 : decode cX5_isNeeded 58 = .ok (.getfield 56, 3) := by decide +kernel
theorem dX5_isNeeded_61 : decode cX5_isNeeded 61 = .ok (.iload 4, 2) := by decide +kernel
theorem dX5_isNeeded_63 : decode cX5_isNeeded 63 = .ok (.iaload, 1) := by decide +kernel
theorem dX5_isNeeded_64 : decode cX5_isNeeded 64 = .ok (.iconst (-1), 1) := by decide +kernel
theorem dX5_isNeeded_65 : decode cX5_isNeeded 65 = .ok (.ixor, 1) := by decide +kernel
theorem dX5_isNeeded_66 : decode cX5_isNeeded 66 = .ok (.iand, 1) := by decide +kernel
theorem dX5_isNeeded_67 : decode cX5_isNeeded 67 = .ok (.ifCond .ne 45, 3) := by decide +kernel
theorem dX5_isNeeded_70 : decode cX5_isNeeded 70 = .ok (.aload_n 0, 1) := by decide +kernel
theorem dX5_isNeeded_71 : decode cX5_isNeeded 71 = .ok (.getfield 56, 3) := by decide +kernel
theorem dX5_isNeeded_74 : decode cX5_isNeeded 74 = .ok (.iload 4, 2) := by decide +kernel
theorem dX5_isNeeded_76 : decode cX5_isNeeded 76 = .ok (.iaload, 1) := by decide +kernel
theorem dX5_isNeeded_77 : decode cX5_isNeeded 77 = .ok (.aload_n 0, 1) := by decide +kernel
theorem dX5_isNeeded_78 : decode cX5_isNeeded 78 = .ok (.getfield 32, 3) := by decide +kernel
theorem dX5_isNeeded_81 : decode cX5_isNeeded 81 = .ok (.iload_n 2, 1) := by decide +kernel
theorem dX5_isNeeded_82 : decode cX5_isNeeded 82 = .ok (.iaload, 1) := by decide +kernel
theorem dX5_isNeeded_83 : decode cX5_isNeeded 83 = .ok (.invokestatic 134, 3) := by decide +kernel
theorem dX5_isNeeded_86 : decode cX5_isNeeded 86 = .ok (.ifCond .eq 26, 3) := by decide +kernel
theorem dX5_isNeeded_89 : decode cX5_isNeeded 89 = .ok (.aload_n 0, 1) := by decide +kernel
theorem dX5_isNeeded_90 : decode cX5_isNeeded 90 = .ok (.getfield 56, 3) := by decide +kernel
theorem dX5_isNeeded_93 : decode cX5_isNeeded 93 = .ok (.iload 4, 2) := by decide +kernel
theorem dX5_isNeeded_95 : decode cX5_isNeeded 95 = .ok (.iaload, 1) := by decide +kernel
theorem dX5_isNeeded_96 : decode cX5_isNeeded 96 = .ok (.aload_n 0, 1) := by decide +kernel
theorem dX5_isNeeded_97 : decode cX5_isNeeded 97 = .ok (.getfield 35, 3) := by decide +kernel
theorem dX5_isNeeded_100 : decode cX5_isNeeded 100 = .ok (.iload_n 2, 1) := by decide +kernel
theorem dX5_isNeeded_101 : decode cX5_isNeeded 101 = .ok (.iaload, 1) := by decide +kernel
theorem dX5_isNeeded_102 : decode cX5_isNeeded 102 = .ok (.invokestatic 134, 3) := by decide +kernel
theorem dX5_isNeeded_105 : decode cX5_isNeeded 105 = .ok (.ifCond .ne 7, 3) := by decide +kernel
theorem dX5_isNeeded_108 : decode cX5_isNeeded 108 = .ok (.iconst 1, 1) := by decide +kernel
theorem dX5_isNeeded_109 : decode cX5_isNeeded 109 = .ok (.goto 4, 3) := by decide +kernel
theorem dX5_isNeeded_112 : decode cX5_isNeeded 112 = .ok (.iconst 0, 1) := by decide +kernel
theorem dX5_isNeeded_113 : decode cX5_isNeeded 113 = .ok (.istore_n 3, 1) := by decide +kernel
theorem dX5_isNeeded_114 : decode cX5_isNeeded 114 = .ok (.iinc 4 1, 3) := by decide +kernel
theorem dX5_isNeeded_117 : decode cX5_isNeeded 117 = .ok (.goto (-84), 3) := by decide +kernel
theorem dX5_isNeeded_120 : decode cX5_isNeeded 120 = .ok (.iload_n 3, 1) := by decide +kernel
theorem dX5_isNeeded_121 : decode cX5_isNeeded 121 = .ok (.ifCond .ne 5, 3) := by decide +kernel
theorem dX5_isNeeded_124 : decode cX5_isNeeded 124 = .ok (.iconst 0, 1) := by decide +kernel
theorem dX5_isNeeded_125 : decode cX5_isNeeded 125 = .ok (.ireturn, 1) := by decide +kernel
theorem dX5_isNeeded_126 : decode cX5_isNeeded 126 = .ok (.iinc 2 1, 3) := by decide +kernel
theorem dX5_isNeeded_129 : decode cX5_isNeeded 129 = .ok (.goto (-127), 3) := by decide +kernel
theorem dX5_isNeeded_132 : decode cX5_isNeeded 132 = .ok (.iconst 1, 1) := by decide +kernel
theorem dX5_isNeeded_133 : decode cX5_isNeeded 133 = .ok (.ireturn, 1) := by decide +kernel
theorem dX5_layWorlds_0 : decode cX5_layWorlds 0 = .ok (.aload_n 0, 1) := by decide +kernel
theorem dX5_layWorlds_1 : decode cX5_layWorlds 1 = .ok (.iconst 0, 1) := by decide +kernel
theorem dX5_layWorlds_2 : decode cX5_layWorlds 2 = .ok (.putfield 138, 3) := by decide +kernel
theorem dX5_layWorlds_5 : decode cX5_layWorlds 5 = .ok (.iconst 0, 1) := by decide +kernel
theorem dX5_layWorlds_6 : decode cX5_layWorlds 6 = .ok (.istore_n 1, 1) := by decide +kernel
theorem dX5_layWorlds_7 : decode cX5_layWorlds 7 = .ok (.iload_n 1, 1) := by decide +kernel
theorem dX5_layWorlds_8 : decode cX5_layWorlds 8 = .ok (.iconst 1, 1) := by decide +kernel
theorem dX5_layWorlds_9 : decode cX5_layWorlds 9 = .ok (.aload_n 0, 1) := by decide +kernel
theorem dX5_layWorlds_10 : decode cX5_layWorlds 10 = .ok (.getfield 73, 3) := by decide +kernel
theorem dX5_layWorlds_13 : decode cX5_layWorlds 13 = .ok (.ishl, 1) := by decide +kernel
theorem dX5_layWorlds_14 : decode cX5_layWorlds 14 = .ok (.if_icmp .ge 47, 3) := by decide +kernel
theorem dX5_layWorlds_17 : decode cX5_layWorlds 17 = .ok (.aload_n 0, 1) := by decide +kernel
theorem dX5_layWorlds_18 : decode cX5_layWorlds 18 = .ok (.iload_n 1, 1) := by decide +kernel
theorem dX5_layWorlds_19 : decode cX5_layWorlds 19 = .ok (.invokevirtual 141, 3) := by decide +kernel
theorem dX5_layWorlds_22 : decode cX5_layWorlds 22 = .ok (.ifCond .eq 33, 3) := by decide +kernel
theorem dX5_layWorlds_25 : decode cX5_layWorlds 25 = .ok (.aload_n 0, 1) := by decide +kernel
theorem dX5_layWorlds_26 : decode cX5_layWorlds 26 = .ok (.getfield 56, 3) := by decide +kernel
theorem dX5_layWorlds_29 : decode cX5_layWorlds 29 = .ok (.aload_n 0, 1) := by decide +kernel
theorem dX5_layWorlds_30 : decode cX5_layWorlds 30 = .ok (.getfield 138, 3) := by decide +kernel
theorem dX5_layWorlds_33 : decode cX5_layWorlds 33 = .ok (.iload_n 1, 1) := by decide +kernel
theorem dX5_layWorlds_34 : decode cX5_layWorlds 34 = .ok (.iastore, 1) := by decide +kernel
theorem dX5_layWorlds_35 : decode cX5_layWorlds 35 = .ok (.aload_n 0, 1) := by decide +kernel
theorem dX5_layWorlds_36 : decode cX5_layWorlds 36 = .ok (.getfield 59, 3) := by decide +kernel
theorem dX5_layWorlds_39 : decode cX5_layWorlds 39 = .ok (.aload_n 0, 1) := by decide +kernel
theorem dX5_layWorlds_40 : decode cX5_layWorlds 40 = .ok (.getfield 138, 3) := by decide +kernel
theorem dX5_layWorlds_43 : decode cX5_layWorlds 43 = .ok (.iconst 0, 1) := by decide +kernel
theorem dX5_layWorlds_44 : decode cX5_layWorlds 44 = .ok (.bastore, 1) := by decide +kernel
theorem dX5_layWorlds_45 : decode cX5_layWorlds 45 = .ok (.aload_n 0, 1) := by decide +kernel
theorem dX5_layWorlds_46 : decode cX5_layWorlds 46 = .ok (.dup, 1) := by decide +kernel
theorem dX5_layWorlds_47 : decode cX5_layWorlds 47 = .ok (.getfield 138, 3) := by decide +kernel
theorem dX5_layWorlds_50 : decode cX5_layWorlds 50 = .ok (.iconst 1, 1) := by decide +kernel
theorem dX5_layWorlds_51 : decode cX5_layWorlds 51 = .ok (.iadd, 1) := by decide +kernel
theorem dX5_layWorlds_52 : decode cX5_layWorlds 52 = .ok (.putfield 138, 3) := by decide +kernel
theorem dX5_layWorlds_55 : decode cX5_layWorlds 55 = .ok (.iinc 1 1, 3) := by decide +kernel
theorem dX5_layWorlds_58 : decode cX5_layWorlds 58 = .ok (.goto (-51), 3) := by decide +kernel
theorem dX5_layWorlds_61 : decode cX5_layWorlds 61 = .ok (.iconst 1, 1) := by decide +kernel
theorem dX5_layWorlds_62 : decode cX5_layWorlds 62 = .ok (.istore_n 1, 1) := by decide +kernel
theorem dX5_layWorlds_63 : decode cX5_layWorlds 63 = .ok (.iload_n 1, 1) := by decide +kernel
theorem dX5_layWorlds_64 : decode cX5_layWorlds 64 = .ok (.ifCond .eq 55, 3) := by decide +kernel
theorem dX5_layWorlds_67 : decode cX5_layWorlds 67 = .ok (.iconst 0, 1) := by decide +kernel
theorem dX5_layWorlds_68 : decode cX5_layWorlds 68 = .ok (.istore_n 1, 1) := by decide +kernel
theorem dX5_layWorlds_69 : decode cX5_layWorlds 69 = .ok (.iconst 0, 1) := by decide +kernel
theorem dX5_layWorlds_70 : decode cX5_layWorlds 70 = .ok (.istore_n 2, 1) := by decide +kernel
theorem dX5_layWorlds_71 : decode cX5_layWorlds 71 = .ok (.iload_n 2, 1) := by decide +kernel
theorem dX5_layWorlds_72 : decode cX5_layWorlds 72 = .ok (.aload_n 0, 1) := by decide +kernel
theorem dX5_layWorlds_73 : decode cX5_layWorlds 73 = .ok (.getfield 138, 3) := by decide +kernel
theorem dX5_layWorlds_76 : decode cX5_layWorlds 76 = .ok (.if_icmp .ge 40, 3) := by decide +kernel
theorem dX5_layWorlds_79 : decode cX5_layWorlds 79 = .ok (.aload_n 0, 1) := by decide +kernel
theorem dX5_layWorlds_80 : decode cX5_layWorlds 80 = .ok (.getfield 59, 3) := by decide +kernel
theorem dX5_layWorlds_83 : decode cX5_layWorlds 83 = .ok (.iload_n 2, 1) := by decide +kernel
theorem dX5_layWorlds_84 : decode cX5_layWorlds 84 = .ok (.baload, 1) := by decide +kernel
theorem dX5_layWorlds_85 : decode cX5_layWorlds 85 = .ok (.ifCond .ne 25, 3) := by decide +kernel
theorem dX5_layWorlds_88 : decode cX5_layWorlds 88 = .ok (.aload_n 0, 1) := by decide +kernel
theorem dX5_layWorlds_89 : decode cX5_layWorlds 89 = .ok (.aload_n 0, 1) := by decide +kernel
theorem dX5_layWorlds_90 : decode cX5_layWorlds 90 = .ok (.getfield 56, 3) := by decide +kernel
theorem dX5_layWorlds_93 : decode cX5_layWorlds 93 = .ok (.iload_n 2, 1) := by decide +kernel
theorem dX5_layWorlds_94 : decode cX5_layWorlds 94 = .ok (.iaload, 1) := by decide +kernel
theorem dX5_layWorlds_95 : decode cX5_layWorlds 95 = .ok (.invokevirtual 144, 3) := by decide +kernel
theorem dX5_layWorlds_98 : decode cX5_layWorlds 98 = .ok (.ifCond .ne 12, 3) := by decide +kernel
theorem dX5_layWorlds_101 : decode cX5_layWorlds 101 = .ok (.aload_n 0, 1) := by decide +kernel
theorem dX5_layWorlds_102 : decode cX5_layWorlds 102 = .ok (.getfield 59, 3) := by decide +kernel
theorem dX5_layWorlds_105 : decode cX5_layWorlds 105 = .ok (.iload_n 2, 1) := by decide +kernel
theorem dX5_layWorlds_106 : decode cX5_layWorlds 106 = .ok (.iconst 1, 1) := by decide +kernel
theorem dX5_layWorlds_107 : decode cX5_layWorlds 107 = .ok (.bastore, 1) := by decide +kernel
theorem dX5_layWorlds_108 : decode cX5_layWorlds 108 = .ok (.iconst 1, 1) := by decide +kernel
theorem dX5_layWorlds_109 : decode cX5_layWorlds 109 = .ok (.istore_n 1, 1) := by decide +kernel
theorem dX5_layWorlds_110 : decode cX5_layWorlds 110 = .ok (.iinc 2 1, 3) := by decide +kernel
theorem dX5_layWorlds_113 : decode cX5_layWorlds 113 = .ok (.goto (-42), 3) := by decide +kernel
theorem dX5_layWorlds_116 : decode cX5_layWorlds 116 = .ok (.goto (-53), 3) := by decide +kernel
theorem dX5_layWorlds_119 : decode cX5_layWorlds 119 = .ok (.iconst 0, 1) := by decide +kernel
theorem dX5_layWorlds_120 : decode cX5_layWorlds 120 = .ok (.istore_n 2, 1) := by decide +kernel
theorem dX5_layWorlds_121 : decode cX5_layWorlds 121 = .ok (.iconst 0, 1) := by decide +kernel
theorem dX5_layWorlds_122 : decode cX5_layWorlds 122 = .ok (.istore_n 3, 1) := by decide +kernel
theorem dX5_layWorlds_123 : decode cX5_layWorlds 123 = .ok (.iload_n 3, 1) := by decide +kernel
theorem dX5_layWorlds_124 : decode cX5_layWorlds 124 = .ok (.aload_n 0, 1) := by decide +kernel
theorem dX5_layWorlds_125 : decode cX5_layWorlds 125 = .ok (.getfield 138, 3) := by decide +kernel
theorem dX5_layWorlds_128 : decode cX5_layWorlds 128 = .ok (.if_icmp .ge 33, 3) := by decide +kernel
theorem dX5_layWorlds_131 : decode cX5_layWorlds 131 = .ok (.aload_n 0, 1) := by decide +kernel
theorem dX5_layWorlds_132 : decode cX5_layWorlds 132 = .ok (.getfield 59, 3) := by decide +kernel
theorem dX5_layWorlds_135 : decode cX5_layWorlds 135 = .ok (.iload_n 3, 1) := by decide +kernel
theorem dX5_layWorlds_136 : decode cX5_layWorlds 136 = .ok (.baload, 1) := by decide +kernel
theorem dX5_layWorlds_137 : decode cX5_layWorlds 137 = .ok (.ifCond .ne 18, 3) := by decide +kernel
theorem dX5_layWorlds_140 : decode cX5_layWorlds 140 = .ok (.aload_n 0, 1) := by decide +kernel
theorem dX5_layWorlds_141 : decode cX5_layWorlds 141 = .ok (.getfield 56, 3) := by decide +kernel
theorem dX5_layWorlds_144 : decode cX5_layWorlds 144 = .ok (.iload_n 2, 1) := by decide +kernel
theorem dX5_layWorlds_145 : decode cX5_layWorlds 145 = .ok (.aload_n 0, 1) := by decide +kernel
theorem dX5_layWorlds_146 : decode cX5_layWorlds 146 = .ok (.getfield 56, 3) := by decide +kernel
theorem dX5_layWorlds_149 : decode cX5_layWorlds 149 = .ok (.iload_n 3, 1) := by decide +kernel
