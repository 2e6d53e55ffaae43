theorem dX5_layWorlds_150 : decode cX5_layWorlds 150 = .ok (.iaload, 1) := by decide +kernel
theorem dX5_layWorlds_151 : decode cX5_layWorlds 151 = .ok (.iastore, 1) := by decide +kernel
theorem dX5_layWorlds_152 : decode cX5_layWorlds 152 = .ok (.iinc 2 1, 3) := by decide +kernel
theorem dX5_layWorlds_155 : decode cX5_layWorlds 155 = .ok (.iinc 3 1, 3) := by decide +kernel
theorem dX5_layWorlds_158 : decode cX5_layWorlds 158 = .ok (.goto (-35), 3) := by decide +kernel
theorem dX5_layWorlds_161 : decode cX5_layWorlds 161 = .ok (.aload_n 0, 1) := by decide +kernel
theorem dX5_layWorlds_162 : decode cX5_layWorlds 162 = .ok (.iload_n 2, 1) := by decide +kernel
theorem dX5_layWorlds_163 : decode cX5_layWorlds 163 = .ok (.putfield 138, 3) := by decide +kernel
theorem dX5_layWorlds_166 : decode cX5_layWorlds 166 = .ok (.return_, 1) := by decide +kernel
theorem dX5_isInAll_0 : decode cX5_isInAll 0 = .ok (.aload_n 0, 1) := by decide +kernel
theorem dX5_isInAll_1 : decode cX5_isInAll 1 = .ok (.invokevirtual 147, 3) := by decide +kernel
theorem dX5_isInAll_4 : decode cX5_isInAll 4 = .ok (.iconst 1, 1) := by decide +kernel
theorem dX5_isInAll_5 : decode cX5_isInAll 5 = .ok (.istore_n 3, 1) := by decide +kernel
theorem dX5_isInAll_6 : decode cX5_isInAll 6 = .ok (.iconst 0, 1) := by decide +kernel
theorem dX5_isInAll_7 : decode cX5_isInAll 7 = .ok (.istore 4, 2) := by decide +kernel
theorem dX5_isInAll_9 : decode cX5_isInAll 9 = .ok (.iload 4, 2) := by decide +kernel
theorem dX5_isInAll_11 : decode cX5_isInAll 11 = .ok (.aload_n 0, 1) := by decide +kernel
theorem dX5_isInAll_12 : decode cX5_isInAll 12 = .ok (.getfield 138, 3) := by decide +kernel
theorem dX5_isInAll_15 : decode cX5_isInAll 15 = .ok (.if_icmp .ge 47, 3) := by decide +kernel
theorem dX5_isInAll_18 : decode cX5_isInAll 18 = .ok (.iload_n 3, 1) := by decide +kernel
theorem dX5_isInAll_19 : decode cX5_isInAll 19 = .ok (.ifCond .eq 35, 3) := by decide +kernel
theorem dX5_isInAll_22 : decode cX5_isInAll 22 = .ok (.iload_n 1, 1) := by decide +kernel
theorem dX5_isInAll_23 : decode cX5_isInAll 23 = .ok (.aload_n 0, 1) := by decide +kernel
theorem dX5_isInAll_24 : decode cX5_isInAll 24 = .ok (.getfield 56, 3) := by decide +kernel
theorem dX5_isInAll_27 : decode cX5_isInAll 27 = .ok (.iload 4, 2) := by decide +kernel
theorem dX5_isInAll_29 : decode cX5_isInAll 29 = .ok (.iaload, 1) := by decide +kernel
theorem dX5_isInAll_30 : decode cX5_isInAll 30 = .ok (.iconst (-1), 1) := by decide +kernel
theorem dX5_isInAll_31 : decode cX5_isInAll 31 = .ok (.ixor, 1) := by decide +kernel
theorem dX5_isInAll_32 : decode cX5_isInAll 32 = .ok (.iand, 1) := by decide +kernel
theorem dX5_isInAll_33 : decode cX5_isInAll 33 = .ok (.ifCond .ne 17, 3) := by decide +kernel
theorem dX5_isInAll_36 : decode cX5_isInAll 36 = .ok (.aload_n 0, 1) := by decide +kernel
theorem dX5_isInAll_37 : decode cX5_isInAll 37 = .ok (.getfield 56, 3) := by decide +kernel
theorem dX5_isInAll_40 : decode cX5_isInAll 40 = .ok (.iload 4, 2) := by decide +kernel
theorem dX5_isInAll_42 : decode cX5_isInAll 42 = .ok (.iaload, 1) := by decide +kernel
theorem dX5_isInAll_43 : decode cX5_isInAll 43 = .ok (.iload_n 2, 1) := by decide +kernel
theorem dX5_isInAll_44 : decode cX5_isInAll 44 = .ok (.invokestatic 134, 3) := by decide +kernel
theorem dX5_isInAll_47 : decode cX5_isInAll 47 = .ok (.ifCond .eq 7, 3) := by decide +kernel
theorem dX5_isInAll_50 : decode cX5_isInAll 50 = .ok (.iconst 1, 1) := by decide +kernel
theorem dX5_isInAll_51 : decode cX5_isInAll 51 = .ok (.goto 4, 3) := by decide +kernel
theorem dX5_isInAll_54 : decode cX5_isInAll 54 = .ok (.iconst 0, 1) := by decide +kernel
theorem dX5_isInAll_55 : decode cX5_isInAll 55 = .ok (.istore_n 3, 1) := by decide +kernel
theorem dX5_isInAll_56 : decode cX5_isInAll 56 = .ok (.iinc 4 1, 3) := by decide +kernel
theorem dX5_isInAll_59 : decode cX5_isInAll 59 = .ok (.goto (-50), 3) := by decide +kernel
theorem dX5_isInAll_62 : decode cX5_isInAll 62 = .ok (.iload_n 3, 1) := by decide +kernel
theorem dX5_isInAll_63 : decode cX5_isInAll 63 = .ok (.ireturn, 1) := by decide +kernel
theorem dX5_isPlain_0 : decode cX5_isPlain 0 = .ok (.aload_n 0, 1) := by decide +kernel
theorem dX5_isPlain_1 : decode cX5_isPlain 1 = .ok (.iload_n 1, 1) := by decide +kernel
theorem dX5_isPlain_2 : decode cX5_isPlain 2 = .ok (.invokevirtual 117, 3) := by decide +kernel
theorem dX5_isPlain_5 : decode cX5_isPlain 5 = .ok (.aload_n 0, 1) := by decide +kernel
theorem dX5_isPlain_6 : decode cX5_isPlain 6 = .ok (.iconst 0, 1) := by decide +kernel
theorem dX5_isPlain_7 : decode cX5_isPlain 7 = .ok (.aload_n 0, 1) := by decide +kernel
theorem dX5_isPlain_8 : decode cX5_isPlain 8 = .ok (.getfield 73, 3) := by decide +kernel
theorem dX5_isPlain_11 : decode cX5_isPlain 11 = .ok (.iconst 1, 1) := by decide +kernel
theorem dX5_isPlain_12 : decode cX5_isPlain 12 = .ok (.isub, 1) := by decide +kernel
theorem dX5_isPlain_13 : decode cX5_isPlain 13 = .ok (.invokevirtual 150, 3) := by decide +kernel
theorem dX5_isPlain_16 : decode cX5_isPlain 16 = .ok (.ireturn, 1) := by decide +kernel
theorem dX5_plain_0 : decode cX5_plain 0 = .ok (.iload_n 1, 1) := by decide +kernel
theorem dX5_plain_1 : decode cX5_plain 1 = .ok (.invokestatic 106, 3) := by decide +kernel
theorem dX5_plain_4 : decode cX5_plain 4 = .ok (.ifCond .ne 5, 3) := by decide +kernel
theorem dX5_plain_7 : decode cX5_plain 7 = .ok (.iconst (-1), 1) := by decide +kernel
theorem dX5_plain_8 : decode cX5_plain 8 = .ok (.ireturn, 1) := by decide +kernel
theorem dX5_plain_9 : decode cX5_plain 9 = .ok (.aload_n 0, 1) := by decide +kernel
theorem dX5_plain_10 : decode cX5_plain 10 = .ok (.iload_n 1, 1) := by decide +kernel
theorem dX5_plain_11 : decode cX5_plain 11 = .ok (.invokevirtual 120, 3) := by decide +kernel
theorem dX5_plain_14 : decode cX5_plain 14 = .ok (.ifCond .eq 8, 3) := by decide +kernel
theorem dX5_plain_17 : decode cX5_plain 17 = .ok (.bipush (-3), 2) := by decide +kernel
theorem dX5_plain_19 : decode cX5_plain 19 = .ok (.goto 16, 3) := by decide +kernel
theorem dX5_plain_22 : decode cX5_plain 22 = .ok (.aload_n 0, 1) := by decide +kernel
theorem dX5_plain_23 : decode cX5_plain 23 = .ok (.iload_n 1, 1) := by decide +kernel
theorem dX5_plain_24 : decode cX5_plain 24 = .ok (.invokevirtual 153, 3) := by decide +kernel
theorem dX5_plain_27 : decode cX5_plain 27 = .ok (.ifCond .eq 7, 3) := by decide +kernel
theorem dX5_plain_30 : decode cX5_plain 30 = .ok (.iconst 1, 1) := by decide +kernel
theorem dX5_plain_31 : decode cX5_plain 31 = .ok (.goto 4, 3) := by decide +kernel
theorem dX5_plain_34 : decode cX5_plain 34 = .ok (.iconst 0, 1) := by decide +kernel
theorem dX5_plain_35 : decode cX5_plain 35 = .ok (.ireturn, 1) := by decide +kernel
theorem dX5_isTrue_0 : decode cX5_isTrue 0 = .ok (.iconst 0, 1) := by decide +kernel
theorem dX5_isTrue_1 : decode cX5_isTrue 1 = .ok (.istore_n 2, 1) := by decide +kernel
theorem dX5_isTrue_2 : decode cX5_isTrue 2 = .ok (.iconst 0, 1) := by decide +kernel
theorem dX5_isTrue_3 : decode cX5_isTrue 3 = .ok (.istore_n 3, 1) := by decide +kernel
theorem dX5_isTrue_4 : decode cX5_isTrue 4 = .ok (.iload_n 3, 1) := by decide +kernel
theorem dX5_isTrue_5 : decode cX5_isTrue 5 = .ok (.aload_n 0, 1) := by decide +kernel
theorem dX5_isTrue_6 : decode cX5_isTrue 6 = .ok (.getfield 73, 3) := by decide +kernel
theorem dX5_isTrue_9 : decode cX5_isTrue 9 = .ok (.if_icmp .ge 189, 3) := by decide +kernel
theorem dX5_isTrue_12 : decode cX5_isTrue 12 = .ok (.aload_n 0, 1) := by decide +kernel
theorem dX5_isTrue_13 : decode cX5_isTrue 13 = .ok (.getfield 29, 3) := by decide +kernel
theorem dX5_isTrue_16 : decode cX5_isTrue 16 = .ok (.iload_n 3, 1) := by decide +kernel
theorem dX5_isTrue_17 : decode cX5_isTrue 17 = .ok (.iaload, 1) := by decide +kernel
theorem dX5_isTrue_18 : decode cX5_isTrue 18 = .ok (.iconst 1, 1) := by decide +kernel
theorem dX5_isTrue_19 : decode cX5_isTrue 19 = .ok (.if_icmp .le 20, 3) := by decide +kernel
theorem dX5_isTrue_22 : decode cX5_isTrue 22 = .ok (.iload_n 2, 1) := by decide +kernel
theorem dX5_isTrue_23 : decode cX5_isTrue 23 = .ok (.aload_n 0, 1) := by decide +kernel
theorem dX5_isTrue_24 : decode cX5_isTrue 24 = .ok (.getfield 32, 3) := by decide +kernel
theorem dX5_isTrue_27 : decode cX5_isTrue 27 = .ok (.iload_n 3, 1) := by decide +kernel
theorem dX5_isTrue_28 : decode cX5_isTrue 28 = .ok (.iaload, 1) := by decide +kernel
theorem dX5_isTrue_29 : decode cX5_isTrue 29 = .ok (.invokestatic 134, 3) := by decide +kernel
theorem dX5_isTrue_32 : decode cX5_isTrue 32 = .ok (.ifCond .eq 7, 3) := by decide +kernel
theorem dX5_isTrue_35 : decode cX5_isTrue 35 = .ok (.iconst 1, 1) := by decide +kernel
theorem dX5_isTrue_36 : decode cX5_isTrue 36 = .ok (.goto 4, 3) := by decide +kernel
theorem dX5_isTrue_39 : decode cX5_isTrue 39 = .ok (.iconst 0, 1) := by decide +kernel
theorem dX5_isTrue_40 : decode cX5_isTrue 40 = .ok (.istore 4, 2) := by decide +kernel
theorem dX5_isTrue_42 : decode cX5_isTrue 42 = .ok (.aload_n 0, 1) := by decide +kernel
theorem dX5_isTrue_43 : decode cX5_isTrue 43 = .ok (.getfield 29, 3) := by decide +kernel
theorem dX5_isTrue_46 : decode cX5_isTrue 46 = .ok (.iload_n 3, 1) := by decide +kernel
theorem dX5_isTrue_47 : decode cX5_isTrue 47 = .ok (.iaload, 1) := by decide +kernel
theorem dX5_isTrue_48 : decode cX5_isTrue 48 = .ok (.iconst 1, 1) := by decide +kernel
theorem dX5_isTrue_49 : decode cX5_isTrue 49 = .ok (.if_icmp .le 20, 3) := by decide +kernel
theorem dX5_isTrue_52 : decode cX5_isTrue 52 = .ok (.iload_n 2, 1) := by decide +kernel
theorem dX5_isTrue_53 : decode cX5_isTrue 53 = .ok (.aload_n 0, 1) := by decide +kernel
theorem dX5_isTrue_54 : decode cX5_isTrue 54 = .ok (.getfield 35, 3) := by decide +kernel
theorem dX5_isTrue_57 : decode cX5_isTrue 57 = .ok (.iload_n 3, 1) := by decide +kernel
theorem dX5_isTrue_58 : decode cX5_isTrue 58 = .ok (.iaload, 1) := by decide +kernel
theorem dX5_isTrue_59 : decode cX5_isTrue 59 = .ok (.invokestatic 134, 3) := by decide +kernel
theorem dX5_isTrue_62 : decode cX5_isTrue 62 = .ok (.ifCond .eq 7, 3) := by decide +kernel
theorem dX5_isTrue_65 : decode cX5_isTrue 65 = .ok (.iconst 1, 1) := by decide +kernel
theorem dX5_isTrue_66 : decode cX5_isTrue 66 = .ok (.goto 4, 3) := by decide +kernel
theorem dX5_isTrue_69 : decode cX5_isTrue 69 = .ok (.iconst 0, 1) := by decide +kernel
theorem dX5_isTrue_70 : decode cX5_isTrue 70 = .ok (.istore 5, 2) := by decide +kernel
theorem dX5_isTrue_72 : decode cX5_isTrue 72 = .ok (.aload_n 0, 1) := by decide +kernel
theorem dX5_isTrue_73 : decode cX5_isTrue 73 = .ok (.getfield 29, 3) := by decide +kernel
theorem dX5_isTrue_76 : decode cX5_isTrue 76 = .ok (.iload_n 3, 1) := by decide +kernel
theorem dX5_isTrue_77 : decode cX5_isTrue 77 = .ok (.iaload, 1) := by decide +kernel
theorem dX5_isTrue_78 : decode cX5_isTrue 78 = .ok (.ifCond .ne 16, 3) := by decide +kernel
theorem dX5_isTrue_81 : decode cX5_isTrue 81 = .ok (.iload_n 1, 1) := by decide +kernel
theorem dX5_isTrue_82 : decode cX5_isTrue 82 = .ok (.aload_n 0, 1) := by decide +kernel
theorem dX5_isTrue_83 : decode cX5_isTrue 83 = .ok (.getfield 32, 3) := by decide +kernel
theorem dX5_isTrue_86 : decode cX5_isTrue 86 = .ok (.iload_n 3, 1) := by decide +kernel
theorem dX5_isTrue_87 : decode cX5_isTrue 87 = .ok (.iaload, 1) := by decide +kernel
theorem dX5_isTrue_88 : decode cX5_isTrue 88 = .ok (.invokestatic 134, 3) := by decide +kernel
theorem dX5_isTrue_91 : decode cX5_isTrue 91 = .ok (.goto 84, 3) := by decide +kernel
theorem dX5_isTrue_94 : decode cX5_isTrue 94 = .ok (.aload_n 0, 1) := by decide +kernel
theorem dX5_isTrue_95 : decode cX5_isTrue 95 = .ok (.getfield 29, 3) := by decide +kernel
theorem dX5_isTrue_98 : decode cX5_isTrue 98 = .ok (.iload_n 3, 1) := by decide +kernel
theorem dX5_isTrue_99 : decode cX5_isTrue 99 = .ok (.iaload, 1) := by decide +kernel
theorem dX5_isTrue_100 : decode cX5_isTrue 100 = .ok (.iconst 2, 1) := by decide +kernel
theorem dX5_isTrue_101 : decode cX5_isTrue 101 = .ok (.if_icmp .ne 21, 3) := by decide +kernel
theorem dX5_isTrue_104 : decode cX5_isTrue 104 = .ok (.iload 4, 2) := by decide +kernel
theorem dX5_isTrue_106 : decode cX5_isTrue 106 = .ok (.ifCond .eq 12, 3) := by decide +kernel
theorem dX5_isTrue_109 : decode cX5_isTrue 109 = .ok (.iload 5, 2) := by decide +kernel
theorem dX5_isTrue_111 : decode cX5_isTrue 111 = .ok (.ifCond .eq 7, 3) := by decide +kernel
theorem dX5_isTrue_114 : decode cX5_isTrue 114 = .ok (.iconst 1, 1) := by decide +kernel
theorem dX5_isTrue_115 : decode cX5_isTrue 115 = .ok (.goto 60, 3) := by decide +kernel
theorem dX5_isTrue_118 : decode cX5_isTrue 118 = .ok (.iconst 0, 1) := by decide +kernel
theorem dX5_isTrue_119 : decode cX5_isTrue 119 = .ok (.goto 56, 3) := by decide +kernel
theorem dX5_isTrue_122 : decode cX5_isTrue 122 = .ok (.aload_n 0, 1) := by decide +kernel
theorem dX5_isTrue_123 : decode cX5_isTrue 123 = .ok (.getfield 29, 3) := by decide +kernel
theorem dX5_isTrue_126 : decode cX5_isTrue 126 = .ok (.iload_n 3, 1) := by decide +kernel
theorem dX5_isTrue_127 : decode cX5_isTrue 127 = .ok (.iaload, 1) := by decide +kernel
theorem dX5_isTrue_128 : decode cX5_isTrue 128 = .ok (.iconst 3, 1) := by decide +kernel
theorem dX5_isTrue_129 : decode cX5_isTrue 129 = .ok (.if_icmp .ne 21, 3) := by decide +kernel
theorem dX5_isTrue_132 : decode cX5_isTrue 132 = .ok (.iload 4, 2) := by decide +kernel
theorem dX5_isTrue_134 : decode cX5_isTrue 134 = .ok (.ifCond .ne 8, 3) := by decide +kernel
theorem dX5_isTrue_137 : decode cX5_isTrue 137 = .ok (.iload 5, 2) := by decide +kernel
theorem dX5_isTrue_139 : decode cX5_isTrue 139 = .ok (.ifCond .eq 7, 3) := by decide +kernel
theorem dX5_isTrue_142 : decode cX5_isTrue 142 = .ok (.iconst 1, 1) := by decide +kernel
theorem dX5_isTrue_143 : decode cX5_isTrue 143 = .ok (.goto 32, 3) := by decide +kernel
theorem dX5_isTrue_146 : decode cX5_isTrue 146 = .ok (.iconst 0, 1) := by decide +kernel
theorem dX5_isTrue_147 : decode cX5_isTrue 147 = .ok (.goto 28, 3) := by decide +kernel
theorem dX5_isTrue_150 : decode cX5_isTrue 150 = .ok (.aload_n 0, 1) := by decide +kernel
theorem dX5_isTrue_151 : decode cX5_isTrue 151 = .ok (.getfield 29, 3) := by decide +kernel
theorem dX5_isTrue_154 : decode cX5_isTrue 154 = .ok (.iload_n 3, 1) := by decide +kernel
theorem dX5_isTrue_155 : decode cX5_isTrue 155 = .ok (.iaload, 1) := by decide +kernel
theorem dX5_isTrue_156 : decode cX5_isTrue 156 = .ok (.iconst 4, 1) := by decide +kernel
theorem dX5_isTrue_157 : decode cX5_isTrue 157 = .ok (.if_icmp .ne 17, 3) := by decide +kernel
theorem dX5_isTrue_160 : decode cX5_isTrue 160 = .ok (.iload 4, 2) := by decide +kernel
theorem dX5_isTrue_162 : decode cX5_isTrue 162 = .ok (.ifCond .eq 8, 3) := by decide +kernel
theorem dX5_isTrue_165 : decode cX5_isTrue 165 = .ok (.iload 5, 2) := by decide +kernel
theorem dX5_isTrue_167 : decode cX5_isTrue 167 = .ok (.ifCond .eq 7, 3) := by decide +kernel
theorem dX5_isTrue_170 : decode cX5_isTrue 170 = .ok (.iconst 1, 1) := by decide +kernel
theorem dX5_isTrue_171 : decode cX5_isTrue 171 = .ok (.goto 4, 3) := by decide +kernel
theorem dX5_isTrue_174 : decode cX5_isTrue 174 = .ok (.iconst 0, 1) := by decide +kernel
theorem dX5_isTrue_175 : decode cX5_isTrue 175 = .ok (.istore 6, 2) := by decide +kernel
theorem dX5_isTrue_177 : decode cX5_isTrue 177 = .ok (.iload_n 2, 1) := by decide +kernel
theorem dX5_isTrue_178 : decode cX5_isTrue 178 = .ok (.iload 6, 2) := by decide +kernel
theorem dX5_isTrue_180 : decode cX5_isTrue 180 = .ok (.ifCond .eq 9, 3) := by decide +kernel
theorem dX5_isTrue_183 : decode cX5_isTrue 183 = .ok (.iconst 1, 1) := by decide +kernel
theorem dX5_isTrue_184 : decode cX5_isTrue 184 = .ok (.iload_n 3, 1) := by decide +kernel
theorem dX5_isTrue_185 : decode cX5_isTrue 185 = .ok (.ishl, 1) := by decide +kernel
theorem dX5_isTrue_186 : decode cX5_isTrue 186 = .ok (.goto 4, 3) := by decide +kernel
theorem dX5_isTrue_189 : decode cX5_isTrue 189 = .ok (.iconst 0, 1) := by decide +kernel
theorem dX5_isTrue_190 : decode cX5_isTrue 190 = .ok (.ior, 1) := by decide +kernel
theorem dX5_isTrue_191 : decode cX5_isTrue 191 = .ok (.istore_n 2, 1) := by decide +kernel
theorem dX5_isTrue_192 : decode cX5_isTrue 192 = .ok (.iinc 3 1, 3) := by decide +kernel
theorem dX5_isTrue_195 : decode cX5_isTrue 195 = .ok (.goto (-191), 3) := by decide +kernel
theorem dX5_isTrue_198 : decode cX5_isTrue 198 = .ok (.iload_n 2, 1) := by decide +kernel
theorem dX5_isTrue_199 : decode cX5_isTrue 199 = .ok (.aload_n 0, 1) := by decide +kernel
theorem dX5_isTrue_200 : decode cX5_isTrue 200 = .ok (.getfield 73, 3) := by decide +kernel
theorem dX5_isTrue_203 : decode cX5_isTrue 203 = .ok (.iconst 1, 1) := by decide +kernel
theorem dX5_isTrue_204 : decode cX5_isTrue 204 = .ok (.isub, 1) := by decide +kernel
theorem dX5_isTrue_205 : decode cX5_isTrue 205 = .ok (.invokestatic 134, 3) := by decide +kernel
theorem dX5_isTrue_208 : decode cX5_isTrue 208 = .ok (.ireturn, 1) := by decide +kernel
theorem dX5_isTrueByRows_0 : decode cX5_isTrueByRows 0 = .ok (.aload_n 0, 1) := by decide +kernel
theorem dX5_isTrueByRows_1 : decode cX5_isTrueByRows 1 = .ok (.iload_n 1, 1) := by decide +kernel
theorem dX5_isTrueByRows_2 : decode cX5_isTrueByRows 2 = .ok (.invokevirtual 117, 3) := by decide +kernel
theorem dX5_isTrueByRows_5 : decode cX5_isTrueByRows 5 = .ok (.iconst 1, 1) := by decide +kernel
theorem dX5_isTrueByRows_6 : decode cX5_isTrueByRows 6 = .ok (.istore_n 2, 1) := by decide +kernel
theorem dX5_isTrueByRows_7 : decode cX5_isTrueByRows 7 = .ok (.iconst 0, 1) := by decide +kernel
theorem dX5_isTrueByRows_8 : decode cX5_isTrueByRows 8 = .ok (.istore_n 3, 1) := by decide +kernel
theorem dX5_isTrueByRows_9 : decode cX5_isTrueByRows 9 = .ok (.iload_n 3, 1) := by decide +kernel
theorem dX5_isTrueByRows_10 : decode cX5_isTrueByRows 10 = .ok (.bipush 16, 2) := by decide +kernel
theorem dX5_isTrueByRows_12 : decode cX5_isTrueByRows 12 = .ok (.if_icmp .ge 27, 3) := by decide +kernel
theorem dX5_isTrueByRows_15 : decode cX5_isTrueByRows 15 = .ok (.iload_n 2, 1) := by decide +kernel
theorem dX5_isTrueByRows_16 : decode cX5_isTrueByRows 16 = .ok (.ifCond .eq 15, 3) := by decide +kernel
theorem dX5_isTrueByRows_19 : decode cX5_isTrueByRows 19 = .ok (.aload_n 0, 1) := by decide +kernel
theorem dX5_isTrueByRows_20 : decode cX5_isTrueByRows 20 = .ok (.iload_n 3, 1) := by decide +kernel
theorem dX5_isTrueByRows_21 : decode cX5_isTrueByRows 21 = .ok (.invokevirtual 156, 3) := by decide +kernel
theorem dX5_isTrueByRows_24 : decode cX5_isTrueByRows 24 = .ok (.ifCond .eq 7, 3) := by decide +kernel
theorem dX5_isTrueByRows_27 : decode cX5_isTrueByRows 27 = .ok (.iconst 1, 1) := by decide +kernel
theorem dX5_isTrueByRows_28 : decode cX5_isTrueByRows 28 = .ok (.goto 4, 3) := by decide +kernel
theorem dX5_isTrueByRows_31 : decode cX5_isTrueByRows 31 = .ok (.iconst 0, 1) := by decide +kernel
theorem dX5_isTrueByRows_32 : decode cX5_isTrueByRows 32 = .ok (.istore_n 2, 1) := by decide +kernel
theorem dX5_isTrueByRows_33 : decode cX5_isTrueByRows 33 = .ok (.iinc 3 1, 3) := by decide +kernel
theorem dX5_isTrueByRows_36 : decode cX5_isTrueByRows 36 = .ok (.goto (-27), 3) := by decide +kernel
theorem dX5_isTrueByRows_39 : decode cX5_isTrueByRows 39 = .ok (.iload_n 2, 1) := by decide +kernel
theorem dX5_isTrueByRows_40 : decode cX5_isTrueByRows 40 = .ok (.ireturn, 1) := by decide +kernel
theorem dX5_rows_0 : decode cX5_rows 0 = .ok (.iload_n 1, 1) := by decide +kernel
theorem dX5_rows_1 : decode cX5_rows 1 = .ok (.invokestatic 106, 3) := by decide +kernel
theorem dX5_rows_4 : decode cX5_rows 4 = .ok (.ifCond .ne 5, 3) := by decide +kernel
theorem dX5_rows_7 : decode cX5_rows 7 = .ok (.iconst (-1), 1) := by decide +kernel
theorem dX5_rows_8 : decode cX5_rows 8 = .ok (.ireturn, 1) := by decide +kernel
theorem dX5_rows_9 : decode cX5_rows 9 = .ok (.aload_n 0, 1) := by decide +kernel
theorem dX5_rows_10 : decode cX5_rows 10 = .ok (.iload_n 1, 1) := by decide +kernel
theorem dX5_rows_11 : decode cX5_rows 11 = .ok (.invokevirtual 120, 3) := by decide +kernel
theorem dX5_rows_14 : decode cX5_rows 14 = .ok (.ifCond .eq 8, 3) := by decide +kernel
theorem dX5_rows_17 : decode cX5_rows 17 = .ok (.bipush (-3), 2) := by decide +kernel
theorem dX5_rows_19 : decode cX5_rows 19 = .ok (.goto 16, 3) := by decide +kernel
theorem dX5_rows_22 : decode cX5_rows 22 = .ok (.aload_n 0, 1) := by decide +kernel
theorem dX5_rows_23 : decode cX5_rows 23 = .ok (.iload_n 1, 1) := by decide +kernel
theorem dX5_rows_24 : decode cX5_rows 24 = .ok (.invokevirtual 159, 3) := by decide +kernel
theorem dX5_rows_27 : decode cX5_rows 27 = .ok (.ifCond .eq 7, 3) := by decide +kernel
theorem dX5_rows_30 : decode cX5_rows 30 = .ok (.iconst 1, 1) := by decide +kernel
theorem dX5_rows_31 : decode cX5_rows 31 = .ok (.goto 4, 3) := by decide +kernel
theorem dX5_rows_34 : decode cX5_rows 34 = .ok (.iconst 0, 1) := by decide +kernel
theorem dX5_rows_35 : decode cX5_rows 35 = .ok (.ireturn, 1) := by decide +kernel
theorem dX5_follows_0 : decode cX5_follows 0 = .ok (.iload_n 1, 1) := by decide +kernel
theorem dX5_follows_1 : decode cX5_follows 1 = .ok (.invokestatic 106, 3) := by decide +kernel
theorem dX5_follows_4 : decode cX5_follows 4 = .ok (.ifCond .eq 10, 3) := by decide +kernel
theorem dX5_follows_7 : decode cX5_follows 7 = .ok (.iload_n 2, 1) := by decide +kernel
theorem dX5_follows_8 : decode cX5_follows 8 = .ok (.invokestatic 106, 3) := by decide +kernel
theorem dX5_follows_11 : decode cX5_follows 11 = .ok (.ifCond .ne 5, 3) := by decide +kernel
theorem dX5_follows_14 : decode cX5_follows 14 = .ok (.iconst (-1), 1) := by decide +kernel
theorem dX5_follows_15 : decode cX5_follows 15 = .ok (.ireturn, 1) := by decide +kernel
theorem dX5_follows_16 : decode cX5_follows 16 = .ok (.aload_n 0, 1) := by decide +kernel
theorem dX5_follows_17 : decode cX5_follows 17 = .ok (.iload_n 1, 1) := by decide +kernel
theorem dX5_follows_18 : decode cX5_follows 18 = .ok (.invokevirtual 120, 3) := by decide +kernel
theorem dX5_follows_21 : decode cX5_follows 21 = .ok (.ifCond .ne 11, 3) := by decide +kernel
theorem dX5_follows_24 : decode cX5_follows 24 = .ok (.aload_n 0, 1) := by decide +kernel
theorem dX5_follows_25 : decode cX5_follows 25 = .ok (.iload_n 2, 1) := by decide +kernel
theorem dX5_follows_26 : decode cX5_follows 26 = .ok (.invokevirtual 120, 3) := by decide +kernel
theorem dX5_follows_29 : decode cX5_follows 29 = .ok (.ifCond .eq 6, 3) := by decide +kernel
theorem dX5_follows_32 : decode cX5_follows 32 = .ok (.bipush (-3), 2) := by decide +kernel
theorem dX5_follows_34 : decode cX5_follows 34 = .ok (.ireturn, 1) := by decide +kernel
theorem dX5_follows_35 : decode cX5_follows 35 = .ok (.aload_n 0, 1) := by decide +kernel
theorem dX5_follows_36 : decode cX5_follows 36 = .ok (.iload_n 1, 1) := by decide +kernel
theorem dX5_follows_37 : decode cX5_follows 37 = .ok (.iload_n 2, 1) := by decide +kernel
theorem dX5_follows_38 : decode cX5_follows 38 = .ok (.iconst 4, 1) := by decide +kernel
theorem dX5_follows_39 : decode cX5_follows 39 = .ok (.invokevirtual 123, 3) := by decide +kernel
theorem dX5_follows_42 : decode cX5_follows 42 = .ok (.aload_n 0, 1) := by decide +kernel
theorem dX5_follows_43 : decode cX5_follows 43 = .ok (.getfield 73, 3) := by decide +kernel
theorem dX5_follows_46 : decode cX5_follows 46 = .ok (.bipush 11, 2) := by decide +kernel
theorem dX5_follows_48 : decode cX5_follows 48 = .ok (.if_icmp .le 8, 3) := by decide +kernel
theorem dX5_follows_51 : decode cX5_follows 51 = .ok (.bipush (-4), 2) := by decide +kernel
theorem dX5_follows_53 : decode cX5_follows 53 = .ok (.goto 22, 3) := by decide +kernel
theorem dX5_follows_56 : decode cX5_follows 56 = .ok (.aload_n 0, 1) := by decide +kernel
theorem dX5_follows_57 : decode cX5_follows 57 = .ok (.iconst 0, 1) := by decide +kernel
theorem dX5_follows_58 : decode cX5_follows 58 = .ok (.aload_n 0, 1) := by decide +kernel
theorem dX5_follows_59 : decode cX5_follows 59 = .ok (.getfield 73, 3) := by decide +kernel
theorem dX5_follows_62 : decode cX5_follows 62 = .ok (.iconst 1, 1) := by decide +kernel
theorem dX5_follows_63 : decode cX5_follows 63 = .ok (.isub, 1) := by decide +kernel
theorem dX5_follows_64 : decode cX5_follows 64 = .ok (.invokevirtual 150, 3) := by decide +kernel
theorem dX5_follows_67 : decode cX5_follows 67 = .ok (.ifCond .eq 7, 3) := by decide +kernel
theorem dX5_follows_70 : decode cX5_follows 70 = .ok (.iconst 1, 1) := by decide +kernel
theorem dX5_follows_71 : decode cX5_follows 71 = .ok (.goto 4, 3) := by decide +kernel
theorem dX5_follows_74 : decode cX5_follows 74 = .ok (.iconst 0, 1) := by decide +kernel
theorem dX5_follows_75 : decode cX5_follows 75 = .ok (.ireturn, 1) := by decide +kernel
theorem dX5_from_0 : decode cX5_from 0 = .ok (.iload_n 1, 1) := by decide +kernel
theorem dX5_from_1 : decode cX5_from 1 = .ok (.invokestatic 106, 3) := by decide +kernel
theorem dX5_from_4 : decode cX5_from 4 = .ok (.ifCond .ne 5, 3) := by decide +kernel
theorem dX5_from_7 : decode cX5_from 7 = .ok (.iconst (-1), 1) := by decide +kernel
theorem dX5_from_8 : decode cX5_from 8 = .ok (.ireturn, 1) := by decide +kernel
theorem dX5_from_9 : decode cX5_from 9 = .ok (.aload_n 0, 1) := by decide +kernel
theorem dX5_from_10 : decode cX5_from 10 = .ok (.iload_n 1, 1) := by decide +kernel
theorem dX5_from_11 : decode cX5_from 11 = .ok (.invokevirtual 120, 3) := by decide +kernel
theorem dX5_from_14 : decode cX5_from 14 = .ok (.ifCond .eq 6, 3) := by decide +kernel
theorem dX5_from_17 : decode cX5_from 17 = .ok (.bipush (-3), 2) := by decide +kernel
theorem dX5_from_19 : decode cX5_from 19 = .ok (.ireturn, 1) := by decide +kernel
theorem dX5_from_20 : decode cX5_from 20 = .ok (.iload_n 3, 1) := by decide +kernel
theorem dX5_from_21 : decode cX5_from 21 = .ok (.iconst 0, 1) := by decide +kernel
theorem dX5_from_22 : decode cX5_from 22 = .ok (.aload_n 0, 1) := by decide +kernel
theorem dX5_from_23 : decode cX5_from 23 = .ok (.getfield 7, 3) := by decide +kernel
theorem dX5_from_26 : decode cX5_from 26 = .ok (.iload_n 1, 1) := by decide +kernel
theorem dX5_from_27 : decode cX5_from 27 = .ok (.iaload, 1) := by decide +kernel
theorem dX5_from_28 : decode cX5_from 28 = .ok (.iconst 1, 1) := by decide +kernel
theorem dX5_from_29 : decode cX5_from 29 = .ok (.isub, 1) := by decide +kernel
theorem dX5_from_30 : decode cX5_from 30 = .ok (.invokestatic 69, 3) := by decide +kernel
theorem dX5_from_33 : decode cX5_from 33 = .ok (.ifCond .eq 21, 3) := by decide +kernel
theorem dX5_from_36 : decode cX5_from 36 = .ok (.iload_n 2, 1) := by decide +kernel
theorem dX5_from_37 : decode cX5_from 37 = .ok (.iconst 0, 1) := by decide +kernel
theorem dX5_from_38 : decode cX5_from 38 = .ok (.iconst 1, 1) := by decide +kernel
theorem dX5_from_39 : decode cX5_from 39 = .ok (.aload_n 0, 1) := by decide +kernel
theorem dX5_from_40 : decode cX5_from 40 = .ok (.getfield 7, 3) := by decide +kernel
theorem dX5_from_43 : decode cX5_from 43 = .ok (.iload_n 1, 1) := by decide +kernel
theorem dX5_from_44 : decode cX5_from 44 = .ok (.iaload, 1) := by decide +kernel
theorem dX5_from_45 : decode cX5_from 45 = .ok (.ishl, 1) := by decide +kernel
theorem dX5_from_46 : decode cX5_from 46 = .ok (.iconst 1, 1) := by decide +kernel
theorem dX5_from_47 : decode cX5_from 47 = .ok (.isub, 1) := by decide +kernel
theorem dX5_from_48 : decode cX5_from 48 = .ok (.invokestatic 69, 3) := by decide +kernel
theorem dX5_from_51 : decode cX5_from 51 = .ok (.ifCond .ne 6, 3) := by decide +kernel
theorem dX5_from_54 : decode cX5_from 54 = .ok (.bipush (-2), 2) := by decide +kernel
theorem dX5_from_56 : decode cX5_from 56 = .ok (.ireturn, 1) := by decide +kernel
theorem dX5_from_57 : decode cX5_from 57 = .ok (.aload_n 0, 1) := by decide +kernel
theorem dX5_from_58 : decode cX5_from 58 = .ok (.iload_n 1, 1) := by decide +kernel
theorem dX5_from_59 : decode cX5_from 59 = .ok (.invokevirtual 117, 3) := by decide +kernel
theorem dX5_from_62 : decode cX5_from 62 = .ok (.aload_n 0, 1) := by decide +kernel
theorem dX5_from_63 : decode cX5_from 63 = .ok (.iload_n 2, 1) := by decide +kernel
theorem dX5_from_64 : decode cX5_from 64 = .ok (.iload_n 3, 1) := by decide +kernel
theorem dX5_from_65 : decode cX5_from 65 = .ok (.invokevirtual 150, 3) := by decide +kernel
theorem dX5_from_68 : decode cX5_from 68 = .ok (.ifCond .eq 7, 3) := by decide +kernel
theorem dX5_from_71 : decode cX5_from 71 = .ok (.iconst 1, 1) := by decide +kernel
theorem dX5_from_72 : decode cX5_from 72 = .ok (.goto 4, 3) := by decide +kernel
theorem dX5_from_75 : decode cX5_from 75 = .ok (.iconst 0, 1) := by decide +kernel
theorem dX5_from_76 : decode cX5_from 76 = .ok (.ireturn, 1) := by decide +kernel
theorem dX5_isAbove_0 : decode cX5_isAbove 0 = .ok (.aload_n 0, 1) := by decide +kernel
theorem dX5_isAbove_1 : decode cX5_isAbove 1 = .ok (.getfield 56, 3) := by decide +kernel
theorem dX5_isAbove_4 : decode cX5_isAbove 4 = .ok (.iload_n 1, 1) := by decide +kernel
theorem dX5_isAbove_5 : decode cX5_isAbove 5 = .ok (.iaload, 1) := by decide +kernel
theorem dX5_isAbove_6 : decode cX5_isAbove 6 = .ok (.aload_n 0, 1) := by decide +kernel
theorem dX5_isAbove_7 : decode cX5_isAbove 7 = .ok (.getfield 56, 3) := by decide +kernel
theorem dX5_isAbove_10 : decode cX5_isAbove 10 = .ok (.iload_n 2, 1) := by decide +kernel
theorem dX5_isAbove_11 : decode cX5_isAbove 11 = .ok (.iaload, 1) := by decide +kernel
theorem dX5_isAbove_12 : decode cX5_isAbove 12 = .ok (.if_icmp .eq 25, 3) := by decide +kernel
theorem dX5_isAbove_15 : decode cX5_isAbove 15 = .ok (.aload_n 0, 1) := by decide +kernel
theorem dX5_isAbove_16 : decode cX5_isAbove 16 = .ok (.getfield 56, 3) := by decide +kernel
theorem dX5_isAbove_19 : decode cX5_isAbove 19 = .ok (.iload_n 2, 1) := by decide +kernel
theorem dX5_isAbove_20 : decode cX5_isAbove 20 = .ok (.iaload, 1) := by decide +kernel
theorem dX5_isAbove_21 : decode cX5_isAbove 21 = .ok (.aload_n 0, 1) := by decide +kernel
theorem dX5_isAbove_22 : decode cX5_isAbove 22 = .ok (.getfield 56, 3) := by decide +kernel
theorem dX5_isAbove_25 : decode cX5_isAbove 25 = .ok (.iload_n 1, 1) := by decide +kernel
theorem dX5_isAbove_26 : decode cX5_isAbove 26 = .ok (.iaload, 1) := by decide +kernel
theorem dX5_isAbove_27 : decode cX5_isAbove 27 = .ok (.iconst (-1), 1) := by decide +kernel
theorem dX5_isAbove_28 : decode cX5_isAbove 28 = .ok (.ixor, 1) := by decide +kernel
theorem dX5_isAbove_29 : decode cX5_isAbove 29 = .ok (.iand, 1) := by decide +kernel
theorem dX5_isAbove_30 : decode cX5_isAbove 30 = .ok (.ifCond .ne 7, 3) := by decide +kernel
theorem dX5_isAbove_33 : decode cX5_isAbove 33 = .ok (.iconst 1, 1) := by decide +kernel
theorem dX5_isAbove_34 : decode cX5_isAbove 34 = .ok (.goto 4, 3) := by decide +kernel
theorem dX5_isAbove_37 : decode cX5_isAbove 37 = .ok (.iconst 0, 1) := by decide +kernel
theorem dX5_isAbove_38 : decode cX5_isAbove 38 = .ok (.ireturn, 1) := by decide +kernel
theorem dX5_layHeights_0 : decode cX5_layHeights 0 = .ok (.aload_n 0, 1) := by decide +kernel
theorem dX5_layHeights_1 : decode cX5_layHeights 1 = .ok (.getfield 138, 3) := by decide +kernel
theorem dX5_layHeights_4 : decode cX5_layHeights 4 = .ok (.iconst 1, 1) := by decide +kernel
theorem dX5_layHeights_5 : decode cX5_layHeights 5 = .ok (.isub, 1) := by decide +kernel
theorem dX5_layHeights_6 : decode cX5_layHeights 6 = .ok (.istore_n 1, 1) := by decide +kernel
theorem dX5_layHeights_7 : decode cX5_layHeights 7 = .ok (.iload_n 1, 1) := by decide +kernel
theorem dX5_layHeights_8 : decode cX5_layHeights 8 = .ok (.ifCond .lt 81, 3) := by decide +kernel
theorem dX5_layHeights_11 : decode cX5_layHeights 11 = .ok (.aload_n 0, 1) := by decide +kernel
theorem dX5_layHeights_12 : decode cX5_layHeights 12 = .ok (.getfield 63, 3) := by decide +kernel
theorem dX5_layHeights_15 : decode cX5_layHeights 15 = .ok (.iload_n 1, 1) := by decide +kernel
theorem dX5_layHeights_16 : decode cX5_layHeights 16 = .ok (.iconst 0, 1) := by decide +kernel
theorem dX5_layHeights_17 : decode cX5_layHeights 17 = .ok (.iastore, 1) := by decide +kernel
theorem dX5_layHeights_18 : decode cX5_layHeights 18 = .ok (.iload_n 1, 1) := by decide +kernel
theorem dX5_layHeights_19 : decode cX5_layHeights 19 = .ok (.iconst 1, 1) := by decide +kernel
theorem dX5_layHeights_20 : decode cX5_layHeights 20 = .ok (.iadd, 1) := by decide +kernel
theorem dX5_layHeights_21 : decode cX5_layHeights 21 = .ok (.istore_n 2, 1) := by decide +kernel
theorem dX5_layHeights_22 : decode cX5_layHeights 22 = .ok (.iload_n 2, 1) := by decide +kernel
theorem dX5_layHeights_23 : decode cX5_layHeights 23 = .ok (.aload_n 0, 1) := by decide +kernel
theorem dX5_layHeights_24 : decode cX5_layHeights 24 = .ok (.getfield 138, 3) := by decide +kernel
theorem dX5_layHeights_27 : decode cX5_layHeights 27 = .ok (.if_icmp .ge 56, 3) := by decide +kernel
theorem dX5_layHeights_30 : decode cX5_layHeights 30 = .ok (.aload_n 0, 1) := by decide +kernel
theorem dX5_layHeights_31 : decode cX5_layHeights 31 = .ok (.getfield 63, 3) := by decide +kernel
theorem dX5_layHeights_34 : decode cX5_layHeights 34 = .ok (.iload_n 1, 1) := by decide +kernel
theorem dX5_layHeights_35 : decode cX5_layHeights 35 = .ok (.aload_n 0, 1) := by decide +kernel
theorem dX5_layHeights_36 : decode cX5_layHeights 36 = .ok (.iload_n 2, 1) := by decide +kernel
theorem dX5_layHeights_37 : decode cX5_layHeights 37 = .ok (.iload_n 1, 1) := by decide +kernel
theorem dX5_layHeights_38 : decode cX5_layHeights 38 = .ok (.invokevirtual 162, 3) := by decide +kernel
theorem dX5_layHeights_41 : decode cX5_layHeights 41 = .ok (.ifCond .eq 29, 3) := by decide +kernel
theorem dX5_layHeights_44 : decode cX5_layHeights 44 = .ok (.aload_n 0, 1) := by decide +kernel
theorem dX5_layHeights_45 : decode cX5_layHeights 45 = .ok (.getfield 63, 3) := by decide +kernel
theorem dX5_layHeights_48 : decode cX5_layHeights 48 = .ok (.iload_n 2, 1) := by decide +kernel
theorem dX5_layHeights_49 : decode cX5_layHeights 49 = .ok (.iaload, 1) := by decide +kernel
theorem dX5_layHeights_50 : decode cX5_layHeights 50 = .ok (.aload_n 0, 1) := by decide +kernel
theorem dX5_layHeights_51 : decode cX5_layHeights 51 = .ok (.getfield 63, 3) := by decide +kernel
theorem dX5_layHeights_54 : decode cX5_layHeights 54 = .ok (.iload_n 1, 1) := by decide +kernel
theorem dX5_layHeights_55 : decode cX5_layHeights 55 = .ok (.iaload, 1) := by decide +kernel
theorem dX5_layHeights_56 : decode cX5_layHeights 56 = .ok (.if_icmp .lt 14, 3) := by decide +kernel
theorem dX5_layHeights_59 : decode cX5_layHeights 59 = .ok (.aload_n 0, 1) := by decide +kernel
theorem dX5_layHeights_60 : decode cX5_layHeights 60 = .ok (.getfield 63, 3) := by decide +kernel
theorem dX5_layHeights_63 : decode cX5_layHeights 63 = .ok (.iload_n 2, 1) := by decide +kernel
theorem dX5_layHeights_64 : decode cX5_layHeights 64 = .ok (.iaload, 1) := by decide +kernel
theorem dX5_layHeights_65 : decode cX5_layHeights 65 = .ok (.iconst 1, 1) := by decide +kernel
theorem dX5_layHeights_66 : decode cX5_layHeights 66 = .ok (.iadd, 1) := by decide +kernel
theorem dX5_layHeights_67 : decode cX5_layHeights 67 = .ok (.goto 9, 3) := by decide +kernel
theorem dX5_layHeights_70 : decode cX5_layHeights 70 = .ok (.aload_n 0, 1) := by decide +kernel
theorem dX5_layHeights_71 : decode cX5_layHeights 71 = .ok (.getfield 63, 3) := by decide +kernel
theorem dX5_layHeights_74 : decode cX5_layHeights 74 = .ok (.iload_n 1, 1) := by decide +kernel
theorem dX5_layHeights_75 : decode cX5_layHeights 75 = .ok (.iaload, 1) := by decide +kernel
theorem dX5_layHeights_76 : decode cX5_layHeights 76 = .ok (.iastore, 1) := by decide +kernel
theorem dX5_layHeights_77 : decode cX5_layHeights 77 = .ok (.iinc 2 1, 3) := by decide +kernel
theorem dX5_layHeights_80 : decode cX5_layHeights 80 = .ok (.goto (-58), 3) := by decide +kernel
theorem dX5_layHeights_83 : decode cX5_layHeights 83 = .ok (.iinc 1 (-1), 3) := by decide +kernel
theorem dX5_layHeights_86 : decode cX5_layHeights 86 = .ok (.goto (-79), 3) := by decide +kernel
theorem dX5_layHeights_89 : decode cX5_layHeights 89 = .ok (.return_, 1) := by decide +kernel
theorem dX5_aboveOf_0 : decode cX5_aboveOf 0 = .ok (.iconst 0, 1) := by decide +kernel
theorem dX5_aboveOf_1 : decode cX5_aboveOf 1 = .ok (.istore_n 2, 1) := by decide +kernel
theorem dX5_aboveOf_2 : decode cX5_aboveOf 2 = .ok (.iconst 0, 1) := by decide +kernel
theorem dX5_aboveOf_3 : decode cX5_aboveOf 3 = .ok (.istore_n 3, 1) := by decide +kernel
theorem dX5_aboveOf_4 : decode cX5_aboveOf 4 = .ok (.iload_n 3, 1) := by decide +kernel
theorem dX5_aboveOf_5 : decode cX5_aboveOf 5 = .ok (.aload_n 0, 1) := by decide +kernel
theorem dX5_aboveOf_6 : decode cX5_aboveOf 6 = .ok (.getfield 138, 3) := by decide +kernel
theorem dX5_aboveOf_9 : decode cX5_aboveOf 9 = .ok (.if_icmp .ge 26, 3) := by decide +kernel
theorem dX5_aboveOf_12 : decode cX5_aboveOf 12 = .ok (.iload_n 2, 1) := by decide +kernel
theorem dX5_aboveOf_13 : decode cX5_aboveOf 13 = .ok (.aload_n 0, 1) := by decide +kernel
theorem dX5_aboveOf_14 : decode cX5_aboveOf 14 = .ok (.iload_n 3, 1) := by decide +kernel
theorem dX5_aboveOf_15 : decode cX5_aboveOf 15 = .ok (.iload_n 1, 1) := by decide +kernel
theorem dX5_aboveOf_16 : decode cX5_aboveOf 16 = .ok (.invokevirtual 162, 3) := by decide +kernel
theorem dX5_aboveOf_19 : decode cX5_aboveOf 19 = .ok (.ifCond .eq 7, 3) := by decide +kernel
theorem dX5_aboveOf_22 : decode cX5_aboveOf 22 = .ok (.iconst 1, 1) := by decide +kernel
theorem dX5_aboveOf_23 : decode cX5_aboveOf 23 = .ok (.goto 4, 3) := by decide +kernel
theorem dX5_aboveOf_26 : decode cX5_aboveOf 26 = .ok (.iconst 0, 1) := by decide +kernel
theorem dX5_aboveOf_27 : decode cX5_aboveOf 27 = .ok (.iadd, 1) := by decide +kernel
theorem dX5_aboveOf_28 : decode cX5_aboveOf 28 = .ok (.istore_n 2, 1) := by decide +kernel
theorem dX5_aboveOf_29 : decode cX5_aboveOf 29 = .ok (.iinc 3 1, 3) := by decide +kernel
theorem dX5_aboveOf_32 : decode cX5_aboveOf 32 = .ok (.goto (-28), 3) := by decide +kernel
theorem dX5_aboveOf_35 : decode cX5_aboveOf 35 = .ok (.iload_n 2, 1) := by decide +kernel
theorem dX5_aboveOf_36 : decode cX5_aboveOf 36 = .ok (.ireturn, 1) := by decide +kernel
theorem dX5_belowOf_0 : decode cX5_belowOf 0 = .ok (.iconst 0, 1) := by decide +kernel
theorem dX5_belowOf_1 : decode cX5_belowOf 1 = .ok (.istore_n 2, 1) := by decide +kernel
theorem dX5_belowOf_2 : decode cX5_belowOf 2 = .ok (.iconst 0, 1) := by decide +kernel
theorem dX5_belowOf_3 : decode cX5_belowOf 3 = .ok (.istore_n 3, 1) := by decide +kernel
theorem dX5_belowOf_4 : decode cX5_belowOf 4 = .ok (.iload_n 3, 1) := by decide +kernel
theorem dX5_belowOf_5 : decode cX5_belowOf 5 = .ok (.aload_n 0, 1) := by decide +kernel
theorem dX5_belowOf_6 : decode cX5_belowOf 6 = .ok (.getfield 138, 3) := by decide +kernel
theorem dX5_belowOf_9 : decode cX5_belowOf 9 = .ok (.if_icmp .ge 26, 3) := by decide +kernel
theorem dX5_belowOf_12 : decode cX5_belowOf 12 = .ok (.iload_n 2, 1) := by decide +kernel
theorem dX5_belowOf_13 : decode cX5_belowOf 13 = .ok (.aload_n 0, 1) := by decide +kernel
theorem dX5_belowOf_14 : decode cX5_belowOf 14 = .ok (.iload_n 1, 1) := by decide +kernel
theorem dX5_belowOf_15 : decode cX5_belowOf 15 = .ok (.iload_n 3, 1) := by decide +kernel
theorem dX5_belowOf_16 : decode cX5_belowOf 16 = .ok (.invokevirtual 162, 3) := by decide +kernel
theorem dX5_belowOf_19 : decode cX5_belowOf 19 = .ok (.ifCond .eq 7, 3) := by decide +kernel
theorem dX5_belowOf_22 : decode cX5_belowOf 22 = .ok (.iconst 1, 1) := by decide +kernel
theorem dX5_belowOf_23 : decode cX5_belowOf 23 = .ok (.goto 4, 3) := by decide +kernel
theorem dX5_belowOf_26 : decode cX5_belowOf 26 = .ok (.iconst 0, 1) := by decide +kernel
theorem dX5_belowOf_27 : decode cX5_belowOf 27 = .ok (.iadd, 1) := by decide +kernel
theorem dX5_belowOf_28 : decode cX5_belowOf 28 = .ok (.istore_n 2, 1) := by decide +kernel
theorem dX5_belowOf_29 : decode cX5_belowOf 29 = .ok (.iinc 3 1, 3) := by decide +kernel
theorem dX5_belowOf_32 : decode cX5_belowOf 32 = .ok (.goto (-28), 3) := by decide +kernel
theorem dX5_belowOf_35 : decode cX5_belowOf 35 = .ok (.iload_n 2, 1) := by decide +kernel
theorem dX5_belowOf_36 : decode cX5_belowOf 36 = .ok (.ireturn, 1) := by decide +kernel
theorem dX5_worlds_0 : decode cX5_worlds 0 = .ok (.iload_n 1, 1) := by decide +kernel
theorem dX5_worlds_1 : decode cX5_worlds 1 = .ok (.invokestatic 106, 3) := by decide +kernel
theorem dX5_worlds_4 : decode cX5_worlds 4 = .ok (.ifCond .ne 5, 3) := by decide +kernel
theorem dX5_worlds_7 : decode cX5_worlds 7 = .ok (.iconst (-1), 1) := by decide +kernel
theorem dX5_worlds_8 : decode cX5_worlds 8 = .ok (.ireturn, 1) := by decide +kernel
theorem dX5_worlds_9 : decode cX5_worlds 9 = .ok (.iload_n 2, 1) := by decide +kernel
theorem dX5_worlds_10 : decode cX5_worlds 10 = .ok (.iconst 0, 1) := by decide +kernel
theorem dX5_worlds_11 : decode cX5_worlds 11 = .ok (.iconst 5, 1) := by decide +kernel
theorem dX5_worlds_12 : decode cX5_worlds 12 = .ok (.invokestatic 69, 3) := by decide +kernel
theorem dX5_worlds_15 : decode cX5_worlds 15 = .ok (.ifCond .ne 6, 3) := by decide +kernel
theorem dX5_worlds_18 : decode cX5_worlds 18 = .ok (.bipush (-2), 2) := by decide +kernel
theorem dX5_worlds_20 : decode cX5_worlds 20 = .ok (.ireturn, 1) := by decide +kernel
theorem dX5_worlds_21 : decode cX5_worlds 21 = .ok (.aload_n 0, 1) := by decide +kernel
theorem dX5_worlds_22 : decode cX5_worlds 22 = .ok (.iload_n 1, 1) := by decide +kernel
theorem dX5_worlds_23 : decode cX5_worlds 23 = .ok (.invokevirtual 120, 3) := by decide +kernel
theorem dX5_worlds_26 : decode cX5_worlds 26 = .ok (.ifCond .eq 6, 3) := by decide +kernel
theorem dX5_worlds_29 : decode cX5_worlds 29 = .ok (.bipush (-3), 2) := by decide +kernel
theorem dX5_worlds_31 : decode cX5_worlds 31 = .ok (.ireturn, 1) := by decide +kernel
theorem dX5_worlds_32 : decode cX5_worlds 32 = .ok (.aload_n 0, 1) := by decide +kernel
theorem dX5_worlds_33 : decode cX5_worlds 33 = .ok (.iload_n 1, 1) := by decide +kernel
theorem dX5_worlds_34 : decode cX5_worlds 34 = .ok (.invokevirtual 117, 3) := by decide +kernel
theorem dX5_worlds_37 : decode cX5_worlds 37 = .ok (.aload_n 0, 1) := by decide +kernel
theorem dX5_worlds_38 : decode cX5_worlds 38 = .ok (.invokevirtual 147, 3) := by decide +kernel
theorem dX5_worlds_41 : decode cX5_worlds 41 = .ok (.aload_n 0, 1) := by decide +kernel
theorem dX5_worlds_42 : decode cX5_worlds 42 = .ok (.invokevirtual 165, 3) := by decide +kernel
theorem dX5_worlds_45 : decode cX5_worlds 45 = .ok (.iconst 0, 1) := by decide +kernel
theorem dX5_worlds_46 : decode cX5_worlds 46 = .ok (.istore_n 3, 1) := by decide +kernel
theorem dX5_worlds_47 : decode cX5_worlds 47 = .ok (.bipush (-6), 2) := by decide +kernel
theorem dX5_worlds_49 : decode cX5_worlds 49 = .ok (.istore 4, 2) := by decide +kernel
theorem dX5_worlds_51 : decode cX5_worlds 51 = .ok (.iconst 0, 1) := by decide +kernel
theorem dX5_worlds_52 : decode cX5_worlds 52 = .ok (.istore 5, 2) := by decide +kernel
theorem dX5_worlds_54 : decode cX5_worlds 54 = .ok (.iconst 0, 1) := by decide +kernel
theorem dX5_worlds_55 : decode cX5_worlds 55 = .ok (.istore 6, 2) := by decide +kernel
theorem dX5_worlds_57 : decode cX5_worlds 57 = .ok (.iconst 0, 1) := by decide +kernel
theorem dX5_worlds_58 : decode cX5_worlds 58 = .ok (.istore 7, 2) := by decide +kernel
theorem dX5_worlds_60 : decode cX5_worlds 60 = .ok (.aload_n 0, 1) := by decide +kernel
theorem dX5_worlds_61 : decode cX5_worlds 61 = .ok (.getfield 138, 3) := by decide +kernel
theorem dX5_worlds_64 : decode cX5_worlds 64 = .ok (.iconst 1, 1) := by decide +kernel
theorem dX5_worlds_65 : decode cX5_worlds 65 = .ok (.isub, 1) := by decide +kernel
theorem dX5_worlds_66 : decode cX5_worlds 66 = .ok (.istore 8, 2) := by decide +kernel
theorem dX5_worlds_68 : decode cX5_worlds 68 = .ok (.iload 8, 2) := by decide +kernel
theorem dX5_worlds_70 : decode cX5_worlds 70 = .ok (.ifCond .lt 131, 3) := by decide +kernel
theorem dX5_worlds_73 : decode cX5_worlds 73 = .ok (.aload_n 0, 1) := by decide +kernel
theorem dX5_worlds_74 : decode cX5_worlds 74 = .ok (.getfield 56, 3) := by decide +kernel
theorem dX5_worlds_77 : decode cX5_worlds 77 = .ok (.iload 8, 2) := by decide +kernel
theorem dX5_worlds_79 : decode cX5_worlds 79 = .ok (.iaload, 1) := by decide +kernel
theorem dX5_worlds_80 : decode cX5_worlds 80 = .ok (.aload_n 0, 1) := by decide +kernel
theorem dX5_worlds_81 : decode cX5_worlds 81 = .ok (.getfield 73, 3) := by decide +kernel
theorem dX5_worlds_84 : decode cX5_worlds 84 = .ok (.iconst 1, 1) := by decide +kernel
theorem dX5_worlds_85 : decode cX5_worlds 85 = .ok (.isub, 1) := by decide +kernel
theorem dX5_worlds_86 : decode cX5_worlds 86 = .ok (.invokestatic 134, 3) := by decide +kernel
theorem dX5_worlds_89 : decode cX5_worlds 89 = .ok (.ifCond .ne 7, 3) := by decide +kernel
theorem dX5_worlds_92 : decode cX5_worlds 92 = .ok (.iconst 1, 1) := by decide +kernel
theorem dX5_worlds_93 : decode cX5_worlds 93 = .ok (.goto 4, 3) := by decide +kernel
theorem dX5_worlds_96 : decode cX5_worlds 96 = .ok (.iconst 0, 1) := by decide +kernel
theorem dX5_worlds_97 : decode cX5_worlds 97 = .ok (.istore 9, 2) := by decide +kernel
theorem dX5_worlds_99 : decode cX5_worlds 99 = .ok (.iload_n 3, 1) := by decide +kernel
theorem dX5_worlds_100 : decode cX5_worlds 100 = .ok (.iload 9, 2) := by decide +kernel
theorem dX5_worlds_102 : decode cX5_worlds 102 = .ok (.ifCond .eq 7, 3) := by decide +kernel
theorem dX5_worlds_105 : decode cX5_worlds 105 = .ok (.iconst 1, 1) := by decide +kernel
theorem dX5_worlds_106 : decode cX5_worlds 106 = .ok (.goto 4, 3) := by decide +kernel
theorem dX5_worlds_109 : decode cX5_worlds 109 = .ok (.iconst 0, 1) := by decide +kernel
theorem dX5_worlds_110 : decode cX5_worlds 110 = .ok (.iadd, 1) := by decide +kernel
theorem dX5_worlds_111 : decode cX5_worlds 111 = .ok (.istore_n 3, 1) := by decide +kernel
theorem dX5_worlds_112 : decode cX5_worlds 112 = .ok (.iload 9, 2) := by decide +kernel
theorem dX5_worlds_114 : decode cX5_worlds 114 = .ok (.ifCond .eq 13, 3) := by decide +kernel
theorem dX5_worlds_117 : decode cX5_worlds 117 = .ok (.aload_n 0, 1) := by decide +kernel
theorem dX5_worlds_118 : decode cX5_worlds 118 = .ok (.getfield 56, 3) := by decide +kernel
theorem dX5_worlds_121 : decode cX5_worlds 121 = .ok (.iload 8, 2) := by decide +kernel
theorem dX5_worlds_123 : decode cX5_worlds 123 = .ok (.iaload, 1) := by decide +kernel
theorem dX5_worlds_124 : decode cX5_worlds 124 = .ok (.goto 5, 3) := by decide +kernel
theorem dX5_worlds_127 : decode cX5_worlds 127 = .ok (.iload 4, 2) := by decide +kernel
theorem dX5_worlds_129 : decode cX5_worlds 129 = .ok (.istore 4, 2) := by decide +kernel
theorem dX5_worlds_131 : decode cX5_worlds 131 = .ok (.iload 5, 2) := by decide +kernel
theorem dX5_worlds_133 : decode cX5_worlds 133 = .ok (.aload_n 0, 1) := by decide +kernel
theorem dX5_worlds_134 : decode cX5_worlds 134 = .ok (.iload 8, 2) := by decide +kernel
theorem dX5_worlds_136 : decode cX5_worlds 136 = .ok (.invokevirtual 168, 3) := by decide +kernel
theorem dX5_worlds_139 : decode cX5_worlds 139 = .ok (.ifCond .ne 7, 3) := by decide +kernel
theorem dX5_worlds_142 : decode cX5_worlds 142 = .ok (.iconst 1, 1) := by decide +kernel
theorem dX5_worlds_143 : decode cX5_worlds 143 = .ok (.goto 4, 3) := by decide +kernel
theorem dX5_worlds_146 : decode cX5_worlds 146 = .ok (.iconst 0, 1) := by decide +kernel
theorem dX5_worlds_147 : decode cX5_worlds 147 = .ok (.iadd, 1) := by decide +kernel
theorem dX5_worlds_148 : decode cX5_worlds 148 = .ok (.istore 5, 2) := by decide +kernel
theorem dX5_worlds_150 : decode cX5_worlds 150 = .ok (.aload_n 0, 1) := by decide +kernel
theorem dX5_worlds_151 : decode cX5_worlds 151 = .ok (.getfield 63, 3) := by decide +kernel
theorem dX5_worlds_154 : decode cX5_worlds 154 = .ok (.iload 8, 2) := by decide +kernel
theorem dX5_worlds_156 : decode cX5_worlds 156 = .ok (.iaload, 1) := by decide +kernel
theorem dX5_worlds_157 : decode cX5_worlds 157 = .ok (.iload 6, 2) := by decide +kernel
theorem dX5_worlds_159 : decode cX5_worlds 159 = .ok (.if_icmp .le 13, 3) := by decide +kernel
theorem dX5_worlds_162 : decode cX5_worlds 162 = .ok (.aload_n 0, 1) := by decide +kernel
theorem dX5_worlds_163 : decode cX5_worlds 163 = .ok (.getfield 63, 3) := by decide +kernel
theorem dX5_worlds_166 : decode cX5_worlds 166 = .ok (.iload 8, 2) := by decide +kernel
theorem dX5_worlds_168 : decode cX5_worlds 168 = .ok (.iaload, 1) := by decide +kernel
theorem dX5_worlds_169 : decode cX5_worlds 169 = .ok (.goto 5, 3) := by decide +kernel
theorem dX5_worlds_172 : decode cX5_worlds 172 = .ok (.iload 6, 2) := by decide +kernel
theorem dX5_worlds_174 : decode cX5_worlds 174 = .ok (.istore 6, 2) := by decide +kernel
theorem dX5_worlds_176 : decode cX5_worlds 176 = .ok (.iload 7, 2) := by decide +kernel
theorem dX5_worlds_178 : decode cX5_worlds 178 = .ok (.aload_n 0, 1) := by decide +kernel
theorem dX5_worlds_179 : decode cX5_worlds 179 = .ok (.iload 8, 2) := by decide +kernel
theorem dX5_worlds_181 : decode cX5_worlds 181 = .ok (.invokevirtual 171, 3) := by decide +kernel
theorem dX5_worlds_184 : decode cX5_worlds 184 = .ok (.ifCond .ne 7, 3) := by decide +kernel
theorem dX5_worlds_187 : decode cX5_worlds 187 = .ok (.iconst 1, 1) := by decide +kernel
theorem dX5_worlds_188 : decode cX5_worlds 188 = .ok (.goto 4, 3) := by decide +kernel
theorem dX5_worlds_191 : decode cX5_worlds 191 = .ok (.iconst 0, 1) := by decide +kernel
theorem dX5_worlds_192 : decode cX5_worlds 192 = .ok (.iadd, 1) := by decide +kernel
theorem dX5_worlds_193 : decode cX5_worlds 193 = .ok (.istore 7, 2) := by decide +kernel
theorem dX5_worlds_195 : decode cX5_worlds 195 = .ok (.iinc 8 (-1), 3) := by decide +kernel
theorem dX5_worlds_198 : decode cX5_worlds 198 = .ok (.goto (-130), 3) := by decide +kernel
theorem dX5_worlds_201 : decode cX5_worlds 201 = .ok (.iload_n 2, 1) := by decide +kernel
theorem dX5_worlds_202 : decode cX5_worlds 202 = .ok (.ifCond .ne 10, 3) := by decide +kernel
theorem dX5_worlds_205 : decode cX5_worlds 205 = .ok (.aload_n 0, 1) := by decide +kernel
theorem dX5_worlds_206 : decode cX5_worlds 206 = .ok (.getfield 138, 3) := by decide +kernel
theorem dX5_worlds_209 : decode cX5_worlds 209 = .ok (.goto 44, 3) := by decide +kernel
theorem dX5_worlds_212 : decode cX5_worlds 212 = .ok (.iload_n 2, 1) := by decide +kernel
theorem dX5_worlds_213 : decode cX5_worlds 213 = .ok (.iconst 1, 1) := by decide +kernel
theorem dX5_worlds_214 : decode cX5_worlds 214 = .ok (.if_icmp .ne 7, 3) := by decide +kernel
theorem dX5_worlds_217 : decode cX5_worlds 217 = .ok (.iload_n 3, 1) := by decide +kernel
theorem dX5_worlds_218 : decode cX5_worlds 218 = .ok (.goto 35, 3) := by decide +kernel
theorem dX5_worlds_221 : decode cX5_worlds 221 = .ok (.iload_n 2, 1) := by decide +kernel
theorem dX5_worlds_222 : decode cX5_worlds 222 = .ok (.iconst 2, 1) := by decide +kernel
theorem dX5_worlds_223 : decode cX5_worlds 223 = .ok (.if_icmp .ne 8, 3) := by decide +kernel
theorem dX5_worlds_226 : decode cX5_worlds 226 = .ok (.iload 4, 2) := by decide +kernel
theorem dX5_worlds_228 : decode cX5_worlds 228 = .ok (.goto 25, 3) := by decide +kernel
theorem dX5_worlds_231 : decode cX5_worlds 231 = .ok (.iload_n 2, 1) := by decide +kernel
theorem dX5_worlds_232 : decode cX5_worlds 232 = .ok (.iconst 3, 1) := by decide +kernel
theorem dX5_worlds_233 : decode cX5_worlds 233 = .ok (.if_icmp .ne 8, 3) := by decide +kernel
theorem dX5_worlds_236 : decode cX5_worlds 236 = .ok (.iload 5, 2) := by decide +kernel
theorem dX5_worlds_238 : decode cX5_worlds 238 = .ok (.goto 15, 3) := by decide +kernel
theorem dX5_worlds_241 : decode cX5_worlds 241 = .ok (.iload_n 2, 1) := by decide +kernel
theorem dX5_worlds_242 : decode cX5_worlds 242 = .ok (.iconst 4, 1) := by decide +kernel
theorem dX5_worlds_243 : decode cX5_worlds 243 = .ok (.if_icmp .ne 8, 3) := by decide +kernel
theorem dX5_worlds_246 : decode cX5_worlds 246 = .ok (.iload 6, 2) := by decide +kernel
theorem dX5_worlds_248 : decode cX5_worlds 248 = .ok (.goto 5, 3) := by decide +kernel
theorem dX5_worlds_251 : decode cX5_worlds 251 = .ok (.iload 7, 2) := by decide +kernel
theorem dX5_worlds_253 : decode cX5_worlds 253 = .ok (.ireturn, 1) := by decide +kernel
theorem dX5_world_0 : decode cX5_world 0 = .ok (.iload_n 1, 1) := by decide +kernel
theorem dX5_world_1 : decode cX5_world 1 = .ok (.invokestatic 106, 3) := by decide +kernel
theorem dX5_world_4 : decode cX5_world 4 = .ok (.ifCond .ne 5, 3) := by decide +kernel
theorem dX5_world_7 : decode cX5_world 7 = .ok (.iconst (-1), 1) := by decide +kernel
theorem dX5_world_8 : decode cX5_world 8 = .ok (.ireturn, 1) := by decide +kernel
theorem dX5_world_9 : decode cX5_world 9 = .ok (.iload_n 3, 1) := by decide +kernel
theorem dX5_world_10 : decode cX5_world 10 = .ok (.iconst 0, 1) := by decide +kernel
theorem dX5_world_11 : decode cX5_world 11 = .ok (.iconst 2, 1) := by decide +kernel
theorem dX5_world_12 : decode cX5_world 12 = .ok (.invokestatic 69, 3) := by decide +kernel
theorem dX5_world_15 : decode cX5_world 15 = .ok (.ifCond .ne 6, 3) := by decide +kernel
theorem dX5_world_18 : decode cX5_world 18 = .ok (.bipush (-2), 2) := by decide +kernel
theorem dX5_world_20 : decode cX5_world 20 = .ok (.ireturn, 1) := by decide +kernel
theorem dX5_world_21 : decode cX5_world 21 = .ok (.aload_n 0, 1) := by decide +kernel
theorem dX5_world_22 : decode cX5_world 22 = .ok (.iload_n 1, 1) := by decide +kernel
theorem dX5_world_23 : decode cX5_world 23 = .ok (.invokevirtual 120, 3) := by decide +kernel
theorem dX5_world_26 : decode cX5_world 26 = .ok (.ifCond .eq 6, 3) := by decide +kernel
theorem dX5_world_29 : decode cX5_world 29 = .ok (.bipush (-3), 2) := by decide +kernel
theorem dX5_world_31 : decode cX5_world 31 = .ok (.ireturn, 1) := by decide +kernel
theorem dX5_world_32 : decode cX5_world 32 = .ok (.aload_n 0, 1) := by decide +kernel
theorem dX5_world_33 : decode cX5_world 33 = .ok (.iload_n 1, 1) := by decide +kernel
theorem dX5_world_34 : decode cX5_world 34 = .ok (.invokevirtual 117, 3) := by decide +kernel
theorem dX5_world_37 : decode cX5_world 37 = .ok (.aload_n 0, 1) := by decide +kernel
theorem dX5_world_38 : decode cX5_world 38 = .ok (.invokevirtual 147, 3) := by decide +kernel
theorem dX5_world_41 : decode cX5_world 41 = .ok (.iload_n 2, 1) := by decide +kernel
theorem dX5_world_42 : decode cX5_world 42 = .ok (.iconst 0, 1) := by decide +kernel
theorem dX5_world_43 : decode cX5_world 43 = .ok (.aload_n 0, 1) := by decide +kernel
theorem dX5_world_44 : decode cX5_world 44 = .ok (.getfield 138, 3) := by decide +kernel
theorem dX5_world_47 : decode cX5_world 47 = .ok (.iconst 1, 1) := by decide +kernel
theorem dX5_world_48 : decode cX5_world 48 = .ok (.isub, 1) := by decide +kernel
theorem dX5_world_49 : decode cX5_world 49 = .ok (.invokestatic 69, 3) := by decide +kernel
theorem dX5_world_52 : decode cX5_world 52 = .ok (.ifCond .ne 6, 3) := by decide +kernel
theorem dX5_world_55 : decode cX5_world 55 = .ok (.bipush (-6), 2) := by decide +kernel
theorem dX5_world_57 : decode cX5_world 57 = .ok (.ireturn, 1) := by decide +kernel
theorem dX5_world_58 : decode cX5_world 58 = .ok (.aload_n 0, 1) := by decide +kernel
theorem dX5_world_59 : decode cX5_world 59 = .ok (.invokevirtual 165, 3) := by decide +kernel
theorem dX5_world_62 : decode cX5_world 62 = .ok (.iload_n 3, 1) := by decide +kernel
theorem dX5_world_63 : decode cX5_world 63 = .ok (.ifCond .ne 12, 3) := by decide +kernel
theorem dX5_world_66 : decode cX5_world 66 = .ok (.aload_n 0, 1) := by decide +kernel
theorem dX5_world_67 : decode cX5_world 67 = .ok (.getfield 56, 3) := by decide +kernel
theorem dX5_world_70 : decode cX5_world 70 = .ok (.iload_n 2, 1) := by decide +kernel
theorem dX5_world_71 : decode cX5_world 71 = .ok (.iaload, 1) := by decide +kernel
theorem dX5_world_72 : decode cX5_world 72 = .ok (.goto 22, 3) := by decide +kernel
theorem dX5_world_75 : decode cX5_world 75 = .ok (.iload_n 3, 1) := by decide +kernel
theorem dX5_world_76 : decode cX5_world 76 = .ok (.iconst 1, 1) := by decide +kernel
theorem dX5_world_77 : decode cX5_world 77 = .ok (.if_icmp .ne 11, 3) := by decide +kernel
theorem dX5_world_80 : decode cX5_world 80 = .ok (.aload_n 0, 1) := by decide +kernel
theorem dX5_world_81 : decode cX5_world 81 = .ok (.iload_n 2, 1) := by decide +kernel
theorem dX5_world_82 : decode cX5_world 82 = .ok (.invokevirtual 168, 3) := by decide +kernel
theorem dX5_world_85 : decode cX5_world 85 = .ok (.goto 9, 3) := by decide +kernel
theorem dX5_world_88 : decode cX5_world 88 = .ok (.aload_n 0, 1) := by decide +kernel
theorem dX5_world_89 : decode cX5_world 89 = .ok (.getfield 63, 3) := by decide +kernel
theorem dX5_world_92 : decode cX5_world 92 = .ok (.iload_n 2, 1) := by decide +kernel
theorem dX5_world_93 : decode cX5_world 93 = .ok (.iaload, 1) := by decide +kernel
theorem dX5_world_94 : decode cX5_world 94 = .ok (.ireturn, 1) := by decide +kernel
theorem dX5_copy_0 : decode cX5_copy 0 = .ok (.aload_n 0, 1) := by decide +kernel
theorem dX5_copy_1 : decode cX5_copy 1 = .ok (.iload_n 1, 1) := by decide +kernel
theorem dX5_copy_2 : decode cX5_copy 2 = .ok (.invokevirtual 117, 3) := by decide +kernel
theorem dX5_copy_5 : decode cX5_copy 5 = .ok (.aload_n 0, 1) := by decide +kernel
theorem dX5_copy_6 : decode cX5_copy 6 = .ok (.iload_n 2, 1) := by decide +kernel
theorem dX5_copy_7 : decode cX5_copy 7 = .ok (.invokevirtual 113, 3) := by decide +kernel
theorem dX5_copy_10 : decode cX5_copy 10 = .ok (.pop, 1) := by decide +kernel
theorem dX5_copy_11 : decode cX5_copy 11 = .ok (.return_, 1) := by decide +kernel
theorem dX5_image_0 : decode cX5_image 0 = .ok (.iload_n 1, 1) := by decide +kernel
theorem dX5_image_1 : decode cX5_image 1 = .ok (.iconst 0, 1) := by decide +kernel
theorem dX5_image_2 : decode cX5_image 2 = .ok (.iconst 1, 1) := by decide +kernel
theorem dX5_image_3 : decode cX5_image 3 = .ok (.invokestatic 69, 3) := by decide +kernel
theorem dX5_image_6 : decode cX5_image 6 = .ok (.ifCond .ne 6, 3) := by decide +kernel
theorem dX5_image_9 : decode cX5_image 9 = .ok (.bipush (-2), 2) := by decide +kernel
theorem dX5_image_11 : decode cX5_image 11 = .ok (.ireturn, 1) := by decide +kernel
theorem dX5_image_12 : decode cX5_image 12 = .ok (.iconst 0, 1) := by decide +kernel
theorem dX5_image_13 : decode cX5_image 13 = .ok (.istore_n 2, 1) := by decide +kernel
theorem dX5_image_14 : decode cX5_image 14 = .ok (.iload_n 2, 1) := by decide +kernel
theorem dX5_image_15 : decode cX5_image 15 = .ok (.bipush 6, 2) := by decide +kernel
theorem dX5_image_17 : decode cX5_image 17 = .ok (.if_icmp .ge 23, 3) := by decide +kernel
theorem dX5_image_20 : decode cX5_image 20 = .ok (.aload_n 0, 1) := by decide +kernel
theorem dX5_image_21 : decode cX5_image 21 = .ok (.iload_n 2, 1) := by decide +kernel
theorem dX5_image_22 : decode cX5_image 22 = .ok (.bipush 6, 2) := by decide +kernel
theorem dX5_image_24 : decode cX5_image 24 = .ok (.bipush 6, 2) := by decide +kernel
theorem dX5_image_26 : decode cX5_image 26 = .ok (.iload_n 1, 1) := by decide +kernel
theorem dX5_image_27 : decode cX5_image 27 = .ok (.imul, 1) := by decide +kernel
theorem dX5_image_28 : decode cX5_image 28 = .ok (.iadd, 1) := by decide +kernel
theorem dX5_image_29 : decode cX5_image 29 = .ok (.iload_n 2, 1) := by decide +kernel
theorem dX5_image_30 : decode cX5_image 30 = .ok (.iadd, 1) := by decide +kernel
theorem dX5_image_31 : decode cX5_image 31 = .ok (.invokevirtual 174, 3) := by decide +kernel
theorem dX5_image_34 : decode cX5_image 34 = .ok (.iinc 2 1, 3) := by decide +kernel
theorem dX5_image_37 : decode cX5_image 37 = .ok (.goto (-23), 3) := by decide +kernel
theorem dX5_image_40 : decode cX5_image 40 = .ok (.aload_n 0, 1) := by decide +kernel
theorem dX5_image_41 : decode cX5_image 41 = .ok (.getfield 66, 3) := by decide +kernel
theorem dX5_image_44 : decode cX5_image 44 = .ok (.iload_n 1, 1) := by decide +kernel
theorem dX5_image_45 : decode cX5_image 45 = .ok (.iconst 1, 1) := by decide +kernel
theorem dX5_image_46 : decode cX5_image 46 = .ok (.bastore, 1) := by decide +kernel
theorem dX5_image_47 : decode cX5_image 47 = .ok (.iconst 1, 1) := by decide +kernel
theorem dX5_image_48 : decode cX5_image 48 = .ok (.ireturn, 1) := by decide +kernel
theorem dX5_restore_0 : decode cX5_restore 0 = .ok (.iload_n 1, 1) := by decide +kernel
theorem dX5_restore_1 : decode cX5_restore 1 = .ok (.iconst 0, 1) := by decide +kernel
theorem dX5_restore_2 : decode cX5_restore 2 = .ok (.iconst 1, 1) := by decide +kernel
theorem dX5_restore_3 : decode cX5_restore 3 = .ok (.invokestatic 69, 3) := by decide +kernel
theorem dX5_restore_6 : decode cX5_restore 6 = .ok (.ifCond .ne 6, 3) := by decide +kernel
theorem dX5_restore_9 : decode cX5_restore 9 = .ok (.bipush (-2), 2) := by decide +kernel
theorem dX5_restore_11 : decode cX5_restore 11 = .ok (.ireturn, 1) := by decide +kernel
theorem dX5_restore_12 : decode cX5_restore 12 = .ok (.aload_n 0, 1) := by decide +kernel
theorem dX5_restore_13 : decode cX5_restore 13 = .ok (.getfield 66, 3) := by decide +kernel
theorem dX5_restore_16 : decode cX5_restore 16 = .ok (.iload_n 1, 1) := by decide +kernel
theorem dX5_restore_17 : decode cX5_restore 17 = .ok (.baload, 1) := by decide +kernel
theorem dX5_restore_18 : decode cX5_restore 18 = .ok (.ifCond .ne 6, 3) := by decide +kernel
theorem dX5_restore_21 : decode cX5_restore 21 = .ok (.bipush (-3), 2) := by decide +kernel
theorem dX5_restore_23 : decode cX5_restore 23 = .ok (.ireturn, 1) := by decide +kernel
theorem dX5_restore_24 : decode cX5_restore 24 = .ok (.iconst 0, 1) := by decide +kernel
theorem dX5_restore_25 : decode cX5_restore 25 = .ok (.istore_n 2, 1) := by decide +kernel
theorem dX5_restore_26 : decode cX5_restore 26 = .ok (.iload_n 2, 1) := by decide +kernel
theorem dX5_restore_27 : decode cX5_restore 27 = .ok (.bipush 6, 2) := by decide +kernel
theorem dX5_restore_29 : decode cX5_restore 29 = .ok (.if_icmp .ge 23, 3) := by decide +kernel
theorem dX5_restore_32 : decode cX5_restore 32 = .ok (.aload_n 0, 1) := by decide +kernel
theorem dX5_restore_33 : decode cX5_restore 33 = .ok (.bipush 6, 2) := by decide +kernel
theorem dX5_restore_35 : decode cX5_restore 35 = .ok (.bipush 6, 2) := by decide +kernel
theorem dX5_restore_37 : decode cX5_restore 37 = .ok (.iload_n 1, 1) := by decide +kernel
theorem dX5_restore_38 : decode cX5_restore 38 = .ok (.imul, 1) := by decide +kernel
theorem dX5_restore_39 : decode cX5_restore 39 = .ok (.iadd, 1) := by decide +kernel
theorem dX5_restore_40 : decode cX5_restore 40 = .ok (.iload_n 2, 1) := by decide +kernel
