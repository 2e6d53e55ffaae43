theorem dX5_init_0 : decode cX5_init 0 = .ok (.aload_n 0, 1) := by decide +kernel
theorem dX5_init_1 : decode cX5_init 1 = .ok (.invokespecial 1, 3) := by decide +kernel
theorem dX5_init_4 : decode cX5_init 4 = .ok (.aload_n 0, 1) := by decide +kernel
theorem dX5_init_5 : decode cX5_init 5 = .ok (.bipush 18, 2) := by decide +kernel
theorem dX5_init_7 : decode cX5_init 7 = .ok (.newarray .int, 2) := by decide +kernel
theorem dX5_init_9 : decode cX5_init 9 = .ok (.putfield 7, 3) := by decide +kernel
theorem dX5_init_12 : decode cX5_init 12 = .ok (.aload_n 0, 1) := by decide +kernel
theorem dX5_init_13 : decode cX5_init 13 = .ok (.sipush 198, 3) := by decide +kernel
theorem dX5_init_16 : decode cX5_init 16 = .ok (.newarray .int, 2) := by decide +kernel
theorem dX5_init_18 : decode cX5_init 18 = .ok (.putfield 13, 3) := by decide +kernel
theorem dX5_init_21 : decode cX5_init 21 = .ok (.aload_n 0, 1) := by decide +kernel
theorem dX5_init_22 : decode cX5_init 22 = .ok (.sipush 198, 3) := by decide +kernel
theorem dX5_init_25 : decode cX5_init 25 = .ok (.newarray .int, 2) := by decide +kernel
theorem dX5_init_27 : decode cX5_init 27 = .ok (.putfield 16, 3) := by decide +kernel
theorem dX5_init_30 : decode cX5_init 30 = .ok (.aload_n 0, 1) := by decide +kernel
theorem dX5_init_31 : decode cX5_init 31 = .ok (.sipush 198, 3) := by decide +kernel
theorem dX5_init_34 : decode cX5_init 34 = .ok (.newarray .int, 2) := by decide +kernel
theorem dX5_init_36 : decode cX5_init 36 = .ok (.putfield 19, 3) := by decide +kernel
theorem dX5_init_39 : decode cX5_init 39 = .ok (.aload_n 0, 1) := by decide +kernel
theorem dX5_init_40 : decode cX5_init 40 = .ok (.bipush 40, 2) := by decide +kernel
theorem dX5_init_42 : decode cX5_init 42 = .ok (.newarray .int, 2) := by decide +kernel
theorem dX5_init_44 : decode cX5_init 44 = .ok (.putfield 22, 3) := by decide +kernel
theorem dX5_init_47 : decode cX5_init 47 = .ok (.aload_n 0, 1) := by decide +kernel
theorem dX5_init_48 : decode cX5_init 48 = .ok (.bipush (-6), 2) := by decide +kernel
theorem dX5_init_50 : decode cX5_init 50 = .ok (.putfield 25, 3) := by decide +kernel
theorem dX5_init_53 : decode cX5_init 53 = .ok (.aload_n 0, 1) := by decide +kernel
theorem dX5_init_54 : decode cX5_init 54 = .ok (.sipush 128, 3) := by decide +kernel
theorem dX5_init_57 : decode cX5_init 57 = .ok (.newarray .int, 2) := by decide +kernel
theorem dX5_init_59 : decode cX5_init 59 = .ok (.putfield 29, 3) := by decide +kernel
theorem dX5_init_62 : decode cX5_init 62 = .ok (.aload_n 0, 1) := by decide +kernel
theorem dX5_init_63 : decode cX5_init 63 = .ok (.sipush 128, 3) := by decide +kernel
theorem dX5_init_66 : decode cX5_init 66 = .ok (.newarray .int, 2) := by decide +kernel
theorem dX5_init_68 : decode cX5_init 68 = .ok (.putfield 32, 3) := by decide +kernel
theorem dX5_init_71 : decode cX5_init 71 = .ok (.aload_n 0, 1) := by decide +kernel
theorem dX5_init_72 : decode cX5_init 72 = .ok (.sipush 128, 3) := by decide +kernel
theorem dX5_init_75 : decode cX5_init 75 = .ok (.newarray .int, 2) := by decide +kernel
theorem dX5_init_77 : decode cX5_init 77 = .ok (.putfield 35, 3) := by decide +kernel
theorem dX5_init_80 : decode cX5_init 80 = .ok (.aload_n 0, 1) := by decide +kernel
theorem dX5_init_81 : decode cX5_init 81 = .ok (.bipush 64, 2) := by decide +kernel
theorem dX5_init_83 : decode cX5_init 83 = .ok (.newarray .int, 2) := by decide +kernel
theorem dX5_init_85 : decode cX5_init 85 = .ok (.putfield 38, 3) := by decide +kernel
theorem dX5_init_88 : decode cX5_init 88 = .ok (.aload_n 0, 1) := by decide +kernel
theorem dX5_init_89 : decode cX5_init 89 = .ok (.bipush 64, 2) := by decide +kernel
theorem dX5_init_91 : decode cX5_init 91 = .ok (.newarray .int, 2) := by decide +kernel
theorem dX5_init_93 : decode cX5_init 93 = .ok (.putfield 41, 3) := by decide +kernel
theorem dX5_init_96 : decode cX5_init 96 = .ok (.aload_n 0, 1) := by decide +kernel
theorem dX5_init_97 : decode cX5_init 97 = .ok (.bipush 64, 2) := by decide +kernel
theorem dX5_init_99 : decode cX5_init 99 = .ok (.newarray .int, 2) := by decide +kernel
theorem dX5_init_101 : decode cX5_init 101 = .ok (.putfield 44, 3) := by decide +kernel
theorem dX5_init_104 : decode cX5_init 104 = .ok (.aload_n 0, 1) := by decide +kernel
theorem dX5_init_105 : decode cX5_init 105 = .ok (.bipush 16, 2) := by decide +kernel
theorem dX5_init_107 : decode cX5_init 107 = .ok (.newarray .int, 2) := by decide +kernel
theorem dX5_init_109 : decode cX5_init 109 = .ok (.putfield 47, 3) := by decide +kernel
theorem dX5_init_112 : decode cX5_init 112 = .ok (.aload_n 0, 1) := by decide +kernel
theorem dX5_init_113 : decode cX5_init 113 = .ok (.bipush 64, 2) := by decide +kernel
theorem dX5_init_115 : decode cX5_init 115 = .ok (.newarray .int, 2) := by decide +kernel
theorem dX5_init_117 : decode cX5_init 117 = .ok (.putfield 50, 3) := by decide +kernel
theorem dX5_init_120 : decode cX5_init 120 = .ok (.aload_n 0, 1) := by decide +kernel
theorem dX5_init_121 : decode cX5_init 121 = .ok (.bipush 16, 2) := by decide +kernel
theorem dX5_init_123 : decode cX5_init 123 = .ok (.newarray .int, 2) := by decide +kernel
theorem dX5_init_125 : decode cX5_init 125 = .ok (.putfield 53, 3) := by decide +kernel
theorem dX5_init_128 : decode cX5_init 128 = .ok (.aload_n 0, 1) := by decide +kernel
theorem dX5_init_129 : decode cX5_init 129 = .ok (.sipush 2048, 3) := by decide +kernel
theorem dX5_init_132 : decode cX5_init 132 = .ok (.newarray .int, 2) := by decide +kernel
theorem dX5_init_134 : decode cX5_init 134 = .ok (.putfield 56, 3) := by decide +kernel
theorem dX5_init_137 : decode cX5_init 137 = .ok (.aload_n 0, 1) := by decide +kernel
theorem dX5_init_138 : decode cX5_init 138 = .ok (.sipush 2048, 3) := by decide +kernel
theorem dX5_init_141 : decode cX5_init 141 = .ok (.newarray .boolean, 2) := by decide +kernel
theorem dX5_init_143 : decode cX5_init 143 = .ok (.putfield 59, 3) := by decide +kernel
theorem dX5_init_146 : decode cX5_init 146 = .ok (.aload_n 0, 1) := by decide +kernel
theorem dX5_init_147 : decode cX5_init 147 = .ok (.sipush 2048, 3) := by decide +kernel
theorem dX5_init_150 : decode cX5_init 150 = .ok (.newarray .int, 2) := by decide +kernel
theorem dX5_init_152 : decode cX5_init 152 = .ok (.putfield 63, 3) := by decide +kernel
theorem dX5_init_155 : decode cX5_init 155 = .ok (.aload_n 0, 1) := by decide +kernel
theorem dX5_init_156 : decode cX5_init 156 = .ok (.iconst 2, 1) := by decide +kernel
theorem dX5_init_157 : decode cX5_init 157 = .ok (.newarray .boolean, 2) := by decide +kernel
theorem dX5_init_159 : decode cX5_init 159 = .ok (.putfield 66, 3) := by decide +kernel
theorem dX5_init_162 : decode cX5_init 162 = .ok (.return_, 1) := by decide +kernel
theorem dX5_in_0 : decode cX5_in 0 = .ok (.iload_n 0, 1) := by decide +kernel
theorem dX5_in_1 : decode cX5_in 1 = .ok (.iload_n 1, 1) := by decide +kernel
theorem dX5_in_2 : decode cX5_in 2 = .ok (.if_icmp .lt 12, 3) := by decide +kernel
theorem dX5_in_5 : decode cX5_in 5 = .ok (.iload_n 0, 1) := by decide +kernel
theorem dX5_in_6 : decode cX5_in 6 = .ok (.iload_n 2, 1) := by decide +kernel
theorem dX5_in_7 : decode cX5_in 7 = .ok (.if_icmp .gt 7, 3) := by decide +kernel
theorem dX5_in_10 : decode cX5_in 10 = .ok (.iconst 1, 1) := by decide +kernel
theorem dX5_in_11 : decode cX5_in 11 = .ok (.goto 4, 3) := by decide +kernel
theorem dX5_in_14 : decode cX5_in 14 = .ok (.iconst 0, 1) := by decide +kernel
theorem dX5_in_15 : decode cX5_in 15 = .ok (.ireturn, 1) := by decide +kernel
theorem dX5_isSlot_0 : decode cX5_isSlot 0 = .ok (.iload_n 0, 1) := by decide +kernel
theorem dX5_isSlot_1 : decode cX5_isSlot 1 = .ok (.iconst 0, 1) := by decide +kernel
theorem dX5_isSlot_2 : decode cX5_isSlot 2 = .ok (.iconst 5, 1) := by decide +kernel
theorem dX5_isSlot_3 : decode cX5_isSlot 3 = .ok (.invokestatic 69, 3) := by decide +kernel
theorem dX5_isSlot_6 : decode cX5_isSlot 6 = .ok (.ireturn, 1) := by decide +kernel
theorem dX5_has_0 : decode cX5_has 0 = .ok (.iload_n 0, 1) := by decide +kernel
theorem dX5_has_1 : decode cX5_has 1 = .ok (.iload_n 1, 1) := by decide +kernel
theorem dX5_has_2 : decode cX5_has 2 = .ok (.ishr, 1) := by decide +kernel
theorem dX5_has_3 : decode cX5_has 3 = .ok (.iconst 1, 1) := by decide +kernel
theorem dX5_has_4 : decode cX5_has 4 = .ok (.iand, 1) := by decide +kernel
theorem dX5_has_5 : decode cX5_has 5 = .ok (.iconst 1, 1) := by decide +kernel
theorem dX5_has_6 : decode cX5_has 6 = .ok (.if_icmp .ne 7, 3) := by decide +kernel
theorem dX5_has_9 : decode cX5_has 9 = .ok (.iconst 1, 1) := by decide +kernel
theorem dX5_has_10 : decode cX5_has 10 = .ok (.goto 4, 3) := by decide +kernel
theorem dX5_has_13 : decode cX5_has 13 = .ok (.iconst 0, 1) := by decide +kernel
theorem dX5_has_14 : decode cX5_has 14 = .ok (.ireturn, 1) := by decide +kernel
theorem dX5_partOf_0 : decode cX5_partOf 0 = .ok (.iconst 0, 1) := by decide +kernel
theorem dX5_partOf_1 : decode cX5_partOf 1 = .ok (.istore 4, 2) := by decide +kernel
theorem dX5_partOf_3 : decode cX5_partOf 3 = .ok (.iload 4, 2) := by decide +kernel
theorem dX5_partOf_5 : decode cX5_partOf 5 = .ok (.aload_n 0, 1) := by decide +kernel
theorem dX5_partOf_6 : decode cX5_partOf 6 = .ok (.getfield 73, 3) := by decide +kernel
theorem dX5_partOf_9 : decode cX5_partOf 9 = .ok (.if_icmp .ge 42, 3) := by decide +kernel
theorem dX5_partOf_12 : decode cX5_partOf 12 = .ok (.aload_n 0, 1) := by decide +kernel
theorem dX5_partOf_13 : decode cX5_partOf 13 = .ok (.getfield 29, 3) := by decide +kernel
theorem dX5_partOf_16 : decode cX5_partOf 16 = .ok (.iload 4, 2) := by decide +kernel
theorem dX5_partOf_18 : decode cX5_partOf 18 = .ok (.iaload, 1) := by decide +kernel
theorem dX5_partOf_19 : decode cX5_partOf 19 = .ok (.iload_n 1, 1) := by decide +kernel
theorem dX5_partOf_20 : decode cX5_partOf 20 = .ok (.if_icmp .ne 25, 3) := by decide +kernel
theorem dX5_partOf_23 : decode cX5_partOf 23 = .ok (.aload_n 0, 1) := by decide +kernel
theorem dX5_partOf_24 : decode cX5_partOf 24 = .ok (.getfield 32, 3) := by decide +kernel
theorem dX5_partOf_27 : decode cX5_partOf 27 = .ok (.iload 4, 2) := by decide +kernel
theorem dX5_partOf_29 : decode cX5_partOf 29 = .ok (.iaload, 1) := by decide +kernel
theorem dX5_partOf_30 : decode cX5_partOf 30 = .ok (.iload_n 2, 1) := by decide +kernel
theorem dX5_partOf_31 : decode cX5_partOf 31 = .ok (.if_icmp .ne 14, 3) := by decide +kernel
theorem dX5_partOf_34 : decode cX5_partOf 34 = .ok (.aload_n 0, 1) := by decide +kernel
theorem dX5_partOf_35 : decode cX5_partOf 35 = .ok (.getfield 35, 3) := by decide +kernel
theorem dX5_partOf_38 : decode cX5_partOf 38 = .ok (.iload 4, 2) := by decide +kernel
theorem dX5_partOf_40 : decode cX5_partOf 40 = .ok (.iaload, 1) := by decide +kernel
theorem dX5_partOf_41 : decode cX5_partOf 41 = .ok (.iload_n 3, 1) := by decide +kernel
theorem dX5_partOf_42 : decode cX5_partOf 42 = .ok (.if_icmp .eq 9, 3) := by decide +kernel
theorem dX5_partOf_45 : decode cX5_partOf 45 = .ok (.iinc 4 1, 3) := by decide +kernel
theorem dX5_partOf_48 : decode cX5_partOf 48 = .ok (.goto (-45), 3) := by decide +kernel
theorem dX5_partOf_51 : decode cX5_partOf 51 = .ok (.iload 4, 2) := by decide +kernel
theorem dX5_partOf_53 : decode cX5_partOf 53 = .ok (.aload_n 0, 1) := by decide +kernel
theorem dX5_partOf_54 : decode cX5_partOf 54 = .ok (.getfield 73, 3) := by decide +kernel
theorem dX5_partOf_57 : decode cX5_partOf 57 = .ok (.if_icmp .ne 37, 3) := by decide +kernel
theorem dX5_partOf_60 : decode cX5_partOf 60 = .ok (.aload_n 0, 1) := by decide +kernel
theorem dX5_partOf_61 : decode cX5_partOf 61 = .ok (.getfield 29, 3) := by decide +kernel
theorem dX5_partOf_64 : decode cX5_partOf 64 = .ok (.iload 4, 2) := by decide +kernel
theorem dX5_partOf_66 : decode cX5_partOf 66 = .ok (.iload_n 1, 1) := by decide +kernel
theorem dX5_partOf_67 : decode cX5_partOf 67 = .ok (.iastore, 1) := by decide +kernel
theorem dX5_partOf_68 : decode cX5_partOf 68 = .ok (.aload_n 0, 1) := by decide +kernel
theorem dX5_partOf_69 : decode cX5_partOf 69 = .ok (.getfield 32, 3) := by decide +kernel
theorem dX5_partOf_72 : decode cX5_partOf 72 = .ok (.iload 4, 2) := by decide +kernel
theorem dX5_partOf_74 : decode cX5_partOf 74 = .ok (.iload_n 2, 1) := by decide +kernel
theorem dX5_partOf_75 : decode cX5_partOf 75 = .ok (.iastore, 1) := by decide +kernel
theorem dX5_partOf_76 : decode cX5_partOf 76 = .ok (.aload_n 0, 1) := by decide +kernel
theorem dX5_partOf_77 : decode cX5_partOf 77 = .ok (.getfield 35, 3) := by decide +kernel
theorem dX5_partOf_80 : decode cX5_partOf 80 = .ok (.iload 4, 2) := by decide +kernel
theorem dX5_partOf_82 : decode cX5_partOf 82 = .ok (.iload_n 3, 1) := by decide +kernel
theorem dX5_partOf_83 : decode cX5_partOf 83 = .ok (.iastore, 1) := by decide +kernel
theorem dX5_partOf_84 : decode cX5_partOf 84 = .ok (.aload_n 0, 1) := by decide +kernel
theorem dX5_partOf_85 : decode cX5_partOf 85 = .ok (.dup, 1) := by decide +kernel
theorem dX5_partOf_86 : decode cX5_partOf 86 = .ok (.getfield 73, 3) := by decide +kernel
theorem dX5_partOf_89 : decode cX5_partOf 89 = .ok (.iconst 1, 1) := by decide +kernel
theorem dX5_partOf_90 : decode cX5_partOf 90 = .ok (.iadd, 1) := by decide +kernel
theorem dX5_partOf_91 : decode cX5_partOf 91 = .ok (.putfield 73, 3) := by decide +kernel
theorem dX5_partOf_94 : decode cX5_partOf 94 = .ok (.iload 4, 2) := by decide +kernel
theorem dX5_partOf_96 : decode cX5_partOf 96 = .ok (.ireturn, 1) := by decide +kernel
theorem dX5_look_0 : decode cX5_look 0 = .ok (.aload_n 0, 1) := by decide +kernel
theorem dX5_look_1 : decode cX5_look 1 = .ok (.aload_n 0, 1) := by decide +kernel
theorem dX5_look_2 : decode cX5_look 2 = .ok (.getfield 7, 3) := by decide +kernel
theorem dX5_look_5 : decode cX5_look 5 = .ok (.iload_n 1, 1) := by decide +kernel
theorem dX5_look_6 : decode cX5_look 6 = .ok (.iaload, 1) := by decide +kernel
theorem dX5_look_7 : decode cX5_look 7 = .ok (.putfield 73, 3) := by decide +kernel
theorem dX5_look_10 : decode cX5_look 10 = .ok (.iconst 0, 1) := by decide +kernel
theorem dX5_look_11 : decode cX5_look 11 = .ok (.istore_n 2, 1) := by decide +kernel
theorem dX5_look_12 : decode cX5_look 12 = .ok (.iload_n 2, 1) := by decide +kernel
theorem dX5_look_13 : decode cX5_look 13 = .ok (.aload_n 0, 1) := by decide +kernel
theorem dX5_look_14 : decode cX5_look 14 = .ok (.getfield 73, 3) := by decide +kernel
theorem dX5_look_17 : decode cX5_look 17 = .ok (.if_icmp .ge 60, 3) := by decide +kernel
theorem dX5_look_20 : decode cX5_look 20 = .ok (.aload_n 0, 1) := by decide +kernel
theorem dX5_look_21 : decode cX5_look 21 = .ok (.getfield 29, 3) := by decide +kernel
theorem dX5_look_24 : decode cX5_look 24 = .ok (.iload_n 2, 1) := by decide +kernel
theorem dX5_look_25 : decode cX5_look 25 = .ok (.aload_n 0, 1) := by decide +kernel
theorem dX5_look_26 : decode cX5_look 26 = .ok (.getfield 13, 3) := by decide +kernel
theorem dX5_look_29 : decode cX5_look 29 = .ok (.bipush 11, 2) := by decide +kernel
theorem dX5_look_31 : decode cX5_look 31 = .ok (.iload_n 1, 1) := by decide +kernel
theorem dX5_look_32 : decode cX5_look 32 = .ok (.imul, 1) := by decide +kernel
theorem dX5_look_33 : decode cX5_look 33 = .ok (.iload_n 2, 1) := by decide +kernel
theorem dX5_look_34 : decode cX5_look 34 = .ok (.iadd, 1) := by decide +kernel
theorem dX5_look_35 : decode cX5_look 35 = .ok (.iaload, 1) := by decide +kernel
theorem dX5_look_36 : decode cX5_look 36 = .ok (.iastore, 1) := by decide +kernel
theorem dX5_look_37 : decode cX5_look 37 = .ok (.aload_n 0, 1) := by decide +kernel
theorem dX5_look_38 : decode cX5_look 38 = .ok (.getfield 32, 3) := by decide +kernel
theorem dX5_look_41 : decode cX5_look 41 = .ok (.iload_n 2, 1) := by decide +kernel
theorem dX5_look_42 : decode cX5_look 42 = .ok (.aload_n 0, 1) := by decide +kernel
theorem dX5_look_43 : decode cX5_look 43 = .ok (.getfield 16, 3) := by decide +kernel
theorem dX5_look_46 : decode cX5_look 46 = .ok (.bipush 11, 2) := by decide +kernel
theorem dX5_look_48 : decode cX5_look 48 = .ok (.iload_n 1, 1) := by decide +kernel
theorem dX5_look_49 : decode cX5_look 49 = .ok (.imul, 1) := by decide +kernel
theorem dX5_look_50 : decode cX5_look 50 = .ok (.iload_n 2, 1) := by decide +kernel
theorem dX5_look_51 : decode cX5_look 51 = .ok (.iadd, 1) := by decide +kernel
theorem dX5_look_52 : decode cX5_look 52 = .ok (.iaload, 1) := by decide +kernel
theorem dX5_look_53 : decode cX5_look 53 = .ok (.iastore, 1) := by decide +kernel
theorem dX5_look_54 : decode cX5_look 54 = .ok (.aload_n 0, 1) := by decide +kernel
theorem dX5_look_55 : decode cX5_look 55 = .ok (.getfield 35, 3) := by decide +kernel
theorem dX5_look_58 : decode cX5_look 58 = .ok (.iload_n 2, 1) := by decide +kernel
theorem dX5_look_59 : decode cX5_look 59 = .ok (.aload_n 0, 1) := by decide +kernel
theorem dX5_look_60 : decode cX5_look 60 = .ok (.getfield 19, 3) := by decide +kernel
theorem dX5_look_63 : decode cX5_look 63 = .ok (.bipush 11, 2) := by decide +kernel
theorem dX5_look_65 : decode cX5_look 65 = .ok (.iload_n 1, 1) := by decide +kernel
theorem dX5_look_66 : decode cX5_look 66 = .ok (.imul, 1) := by decide +kernel
theorem dX5_look_67 : decode cX5_look 67 = .ok (.iload_n 2, 1) := by decide +kernel
theorem dX5_look_68 : decode cX5_look 68 = .ok (.iadd, 1) := by decide +kernel
theorem dX5_look_69 : decode cX5_look 69 = .ok (.iaload, 1) := by decide +kernel
theorem dX5_look_70 : decode cX5_look 70 = .ok (.iastore, 1) := by decide +kernel
theorem dX5_look_71 : decode cX5_look 71 = .ok (.iinc 2 1, 3) := by decide +kernel
theorem dX5_look_74 : decode cX5_look 74 = .ok (.goto (-62), 3) := by decide +kernel
theorem dX5_look_77 : decode cX5_look 77 = .ok (.return_, 1) := by decide +kernel
theorem dX5_keep_0 : decode cX5_keep 0 = .ok (.aload_n 0, 1) := by decide +kernel
theorem dX5_keep_1 : decode cX5_keep 1 = .ok (.getfield 7, 3) := by decide +kernel
theorem dX5_keep_4 : decode cX5_keep 4 = .ok (.iload_n 1, 1) := by decide +kernel
theorem dX5_keep_5 : decode cX5_keep 5 = .ok (.aload_n 0, 1) := by decide +kernel
theorem dX5_keep_6 : decode cX5_keep 6 = .ok (.getfield 73, 3) := by decide +kernel
theorem dX5_keep_9 : decode cX5_keep 9 = .ok (.iastore, 1) := by decide +kernel
theorem dX5_keep_10 : decode cX5_keep 10 = .ok (.iconst 0, 1) := by decide +kernel
theorem dX5_keep_11 : decode cX5_keep 11 = .ok (.istore_n 2, 1) := by decide +kernel
theorem dX5_keep_12 : decode cX5_keep 12 = .ok (.iload_n 2, 1) := by decide +kernel
theorem dX5_keep_13 : decode cX5_keep 13 = .ok (.aload_n 0, 1) := by decide +kernel
theorem dX5_keep_14 : decode cX5_keep 14 = .ok (.getfield 73, 3) := by decide +kernel
theorem dX5_keep_17 : decode cX5_keep 17 = .ok (.if_icmp .ge 60, 3) := by decide +kernel
theorem dX5_keep_20 : decode cX5_keep 20 = .ok (.aload_n 0, 1) := by decide +kernel
theorem dX5_keep_21 : decode cX5_keep 21 = .ok (.getfield 13, 3) := by decide +kernel
theorem dX5_keep_24 : decode cX5_keep 24 = .ok (.bipush 11, 2) := by decide +kernel
theorem dX5_keep_26 : decode cX5_keep 26 = .ok (.iload_n 1, 1) := by decide +kernel
theorem dX5_keep_27 : decode cX5_keep 27 = .ok (.imul, 1) := by decide +kernel
theorem dX5_keep_28 : decode cX5_keep 28 = .ok (.iload_n 2, 1) := by decide +kernel
theorem dX5_keep_29 : decode cX5_keep 29 = .ok (.iadd, 1) := by decide +kernel
theorem dX5_keep_30 : decode cX5_keep 30 = .ok (.aload_n 0, 1) := by decide +kernel
theorem dX5_keep_31 : decode cX5_keep 31 = .ok (.getfield 29, 3) := by decide +kernel
theorem dX5_keep_34 : decode cX5_keep 34 = .ok (.iload_n 2, 1) := by decide +kernel
theorem dX5_keep_35 : decode cX5_keep 35 = .ok (.iaload, 1) := by decide +kernel
theorem dX5_keep_36 : decode cX5_keep 36 = .ok (.iastore, 1) := by decide +kernel
theorem dX5_keep_37 : decode cX5_keep 37 = .ok (.aload_n 0, 1) := by decide +kernel
theorem dX5_keep_38 : decode cX5_keep 38 = .ok (.getfield 16, 3) := by decide +kernel
theorem dX5_keep_41 : decode cX5_keep 41 = .ok (.bipush 11, 2) := by decide +kernel
theorem dX5_keep_43 : decode cX5_keep 43 = .ok (.iload_n 1, 1) := by decide +kernel
theorem dX5_keep_44 : decode cX5_keep 44 = .ok (.imul, 1) := by decide +kernel
theorem dX5_keep_45 : decode cX5_keep 45 = .ok (.iload_n 2, 1) := by decide +kernel
theorem dX5_keep_46 : decode cX5_keep 46 = .ok (.iadd, 1) := by decide +kernel
theorem dX5_keep_47 : decode cX5_keep 47 = .ok (.aload_n 0, 1) := by decide +kernel
theorem dX5_keep_48 : decode cX5_keep 48 = .ok (.getfield 32, 3) := by decide +kernel
theorem dX5_keep_51 : decode cX5_keep 51 = .ok (.iload_n 2, 1) := by decide +kernel
theorem dX5_keep_52 : decode cX5_keep 52 = .ok (.iaload, 1) := by decide +kernel
theorem dX5_keep_53 : decode cX5_keep 53 = .ok (.iastore, 1) := by decide +kernel
theorem dX5_keep_54 : decode cX5_keep 54 = .ok (.aload_n 0, 1) := by decide +kernel
theorem dX5_keep_55 : decode cX5_keep 55 = .ok (.getfield 19, 3) := by decide +kernel
theorem dX5_keep_58 : decode cX5_keep 58 = .ok (.bipush 11, 2) := by decide +kernel
theorem dX5_keep_60 : decode cX5_keep 60 = .ok (.iload_n 1, 1) := by decide +kernel
theorem dX5_keep_61 : decode cX5_keep 61 = .ok (.imul, 1) := by decide +kernel
theorem dX5_keep_62 : decode cX5_keep 62 = .ok (.iload_n 2, 1) := by decide +kernel
theorem dX5_keep_63 : decode cX5_keep 63 = .ok (.iadd, 1) := by decide +kernel
theorem dX5_keep_64 : decode cX5_keep 64 = .ok (.aload_n 0, 1) := by decide +kernel
theorem dX5_keep_65 : decode cX5_keep 65 = .ok (.getfield 35, 3) := by decide +kernel
theorem dX5_keep_68 : decode cX5_keep 68 = .ok (.iload_n 2, 1) := by decide +kernel
theorem dX5_keep_69 : decode cX5_keep 69 = .ok (.iaload, 1) := by decide +kernel
theorem dX5_keep_70 : decode cX5_keep 70 = .ok (.iastore, 1) := by decide +kernel
theorem dX5_keep_71 : decode cX5_keep 71 = .ok (.iinc 2 1, 3) := by decide +kernel
theorem dX5_keep_74 : decode cX5_keep 74 = .ok (.goto (-62), 3) := by decide +kernel
theorem dX5_keep_77 : decode cX5_keep 77 = .ok (.aload_n 0, 1) := by decide +kernel
theorem dX5_keep_78 : decode cX5_keep 78 = .ok (.getfield 73, 3) := by decide +kernel
theorem dX5_keep_81 : decode cX5_keep 81 = .ok (.ireturn, 1) := by decide +kernel
theorem dX5_complete_0 : decode cX5_complete 0 = .ok (.aload_n 0, 1) := by decide +kernel
theorem dX5_complete_1 : decode cX5_complete 1 = .ok (.iload_n 1, 1) := by decide +kernel
theorem dX5_complete_2 : decode cX5_complete 2 = .ok (.putfield 76, 3) := by decide +kernel
theorem dX5_complete_5 : decode cX5_complete 5 = .ok (.aload_n 0, 1) := by decide +kernel
theorem dX5_complete_6 : decode cX5_complete 6 = .ok (.getfield 38, 3) := by decide +kernel
theorem dX5_complete_9 : decode cX5_complete 9 = .ok (.aload_n 0, 1) := by decide +kernel
theorem dX5_complete_10 : decode cX5_complete 10 = .ok (.getfield 79, 3) := by decide +kernel
theorem dX5_complete_13 : decode cX5_complete 13 = .ok (.iconst 1, 1) := by decide +kernel
theorem dX5_complete_14 : decode cX5_complete 14 = .ok (.isub, 1) := by decide +kernel
theorem dX5_complete_15 : decode cX5_complete 15 = .ok (.iaload, 1) := by decide +kernel
theorem dX5_complete_16 : decode cX5_complete 16 = .ok (.iconst 1, 1) := by decide +kernel
theorem dX5_complete_17 : decode cX5_complete 17 = .ok (.if_icmp .ne 40, 3) := by decide +kernel
theorem dX5_complete_20 : decode cX5_complete 20 = .ok (.aload_n 0, 1) := by decide +kernel
theorem dX5_complete_21 : decode cX5_complete 21 = .ok (.dup, 1) := by decide +kernel
theorem dX5_complete_22 : decode cX5_complete 22 = .ok (.getfield 79, 3) := by decide +kernel
theorem dX5_complete_25 : decode cX5_complete 25 = .ok (.iconst 1, 1) := by decide +kernel
theorem dX5_complete_26 : decode cX5_complete 26 = .ok (.isub, 1) := by decide +kernel
theorem dX5_complete_27 : decode cX5_complete 27 = .ok (.putfield 79, 3) := by decide +kernel
theorem dX5_complete_30 : decode cX5_complete 30 = .ok (.aload_n 0, 1) := by decide +kernel
theorem dX5_complete_31 : decode cX5_complete 31 = .ok (.iconst 1, 1) := by decide +kernel
theorem dX5_complete_32 : decode cX5_complete 32 = .ok (.bipush (-6), 2) := by decide +kernel
theorem dX5_complete_34 : decode cX5_complete 34 = .ok (.bipush (-6), 2) := by decide +kernel
theorem dX5_complete_36 : decode cX5_complete 36 = .ok (.invokevirtual 82, 3) := by decide +kernel
theorem dX5_complete_39 : decode cX5_complete 39 = .ok (.istore_n 2, 1) := by decide +kernel
theorem dX5_complete_40 : decode cX5_complete 40 = .ok (.aload_n 0, 1) := by decide +kernel
theorem dX5_complete_41 : decode cX5_complete 41 = .ok (.aload_n 0, 1) := by decide +kernel
theorem dX5_complete_42 : decode cX5_complete 42 = .ok (.iconst 4, 1) := by decide +kernel
theorem dX5_complete_43 : decode cX5_complete 43 = .ok (.aload_n 0, 1) := by decide +kernel
theorem dX5_complete_44 : decode cX5_complete 44 = .ok (.getfield 76, 3) := by decide +kernel
theorem dX5_complete_47 : decode cX5_complete 47 = .ok (.iload_n 2, 1) := by decide +kernel
theorem dX5_complete_48 : decode cX5_complete 48 = .ok (.invokevirtual 82, 3) := by decide +kernel
theorem dX5_complete_51 : decode cX5_complete 51 = .ok (.putfield 76, 3) := by decide +kernel
theorem dX5_complete_54 : decode cX5_complete 54 = .ok (.goto (-49), 3) := by decide +kernel
theorem dX5_complete_57 : decode cX5_complete 57 = .ok (.aload_n 0, 1) := by decide +kernel
theorem dX5_complete_58 : decode cX5_complete 58 = .ok (.aload_n 0, 1) := by decide +kernel
theorem dX5_complete_59 : decode cX5_complete 59 = .ok (.getfield 38, 3) := by decide +kernel
theorem dX5_complete_62 : decode cX5_complete 62 = .ok (.aload_n 0, 1) := by decide +kernel
theorem dX5_complete_63 : decode cX5_complete 63 = .ok (.getfield 79, 3) := by decide +kernel
theorem dX5_complete_66 : decode cX5_complete 66 = .ok (.iconst 1, 1) := by decide +kernel
theorem dX5_complete_67 : decode cX5_complete 67 = .ok (.isub, 1) := by decide +kernel
theorem dX5_complete_68 : decode cX5_complete 68 = .ok (.iaload, 1) := by decide +kernel
theorem dX5_complete_69 : decode cX5_complete 69 = .ok (.ifCond .ne 7, 3) := by decide +kernel
theorem dX5_complete_72 : decode cX5_complete 72 = .ok (.iconst 3, 1) := by decide +kernel
theorem dX5_complete_73 : decode cX5_complete 73 = .ok (.goto 23, 3) := by decide +kernel
theorem dX5_complete_76 : decode cX5_complete 76 = .ok (.aload_n 0, 1) := by decide +kernel
theorem dX5_complete_77 : decode cX5_complete 77 = .ok (.getfield 38, 3) := by decide +kernel
theorem dX5_complete_80 : decode cX5_complete 80 = .ok (.aload_n 0, 1) := by decide +kernel
theorem dX5_complete_81 : decode cX5_complete 81 = .ok (.getfield 79, 3) := by decide +kernel
theorem dX5_complete_84 : decode cX5_complete 84 = .ok (.iconst 1, 1) := by decide +kernel
theorem dX5_complete_85 : decode cX5_complete 85 = .ok (.isub, 1) := by decide +kernel
theorem dX5_complete_86 : decode cX5_complete 86 = .ok (.iaload, 1) := by decide +kernel
theorem dX5_complete_87 : decode cX5_complete 87 = .ok (.iconst 2, 1) := by decide +kernel
theorem dX5_complete_88 : decode cX5_complete 88 = .ok (.if_icmp .ne 7, 3) := by decide +kernel
theorem dX5_complete_91 : decode cX5_complete 91 = .ok (.iconst 1, 1) := by decide +kernel
theorem dX5_complete_92 : decode cX5_complete 92 = .ok (.goto 4, 3) := by decide +kernel
theorem dX5_complete_95 : decode cX5_complete 95 = .ok (.iconst 2, 1) := by decide +kernel
theorem dX5_complete_96 : decode cX5_complete 96 = .ok (.putfield 86, 3) := by decide +kernel
theorem dX5_complete_99 : decode cX5_complete 99 = .ok (.aload_n 0, 1) := by decide +kernel
theorem dX5_complete_100 : decode cX5_complete 100 = .ok (.getfield 86, 3) := by decide +kernel
theorem dX5_complete_103 : decode cX5_complete 103 = .ok (.iconst 1, 1) := by decide +kernel
theorem dX5_complete_104 : decode cX5_complete 104 = .ok (.if_icmp .ne 18, 3) := by decide +kernel
theorem dX5_complete_107 : decode cX5_complete 107 = .ok (.aload_n 0, 1) := by decide +kernel
theorem dX5_complete_108 : decode cX5_complete 108 = .ok (.getfield 41, 3) := by decide +kernel
theorem dX5_complete_111 : decode cX5_complete 111 = .ok (.aload_n 0, 1) := by decide +kernel
theorem dX5_complete_112 : decode cX5_complete 112 = .ok (.getfield 79, 3) := by decide +kernel
theorem dX5_complete_115 : decode cX5_complete 115 = .ok (.iconst 1, 1) := by decide +kernel
theorem dX5_complete_116 : decode cX5_complete 116 = .ok (.isub, 1) := by decide +kernel
theorem dX5_complete_117 : decode cX5_complete 117 = .ok (.aload_n 0, 1) := by decide +kernel
theorem dX5_complete_118 : decode cX5_complete 118 = .ok (.getfield 76, 3) := by decide +kernel
theorem dX5_complete_121 : decode cX5_complete 121 = .ok (.iastore, 1) := by decide +kernel
theorem dX5_complete_122 : decode cX5_complete 122 = .ok (.return_, 1) := by decide +kernel
theorem dX5_push_0 : decode cX5_push 0 = .ok (.aload_n 0, 1) := by decide +kernel
theorem dX5_push_1 : decode cX5_push 1 = .ok (.getfield 38, 3) := by decide +kernel
theorem dX5_push_4 : decode cX5_push 4 = .ok (.aload_n 0, 1) := by decide +kernel
theorem dX5_push_5 : decode cX5_push 5 = .ok (.getfield 79, 3) := by decide +kernel
theorem dX5_push_8 : decode cX5_push 8 = .ok (.iload_n 1, 1) := by decide +kernel
theorem dX5_push_9 : decode cX5_push 9 = .ok (.iastore, 1) := by decide +kernel
theorem dX5_push_10 : decode cX5_push 10 = .ok (.aload_n 0, 1) := by decide +kernel
theorem dX5_push_11 : decode cX5_push 11 = .ok (.dup, 1) := by decide +kernel
theorem dX5_push_12 : decode cX5_push 12 = .ok (.getfield 79, 3) := by decide +kernel
theorem dX5_push_15 : decode cX5_push 15 = .ok (.iconst 1, 1) := by decide +kernel
theorem dX5_push_16 : decode cX5_push 16 = .ok (.iadd, 1) := by decide +kernel
theorem dX5_push_17 : decode cX5_push 17 = .ok (.putfield 79, 3) := by decide +kernel
theorem dX5_push_20 : decode cX5_push 20 = .ok (.return_, 1) := by decide +kernel
theorem dX5_begins_0 : decode cX5_begins 0 = .ok (.iload_n 1, 1) := by decide +kernel
theorem dX5_begins_1 : decode cX5_begins 1 = .ok (.bipush 112, 2) := by decide +kernel
theorem dX5_begins_3 : decode cX5_begins 3 = .ok (.bipush 115, 2) := by decide +kernel
theorem dX5_begins_5 : decode cX5_begins 5 = .ok (.invokestatic 69, 3) := by decide +kernel
theorem dX5_begins_8 : decode cX5_begins 8 = .ok (.ifCond .eq 20, 3) := by decide +kernel
theorem dX5_begins_11 : decode cX5_begins 11 = .ok (.aload_n 0, 1) := by decide +kernel
theorem dX5_begins_12 : decode cX5_begins 12 = .ok (.aload_n 0, 1) := by decide +kernel
theorem dX5_begins_13 : decode cX5_begins 13 = .ok (.iconst 0, 1) := by decide +kernel
theorem dX5_begins_14 : decode cX5_begins 14 = .ok (.iload_n 1, 1) := by decide +kernel
theorem dX5_begins_15 : decode cX5_begins 15 = .ok (.bipush 112, 2) := by decide +kernel
theorem dX5_begins_17 : decode cX5_begins 17 = .ok (.isub, 1) := by decide +kernel
theorem dX5_begins_18 : decode cX5_begins 18 = .ok (.bipush (-6), 2) := by decide +kernel
theorem dX5_begins_20 : decode cX5_begins 20 = .ok (.invokevirtual 82, 3) := by decide +kernel
theorem dX5_begins_23 : decode cX5_begins 23 = .ok (.invokevirtual 89, 3) := by decide +kernel
theorem dX5_begins_26 : decode cX5_begins 26 = .ok (.iconst 1, 1) := by decide +kernel
theorem dX5_begins_27 : decode cX5_begins 27 = .ok (.ireturn, 1) := by decide +kernel
theorem dX5_begins_28 : decode cX5_begins 28 = .ok (.iload_n 1, 1) := by decide +kernel
theorem dX5_begins_29 : decode cX5_begins 29 = .ok (.bipush 70, 2) := by decide +kernel
theorem dX5_begins_31 : decode cX5_begins 31 = .ok (.if_icmp .ne 18, 3) := by decide +kernel
theorem dX5_begins_34 : decode cX5_begins 34 = .ok (.aload_n 0, 1) := by decide +kernel
theorem dX5_begins_35 : decode cX5_begins 35 = .ok (.aload_n 0, 1) := by decide +kernel
theorem dX5_begins_36 : decode cX5_begins 36 = .ok (.iconst 1, 1) := by decide +kernel
theorem dX5_begins_37 : decode cX5_begins 37 = .ok (.bipush (-6), 2) := by decide +kernel
theorem dX5_begins_39 : decode cX5_begins 39 = .ok (.bipush (-6), 2) := by decide +kernel
theorem dX5_begins_41 : decode cX5_begins 41 = .ok (.invokevirtual 82, 3) := by decide +kernel
theorem dX5_begins_44 : decode cX5_begins 44 = .ok (.invokevirtual 89, 3) := by decide +kernel
theorem dX5_begins_47 : decode cX5_begins 47 = .ok (.iconst 1, 1) := by decide +kernel
theorem dX5_begins_48 : decode cX5_begins 48 = .ok (.ireturn, 1) := by decide +kernel
theorem dX5_begins_49 : decode cX5_begins 49 = .ok (.iload_n 1, 1) := by decide +kernel
theorem dX5_begins_50 : decode cX5_begins 50 = .ok (.bipush 45, 2) := by decide +kernel
theorem dX5_begins_52 : decode cX5_begins 52 = .ok (.if_icmp .eq 9, 3) := by decide +kernel
theorem dX5_begins_55 : decode cX5_begins 55 = .ok (.iload_n 1, 1) := by decide +kernel
theorem dX5_begins_56 : decode cX5_begins 56 = .ok (.bipush 40, 2) := by decide +kernel
theorem dX5_begins_58 : decode cX5_begins 58 = .ok (.if_icmp .ne 20, 3) := by decide +kernel
theorem dX5_begins_61 : decode cX5_begins 61 = .ok (.aload_n 0, 1) := by decide +kernel
theorem dX5_begins_62 : decode cX5_begins 62 = .ok (.iload_n 1, 1) := by decide +kernel
theorem dX5_begins_63 : decode cX5_begins 63 = .ok (.bipush 45, 2) := by decide +kernel
theorem dX5_begins_65 : decode cX5_begins 65 = .ok (.if_icmp .ne 7, 3) := by decide +kernel
theorem dX5_begins_68 : decode cX5_begins 68 = .ok (.iconst 1, 1) := by decide +kernel
theorem dX5_begins_69 : decode cX5_begins 69 = .ok (.goto 4, 3) := by decide +kernel
theorem dX5_begins_72 : decode cX5_begins 72 = .ok (.iconst 2, 1) := by decide +kernel
theorem dX5_begins_73 : decode cX5_begins 73 = .ok (.invokevirtual 93, 3) := by decide +kernel
theorem dX5_begins_76 : decode cX5_begins 76 = .ok (.iconst 1, 1) := by decide +kernel
theorem dX5_begins_77 : decode cX5_begins 77 = .ok (.ireturn, 1) := by decide +kernel
theorem dX5_begins_78 : decode cX5_begins 78 = .ok (.iconst 0, 1) := by decide +kernel
theorem dX5_begins_79 : decode cX5_begins 79 = .ok (.ireturn, 1) := by decide +kernel
theorem dX5_reads_0 : decode cX5_reads 0 = .ok (.aload_n 0, 1) := by decide +kernel
theorem dX5_reads_1 : decode cX5_reads 1 = .ok (.getfield 86, 3) := by decide +kernel
theorem dX5_reads_4 : decode cX5_reads 4 = .ok (.tableswitch 154 0 2 #[28, 34, 104], 28) := by decide +kernel
theorem dX5_reads_32 : decode cX5_reads 32 = .ok (.aload_n 0, 1) := by decide +kernel
theorem dX5_reads_33 : decode cX5_reads 33 = .ok (.iload_n 1, 1) := by decide +kernel
theorem dX5_reads_34 : decode cX5_reads 34 = .ok (.invokevirtual 96, 3) := by decide +kernel
theorem dX5_reads_37 : decode cX5_reads 37 = .ok (.ireturn, 1) := by decide +kernel
theorem dX5_reads_38 : decode cX5_reads 38 = .ok (.iload_n 1, 1) := by decide +kernel
theorem dX5_reads_39 : decode cX5_reads 39 = .ok (.bipush 38, 2) := by decide +kernel
theorem dX5_reads_41 : decode cX5_reads 41 = .ok (.if_icmp .ne 7, 3) := by decide +kernel
theorem dX5_reads_44 : decode cX5_reads 44 = .ok (.iconst 2, 1) := by decide +kernel
theorem dX5_reads_45 : decode cX5_reads 45 = .ok (.goto 25, 3) := by decide +kernel
theorem dX5_reads_48 : decode cX5_reads 48 = .ok (.iload_n 1, 1) := by decide +kernel
theorem dX5_reads_49 : decode cX5_reads 49 = .ok (.bipush 124, 2) := by decide +kernel
theorem dX5_reads_51 : decode cX5_reads 51 = .ok (.if_icmp .ne 7, 3) := by decide +kernel
theorem dX5_reads_54 : decode cX5_reads 54 = .ok (.iconst 3, 1) := by decide +kernel
theorem dX5_reads_55 : decode cX5_reads 55 = .ok (.goto 15, 3) := by decide +kernel
theorem dX5_reads_58 : decode cX5_reads 58 = .ok (.iload_n 1, 1) := by decide +kernel
theorem dX5_reads_59 : decode cX5_reads 59 = .ok (.bipush 62, 2) := by decide +kernel
theorem dX5_reads_61 : decode cX5_reads 61 = .ok (.if_icmp .ne 7, 3) := by decide +kernel
theorem dX5_reads_64 : decode cX5_reads 64 = .ok (.iconst 4, 1) := by decide +kernel
theorem dX5_reads_65 : decode cX5_reads 65 = .ok (.goto 5, 3) := by decide +kernel
theorem dX5_reads_68 : decode cX5_reads 68 = .ok (.bipush (-6), 2) := by decide +kernel
theorem dX5_reads_70 : decode cX5_reads 70 = .ok (.istore_n 2, 1) := by decide +kernel
theorem dX5_reads_71 : decode cX5_reads 71 = .ok (.iload_n 2, 1) := by decide +kernel
theorem dX5_reads_72 : decode cX5_reads 72 = .ok (.ifCond .ge 5, 3) := by decide +kernel
theorem dX5_reads_75 : decode cX5_reads 75 = .ok (.iconst 0, 1) := by decide +kernel
theorem dX5_reads_76 : decode cX5_reads 76 = .ok (.ireturn, 1) := by decide +kernel
theorem dX5_reads_77 : decode cX5_reads 77 = .ok (.aload_n 0, 1) := by decide +kernel
theorem dX5_reads_78 : decode cX5_reads 78 = .ok (.getfield 44, 3) := by decide +kernel
theorem dX5_reads_81 : decode cX5_reads 81 = .ok (.aload_n 0, 1) := by decide +kernel
theorem dX5_reads_82 : decode cX5_reads 82 = .ok (.getfield 79, 3) := by decide +kernel
theorem dX5_reads_85 : decode cX5_reads 85 = .ok (.iconst 1, 1) := by decide +kernel
theorem dX5_reads_86 : decode cX5_reads 86 = .ok (.isub, 1) := by decide +kernel
theorem dX5_reads_87 : decode cX5_reads 87 = .ok (.iload_n 2, 1) := by decide +kernel
theorem dX5_reads_88 : decode cX5_reads 88 = .ok (.iastore, 1) := by decide +kernel
theorem dX5_reads_89 : decode cX5_reads 89 = .ok (.aload_n 0, 1) := by decide +kernel
theorem dX5_reads_90 : decode cX5_reads 90 = .ok (.getfield 38, 3) := by decide +kernel
theorem dX5_reads_93 : decode cX5_reads 93 = .ok (.aload_n 0, 1) := by decide +kernel
theorem dX5_reads_94 : decode cX5_reads 94 = .ok (.getfield 79, 3) := by decide +kernel
theorem dX5_reads_97 : decode cX5_reads 97 = .ok (.iconst 1, 1) := by decide +kernel
theorem dX5_reads_98 : decode cX5_reads 98 = .ok (.isub, 1) := by decide +kernel
theorem dX5_reads_99 : decode cX5_reads 99 = .ok (.iconst 3, 1) := by decide +kernel
theorem dX5_reads_100 : decode cX5_reads 100 = .ok (.iastore, 1) := by decide +kernel
theorem dX5_reads_101 : decode cX5_reads 101 = .ok (.aload_n 0, 1) := by decide +kernel
theorem dX5_reads_102 : decode cX5_reads 102 = .ok (.iconst 0, 1) := by decide +kernel
theorem dX5_reads_103 : decode cX5_reads 103 = .ok (.putfield 86, 3) := by decide +kernel
theorem dX5_reads_106 : decode cX5_reads 106 = .ok (.iconst 1, 1) := by decide +kernel
theorem dX5_reads_107 : decode cX5_reads 107 = .ok (.ireturn, 1) := by decide +kernel
theorem dX5_reads_108 : decode cX5_reads 108 = .ok (.iload_n 1, 1) := by decide +kernel
theorem dX5_reads_109 : decode cX5_reads 109 = .ok (.bipush 41, 2) := by decide +kernel
theorem dX5_reads_111 : decode cX5_reads 111 = .ok (.if_icmp .eq 5, 3) := by decide +kernel
theorem dX5_reads_114 : decode cX5_reads 114 = .ok (.iconst 0, 1) := by decide +kernel
theorem dX5_reads_115 : decode cX5_reads 115 = .ok (.ireturn, 1) := by decide +kernel
theorem dX5_reads_116 : decode cX5_reads 116 = .ok (.aload_n 0, 1) := by decide +kernel
theorem dX5_reads_117 : decode cX5_reads 117 = .ok (.dup, 1) := by decide +kernel
theorem dX5_reads_118 : decode cX5_reads 118 = .ok (.getfield 79, 3) := by decide +kernel
theorem dX5_reads_121 : decode cX5_reads 121 = .ok (.iconst 1, 1) := by decide +kernel
theorem dX5_reads_122 : decode cX5_reads 122 = .ok (.isub, 1) := by decide +kernel
theorem dX5_reads_123 : decode cX5_reads 123 = .ok (.putfield 79, 3) := by decide +kernel
theorem dX5_reads_126 : decode cX5_reads 126 = .ok (.aload_n 0, 1) := by decide +kernel
theorem dX5_reads_127 : decode cX5_reads 127 = .ok (.aload_n 0, 1) := by decide +kernel
theorem dX5_reads_128 : decode cX5_reads 128 = .ok (.aload_n 0, 1) := by decide +kernel
theorem dX5_reads_129 : decode cX5_reads 129 = .ok (.getfield 44, 3) := by decide +kernel
theorem dX5_reads_132 : decode cX5_reads 132 = .ok (.aload_n 0, 1) := by decide +kernel
theorem dX5_reads_133 : decode cX5_reads 133 = .ok (.getfield 79, 3) := by decide +kernel
theorem dX5_reads_136 : decode cX5_reads 136 = .ok (.iaload, 1) := by decide +kernel
theorem dX5_reads_137 : decode cX5_reads 137 = .ok (.aload_n 0, 1) := by decide +kernel
theorem dX5_reads_138 : decode cX5_reads 138 = .ok (.getfield 41, 3) := by decide +kernel
theorem dX5_reads_141 : decode cX5_reads 141 = .ok (.aload_n 0, 1) := by decide +kernel
theorem dX5_reads_142 : decode cX5_reads 142 = .ok (.getfield 79, 3) := by decide +kernel
theorem dX5_reads_145 : decode cX5_reads 145 = .ok (.iaload, 1) := by decide +kernel
theorem dX5_reads_146 : decode cX5_reads 146 = .ok (.aload_n 0, 1) := by decide +kernel
theorem dX5_reads_147 : decode cX5_reads 147 = .ok (.getfield 76, 3) := by decide +kernel
theorem dX5_reads_150 : decode cX5_reads 150 = .ok (.invokevirtual 82, 3) := by decide +kernel
theorem dX5_reads_153 : decode cX5_reads 153 = .ok (.invokevirtual 89, 3) := by decide +kernel
theorem dX5_reads_156 : decode cX5_reads 156 = .ok (.iconst 1, 1) := by decide +kernel
theorem dX5_reads_157 : decode cX5_reads 157 = .ok (.ireturn, 1) := by decide +kernel
theorem dX5_reads_158 : decode cX5_reads 158 = .ok (.iconst 0, 1) := by decide +kernel
theorem dX5_reads_159 : decode cX5_reads 159 = .ok (.ireturn, 1) := by decide +kernel
theorem dX5_readText_0 : decode cX5_readText 0 = .ok (.aload_n 0, 1) := by decide +kernel
theorem dX5_readText_1 : decode cX5_readText 1 = .ok (.iconst 0, 1) := by decide +kernel
theorem dX5_readText_2 : decode cX5_readText 2 = .ok (.putfield 73, 3) := by decide +kernel
theorem dX5_readText_5 : decode cX5_readText 5 = .ok (.aload_n 0, 1) := by decide +kernel
theorem dX5_readText_6 : decode cX5_readText 6 = .ok (.iconst 0, 1) := by decide +kernel
theorem dX5_readText_7 : decode cX5_readText 7 = .ok (.putfield 79, 3) := by decide +kernel
theorem dX5_readText_10 : decode cX5_readText 10 = .ok (.aload_n 0, 1) := by decide +kernel
theorem dX5_readText_11 : decode cX5_readText 11 = .ok (.iconst 0, 1) := by decide +kernel
theorem dX5_readText_12 : decode cX5_readText 12 = .ok (.invokevirtual 93, 3) := by decide +kernel
theorem dX5_readText_15 : decode cX5_readText 15 = .ok (.aload_n 0, 1) := by decide +kernel
theorem dX5_readText_16 : decode cX5_readText 16 = .ok (.iconst 0, 1) := by decide +kernel
theorem dX5_readText_17 : decode cX5_readText 17 = .ok (.putfield 86, 3) := by decide +kernel
theorem dX5_readText_20 : decode cX5_readText 20 = .ok (.iconst 0, 1) := by decide +kernel
theorem dX5_readText_21 : decode cX5_readText 21 = .ok (.istore_n 1, 1) := by decide +kernel
theorem dX5_readText_22 : decode cX5_readText 22 = .ok (.iload_n 1, 1) := by decide +kernel
theorem dX5_readText_23 : decode cX5_readText 23 = .ok (.aload_n 0, 1) := by decide +kernel
theorem dX5_readText_24 : decode cX5_readText 24 = .ok (.getfield 100, 3) := by decide +kernel
theorem dX5_readText_27 : decode cX5_readText 27 = .ok (.if_icmp .ge 24, 3) := by decide +kernel
theorem dX5_readText_30 : decode cX5_readText 30 = .ok (.aload_n 0, 1) := by decide +kernel
theorem dX5_readText_31 : decode cX5_readText 31 = .ok (.aload_n 0, 1) := by decide +kernel
theorem dX5_readText_32 : decode cX5_readText 32 = .ok (.getfield 22, 3) := by decide +kernel
theorem dX5_readText_35 : decode cX5_readText 35 = .ok (.iload_n 1, 1) := by decide +kernel
theorem dX5_readText_36 : decode cX5_readText 36 = .ok (.iaload, 1) := by decide +kernel
theorem dX5_readText_37 : decode cX5_readText 37 = .ok (.invokevirtual 103, 3) := by decide +kernel
theorem dX5_readText_40 : decode cX5_readText 40 = .ok (.ifCond .ne 5, 3) := by decide +kernel
theorem dX5_readText_43 : decode cX5_readText 43 = .ok (.iload_n 1, 1) := by decide +kernel
theorem dX5_readText_44 : decode cX5_readText 44 = .ok (.ireturn, 1) := by decide +kernel
theorem dX5_readText_45 : decode cX5_readText 45 = .ok (.iinc 1 1, 3) := by decide +kernel
theorem dX5_readText_48 : decode cX5_readText 48 = .ok (.goto (-26), 3) := by decide +kernel
theorem dX5_readText_51 : decode cX5_readText 51 = .ok (.aload_n 0, 1) := by decide +kernel
theorem dX5_readText_52 : decode cX5_readText 52 = .ok (.getfield 86, 3) := by decide +kernel
theorem dX5_readText_55 : decode cX5_readText 55 = .ok (.iconst 3, 1) := by decide +kernel
theorem dX5_readText_56 : decode cX5_readText 56 = .ok (.if_icmp .ne 8, 3) := by decide +kernel
theorem dX5_readText_59 : decode cX5_readText 59 = .ok (.bipush (-6), 2) := by decide +kernel
theorem dX5_readText_61 : decode cX5_readText 61 = .ok (.goto 7, 3) := by decide +kernel
theorem dX5_readText_64 : decode cX5_readText 64 = .ok (.aload_n 0, 1) := by decide +kernel
theorem dX5_readText_65 : decode cX5_readText 65 = .ok (.getfield 100, 3) := by decide +kernel
theorem dX5_readText_68 : decode cX5_readText 68 = .ok (.ireturn, 1) := by decide +kernel
theorem dX5_say_0 : decode cX5_say 0 = .ok (.iload_n 1, 1) := by decide +kernel
theorem dX5_say_1 : decode cX5_say 1 = .ok (.bipush 33, 2) := by decide +kernel
theorem dX5_say_3 : decode cX5_say 3 = .ok (.bipush 126, 2) := by decide +kernel
theorem dX5_say_5 : decode cX5_say 5 = .ok (.invokestatic 69, 3) := by decide +kernel
theorem dX5_say_8 : decode cX5_say 8 = .ok (.ifCond .ne 6, 3) := by decide +kernel
theorem dX5_say_11 : decode cX5_say 11 = .ok (.bipush (-2), 2) := by decide +kernel
theorem dX5_say_13 : decode cX5_say 13 = .ok (.ireturn, 1) := by decide +kernel
theorem dX5_say_14 : decode cX5_say 14 = .ok (.aload_n 0, 1) := by decide +kernel
theorem dX5_say_15 : decode cX5_say 15 = .ok (.getfield 100, 3) := by decide +kernel
theorem dX5_say_18 : decode cX5_say 18 = .ok (.bipush 40, 2) := by decide +kernel
theorem dX5_say_20 : decode cX5_say 20 = .ok (.if_icmp .ne 6, 3) := by decide +kernel
theorem dX5_say_23 : decode cX5_say 23 = .ok (.bipush (-4), 2) := by decide +kernel
theorem dX5_say_25 : decode cX5_say 25 = .ok (.ireturn, 1) := by decide +kernel
theorem dX5_say_26 : decode cX5_say 26 = .ok (.aload_n 0, 1) := by decide +kernel
theorem dX5_say_27 : decode cX5_say 27 = .ok (.getfield 22, 3) := by decide +kernel
theorem dX5_say_30 : decode cX5_say 30 = .ok (.aload_n 0, 1) := by decide +kernel
theorem dX5_say_31 : decode cX5_say 31 = .ok (.getfield 100, 3) := by decide +kernel
theorem dX5_say_34 : decode cX5_say 34 = .ok (.iload_n 1, 1) := by decide +kernel
theorem dX5_say_35 : decode cX5_say 35 = .ok (.iastore, 1) := by decide +kernel
theorem dX5_say_36 : decode cX5_say 36 = .ok (.aload_n 0, 1) := by decide +kernel
theorem dX5_say_37 : decode cX5_say 37 = .ok (.dup, 1) := by decide +kernel
theorem dX5_say_38 : decode cX5_say 38 = .ok (.getfield 100, 3) := by decide +kernel
theorem dX5_say_41 : decode cX5_say 41 = .ok (.iconst 1, 1) := by decide +kernel
theorem dX5_say_42 : decode cX5_say 42 = .ok (.iadd, 1) := by decide +kernel
theorem dX5_say_43 : decode cX5_say 43 = .ok (.putfield 100, 3) := by decide +kernel
theorem dX5_say_46 : decode cX5_say 46 = .ok (.aload_n 0, 1) := by decide +kernel
theorem dX5_say_47 : decode cX5_say 47 = .ok (.getfield 100, 3) := by decide +kernel
theorem dX5_say_50 : decode cX5_say 50 = .ok (.ireturn, 1) := by decide +kernel
theorem dX5_wipe_0 : decode cX5_wipe 0 = .ok (.aload_n 0, 1) := by decide +kernel
theorem dX5_wipe_1 : decode cX5_wipe 1 = .ok (.getfield 100, 3) := by decide +kernel
theorem dX5_wipe_4 : decode cX5_wipe 4 = .ok (.istore_n 1, 1) := by decide +kernel
theorem dX5_wipe_5 : decode cX5_wipe 5 = .ok (.aload_n 0, 1) := by decide +kernel
theorem dX5_wipe_6 : decode cX5_wipe 6 = .ok (.iconst 0, 1) := by decide +kernel
theorem dX5_wipe_7 : decode cX5_wipe 7 = .ok (.putfield 100, 3) := by decide +kernel
theorem dX5_wipe_10 : decode cX5_wipe 10 = .ok (.iload_n 1, 1) := by decide +kernel
theorem dX5_wipe_11 : decode cX5_wipe 11 = .ok (.ireturn, 1) := by decide +kernel
theorem dX5_read_0 : decode cX5_read 0 = .ok (.iload_n 1, 1) := by decide +kernel
theorem dX5_read_1 : decode cX5_read 1 = .ok (.invokestatic 106, 3) := by decide +kernel
theorem dX5_read_4 : decode cX5_read 4 = .ok (.ifCond .ne 5, 3) := by decide +kernel
theorem dX5_read_7 : decode cX5_read 7 = .ok (.iconst (-1), 1) := by decide +kernel
theorem dX5_read_8 : decode cX5_read 8 = .ok (.ireturn, 1) := by decide +kernel
theorem dX5_read_9 : decode cX5_read 9 = .ok (.aload_n 0, 1) := by decide +kernel
theorem dX5_read_10 : decode cX5_read 10 = .ok (.invokevirtual 109, 3) := by decide +kernel
theorem dX5_read_13 : decode cX5_read 13 = .ok (.istore_n 2, 1) := by decide +kernel
theorem dX5_read_14 : decode cX5_read 14 = .ok (.iload_n 2, 1) := by decide +kernel
theorem dX5_read_15 : decode cX5_read 15 = .ok (.ifCond .lt 11, 3) := by decide +kernel
theorem dX5_read_18 : decode cX5_read 18 = .ok (.aload_n 0, 1) := by decide +kernel
theorem dX5_read_19 : decode cX5_read 19 = .ok (.iload_n 2, 1) := by decide +kernel
theorem dX5_read_20 : decode cX5_read 20 = .ok (.putfield 25, 3) := by decide +kernel
theorem dX5_read_23 : decode cX5_read 23 = .ok (.bipush (-7), 2) := by decide +kernel
theorem dX5_read_25 : decode cX5_read 25 = .ok (.ireturn, 1) := by decide +kernel
theorem dX5_read_26 : decode cX5_read 26 = .ok (.aload_n 0, 1) := by decide +kernel
theorem dX5_read_27 : decode cX5_read 27 = .ok (.getfield 73, 3) := by decide +kernel
theorem dX5_read_30 : decode cX5_read 30 = .ok (.bipush 11, 2) := by decide +kernel
theorem dX5_read_32 : decode cX5_read 32 = .ok (.if_icmp .le 6, 3) := by decide +kernel
theorem dX5_read_35 : decode cX5_read 35 = .ok (.bipush (-4), 2) := by decide +kernel
theorem dX5_read_37 : decode cX5_read 37 = .ok (.ireturn, 1) := by decide +kernel
theorem dX5_read_38 : decode cX5_read 38 = .ok (.aload_n 0, 1) := by decide +kernel
theorem dX5_read_39 : decode cX5_read 39 = .ok (.iconst 0, 1) := by decide +kernel
theorem dX5_read_40 : decode cX5_read 40 = .ok (.putfield 100, 3) := by decide +kernel
theorem dX5_read_43 : decode cX5_read 43 = .ok (.aload_n 0, 1) := by decide +kernel
theorem dX5_read_44 : decode cX5_read 44 = .ok (.iload_n 1, 1) := by decide +kernel
theorem dX5_read_45 : decode cX5_read 45 = .ok (.invokevirtual 113, 3) := by decide +kernel
theorem dX5_read_48 : decode cX5_read 48 = .ok (.ireturn, 1) := by decide +kernel
theorem dX5_fault_0 : decode cX5_fault 0 = .ok (.aload_n 0, 1) := by decide +kernel
theorem dX5_fault_1 : decode cX5_fault 1 = .ok (.getfield 25, 3) := by decide +kernel
theorem dX5_fault_4 : decode cX5_fault 4 = .ok (.ireturn, 1) := by decide +kernel
theorem dX5_put_0 : decode cX5_put 0 = .ok (.aload_n 0, 1) := by decide +kernel
theorem dX5_put_1 : decode cX5_put 1 = .ok (.iload_n 1, 1) := by decide +kernel
theorem dX5_put_2 : decode cX5_put 2 = .ok (.invokevirtual 117, 3) := by decide +kernel
theorem dX5_put_5 : decode cX5_put 5 = .ok (.aload_n 0, 1) := by decide +kernel
theorem dX5_put_6 : decode cX5_put 6 = .ok (.getfield 73, 3) := by decide +kernel
theorem dX5_put_9 : decode cX5_put 9 = .ok (.iconst 1, 1) := by decide +kernel
theorem dX5_put_10 : decode cX5_put 10 = .ok (.isub, 1) := by decide +kernel
theorem dX5_put_11 : decode cX5_put 11 = .ok (.istore 4, 2) := by decide +kernel
theorem dX5_put_13 : decode cX5_put 13 = .ok (.iconst 0, 1) := by decide +kernel
theorem dX5_put_14 : decode cX5_put 14 = .ok (.istore 5, 2) := by decide +kernel
theorem dX5_put_16 : decode cX5_put 16 = .ok (.iload 5, 2) := by decide +kernel
theorem dX5_put_18 : decode cX5_put 18 = .ok (.aload_n 0, 1) := by decide +kernel
theorem dX5_put_19 : decode cX5_put 19 = .ok (.getfield 7, 3) := by decide +kernel
theorem dX5_put_22 : decode cX5_put 22 = .ok (.iload_n 2, 1) := by decide +kernel
theorem dX5_put_23 : decode cX5_put 23 = .ok (.iaload, 1) := by decide +kernel
theorem dX5_put_24 : decode cX5_put 24 = .ok (.if_icmp .ge 108, 3) := by decide +kernel
theorem dX5_put_27 : decode cX5_put 27 = .ok (.bipush 11, 2) := by decide +kernel
theorem dX5_put_29 : decode cX5_put 29 = .ok (.iload_n 2, 1) := by decide +kernel
theorem dX5_put_30 : decode cX5_put 30 = .ok (.imul, 1) := by decide +kernel
theorem dX5_put_31 : decode cX5_put 31 = .ok (.iload 5, 2) := by decide +kernel
theorem dX5_put_33 : decode cX5_put 33 = .ok (.iadd, 1) := by decide +kernel
theorem dX5_put_34 : decode cX5_put 34 = .ok (.istore 6, 2) := by decide +kernel
theorem dX5_put_36 : decode cX5_put 36 = .ok (.aload_n 0, 1) := by decide +kernel
theorem dX5_put_37 : decode cX5_put 37 = .ok (.getfield 13, 3) := by decide +kernel
theorem dX5_put_40 : decode cX5_put 40 = .ok (.iload 6, 2) := by decide +kernel
theorem dX5_put_42 : decode cX5_put 42 = .ok (.iaload, 1) := by decide +kernel
theorem dX5_put_43 : decode cX5_put 43 = .ok (.iconst 1, 1) := by decide +kernel
theorem dX5_put_44 : decode cX5_put 44 = .ok (.if_icmp .le 7, 3) := by decide +kernel
theorem dX5_put_47 : decode cX5_put 47 = .ok (.iconst 1, 1) := by decide +kernel
theorem dX5_put_48 : decode cX5_put 48 = .ok (.goto 4, 3) := by decide +kernel
theorem dX5_put_51 : decode cX5_put 51 = .ok (.iconst 0, 1) := by decide +kernel
theorem dX5_put_52 : decode cX5_put 52 = .ok (.istore 7, 2) := by decide +kernel
theorem dX5_put_54 : decode cX5_put 54 = .ok (.aload_n 0, 1) := by decide +kernel
theorem dX5_put_55 : decode cX5_put 55 = .ok (.getfield 47, 3) := by decide +kernel
theorem dX5_put_58 : decode cX5_put 58 = .ok (.iload 5, 2) := by decide +kernel
theorem dX5_put_60 : decode cX5_put 60 = .ok (.aload_n 0, 1) := by decide +kernel
theorem dX5_put_61 : decode cX5_put 61 = .ok (.aload_n 0, 1) := by decide +kernel
theorem dX5_put_62 : decode cX5_put 62 = .ok (.getfield 13, 3) := by decide +kernel
theorem dX5_put_65 : decode cX5_put 65 = .ok (.iload 6, 2) := by decide +kernel
theorem dX5_put_67 : decode cX5_put 67 = .ok (.iaload, 1) := by decide +kernel
theorem dX5_put_68 : decode cX5_put 68 = .ok (.iload 7, 2) := by decide +kernel
theorem dX5_put_70 : decode cX5_put 70 = .ok (.ifCond .eq 18, 3) := by decide +kernel
theorem dX5_put_73 : decode cX5_put 73 = .ok (.aload_n 0, 1) := by decide +kernel
theorem dX5_put_74 : decode cX5_put 74 = .ok (.getfield 47, 3) := by decide +kernel
theorem dX5_put_77 : decode cX5_put 77 = .ok (.aload_n 0, 1) := by decide +kernel
theorem dX5_put_78 : decode cX5_put 78 = .ok (.getfield 16, 3) := by decide +kernel
theorem dX5_put_81 : decode cX5_put 81 = .ok (.iload 6, 2) := by decide +kernel
theorem dX5_put_83 : decode cX5_put 83 = .ok (.iaload, 1) := by decide +kernel
theorem dX5_put_84 : decode cX5_put 84 = .ok (.iaload, 1) := by decide +kernel
theorem dX5_put_85 : decode cX5_put 85 = .ok (.goto 10, 3) := by decide +kernel
theorem dX5_put_88 : decode cX5_put 88 = .ok (.aload_n 0, 1) := by decide +kernel
theorem dX5_put_89 : decode cX5_put 89 = .ok (.getfield 16, 3) := by decide +kernel
theorem dX5_put_92 : decode cX5_put 92 = .ok (.iload 6, 2) := by decide +kernel
theorem dX5_put_94 : decode cX5_put 94 = .ok (.iaload, 1) := by decide +kernel
theorem dX5_put_95 : decode cX5_put 95 = .ok (.iload 7, 2) := by decide +kernel
theorem dX5_put_97 : decode cX5_put 97 = .ok (.ifCond .eq 18, 3) := by decide +kernel
theorem dX5_put_100 : decode cX5_put 100 = .ok (.aload_n 0, 1) := by decide +kernel
theorem dX5_put_101 : decode cX5_put 101 = .ok (.getfield 47, 3) := by decide +kernel
theorem dX5_put_104 : decode cX5_put 104 = .ok (.aload_n 0, 1) := by decide +kernel
theorem dX5_put_105 : decode cX5_put 105 = .ok (.getfield 19, 3) := by decide +kernel
theorem dX5_put_108 : decode cX5_put 108 = .ok (.iload 6, 2) := by decide +kernel
theorem dX5_put_110 : decode cX5_put 110 = .ok (.iaload, 1) := by decide +kernel
theorem dX5_put_111 : decode cX5_put 111 = .ok (.iaload, 1) := by decide +kernel
theorem dX5_put_112 : decode cX5_put 112 = .ok (.goto 10, 3) := by decide +kernel
theorem dX5_put_115 : decode cX5_put 115 = .ok (.aload_n 0, 1) := by decide +kernel
theorem dX5_put_116 : decode cX5_put 116 = .ok (.getfield 19, 3) := by decide +kernel
theorem dX5_put_119 : decode cX5_put 119 = .ok (.iload 6, 2) := by decide +kernel
theorem dX5_put_121 : decode cX5_put 121 = .ok (.iaload, 1) := by decide +kernel
theorem dX5_put_122 : decode cX5_put 122 = .ok (.invokevirtual 82, 3) := by decide +kernel
theorem dX5_put_125 : decode cX5_put 125 = .ok (.iastore, 1) := by decide +kernel
theorem dX5_put_126 : decode cX5_put 126 = .ok (.iinc 5 1, 3) := by decide +kernel
theorem dX5_put_129 : decode cX5_put 129 = .ok (.goto (-113), 3) := by decide +kernel
theorem dX5_put_132 : decode cX5_put 132 = .ok (.aload_n 0, 1) := by decide +kernel
theorem dX5_put_133 : decode cX5_put 133 = .ok (.iload_n 3, 1) := by decide +kernel
theorem dX5_put_134 : decode cX5_put 134 = .ok (.iload 4, 2) := by decide +kernel
theorem dX5_put_136 : decode cX5_put 136 = .ok (.aload_n 0, 1) := by decide +kernel
theorem dX5_put_137 : decode cX5_put 137 = .ok (.getfield 47, 3) := by decide +kernel
theorem dX5_put_140 : decode cX5_put 140 = .ok (.aload_n 0, 1) := by decide +kernel
theorem dX5_put_141 : decode cX5_put 141 = .ok (.getfield 7, 3) := by decide +kernel
theorem dX5_put_144 : decode cX5_put 144 = .ok (.iload_n 2, 1) := by decide +kernel
theorem dX5_put_145 : decode cX5_put 145 = .ok (.iaload, 1) := by decide +kernel
theorem dX5_put_146 : decode cX5_put 146 = .ok (.iconst 1, 1) := by decide +kernel
theorem dX5_put_147 : decode cX5_put 147 = .ok (.isub, 1) := by decide +kernel
theorem dX5_put_148 : decode cX5_put 148 = .ok (.iaload, 1) := by decide +kernel
theorem dX5_put_149 : decode cX5_put 149 = .ok (.invokevirtual 82, 3) := by decide +kernel
theorem dX5_put_152 : decode cX5_put 152 = .ok (.pop, 1) := by decide +kernel
theorem dX5_put_153 : decode cX5_put 153 = .ok (.return_, 1) := by decide +kernel
theorem dX5_isEmpty_0 : decode cX5_isEmpty 0 = .ok (.aload_n 0, 1) := by decide +kernel
theorem dX5_isEmpty_1 : decode cX5_isEmpty 1 = .ok (.getfield 7, 3) := by decide +kernel
theorem dX5_isEmpty_4 : decode cX5_isEmpty 4 = .ok (.iload_n 1, 1) := by decide +kernel
theorem dX5_isEmpty_5 : decode cX5_isEmpty 5 = .ok (.iaload, 1) := by decide +kernel
theorem dX5_isEmpty_6 : decode cX5_isEmpty 6 = .ok (.ifCond .ne 7, 3) := by decide +kernel
theorem dX5_isEmpty_9 : decode cX5_isEmpty 9 = .ok (.iconst 1, 1) := by decide +kernel
theorem dX5_isEmpty_10 : decode cX5_isEmpty 10 = .ok (.goto 4, 3) := by decide +kernel
theorem dX5_isEmpty_13 : decode cX5_isEmpty 13 = .ok (.iconst 0, 1) := by decide +kernel
theorem dX5_isEmpty_14 : decode cX5_isEmpty 14 = .ok (.ireturn, 1) := by decide +kernel
theorem dX5_make_0 : decode cX5_make 0 = .ok (.iload_n 1, 1) := by decide +kernel
theorem dX5_make_1 : decode cX5_make 1 = .ok (.invokestatic 106, 3) := by decide +kernel
theorem dX5_make_4 : decode cX5_make 4 = .ok (.ifCond .eq 17, 3) := by decide +kernel
theorem dX5_make_7 : decode cX5_make 7 = .ok (.iload_n 2, 1) := by decide +kernel
theorem dX5_make_8 : decode cX5_make 8 = .ok (.invokestatic 106, 3) := by decide +kernel
theorem dX5_make_11 : decode cX5_make 11 = .ok (.ifCond .eq 10, 3) := by decide +kernel
theorem dX5_make_14 : decode cX5_make 14 = .ok (.iload_n 3, 1) := by decide +kernel
theorem dX5_make_15 : decode cX5_make 15 = .ok (.invokestatic 106, 3) := by decide +kernel
theorem dX5_make_18 : decode cX5_make 18 = .ok (.ifCond .ne 5, 3) := by decide +kernel
theorem dX5_make_21 : decode cX5_make 21 = .ok (.iconst (-1), 1) := by decide +kernel
theorem dX5_make_22 : decode cX5_make 22 = .ok (.ireturn, 1) := by decide +kernel
theorem dX5_make_23 : decode cX5_make 23 = .ok (.iload 4, 2) := by decide +kernel
theorem dX5_make_25 : decode cX5_make 25 = .ok (.iconst 0, 1) := by decide +kernel
theorem dX5_make_26 : decode cX5_make 26 = .ok (.iconst 2, 1) := by decide +kernel
theorem dX5_make_27 : decode cX5_make 27 = .ok (.invokestatic 69, 3) := by decide +kernel
theorem dX5_make_30 : decode cX5_make 30 = .ok (.ifCond .ne 6, 3) := by decide +kernel
theorem dX5_make_33 : decode cX5_make 33 = .ok (.bipush (-2), 2) := by decide +kernel
theorem dX5_make_35 : decode cX5_make 35 = .ok (.ireturn, 1) := by decide +kernel
theorem dX5_make_36 : decode cX5_make 36 = .ok (.aload_n 0, 1) := by decide +kernel
theorem dX5_make_37 : decode cX5_make 37 = .ok (.iload_n 2, 1) := by decide +kernel
theorem dX5_make_38 : decode cX5_make 38 = .ok (.invokevirtual 120, 3) := by decide +kernel
theorem dX5_make_41 : decode cX5_make 41 = .ok (.ifCond .ne 11, 3) := by decide +kernel
theorem dX5_make_44 : decode cX5_make 44 = .ok (.aload_n 0, 1) := by decide +kernel
theorem dX5_make_45 : decode cX5_make 45 = .ok (.iload_n 3, 1) := by decide +kernel
theorem dX5_make_46 : decode cX5_make 46 = .ok (.invokevirtual 120, 3) := by decide +kernel
theorem dX5_make_49 : decode cX5_make 49 = .ok (.ifCond .eq 6, 3) := by decide +kernel
theorem dX5_make_52 : decode cX5_make 52 = .ok (.bipush (-3), 2) := by decide +kernel
theorem dX5_make_54 : decode cX5_make 54 = .ok (.ireturn, 1) := by decide +kernel
