theorem dX5_restore_41 : decode cX5_restore 41 = .ok (.iadd, 1) := by decide +kernel
theorem dX5_restore_42 : decode cX5_restore 42 = .ok (.iload_n 2, 1) := by decide +kernel
theorem dX5_restore_43 : decode cX5_restore 43 = .ok (.invokevirtual 174, 3) := by decide +kernel
theorem dX5_restore_46 : decode cX5_restore 46 = .ok (.iinc 2 1, 3) := by decide +kernel
theorem dX5_restore_49 : decode cX5_restore 49 = .ok (.goto (-23), 3) := by decide +kernel
theorem dX5_restore_52 : decode cX5_restore 52 = .ok (.iconst 1, 1) := by decide +kernel
theorem dX5_restore_53 : decode cX5_restore 53 = .ok (.ireturn, 1) := by decide +kernel
theorem dX5_areSame_0 : decode cX5_areSame 0 = .ok (.aload_n 0, 1) := by decide +kernel
theorem dX5_areSame_1 : decode cX5_areSame 1 = .ok (.getfield 7, 3) := by decide +kernel
theorem dX5_areSame_4 : decode cX5_areSame 4 = .ok (.iload_n 1, 1) := by decide +kernel
theorem dX5_areSame_5 : decode cX5_areSame 5 = .ok (.iaload, 1) := by decide +kernel
theorem dX5_areSame_6 : decode cX5_areSame 6 = .ok (.aload_n 0, 1) := by decide +kernel
theorem dX5_areSame_7 : decode cX5_areSame 7 = .ok (.getfield 7, 3) := by decide +kernel
theorem dX5_areSame_10 : decode cX5_areSame 10 = .ok (.iload_n 2, 1) := by decide +kernel
theorem dX5_areSame_11 : decode cX5_areSame 11 = .ok (.iaload, 1) := by decide +kernel
theorem dX5_areSame_12 : decode cX5_areSame 12 = .ok (.if_icmp .ne 7, 3) := by decide +kernel
theorem dX5_areSame_15 : decode cX5_areSame 15 = .ok (.iconst 1, 1) := by decide +kernel
theorem dX5_areSame_16 : decode cX5_areSame 16 = .ok (.goto 4, 3) := by decide +kernel
theorem dX5_areSame_19 : decode cX5_areSame 19 = .ok (.iconst 0, 1) := by decide +kernel
theorem dX5_areSame_20 : decode cX5_areSame 20 = .ok (.istore_n 3, 1) := by decide +kernel
theorem dX5_areSame_21 : decode cX5_areSame 21 = .ok (.iconst 0, 1) := by decide +kernel
theorem dX5_areSame_22 : decode cX5_areSame 22 = .ok (.istore 4, 2) := by decide +kernel
theorem dX5_areSame_24 : decode cX5_areSame 24 = .ok (.iload 4, 2) := by decide +kernel
theorem dX5_areSame_26 : decode cX5_areSame 26 = .ok (.aload_n 0, 1) := by decide +kernel
theorem dX5_areSame_27 : decode cX5_areSame 27 = .ok (.getfield 7, 3) := by decide +kernel
theorem dX5_areSame_30 : decode cX5_areSame 30 = .ok (.iload_n 1, 1) := by decide +kernel
theorem dX5_areSame_31 : decode cX5_areSame 31 = .ok (.iaload, 1) := by decide +kernel
theorem dX5_areSame_32 : decode cX5_areSame 32 = .ok (.if_icmp .ge 88, 3) := by decide +kernel
theorem dX5_areSame_35 : decode cX5_areSame 35 = .ok (.iload_n 3, 1) := by decide +kernel
theorem dX5_areSame_36 : decode cX5_areSame 36 = .ok (.ifCond .eq 84, 3) := by decide +kernel
theorem dX5_areSame_39 : decode cX5_areSame 39 = .ok (.bipush 11, 2) := by decide +kernel
theorem dX5_areSame_41 : decode cX5_areSame 41 = .ok (.iload_n 1, 1) := by decide +kernel
theorem dX5_areSame_42 : decode cX5_areSame 42 = .ok (.imul, 1) := by decide +kernel
theorem dX5_areSame_43 : decode cX5_areSame 43 = .ok (.iload 4, 2) := by decide +kernel
theorem dX5_areSame_45 : decode cX5_areSame 45 = .ok (.iadd, 1) := by decide +kernel
theorem dX5_areSame_46 : decode cX5_areSame 46 = .ok (.istore 5, 2) := by decide +kernel
theorem dX5_areSame_48 : decode cX5_areSame 48 = .ok (.bipush 11, 2) := by decide +kernel
theorem dX5_areSame_50 : decode cX5_areSame 50 = .ok (.iload_n 2, 1) := by decide +kernel
theorem dX5_areSame_51 : decode cX5_areSame 51 = .ok (.imul, 1) := by decide +kernel
theorem dX5_areSame_52 : decode cX5_areSame 52 = .ok (.iload 4, 2) := by decide +kernel
theorem dX5_areSame_54 : decode cX5_areSame 54 = .ok (.iadd, 1) := by decide +kernel
theorem dX5_areSame_55 : decode cX5_areSame 55 = .ok (.istore 6, 2) := by decide +kernel
theorem dX5_areSame_57 : decode cX5_areSame 57 = .ok (.aload_n 0, 1) := by decide +kernel
theorem dX5_areSame_58 : decode cX5_areSame 58 = .ok (.getfield 13, 3) := by decide +kernel
theorem dX5_areSame_61 : decode cX5_areSame 61 = .ok (.iload 5, 2) := by decide +kernel
theorem dX5_areSame_63 : decode cX5_areSame 63 = .ok (.iaload, 1) := by decide +kernel
theorem dX5_areSame_64 : decode cX5_areSame 64 = .ok (.aload_n 0, 1) := by decide +kernel
theorem dX5_areSame_65 : decode cX5_areSame 65 = .ok (.getfield 13, 3) := by decide +kernel
theorem dX5_areSame_68 : decode cX5_areSame 68 = .ok (.iload 6, 2) := by decide +kernel
theorem dX5_areSame_70 : decode cX5_areSame 70 = .ok (.iaload, 1) := by decide +kernel
theorem dX5_areSame_71 : decode cX5_areSame 71 = .ok (.if_icmp .ne 41, 3) := by decide +kernel
theorem dX5_areSame_74 : decode cX5_areSame 74 = .ok (.aload_n 0, 1) := by decide +kernel
theorem dX5_areSame_75 : decode cX5_areSame 75 = .ok (.getfield 16, 3) := by decide +kernel
theorem dX5_areSame_78 : decode cX5_areSame 78 = .ok (.iload 5, 2) := by decide +kernel
theorem dX5_areSame_80 : decode cX5_areSame 80 = .ok (.iaload, 1) := by decide +kernel
theorem dX5_areSame_81 : decode cX5_areSame 81 = .ok (.aload_n 0, 1) := by decide +kernel
theorem dX5_areSame_82 : decode cX5_areSame 82 = .ok (.getfield 16, 3) := by decide +kernel
theorem dX5_areSame_85 : decode cX5_areSame 85 = .ok (.iload 6, 2) := by decide +kernel
theorem dX5_areSame_87 : decode cX5_areSame 87 = .ok (.iaload, 1) := by decide +kernel
theorem dX5_areSame_88 : decode cX5_areSame 88 = .ok (.if_icmp .ne 24, 3) := by decide +kernel
theorem dX5_areSame_91 : decode cX5_areSame 91 = .ok (.aload_n 0, 1) := by decide +kernel
theorem dX5_areSame_92 : decode cX5_areSame 92 = .ok (.getfield 19, 3) := by decide +kernel
theorem dX5_areSame_95 : decode cX5_areSame 95 = .ok (.iload 5, 2) := by decide +kernel
theorem dX5_areSame_97 : decode cX5_areSame 97 = .ok (.iaload, 1) := by decide +kernel
theorem dX5_areSame_98 : decode cX5_areSame 98 = .ok (.aload_n 0, 1) := by decide +kernel
theorem dX5_areSame_99 : decode cX5_areSame 99 = .ok (.getfield 19, 3) := by decide +kernel
theorem dX5_areSame_102 : decode cX5_areSame 102 = .ok (.iload 6, 2) := by decide +kernel
theorem dX5_areSame_104 : decode cX5_areSame 104 = .ok (.iaload, 1) := by decide +kernel
theorem dX5_areSame_105 : decode cX5_areSame 105 = .ok (.if_icmp .ne 7, 3) := by decide +kernel
theorem dX5_areSame_108 : decode cX5_areSame 108 = .ok (.iconst 1, 1) := by decide +kernel
theorem dX5_areSame_109 : decode cX5_areSame 109 = .ok (.goto 4, 3) := by decide +kernel
theorem dX5_areSame_112 : decode cX5_areSame 112 = .ok (.iconst 0, 1) := by decide +kernel
theorem dX5_areSame_113 : decode cX5_areSame 113 = .ok (.istore_n 3, 1) := by decide +kernel
theorem dX5_areSame_114 : decode cX5_areSame 114 = .ok (.iinc 4 1, 3) := by decide +kernel
theorem dX5_areSame_117 : decode cX5_areSame 117 = .ok (.goto (-93), 3) := by decide +kernel
theorem dX5_areSame_120 : decode cX5_areSame 120 = .ok (.iload_n 3, 1) := by decide +kernel
theorem dX5_areSame_121 : decode cX5_areSame 121 = .ok (.ireturn, 1) := by decide +kernel
theorem dX5_isFirst_0 : decode cX5_isFirst 0 = .ok (.iconst 1, 1) := by decide +kernel
theorem dX5_isFirst_1 : decode cX5_isFirst 1 = .ok (.istore_n 2, 1) := by decide +kernel
theorem dX5_isFirst_2 : decode cX5_isFirst 2 = .ok (.iconst 0, 1) := by decide +kernel
theorem dX5_isFirst_3 : decode cX5_isFirst 3 = .ok (.istore_n 3, 1) := by decide +kernel
theorem dX5_isFirst_4 : decode cX5_isFirst 4 = .ok (.iload_n 3, 1) := by decide +kernel
theorem dX5_isFirst_5 : decode cX5_isFirst 5 = .ok (.iload_n 1, 1) := by decide +kernel
theorem dX5_isFirst_6 : decode cX5_isFirst 6 = .ok (.if_icmp .ge 28, 3) := by decide +kernel
theorem dX5_isFirst_9 : decode cX5_isFirst 9 = .ok (.iload_n 2, 1) := by decide +kernel
theorem dX5_isFirst_10 : decode cX5_isFirst 10 = .ok (.ifCond .eq 16, 3) := by decide +kernel
theorem dX5_isFirst_13 : decode cX5_isFirst 13 = .ok (.aload_n 0, 1) := by decide +kernel
theorem dX5_isFirst_14 : decode cX5_isFirst 14 = .ok (.iload_n 3, 1) := by decide +kernel
theorem dX5_isFirst_15 : decode cX5_isFirst 15 = .ok (.iload_n 1, 1) := by decide +kernel
theorem dX5_isFirst_16 : decode cX5_isFirst 16 = .ok (.invokevirtual 177, 3) := by decide +kernel
theorem dX5_isFirst_19 : decode cX5_isFirst 19 = .ok (.ifCond .ne 7, 3) := by decide +kernel
theorem dX5_isFirst_22 : decode cX5_isFirst 22 = .ok (.iconst 1, 1) := by decide +kernel
theorem dX5_isFirst_23 : decode cX5_isFirst 23 = .ok (.goto 4, 3) := by decide +kernel
theorem dX5_isFirst_26 : decode cX5_isFirst 26 = .ok (.iconst 0, 1) := by decide +kernel
theorem dX5_isFirst_27 : decode cX5_isFirst 27 = .ok (.istore_n 2, 1) := by decide +kernel
theorem dX5_isFirst_28 : decode cX5_isFirst 28 = .ok (.iinc 3 1, 3) := by decide +kernel
theorem dX5_isFirst_31 : decode cX5_isFirst 31 = .ok (.goto (-27), 3) := by decide +kernel
theorem dX5_isFirst_34 : decode cX5_isFirst 34 = .ok (.iload_n 2, 1) := by decide +kernel
theorem dX5_isFirst_35 : decode cX5_isFirst 35 = .ok (.ireturn, 1) := by decide +kernel
theorem dX5_counts_0 : decode cX5_counts 0 = .ok (.iload_n 2, 1) := by decide +kernel
theorem dX5_counts_1 : decode cX5_counts 1 = .ok (.tableswitch 57 0 2 #[27, 29, 35], 27) := by decide +kernel
theorem dX5_counts_28 : decode cX5_counts 28 = .ok (.iconst 1, 1) := by decide +kernel
theorem dX5_counts_29 : decode cX5_counts 29 = .ok (.ireturn, 1) := by decide +kernel
theorem dX5_counts_30 : decode cX5_counts 30 = .ok (.aload_n 0, 1) := by decide +kernel
theorem dX5_counts_31 : decode cX5_counts 31 = .ok (.iload_n 1, 1) := by decide +kernel
theorem dX5_counts_32 : decode cX5_counts 32 = .ok (.invokevirtual 153, 3) := by decide +kernel
theorem dX5_counts_35 : decode cX5_counts 35 = .ok (.ireturn, 1) := by decide +kernel
theorem dX5_counts_36 : decode cX5_counts 36 = .ok (.aload_n 0, 1) := by decide +kernel
theorem dX5_counts_37 : decode cX5_counts 37 = .ok (.iload_n 1, 1) := by decide +kernel
theorem dX5_counts_38 : decode cX5_counts 38 = .ok (.invokevirtual 159, 3) := by decide +kernel
theorem dX5_counts_41 : decode cX5_counts 41 = .ok (.ifCond .eq 15, 3) := by decide +kernel
theorem dX5_counts_44 : decode cX5_counts 44 = .ok (.aload_n 0, 1) := by decide +kernel
theorem dX5_counts_45 : decode cX5_counts 45 = .ok (.iload_n 1, 1) := by decide +kernel
theorem dX5_counts_46 : decode cX5_counts 46 = .ok (.invokevirtual 153, 3) := by decide +kernel
theorem dX5_counts_49 : decode cX5_counts 49 = .ok (.ifCond .ne 7, 3) := by decide +kernel
theorem dX5_counts_52 : decode cX5_counts 52 = .ok (.iconst 1, 1) := by decide +kernel
theorem dX5_counts_53 : decode cX5_counts 53 = .ok (.goto 4, 3) := by decide +kernel
theorem dX5_counts_56 : decode cX5_counts 56 = .ok (.iconst 0, 1) := by decide +kernel
theorem dX5_counts_57 : decode cX5_counts 57 = .ok (.ireturn, 1) := by decide +kernel
theorem dX5_counts_58 : decode cX5_counts 58 = .ok (.aload_n 0, 1) := by decide +kernel
theorem dX5_counts_59 : decode cX5_counts 59 = .ok (.iload_n 1, 1) := by decide +kernel
theorem dX5_counts_60 : decode cX5_counts 60 = .ok (.invokevirtual 180, 3) := by decide +kernel
theorem dX5_counts_63 : decode cX5_counts 63 = .ok (.ireturn, 1) := by decide +kernel
theorem dX5_count_0 : decode cX5_count 0 = .ok (.iload_n 1, 1) := by decide +kernel
theorem dX5_count_1 : decode cX5_count 1 = .ok (.iconst 4, 1) := by decide +kernel
theorem dX5_count_2 : decode cX5_count 2 = .ok (.if_icmp .ne 8, 3) := by decide +kernel
theorem dX5_count_5 : decode cX5_count 5 = .ok (.aload_n 0, 1) := by decide +kernel
theorem dX5_count_6 : decode cX5_count 6 = .ok (.getfield 100, 3) := by decide +kernel
theorem dX5_count_9 : decode cX5_count 9 = .ok (.ireturn, 1) := by decide +kernel
theorem dX5_count_10 : decode cX5_count 10 = .ok (.iload_n 1, 1) := by decide +kernel
theorem dX5_count_11 : decode cX5_count 11 = .ok (.iconst 5, 1) := by decide +kernel
theorem dX5_count_12 : decode cX5_count 12 = .ok (.if_icmp .ne 33, 3) := by decide +kernel
theorem dX5_count_15 : decode cX5_count 15 = .ok (.aload_n 0, 1) := by decide +kernel
theorem dX5_count_16 : decode cX5_count 16 = .ok (.getfield 66, 3) := by decide +kernel
theorem dX5_count_19 : decode cX5_count 19 = .ok (.iconst 0, 1) := by decide +kernel
theorem dX5_count_20 : decode cX5_count 20 = .ok (.baload, 1) := by decide +kernel
theorem dX5_count_21 : decode cX5_count 21 = .ok (.ifCond .eq 7, 3) := by decide +kernel
theorem dX5_count_24 : decode cX5_count 24 = .ok (.iconst 1, 1) := by decide +kernel
theorem dX5_count_25 : decode cX5_count 25 = .ok (.goto 4, 3) := by decide +kernel
theorem dX5_count_28 : decode cX5_count 28 = .ok (.iconst 0, 1) := by decide +kernel
theorem dX5_count_29 : decode cX5_count 29 = .ok (.aload_n 0, 1) := by decide +kernel
theorem dX5_count_30 : decode cX5_count 30 = .ok (.getfield 66, 3) := by decide +kernel
theorem dX5_count_33 : decode cX5_count 33 = .ok (.iconst 1, 1) := by decide +kernel
theorem dX5_count_34 : decode cX5_count 34 = .ok (.baload, 1) := by decide +kernel
theorem dX5_count_35 : decode cX5_count 35 = .ok (.ifCond .eq 7, 3) := by decide +kernel
theorem dX5_count_38 : decode cX5_count 38 = .ok (.iconst 2, 1) := by decide +kernel
theorem dX5_count_39 : decode cX5_count 39 = .ok (.goto 4, 3) := by decide +kernel
theorem dX5_count_42 : decode cX5_count 42 = .ok (.iconst 0, 1) := by decide +kernel
theorem dX5_count_43 : decode cX5_count 43 = .ok (.iadd, 1) := by decide +kernel
theorem dX5_count_44 : decode cX5_count 44 = .ok (.ireturn, 1) := by decide +kernel
theorem dX5_count_45 : decode cX5_count 45 = .ok (.iload_n 1, 1) := by decide +kernel
theorem dX5_count_46 : decode cX5_count 46 = .ok (.bipush 10, 2) := by decide +kernel
theorem dX5_count_48 : decode cX5_count 48 = .ok (.bipush 15, 2) := by decide +kernel
theorem dX5_count_50 : decode cX5_count 50 = .ok (.invokestatic 69, 3) := by decide +kernel
theorem dX5_count_53 : decode cX5_count 53 = .ok (.ifCond .eq 13, 3) := by decide +kernel
theorem dX5_count_56 : decode cX5_count 56 = .ok (.aload_n 0, 1) := by decide +kernel
theorem dX5_count_57 : decode cX5_count 57 = .ok (.getfield 7, 3) := by decide +kernel
theorem dX5_count_60 : decode cX5_count 60 = .ok (.iload_n 1, 1) := by decide +kernel
theorem dX5_count_61 : decode cX5_count 61 = .ok (.bipush 10, 2) := by decide +kernel
theorem dX5_count_63 : decode cX5_count 63 = .ok (.isub, 1) := by decide +kernel
theorem dX5_count_64 : decode cX5_count 64 = .ok (.iaload, 1) := by decide +kernel
theorem dX5_count_65 : decode cX5_count 65 = .ok (.ireturn, 1) := by decide +kernel
theorem dX5_count_66 : decode cX5_count 66 = .ok (.iload_n 1, 1) := by decide +kernel
theorem dX5_count_67 : decode cX5_count 67 = .ok (.iconst 0, 1) := by decide +kernel
theorem dX5_count_68 : decode cX5_count 68 = .ok (.iconst 3, 1) := by decide +kernel
theorem dX5_count_69 : decode cX5_count 69 = .ok (.invokestatic 69, 3) := by decide +kernel
theorem dX5_count_72 : decode cX5_count 72 = .ok (.ifCond .ne 6, 3) := by decide +kernel
theorem dX5_count_75 : decode cX5_count 75 = .ok (.bipush (-2), 2) := by decide +kernel
theorem dX5_count_77 : decode cX5_count 77 = .ok (.ireturn, 1) := by decide +kernel
theorem dX5_count_78 : decode cX5_count 78 = .ok (.iconst 0, 1) := by decide +kernel
theorem dX5_count_79 : decode cX5_count 79 = .ok (.istore_n 2, 1) := by decide +kernel
theorem dX5_count_80 : decode cX5_count 80 = .ok (.iconst 0, 1) := by decide +kernel
theorem dX5_count_81 : decode cX5_count 81 = .ok (.istore_n 3, 1) := by decide +kernel
theorem dX5_count_82 : decode cX5_count 82 = .ok (.iload_n 3, 1) := by decide +kernel
theorem dX5_count_83 : decode cX5_count 83 = .ok (.bipush 6, 2) := by decide +kernel
theorem dX5_count_85 : decode cX5_count 85 = .ok (.if_icmp .ge 34, 3) := by decide +kernel
theorem dX5_count_88 : decode cX5_count 88 = .ok (.iload_n 2, 1) := by decide +kernel
theorem dX5_count_89 : decode cX5_count 89 = .ok (.aload_n 0, 1) := by decide +kernel
theorem dX5_count_90 : decode cX5_count 90 = .ok (.iload_n 3, 1) := by decide +kernel
theorem dX5_count_91 : decode cX5_count 91 = .ok (.invokevirtual 120, 3) := by decide +kernel
theorem dX5_count_94 : decode cX5_count 94 = .ok (.ifCond .ne 16, 3) := by decide +kernel
theorem dX5_count_97 : decode cX5_count 97 = .ok (.aload_n 0, 1) := by decide +kernel
theorem dX5_count_98 : decode cX5_count 98 = .ok (.iload_n 3, 1) := by decide +kernel
theorem dX5_count_99 : decode cX5_count 99 = .ok (.iload_n 1, 1) := by decide +kernel
theorem dX5_count_100 : decode cX5_count 100 = .ok (.invokevirtual 183, 3) := by decide +kernel
theorem dX5_count_103 : decode cX5_count 103 = .ok (.ifCond .eq 7, 3) := by decide +kernel
theorem dX5_count_106 : decode cX5_count 106 = .ok (.iconst 1, 1) := by decide +kernel
theorem dX5_count_107 : decode cX5_count 107 = .ok (.goto 4, 3) := by decide +kernel
theorem dX5_count_110 : decode cX5_count 110 = .ok (.iconst 0, 1) := by decide +kernel
theorem dX5_count_111 : decode cX5_count 111 = .ok (.iadd, 1) := by decide +kernel
theorem dX5_count_112 : decode cX5_count 112 = .ok (.istore_n 2, 1) := by decide +kernel
theorem dX5_count_113 : decode cX5_count 113 = .ok (.iinc 3 1, 3) := by decide +kernel
theorem dX5_count_116 : decode cX5_count 116 = .ok (.goto (-34), 3) := by decide +kernel
theorem dX5_count_119 : decode cX5_count 119 = .ok (.iload_n 2, 1) := by decide +kernel
theorem dX5_count_120 : decode cX5_count 120 = .ok (.ireturn, 1) := by decide +kernel
