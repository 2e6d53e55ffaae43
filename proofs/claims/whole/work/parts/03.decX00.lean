theorem dX0_init_0 : decode cX0_init 0 = .ok (.aload_n 0, 1) := by decide +kernel
theorem dX0_init_1 : decode cX0_init 1 = .ok (.invokespecial 3, 3) := by decide +kernel
theorem dX0_init_4 : decode cX0_init 4 = .ok (.aload_n 0, 1) := by decide +kernel
theorem dX0_init_5 : decode cX0_init 5 = .ok (.new 9, 3) := by decide +kernel
theorem dX0_init_8 : decode cX0_init 8 = .ok (.dup, 1) := by decide +kernel
theorem dX0_init_9 : decode cX0_init 9 = .ok (.invokespecial 11, 3) := by decide +kernel
theorem dX0_init_12 : decode cX0_init 12 = .ok (.putfield 12, 3) := by decide +kernel
theorem dX0_init_15 : decode cX0_init 15 = .ok (.aload_n 0, 1) := by decide +kernel
theorem dX0_init_16 : decode cX0_init 16 = .ok (.sipush 2048, 3) := by decide +kernel
theorem dX0_init_19 : decode cX0_init 19 = .ok (.newarray .int, 2) := by decide +kernel
theorem dX0_init_21 : decode cX0_init 21 = .ok (.putfield 18, 3) := by decide +kernel
theorem dX0_init_24 : decode cX0_init 24 = .ok (.aload_n 0, 1) := by decide +kernel
theorem dX0_init_25 : decode cX0_init 25 = .ok (.sipush 2048, 3) := by decide +kernel
theorem dX0_init_28 : decode cX0_init 28 = .ok (.newarray .int, 2) := by decide +kernel
theorem dX0_init_30 : decode cX0_init 30 = .ok (.putfield 22, 3) := by decide +kernel
theorem dX0_init_33 : decode cX0_init 33 = .ok (.aload_n 0, 1) := by decide +kernel
theorem dX0_init_34 : decode cX0_init 34 = .ok (.sipush 2048, 3) := by decide +kernel
theorem dX0_init_37 : decode cX0_init 37 = .ok (.newarray .int, 2) := by decide +kernel
theorem dX0_init_39 : decode cX0_init 39 = .ok (.putfield 25, 3) := by decide +kernel
theorem dX0_init_42 : decode cX0_init 42 = .ok (.aload_n 0, 1) := by decide +kernel
theorem dX0_init_43 : decode cX0_init 43 = .ok (.iconst 0, 1) := by decide +kernel
theorem dX0_init_44 : decode cX0_init 44 = .ok (.putfield 28, 3) := by decide +kernel
theorem dX0_init_47 : decode cX0_init 47 = .ok (.aload_n 0, 1) := by decide +kernel
theorem dX0_init_48 : decode cX0_init 48 = .ok (.iconst 0, 1) := by decide +kernel
theorem dX0_init_49 : decode cX0_init 49 = .ok (.putfield 32, 3) := by decide +kernel
theorem dX0_init_52 : decode cX0_init 52 = .ok (.return_, 1) := by decide +kernel
theorem dX0_turnTo_0 : decode cX0_turnTo 0 = .ok (.aload_n 0, 1) := by decide +kernel
theorem dX0_turnTo_1 : decode cX0_turnTo 1 = .ok (.getfield 12, 3) := by decide +kernel
theorem dX0_turnTo_4 : decode cX0_turnTo 4 = .ok (.aload_n 1, 1) := by decide +kernel
theorem dX0_turnTo_5 : decode cX0_turnTo 5 = .ok (.invokevirtual 35, 3) := by decide +kernel
theorem dX0_turnTo_8 : decode cX0_turnTo 8 = .ok (.ifCond .eq 4, 3) := by decide +kernel
theorem dX0_turnTo_11 : decode cX0_turnTo 11 = .ok (.return_, 1) := by decide +kernel
theorem dX0_turnTo_12 : decode cX0_turnTo 12 = .ok (.aload_n 0, 1) := by decide +kernel
theorem dX0_turnTo_13 : decode cX0_turnTo 13 = .ok (.getfield 12, 3) := by decide +kernel
theorem dX0_turnTo_16 : decode cX0_turnTo 16 = .ok (.aload_n 1, 1) := by decide +kernel
theorem dX0_turnTo_17 : decode cX0_turnTo 17 = .ok (.invokevirtual 39, 3) := by decide +kernel
theorem dX0_turnTo_20 : decode cX0_turnTo 20 = .ok (.aload_n 0, 1) := by decide +kernel
theorem dX0_turnTo_21 : decode cX0_turnTo 21 = .ok (.getfield 18, 3) := by decide +kernel
theorem dX0_turnTo_24 : decode cX0_turnTo 24 = .ok (.iconst 0, 1) := by decide +kernel
theorem dX0_turnTo_25 : decode cX0_turnTo 25 = .ok (.iconst 0, 1) := by decide +kernel
theorem dX0_turnTo_26 : decode cX0_turnTo 26 = .ok (.iastore, 1) := by decide +kernel
theorem dX0_turnTo_27 : decode cX0_turnTo 27 = .ok (.aload_n 0, 1) := by decide +kernel
theorem dX0_turnTo_28 : decode cX0_turnTo 28 = .ok (.iconst 1, 1) := by decide +kernel
theorem dX0_turnTo_29 : decode cX0_turnTo 29 = .ok (.putfield 32, 3) := by decide +kernel
theorem dX0_turnTo_32 : decode cX0_turnTo 32 = .ok (.iconst 0, 1) := by decide +kernel
theorem dX0_turnTo_33 : decode cX0_turnTo 33 = .ok (.istore_n 2, 1) := by decide +kernel
theorem dX0_turnTo_34 : decode cX0_turnTo 34 = .ok (.iload_n 2, 1) := by decide +kernel
theorem dX0_turnTo_35 : decode cX0_turnTo 35 = .ok (.aload_n 0, 1) := by decide +kernel
theorem dX0_turnTo_36 : decode cX0_turnTo 36 = .ok (.getfield 12, 3) := by decide +kernel
theorem dX0_turnTo_39 : decode cX0_turnTo 39 = .ok (.getfield 43, 3) := by decide +kernel
theorem dX0_turnTo_42 : decode cX0_turnTo 42 = .ok (.if_icmp .ge 14, 3) := by decide +kernel
theorem dX0_turnTo_45 : decode cX0_turnTo 45 = .ok (.aload_n 0, 1) := by decide +kernel
theorem dX0_turnTo_46 : decode cX0_turnTo 46 = .ok (.iload_n 2, 1) := by decide +kernel
theorem dX0_turnTo_47 : decode cX0_turnTo 47 = .ok (.invokevirtual 46, 3) := by decide +kernel
theorem dX0_turnTo_50 : decode cX0_turnTo 50 = .ok (.iinc 2 1, 3) := by decide +kernel
theorem dX0_turnTo_53 : decode cX0_turnTo 53 = .ok (.goto (-19), 3) := by decide +kernel
theorem dX0_turnTo_56 : decode cX0_turnTo 56 = .ok (.aload_n 0, 1) := by decide +kernel
theorem dX0_turnTo_57 : decode cX0_turnTo 57 = .ok (.invokevirtual 50, 3) := by decide +kernel
theorem dX0_turnTo_60 : decode cX0_turnTo 60 = .ok (.return_, 1) := by decide +kernel
theorem dX0_decide_0 : decode cX0_decide 0 = .ok (.iconst 0, 1) := by decide +kernel
theorem dX0_decide_1 : decode cX0_decide 1 = .ok (.istore_n 2, 1) := by decide +kernel
theorem dX0_decide_2 : decode cX0_decide 2 = .ok (.iconst 0, 1) := by decide +kernel
theorem dX0_decide_3 : decode cX0_decide 3 = .ok (.istore_n 3, 1) := by decide +kernel
theorem dX0_decide_4 : decode cX0_decide 4 = .ok (.iconst 0, 1) := by decide +kernel
theorem dX0_decide_5 : decode cX0_decide 5 = .ok (.istore 4, 2) := by decide +kernel
theorem dX0_decide_7 : decode cX0_decide 7 = .ok (.iload 4, 2) := by decide +kernel
theorem dX0_decide_9 : decode cX0_decide 9 = .ok (.aload_n 0, 1) := by decide +kernel
theorem dX0_decide_10 : decode cX0_decide 10 = .ok (.getfield 32, 3) := by decide +kernel
theorem dX0_decide_13 : decode cX0_decide 13 = .ok (.if_icmp .ge 67, 3) := by decide +kernel
theorem dX0_decide_16 : decode cX0_decide 16 = .ok (.aload_n 0, 1) := by decide +kernel
theorem dX0_decide_17 : decode cX0_decide 17 = .ok (.getfield 18, 3) := by decide +kernel
theorem dX0_decide_20 : decode cX0_decide 20 = .ok (.iload 4, 2) := by decide +kernel
theorem dX0_decide_22 : decode cX0_decide 22 = .ok (.iaload, 1) := by decide +kernel
theorem dX0_decide_23 : decode cX0_decide 23 = .ok (.istore 5, 2) := by decide +kernel
theorem dX0_decide_25 : decode cX0_decide 25 = .ok (.aload_n 0, 1) := by decide +kernel
theorem dX0_decide_26 : decode cX0_decide 26 = .ok (.iload_n 1, 1) := by decide +kernel
theorem dX0_decide_27 : decode cX0_decide 27 = .ok (.iload 5, 2) := by decide +kernel
theorem dX0_decide_29 : decode cX0_decide 29 = .ok (.invokevirtual 53, 3) := by decide +kernel
theorem dX0_decide_32 : decode cX0_decide 32 = .ok (.istore 6, 2) := by decide +kernel
theorem dX0_decide_34 : decode cX0_decide 34 = .ok (.iload 6, 2) := by decide +kernel
theorem dX0_decide_36 : decode cX0_decide 36 = .ok (.iconst 2, 1) := by decide +kernel
theorem dX0_decide_37 : decode cX0_decide 37 = .ok (.iand, 1) := by decide +kernel
theorem dX0_decide_38 : decode cX0_decide 38 = .ok (.ifCond .eq 18, 3) := by decide +kernel
theorem dX0_decide_41 : decode cX0_decide 41 = .ok (.aload_n 0, 1) := by decide +kernel
theorem dX0_decide_42 : decode cX0_decide 42 = .ok (.getfield 22, 3) := by decide +kernel
theorem dX0_decide_45 : decode cX0_decide 45 = .ok (.iload_n 3, 1) := by decide +kernel
theorem dX0_decide_46 : decode cX0_decide 46 = .ok (.iload 5, 2) := by decide +kernel
theorem dX0_decide_48 : decode cX0_decide 48 = .ok (.iconst 1, 1) := by decide +kernel
theorem dX0_decide_49 : decode cX0_decide 49 = .ok (.iload_n 1, 1) := by decide +kernel
theorem dX0_decide_50 : decode cX0_decide 50 = .ok (.ishl, 1) := by decide +kernel
theorem dX0_decide_51 : decode cX0_decide 51 = .ok (.ior, 1) := by decide +kernel
theorem dX0_decide_52 : decode cX0_decide 52 = .ok (.iastore, 1) := by decide +kernel
theorem dX0_decide_53 : decode cX0_decide 53 = .ok (.iinc 3 1, 3) := by decide +kernel
theorem dX0_decide_56 : decode cX0_decide 56 = .ok (.iload 6, 2) := by decide +kernel
theorem dX0_decide_58 : decode cX0_decide 58 = .ok (.iconst 1, 1) := by decide +kernel
theorem dX0_decide_59 : decode cX0_decide 59 = .ok (.iand, 1) := by decide +kernel
theorem dX0_decide_60 : decode cX0_decide 60 = .ok (.ifCond .eq 14, 3) := by decide +kernel
theorem dX0_decide_63 : decode cX0_decide 63 = .ok (.aload_n 0, 1) := by decide +kernel
theorem dX0_decide_64 : decode cX0_decide 64 = .ok (.getfield 18, 3) := by decide +kernel
theorem dX0_decide_67 : decode cX0_decide 67 = .ok (.iload_n 2, 1) := by decide +kernel
theorem dX0_decide_68 : decode cX0_decide 68 = .ok (.iload 5, 2) := by decide +kernel
theorem dX0_decide_70 : decode cX0_decide 70 = .ok (.iastore, 1) := by decide +kernel
theorem dX0_decide_71 : decode cX0_decide 71 = .ok (.iinc 2 1, 3) := by decide +kernel
theorem dX0_decide_74 : decode cX0_decide 74 = .ok (.iinc 4 1, 3) := by decide +kernel
theorem dX0_decide_77 : decode cX0_decide 77 = .ok (.goto (-70), 3) := by decide +kernel
theorem dX0_decide_80 : decode cX0_decide 80 = .ok (.aload_n 0, 1) := by decide +kernel
theorem dX0_decide_81 : decode cX0_decide 81 = .ok (.getfield 22, 3) := by decide +kernel
theorem dX0_decide_84 : decode cX0_decide 84 = .ok (.iconst 0, 1) := by decide +kernel
theorem dX0_decide_85 : decode cX0_decide 85 = .ok (.aload_n 0, 1) := by decide +kernel
theorem dX0_decide_86 : decode cX0_decide 86 = .ok (.getfield 18, 3) := by decide +kernel
theorem dX0_decide_89 : decode cX0_decide 89 = .ok (.iload_n 2, 1) := by decide +kernel
theorem dX0_decide_90 : decode cX0_decide 90 = .ok (.iload_n 3, 1) := by decide +kernel
theorem dX0_decide_91 : decode cX0_decide 91 = .ok (.invokestatic 57, 3) := by decide +kernel
theorem dX0_decide_94 : decode cX0_decide 94 = .ok (.aload_n 0, 1) := by decide +kernel
theorem dX0_decide_95 : decode cX0_decide 95 = .ok (.iload_n 2, 1) := by decide +kernel
theorem dX0_decide_96 : decode cX0_decide 96 = .ok (.iload_n 3, 1) := by decide +kernel
theorem dX0_decide_97 : decode cX0_decide 97 = .ok (.iadd, 1) := by decide +kernel
theorem dX0_decide_98 : decode cX0_decide 98 = .ok (.putfield 32, 3) := by decide +kernel
theorem dX0_decide_101 : decode cX0_decide 101 = .ok (.return_, 1) := by decide +kernel
theorem dX0_waysOf_0 : decode cX0_waysOf 0 = .ok (.aload_n 0, 1) := by decide +kernel
theorem dX0_waysOf_1 : decode cX0_waysOf 1 = .ok (.getfield 12, 3) := by decide +kernel
theorem dX0_waysOf_4 : decode cX0_waysOf 4 = .ok (.getfield 63, 3) := by decide +kernel
theorem dX0_waysOf_7 : decode cX0_waysOf 7 = .ok (.iload_n 1, 1) := by decide +kernel
theorem dX0_waysOf_8 : decode cX0_waysOf 8 = .ok (.iaload, 1) := by decide +kernel
theorem dX0_waysOf_9 : decode cX0_waysOf 9 = .ok (.istore_n 3, 1) := by decide +kernel
theorem dX0_waysOf_10 : decode cX0_waysOf 10 = .ok (.aload_n 0, 1) := by decide +kernel
theorem dX0_waysOf_11 : decode cX0_waysOf 11 = .ok (.getfield 12, 3) := by decide +kernel
theorem dX0_waysOf_14 : decode cX0_waysOf 14 = .ok (.getfield 66, 3) := by decide +kernel
theorem dX0_waysOf_17 : decode cX0_waysOf 17 = .ok (.iload_n 1, 1) := by decide +kernel
theorem dX0_waysOf_18 : decode cX0_waysOf 18 = .ok (.iaload, 1) := by decide +kernel
theorem dX0_waysOf_19 : decode cX0_waysOf 19 = .ok (.istore 4, 2) := by decide +kernel
theorem dX0_waysOf_21 : decode cX0_waysOf 21 = .ok (.aload_n 0, 1) := by decide +kernel
theorem dX0_waysOf_22 : decode cX0_waysOf 22 = .ok (.getfield 12, 3) := by decide +kernel
theorem dX0_waysOf_25 : decode cX0_waysOf 25 = .ok (.getfield 69, 3) := by decide +kernel
theorem dX0_waysOf_28 : decode cX0_waysOf 28 = .ok (.iload_n 1, 1) := by decide +kernel
theorem dX0_waysOf_29 : decode cX0_waysOf 29 = .ok (.iaload, 1) := by decide +kernel
theorem dX0_waysOf_30 : decode cX0_waysOf 30 = .ok (.tableswitch 109 0 4 #[34, 109, 36, 59, 82], 34) := by decide +kernel
theorem dX0_waysOf_64 : decode cX0_waysOf 64 = .ok (.iconst 3, 1) := by decide +kernel
theorem dX0_waysOf_65 : decode cX0_waysOf 65 = .ok (.ireturn, 1) := by decide +kernel
theorem dX0_waysOf_66 : decode cX0_waysOf 66 = .ok (.iload_n 2, 1) := by decide +kernel
theorem dX0_waysOf_67 : decode cX0_waysOf 67 = .ok (.iload_n 3, 1) := by decide +kernel
theorem dX0_waysOf_68 : decode cX0_waysOf 68 = .ok (.invokestatic 72, 3) := by decide +kernel
theorem dX0_waysOf_71 : decode cX0_waysOf 71 = .ok (.ifCond .eq 16, 3) := by decide +kernel
theorem dX0_waysOf_74 : decode cX0_waysOf 74 = .ok (.iload_n 2, 1) := by decide +kernel
theorem dX0_waysOf_75 : decode cX0_waysOf 75 = .ok (.iload 4, 2) := by decide +kernel
theorem dX0_waysOf_77 : decode cX0_waysOf 77 = .ok (.invokestatic 72, 3) := by decide +kernel
theorem dX0_waysOf_80 : decode cX0_waysOf 80 = .ok (.ifCond .eq 7, 3) := by decide +kernel
theorem dX0_waysOf_83 : decode cX0_waysOf 83 = .ok (.iconst 2, 1) := by decide +kernel
theorem dX0_waysOf_84 : decode cX0_waysOf 84 = .ok (.goto 4, 3) := by decide +kernel
theorem dX0_waysOf_87 : decode cX0_waysOf 87 = .ok (.iconst 1, 1) := by decide +kernel
theorem dX0_waysOf_88 : decode cX0_waysOf 88 = .ok (.ireturn, 1) := by decide +kernel
theorem dX0_waysOf_89 : decode cX0_waysOf 89 = .ok (.iload_n 2, 1) := by decide +kernel
theorem dX0_waysOf_90 : decode cX0_waysOf 90 = .ok (.iload_n 3, 1) := by decide +kernel
theorem dX0_waysOf_91 : decode cX0_waysOf 91 = .ok (.invokestatic 72, 3) := by decide +kernel
theorem dX0_waysOf_94 : decode cX0_waysOf 94 = .ok (.ifCond .ne 12, 3) := by decide +kernel
theorem dX0_waysOf_97 : decode cX0_waysOf 97 = .ok (.iload_n 2, 1) := by decide +kernel
theorem dX0_waysOf_98 : decode cX0_waysOf 98 = .ok (.iload 4, 2) := by decide +kernel
theorem dX0_waysOf_100 : decode cX0_waysOf 100 = .ok (.invokestatic 72, 3) := by decide +kernel
theorem dX0_waysOf_103 : decode cX0_waysOf 103 = .ok (.ifCond .eq 7, 3) := by decide +kernel
theorem dX0_waysOf_106 : decode cX0_waysOf 106 = .ok (.iconst 2, 1) := by decide +kernel
theorem dX0_waysOf_107 : decode cX0_waysOf 107 = .ok (.goto 4, 3) := by decide +kernel
theorem dX0_waysOf_110 : decode cX0_waysOf 110 = .ok (.iconst 1, 1) := by decide +kernel
theorem dX0_waysOf_111 : decode cX0_waysOf 111 = .ok (.ireturn, 1) := by decide +kernel
theorem dX0_waysOf_112 : decode cX0_waysOf 112 = .ok (.iload_n 2, 1) := by decide +kernel
theorem dX0_waysOf_113 : decode cX0_waysOf 113 = .ok (.iload 4, 2) := by decide +kernel
theorem dX0_waysOf_115 : decode cX0_waysOf 115 = .ok (.invokestatic 72, 3) := by decide +kernel
theorem dX0_waysOf_118 : decode cX0_waysOf 118 = .ok (.ifCond .eq 7, 3) := by decide +kernel
theorem dX0_waysOf_121 : decode cX0_waysOf 121 = .ok (.iconst 2, 1) := by decide +kernel
theorem dX0_waysOf_122 : decode cX0_waysOf 122 = .ok (.goto 16, 3) := by decide +kernel
theorem dX0_waysOf_125 : decode cX0_waysOf 125 = .ok (.iload_n 2, 1) := by decide +kernel
theorem dX0_waysOf_126 : decode cX0_waysOf 126 = .ok (.iload_n 3, 1) := by decide +kernel
theorem dX0_waysOf_127 : decode cX0_waysOf 127 = .ok (.invokestatic 72, 3) := by decide +kernel
theorem dX0_waysOf_130 : decode cX0_waysOf 130 = .ok (.ifCond .eq 7, 3) := by decide +kernel
theorem dX0_waysOf_133 : decode cX0_waysOf 133 = .ok (.iconst 1, 1) := by decide +kernel
theorem dX0_waysOf_134 : decode cX0_waysOf 134 = .ok (.goto 4, 3) := by decide +kernel
theorem dX0_waysOf_137 : decode cX0_waysOf 137 = .ok (.iconst 3, 1) := by decide +kernel
theorem dX0_waysOf_138 : decode cX0_waysOf 138 = .ok (.ireturn, 1) := by decide +kernel
theorem dX0_waysOf_139 : decode cX0_waysOf 139 = .ok (.iconst 1, 1) := by decide +kernel
theorem dX0_waysOf_140 : decode cX0_waysOf 140 = .ok (.ireturn, 1) := by decide +kernel
theorem dX0_sift_0 : decode cX0_sift 0 = .ok (.aload_n 0, 1) := by decide +kernel
theorem dX0_sift_1 : decode cX0_sift 1 = .ok (.invokevirtual 76, 3) := by decide +kernel
theorem dX0_sift_4 : decode cX0_sift 4 = .ok (.istore_n 1, 1) := by decide +kernel
theorem dX0_sift_5 : decode cX0_sift 5 = .ok (.aload_n 0, 1) := by decide +kernel
theorem dX0_sift_6 : decode cX0_sift 6 = .ok (.aload_n 0, 1) := by decide +kernel
theorem dX0_sift_7 : decode cX0_sift 7 = .ok (.getfield 32, 3) := by decide +kernel
theorem dX0_sift_10 : decode cX0_sift 10 = .ok (.putfield 28, 3) := by decide +kernel
theorem dX0_sift_13 : decode cX0_sift 13 = .ok (.aload_n 0, 1) := by decide +kernel
theorem dX0_sift_14 : decode cX0_sift 14 = .ok (.getfield 32, 3) := by decide +kernel
theorem dX0_sift_17 : decode cX0_sift 17 = .ok (.iconst 1, 1) := by decide +kernel
theorem dX0_sift_18 : decode cX0_sift 18 = .ok (.isub, 1) := by decide +kernel
theorem dX0_sift_19 : decode cX0_sift 19 = .ok (.istore_n 2, 1) := by decide +kernel
theorem dX0_sift_20 : decode cX0_sift 20 = .ok (.iload_n 2, 1) := by decide +kernel
theorem dX0_sift_21 : decode cX0_sift 21 = .ok (.ifCond .lt 29, 3) := by decide +kernel
theorem dX0_sift_24 : decode cX0_sift 24 = .ok (.aload_n 0, 1) := by decide +kernel
theorem dX0_sift_25 : decode cX0_sift 25 = .ok (.aload_n 0, 1) := by decide +kernel
theorem dX0_sift_26 : decode cX0_sift 26 = .ok (.getfield 18, 3) := by decide +kernel
theorem dX0_sift_29 : decode cX0_sift 29 = .ok (.iload_n 2, 1) := by decide +kernel
theorem dX0_sift_30 : decode cX0_sift 30 = .ok (.iaload, 1) := by decide +kernel
theorem dX0_sift_31 : decode cX0_sift 31 = .ok (.iload_n 1, 1) := by decide +kernel
theorem dX0_sift_32 : decode cX0_sift 32 = .ok (.aload_n 0, 1) := by decide +kernel
theorem dX0_sift_33 : decode cX0_sift 33 = .ok (.getfield 18, 3) := by decide +kernel
theorem dX0_sift_36 : decode cX0_sift 36 = .ok (.iload_n 2, 1) := by decide +kernel
theorem dX0_sift_37 : decode cX0_sift 37 = .ok (.iaload, 1) := by decide +kernel
theorem dX0_sift_38 : decode cX0_sift 38 = .ok (.iconst (-1), 1) := by decide +kernel
theorem dX0_sift_39 : decode cX0_sift 39 = .ok (.ixor, 1) := by decide +kernel
theorem dX0_sift_40 : decode cX0_sift 40 = .ok (.iand, 1) := by decide +kernel
theorem dX0_sift_41 : decode cX0_sift 41 = .ok (.invokevirtual 80, 3) := by decide +kernel
theorem dX0_sift_44 : decode cX0_sift 44 = .ok (.iinc 2 (-1), 3) := by decide +kernel
theorem dX0_sift_47 : decode cX0_sift 47 = .ok (.goto (-27), 3) := by decide +kernel
theorem dX0_sift_50 : decode cX0_sift 50 = .ok (.return_, 1) := by decide +kernel
theorem dX0_implications_0 : decode cX0_implications 0 = .ok (.iconst 0, 1) := by decide +kernel
theorem dX0_implications_1 : decode cX0_implications 1 = .ok (.istore_n 1, 1) := by decide +kernel
theorem dX0_implications_2 : decode cX0_implications 2 = .ok (.iconst 0, 1) := by decide +kernel
theorem dX0_implications_3 : decode cX0_implications 3 = .ok (.istore_n 2, 1) := by decide +kernel
theorem dX0_implications_4 : decode cX0_implications 4 = .ok (.iload_n 2, 1) := by decide +kernel
theorem dX0_implications_5 : decode cX0_implications 5 = .ok (.aload_n 0, 1) := by decide +kernel
theorem dX0_implications_6 : decode cX0_implications 6 = .ok (.getfield 12, 3) := by decide +kernel
theorem dX0_implications_9 : decode cX0_implications 9 = .ok (.getfield 43, 3) := by decide +kernel
theorem dX0_implications_12 : decode cX0_implications 12 = .ok (.if_icmp .ge 28, 3) := by decide +kernel
theorem dX0_implications_15 : decode cX0_implications 15 = .ok (.aload_n 0, 1) := by decide +kernel
theorem dX0_implications_16 : decode cX0_implications 16 = .ok (.getfield 12, 3) := by decide +kernel
theorem dX0_implications_19 : decode cX0_implications 19 = .ok (.getfield 69, 3) := by decide +kernel
theorem dX0_implications_22 : decode cX0_implications 22 = .ok (.iload_n 2, 1) := by decide +kernel
theorem dX0_implications_23 : decode cX0_implications 23 = .ok (.iaload, 1) := by decide +kernel
theorem dX0_implications_24 : decode cX0_implications 24 = .ok (.iconst 4, 1) := by decide +kernel
theorem dX0_implications_25 : decode cX0_implications 25 = .ok (.if_icmp .ne 9, 3) := by decide +kernel
theorem dX0_implications_28 : decode cX0_implications 28 = .ok (.iload_n 1, 1) := by decide +kernel
theorem dX0_implications_29 : decode cX0_implications 29 = .ok (.iconst 1, 1) := by decide +kernel
theorem dX0_implications_30 : decode cX0_implications 30 = .ok (.iload_n 2, 1) := by decide +kernel
theorem dX0_implications_31 : decode cX0_implications 31 = .ok (.ishl, 1) := by decide +kernel
theorem dX0_implications_32 : decode cX0_implications 32 = .ok (.ior, 1) := by decide +kernel
theorem dX0_implications_33 : decode cX0_implications 33 = .ok (.istore_n 1, 1) := by decide +kernel
theorem dX0_implications_34 : decode cX0_implications 34 = .ok (.iinc 2 1, 3) := by decide +kernel
theorem dX0_implications_37 : decode cX0_implications 37 = .ok (.goto (-33), 3) := by decide +kernel
theorem dX0_implications_40 : decode cX0_implications 40 = .ok (.iload_n 1, 1) := by decide +kernel
theorem dX0_implications_41 : decode cX0_implications 41 = .ok (.ireturn, 1) := by decide +kernel
theorem dX0_consider_0 : decode cX0_consider 0 = .ok (.aload_n 0, 1) := by decide +kernel
theorem dX0_consider_1 : decode cX0_consider 1 = .ok (.iload_n 1, 1) := by decide +kernel
theorem dX0_consider_2 : decode cX0_consider 2 = .ok (.iload_n 2, 1) := by decide +kernel
theorem dX0_consider_3 : decode cX0_consider 3 = .ok (.invokevirtual 84, 3) := by decide +kernel
theorem dX0_consider_6 : decode cX0_consider 6 = .ok (.istore_n 3, 1) := by decide +kernel
theorem dX0_consider_7 : decode cX0_consider 7 = .ok (.iload_n 2, 1) := by decide +kernel
theorem dX0_consider_8 : decode cX0_consider 8 = .ok (.iload_n 3, 1) := by decide +kernel
theorem dX0_consider_9 : decode cX0_consider 9 = .ok (.iconst (-1), 1) := by decide +kernel
theorem dX0_consider_10 : decode cX0_consider 10 = .ok (.ixor, 1) := by decide +kernel
theorem dX0_consider_11 : decode cX0_consider 11 = .ok (.iand, 1) := by decide +kernel
theorem dX0_consider_12 : decode cX0_consider 12 = .ok (.istore 4, 2) := by decide +kernel
theorem dX0_consider_14 : decode cX0_consider 14 = .ok (.iconst 0, 1) := by decide +kernel
theorem dX0_consider_15 : decode cX0_consider 15 = .ok (.istore 5, 2) := by decide +kernel
theorem dX0_consider_17 : decode cX0_consider 17 = .ok (.aload_n 0, 1) := by decide +kernel
theorem dX0_consider_18 : decode cX0_consider 18 = .ok (.getfield 28, 3) := by decide +kernel
theorem dX0_consider_21 : decode cX0_consider 21 = .ok (.istore 6, 2) := by decide +kernel
theorem dX0_consider_23 : decode cX0_consider 23 = .ok (.iload 6, 2) := by decide +kernel
theorem dX0_consider_25 : decode cX0_consider 25 = .ok (.aload_n 0, 1) := by decide +kernel
theorem dX0_consider_26 : decode cX0_consider 26 = .ok (.getfield 32, 3) := by decide +kernel
theorem dX0_consider_29 : decode cX0_consider 29 = .ok (.if_icmp .ge 52, 3) := by decide +kernel
theorem dX0_consider_32 : decode cX0_consider 32 = .ok (.aload_n 0, 1) := by decide +kernel
theorem dX0_consider_33 : decode cX0_consider 33 = .ok (.getfield 18, 3) := by decide +kernel
theorem dX0_consider_36 : decode cX0_consider 36 = .ok (.iload 6, 2) := by decide +kernel
theorem dX0_consider_38 : decode cX0_consider 38 = .ok (.iaload, 1) := by decide +kernel
theorem dX0_consider_39 : decode cX0_consider 39 = .ok (.iload_n 1, 1) := by decide +kernel
theorem dX0_consider_40 : decode cX0_consider 40 = .ok (.iand, 1) := by decide +kernel
theorem dX0_consider_41 : decode cX0_consider 41 = .ok (.iload_n 1, 1) := by decide +kernel
theorem dX0_consider_42 : decode cX0_consider 42 = .ok (.if_icmp .ne 33, 3) := by decide +kernel
theorem dX0_consider_45 : decode cX0_consider 45 = .ok (.iload 4, 2) := by decide +kernel
theorem dX0_consider_47 : decode cX0_consider 47 = .ok (.aload_n 0, 1) := by decide +kernel
theorem dX0_consider_48 : decode cX0_consider 48 = .ok (.getfield 22, 3) := by decide +kernel
theorem dX0_consider_51 : decode cX0_consider 51 = .ok (.iload 6, 2) := by decide +kernel
theorem dX0_consider_53 : decode cX0_consider 53 = .ok (.iaload, 1) := by decide +kernel
theorem dX0_consider_54 : decode cX0_consider 54 = .ok (.iconst (-1), 1) := by decide +kernel
theorem dX0_consider_55 : decode cX0_consider 55 = .ok (.ixor, 1) := by decide +kernel
theorem dX0_consider_56 : decode cX0_consider 56 = .ok (.iand, 1) := by decide +kernel
theorem dX0_consider_57 : decode cX0_consider 57 = .ok (.istore 4, 2) := by decide +kernel
theorem dX0_consider_59 : decode cX0_consider 59 = .ok (.iload 5, 2) := by decide +kernel
theorem dX0_consider_61 : decode cX0_consider 61 = .ok (.aload_n 0, 1) := by decide +kernel
theorem dX0_consider_62 : decode cX0_consider 62 = .ok (.getfield 25, 3) := by decide +kernel
theorem dX0_consider_65 : decode cX0_consider 65 = .ok (.iload 6, 2) := by decide +kernel
theorem dX0_consider_67 : decode cX0_consider 67 = .ok (.iaload, 1) := by decide +kernel
theorem dX0_consider_68 : decode cX0_consider 68 = .ok (.iconst 1, 1) := by decide +kernel
theorem dX0_consider_69 : decode cX0_consider 69 = .ok (.iadd, 1) := by decide +kernel
theorem dX0_consider_70 : decode cX0_consider 70 = .ok (.invokestatic 87, 3) := by decide +kernel
theorem dX0_consider_73 : decode cX0_consider 73 = .ok (.istore 5, 2) := by decide +kernel
theorem dX0_consider_75 : decode cX0_consider 75 = .ok (.iinc 6 1, 3) := by decide +kernel
theorem dX0_consider_78 : decode cX0_consider 78 = .ok (.goto (-55), 3) := by decide +kernel
theorem dX0_consider_81 : decode cX0_consider 81 = .ok (.iload 4, 2) := by decide +kernel
theorem dX0_consider_83 : decode cX0_consider 83 = .ok (.ifCond .ne 51, 3) := by decide +kernel
theorem dX0_consider_86 : decode cX0_consider 86 = .ok (.aload_n 0, 1) := by decide +kernel
theorem dX0_consider_87 : decode cX0_consider 87 = .ok (.getfield 28, 3) := by decide +kernel
theorem dX0_consider_90 : decode cX0_consider 90 = .ok (.ifCond .le 44, 3) := by decide +kernel
theorem dX0_consider_93 : decode cX0_consider 93 = .ok (.aload_n 0, 1) := by decide +kernel
theorem dX0_consider_94 : decode cX0_consider 94 = .ok (.dup, 1) := by decide +kernel
theorem dX0_consider_95 : decode cX0_consider 95 = .ok (.getfield 28, 3) := by decide +kernel
theorem dX0_consider_98 : decode cX0_consider 98 = .ok (.iconst 1, 1) := by decide +kernel
theorem dX0_consider_99 : decode cX0_consider 99 = .ok (.isub, 1) := by decide +kernel
theorem dX0_consider_100 : decode cX0_consider 100 = .ok (.putfield 28, 3) := by decide +kernel
theorem dX0_consider_103 : decode cX0_consider 103 = .ok (.aload_n 0, 1) := by decide +kernel
theorem dX0_consider_104 : decode cX0_consider 104 = .ok (.getfield 18, 3) := by decide +kernel
theorem dX0_consider_107 : decode cX0_consider 107 = .ok (.aload_n 0, 1) := by decide +kernel
theorem dX0_consider_108 : decode cX0_consider 108 = .ok (.getfield 28, 3) := by decide +kernel
theorem dX0_consider_111 : decode cX0_consider 111 = .ok (.iload_n 1, 1) := by decide +kernel
theorem dX0_consider_112 : decode cX0_consider 112 = .ok (.iastore, 1) := by decide +kernel
theorem dX0_consider_113 : decode cX0_consider 113 = .ok (.aload_n 0, 1) := by decide +kernel
theorem dX0_consider_114 : decode cX0_consider 114 = .ok (.getfield 22, 3) := by decide +kernel
theorem dX0_consider_117 : decode cX0_consider 117 = .ok (.aload_n 0, 1) := by decide +kernel
theorem dX0_consider_118 : decode cX0_consider 118 = .ok (.getfield 28, 3) := by decide +kernel
theorem dX0_consider_121 : decode cX0_consider 121 = .ok (.iload_n 3, 1) := by decide +kernel
theorem dX0_consider_122 : decode cX0_consider 122 = .ok (.iastore, 1) := by decide +kernel
theorem dX0_consider_123 : decode cX0_consider 123 = .ok (.aload_n 0, 1) := by decide +kernel
theorem dX0_consider_124 : decode cX0_consider 124 = .ok (.getfield 25, 3) := by decide +kernel
theorem dX0_consider_127 : decode cX0_consider 127 = .ok (.aload_n 0, 1) := by decide +kernel
theorem dX0_consider_128 : decode cX0_consider 128 = .ok (.getfield 28, 3) := by decide +kernel
theorem dX0_consider_131 : decode cX0_consider 131 = .ok (.iload 5, 2) := by decide +kernel
theorem dX0_consider_133 : decode cX0_consider 133 = .ok (.iastore, 1) := by decide +kernel
theorem dX0_consider_134 : decode cX0_consider 134 = .ok (.return_, 1) := by decide +kernel
theorem dX0_deniedBy_0 : decode cX0_deniedBy 0 = .ok (.iconst 0, 1) := by decide +kernel
theorem dX0_deniedBy_1 : decode cX0_deniedBy 1 = .ok (.istore_n 3, 1) := by decide +kernel
theorem dX0_deniedBy_2 : decode cX0_deniedBy 2 = .ok (.iconst 0, 1) := by decide +kernel
theorem dX0_deniedBy_3 : decode cX0_deniedBy 3 = .ok (.istore 4, 2) := by decide +kernel
theorem dX0_deniedBy_5 : decode cX0_deniedBy 5 = .ok (.iload 4, 2) := by decide +kernel
theorem dX0_deniedBy_7 : decode cX0_deniedBy 7 = .ok (.aload_n 0, 1) := by decide +kernel
theorem dX0_deniedBy_8 : decode cX0_deniedBy 8 = .ok (.getfield 12, 3) := by decide +kernel
theorem dX0_deniedBy_11 : decode cX0_deniedBy 11 = .ok (.getfield 43, 3) := by decide +kernel
theorem dX0_deniedBy_14 : decode cX0_deniedBy 14 = .ok (.if_icmp .ge 38, 3) := by decide +kernel
theorem dX0_deniedBy_17 : decode cX0_deniedBy 17 = .ok (.iload_n 2, 1) := by decide +kernel
theorem dX0_deniedBy_18 : decode cX0_deniedBy 18 = .ok (.iload 4, 2) := by decide +kernel
theorem dX0_deniedBy_20 : decode cX0_deniedBy 20 = .ok (.iushr, 1) := by decide +kernel
theorem dX0_deniedBy_21 : decode cX0_deniedBy 21 = .ok (.iload_n 1, 1) := by decide +kernel
theorem dX0_deniedBy_22 : decode cX0_deniedBy 22 = .ok (.aload_n 0, 1) := by decide +kernel
theorem dX0_deniedBy_23 : decode cX0_deniedBy 23 = .ok (.getfield 12, 3) := by decide +kernel
theorem dX0_deniedBy_26 : decode cX0_deniedBy 26 = .ok (.getfield 63, 3) := by decide +kernel
theorem dX0_deniedBy_29 : decode cX0_deniedBy 29 = .ok (.iload 4, 2) := by decide +kernel
theorem dX0_deniedBy_31 : decode cX0_deniedBy 31 = .ok (.iaload, 1) := by decide +kernel
theorem dX0_deniedBy_32 : decode cX0_deniedBy 32 = .ok (.iushr, 1) := by decide +kernel
theorem dX0_deniedBy_33 : decode cX0_deniedBy 33 = .ok (.iand, 1) := by decide +kernel
theorem dX0_deniedBy_34 : decode cX0_deniedBy 34 = .ok (.iconst 1, 1) := by decide +kernel
theorem dX0_deniedBy_35 : decode cX0_deniedBy 35 = .ok (.iand, 1) := by decide +kernel
theorem dX0_deniedBy_36 : decode cX0_deniedBy 36 = .ok (.ifCond .eq 10, 3) := by decide +kernel
theorem dX0_deniedBy_39 : decode cX0_deniedBy 39 = .ok (.iload_n 3, 1) := by decide +kernel
theorem dX0_deniedBy_40 : decode cX0_deniedBy 40 = .ok (.iconst 1, 1) := by decide +kernel
theorem dX0_deniedBy_41 : decode cX0_deniedBy 41 = .ok (.iload 4, 2) := by decide +kernel
theorem dX0_deniedBy_43 : decode cX0_deniedBy 43 = .ok (.ishl, 1) := by decide +kernel
theorem dX0_deniedBy_44 : decode cX0_deniedBy 44 = .ok (.ior, 1) := by decide +kernel
theorem dX0_deniedBy_45 : decode cX0_deniedBy 45 = .ok (.istore_n 3, 1) := by decide +kernel
theorem dX0_deniedBy_46 : decode cX0_deniedBy 46 = .ok (.iinc 4 1, 3) := by decide +kernel
theorem dX0_deniedBy_49 : decode cX0_deniedBy 49 = .ok (.goto (-44), 3) := by decide +kernel
theorem dX0_deniedBy_52 : decode cX0_deniedBy 52 = .ok (.iload_n 3, 1) := by decide +kernel
theorem dX0_deniedBy_53 : decode cX0_deniedBy 53 = .ok (.ireturn, 1) := by decide +kernel
theorem dX0_forces_0 : decode cX0_forces 0 = .ok (.aload_n 0, 1) := by decide +kernel
theorem dX0_forces_1 : decode cX0_forces 1 = .ok (.getfield 28, 3) := by decide +kernel
theorem dX0_forces_4 : decode cX0_forces 4 = .ok (.istore_n 3, 1) := by decide +kernel
theorem dX0_forces_5 : decode cX0_forces 5 = .ok (.iload_n 3, 1) := by decide +kernel
theorem dX0_forces_6 : decode cX0_forces 6 = .ok (.aload_n 0, 1) := by decide +kernel
theorem dX0_forces_7 : decode cX0_forces 7 = .ok (.getfield 32, 3) := by decide +kernel
theorem dX0_forces_10 : decode cX0_forces 10 = .ok (.if_icmp .ge 36, 3) := by decide +kernel
theorem dX0_forces_13 : decode cX0_forces 13 = .ok (.aload_n 0, 1) := by decide +kernel
theorem dX0_forces_14 : decode cX0_forces 14 = .ok (.getfield 18, 3) := by decide +kernel
theorem dX0_forces_17 : decode cX0_forces 17 = .ok (.iload_n 3, 1) := by decide +kernel
theorem dX0_forces_18 : decode cX0_forces 18 = .ok (.iaload, 1) := by decide +kernel
theorem dX0_forces_19 : decode cX0_forces 19 = .ok (.iload_n 1, 1) := by decide +kernel
theorem dX0_forces_20 : decode cX0_forces 20 = .ok (.iand, 1) := by decide +kernel
theorem dX0_forces_21 : decode cX0_forces 21 = .ok (.iload_n 1, 1) := by decide +kernel
theorem dX0_forces_22 : decode cX0_forces 22 = .ok (.if_icmp .ne 18, 3) := by decide +kernel
theorem dX0_forces_25 : decode cX0_forces 25 = .ok (.aload_n 0, 1) := by decide +kernel
theorem dX0_forces_26 : decode cX0_forces 26 = .ok (.getfield 18, 3) := by decide +kernel
theorem dX0_forces_29 : decode cX0_forces 29 = .ok (.iload_n 3, 1) := by decide +kernel
theorem dX0_forces_30 : decode cX0_forces 30 = .ok (.iaload, 1) := by decide +kernel
theorem dX0_forces_31 : decode cX0_forces 31 = .ok (.iload_n 2, 1) := by decide +kernel
theorem dX0_forces_32 : decode cX0_forces 32 = .ok (.invokestatic 72, 3) := by decide +kernel
theorem dX0_forces_35 : decode cX0_forces 35 = .ok (.ifCond .ne 5, 3) := by decide +kernel
theorem dX0_forces_38 : decode cX0_forces 38 = .ok (.iconst 0, 1) := by decide +kernel
theorem dX0_forces_39 : decode cX0_forces 39 = .ok (.ireturn, 1) := by decide +kernel
theorem dX0_forces_40 : decode cX0_forces 40 = .ok (.iinc 3 1, 3) := by decide +kernel
theorem dX0_forces_43 : decode cX0_forces 43 = .ok (.goto (-38), 3) := by decide +kernel
theorem dX0_forces_46 : decode cX0_forces 46 = .ok (.iconst 1, 1) := by decide +kernel
theorem dX0_forces_47 : decode cX0_forces 47 = .ok (.ireturn, 1) := by decide +kernel
theorem dX0_size_0 : decode cX0_size 0 = .ok (.aload_n 0, 1) := by decide +kernel
theorem dX0_size_1 : decode cX0_size 1 = .ok (.getfield 32, 3) := by decide +kernel
theorem dX0_size_4 : decode cX0_size 4 = .ok (.aload_n 0, 1) := by decide +kernel
theorem dX0_size_5 : decode cX0_size 5 = .ok (.getfield 28, 3) := by decide +kernel
theorem dX0_size_8 : decode cX0_size 8 = .ok (.isub, 1) := by decide +kernel
theorem dX0_size_9 : decode cX0_size 9 = .ok (.ireturn, 1) := by decide +kernel
theorem dX0_setAt_0 : decode cX0_setAt 0 = .ok (.aload_n 0, 1) := by decide +kernel
theorem dX0_setAt_1 : decode cX0_setAt 1 = .ok (.getfield 18, 3) := by decide +kernel
theorem dX0_setAt_4 : decode cX0_setAt 4 = .ok (.aload_n 0, 1) := by decide +kernel
theorem dX0_setAt_5 : decode cX0_setAt 5 = .ok (.getfield 28, 3) := by decide +kernel
theorem dX0_setAt_8 : decode cX0_setAt 8 = .ok (.iload_n 1, 1) := by decide +kernel
theorem dX0_setAt_9 : decode cX0_setAt 9 = .ok (.iadd, 1) := by decide +kernel
theorem dX0_setAt_10 : decode cX0_setAt 10 = .ok (.iaload, 1) := by decide +kernel
theorem dX0_setAt_11 : decode cX0_setAt 11 = .ok (.ireturn, 1) := by decide +kernel
theorem dX0_heightAt_0 : decode cX0_heightAt 0 = .ok (.aload_n 0, 1) := by decide +kernel
theorem dX0_heightAt_1 : decode cX0_heightAt 1 = .ok (.getfield 25, 3) := by decide +kernel
theorem dX0_heightAt_4 : decode cX0_heightAt 4 = .ok (.aload_n 0, 1) := by decide +kernel
theorem dX0_heightAt_5 : decode cX0_heightAt 5 = .ok (.getfield 28, 3) := by decide +kernel
theorem dX0_heightAt_8 : decode cX0_heightAt 8 = .ok (.iload_n 1, 1) := by decide +kernel
theorem dX0_heightAt_9 : decode cX0_heightAt 9 = .ok (.iadd, 1) := by decide +kernel
theorem dX0_heightAt_10 : decode cX0_heightAt 10 = .ok (.iaload, 1) := by decide +kernel
theorem dX0_heightAt_11 : decode cX0_heightAt 11 = .ok (.ireturn, 1) := by decide +kernel
theorem dX0_above_0 : decode cX0_above 0 = .ok (.aload_n 0, 1) := by decide +kernel
theorem dX0_above_1 : decode cX0_above 1 = .ok (.iload_n 1, 1) := by decide +kernel
theorem dX0_above_2 : decode cX0_above 2 = .ok (.invokevirtual 92, 3) := by decide +kernel
theorem dX0_above_5 : decode cX0_above 5 = .ok (.istore_n 2, 1) := by decide +kernel
theorem dX0_above_6 : decode cX0_above 6 = .ok (.iconst 0, 1) := by decide +kernel
theorem dX0_above_7 : decode cX0_above 7 = .ok (.istore_n 3, 1) := by decide +kernel
theorem dX0_above_8 : decode cX0_above 8 = .ok (.aload_n 0, 1) := by decide +kernel
theorem dX0_above_9 : decode cX0_above 9 = .ok (.getfield 28, 3) := by decide +kernel
theorem dX0_above_12 : decode cX0_above 12 = .ok (.iload_n 1, 1) := by decide +kernel
theorem dX0_above_13 : decode cX0_above 13 = .ok (.iadd, 1) := by decide +kernel
theorem dX0_above_14 : decode cX0_above 14 = .ok (.iconst 1, 1) := by decide +kernel
theorem dX0_above_15 : decode cX0_above 15 = .ok (.iadd, 1) := by decide +kernel
theorem dX0_above_16 : decode cX0_above 16 = .ok (.istore 4, 2) := by decide +kernel
theorem dX0_above_18 : decode cX0_above 18 = .ok (.iload 4, 2) := by decide +kernel
theorem dX0_above_20 : decode cX0_above 20 = .ok (.aload_n 0, 1) := by decide +kernel
theorem dX0_above_21 : decode cX0_above 21 = .ok (.getfield 32, 3) := by decide +kernel
theorem dX0_above_24 : decode cX0_above 24 = .ok (.if_icmp .ge 25, 3) := by decide +kernel
theorem dX0_above_27 : decode cX0_above 27 = .ok (.aload_n 0, 1) := by decide +kernel
theorem dX0_above_28 : decode cX0_above 28 = .ok (.getfield 18, 3) := by decide +kernel
theorem dX0_above_31 : decode cX0_above 31 = .ok (.iload 4, 2) := by decide +kernel
theorem dX0_above_33 : decode cX0_above 33 = .ok (.iaload, 1) := by decide +kernel
theorem dX0_above_34 : decode cX0_above 34 = .ok (.iload_n 2, 1) := by decide +kernel
theorem dX0_above_35 : decode cX0_above 35 = .ok (.iand, 1) := by decide +kernel
theorem dX0_above_36 : decode cX0_above 36 = .ok (.iload_n 2, 1) := by decide +kernel
theorem dX0_above_37 : decode cX0_above 37 = .ok (.if_icmp .ne 6, 3) := by decide +kernel
theorem dX0_above_40 : decode cX0_above 40 = .ok (.iinc 3 1, 3) := by decide +kernel
theorem dX0_above_43 : decode cX0_above 43 = .ok (.iinc 4 1, 3) := by decide +kernel
theorem dX0_above_46 : decode cX0_above 46 = .ok (.goto (-28), 3) := by decide +kernel
theorem dX0_above_49 : decode cX0_above 49 = .ok (.iload_n 3, 1) := by decide +kernel
theorem dX0_above_50 : decode cX0_above 50 = .ok (.ireturn, 1) := by decide +kernel
theorem dX0_refuting_0 : decode cX0_refuting 0 = .ok (.iconst 0, 1) := by decide +kernel
theorem dX0_refuting_1 : decode cX0_refuting 1 = .ok (.istore_n 1, 1) := by decide +kernel
theorem dX0_refuting_2 : decode cX0_refuting 2 = .ok (.aload_n 0, 1) := by decide +kernel
theorem dX0_refuting_3 : decode cX0_refuting 3 = .ok (.getfield 28, 3) := by decide +kernel
theorem dX0_refuting_6 : decode cX0_refuting 6 = .ok (.istore_n 2, 1) := by decide +kernel
theorem dX0_refuting_7 : decode cX0_refuting 7 = .ok (.iload_n 2, 1) := by decide +kernel
theorem dX0_refuting_8 : decode cX0_refuting 8 = .ok (.aload_n 0, 1) := by decide +kernel
theorem dX0_refuting_9 : decode cX0_refuting 9 = .ok (.getfield 32, 3) := by decide +kernel
theorem dX0_refuting_12 : decode cX0_refuting 12 = .ok (.if_icmp .ge 31, 3) := by decide +kernel
theorem dX0_refuting_15 : decode cX0_refuting 15 = .ok (.aload_n 0, 1) := by decide +kernel
theorem dX0_refuting_16 : decode cX0_refuting 16 = .ok (.getfield 18, 3) := by decide +kernel
theorem dX0_refuting_19 : decode cX0_refuting 19 = .ok (.iload_n 2, 1) := by decide +kernel
theorem dX0_refuting_20 : decode cX0_refuting 20 = .ok (.iaload, 1) := by decide +kernel
theorem dX0_refuting_21 : decode cX0_refuting 21 = .ok (.aload_n 0, 1) := by decide +kernel
theorem dX0_refuting_22 : decode cX0_refuting 22 = .ok (.getfield 12, 3) := by decide +kernel
theorem dX0_refuting_25 : decode cX0_refuting 25 = .ok (.invokevirtual 96, 3) := by decide +kernel
theorem dX0_refuting_28 : decode cX0_refuting 28 = .ok (.invokestatic 72, 3) := by decide +kernel
theorem dX0_refuting_31 : decode cX0_refuting 31 = .ok (.ifCond .ne 6, 3) := by decide +kernel
theorem dX0_refuting_34 : decode cX0_refuting 34 = .ok (.iinc 1 1, 3) := by decide +kernel
theorem dX0_refuting_37 : decode cX0_refuting 37 = .ok (.iinc 2 1, 3) := by decide +kernel
theorem dX0_refuting_40 : decode cX0_refuting 40 = .ok (.goto (-33), 3) := by decide +kernel
theorem dX0_refuting_43 : decode cX0_refuting 43 = .ok (.iload_n 1, 1) := by decide +kernel
theorem dX0_refuting_44 : decode cX0_refuting 44 = .ok (.ireturn, 1) := by decide +kernel
theorem dX0_leastRefuting_0 : decode cX0_leastRefuting 0 = .ok (.aload_n 0, 1) := by decide +kernel
theorem dX0_leastRefuting_1 : decode cX0_leastRefuting 1 = .ok (.getfield 28, 3) := by decide +kernel
theorem dX0_leastRefuting_4 : decode cX0_leastRefuting 4 = .ok (.aload_n 0, 1) := by decide +kernel
theorem dX0_leastRefuting_5 : decode cX0_leastRefuting 5 = .ok (.getfield 32, 3) := by decide +kernel
theorem dX0_leastRefuting_8 : decode cX0_leastRefuting 8 = .ok (.if_icmp .ge 37, 3) := by decide +kernel
theorem dX0_leastRefuting_11 : decode cX0_leastRefuting 11 = .ok (.aload_n 0, 1) := by decide +kernel
theorem dX0_leastRefuting_12 : decode cX0_leastRefuting 12 = .ok (.getfield 18, 3) := by decide +kernel
theorem dX0_leastRefuting_15 : decode cX0_leastRefuting 15 = .ok (.aload_n 0, 1) := by decide +kernel
theorem dX0_leastRefuting_16 : decode cX0_leastRefuting 16 = .ok (.getfield 28, 3) := by decide +kernel
theorem dX0_leastRefuting_19 : decode cX0_leastRefuting 19 = .ok (.iaload, 1) := by decide +kernel
theorem dX0_leastRefuting_20 : decode cX0_leastRefuting 20 = .ok (.aload_n 0, 1) := by decide +kernel
theorem dX0_leastRefuting_21 : decode cX0_leastRefuting 21 = .ok (.getfield 12, 3) := by decide +kernel
theorem dX0_leastRefuting_24 : decode cX0_leastRefuting 24 = .ok (.invokevirtual 96, 3) := by decide +kernel
theorem dX0_leastRefuting_27 : decode cX0_leastRefuting 27 = .ok (.invokestatic 72, 3) := by decide +kernel
theorem dX0_leastRefuting_30 : decode cX0_leastRefuting 30 = .ok (.ifCond .ne 15, 3) := by decide +kernel
theorem dX0_leastRefuting_33 : decode cX0_leastRefuting 33 = .ok (.aload_n 0, 1) := by decide +kernel
theorem dX0_leastRefuting_34 : decode cX0_leastRefuting 34 = .ok (.getfield 18, 3) := by decide +kernel
theorem dX0_leastRefuting_37 : decode cX0_leastRefuting 37 = .ok (.aload_n 0, 1) := by decide +kernel
theorem dX0_leastRefuting_38 : decode cX0_leastRefuting 38 = .ok (.getfield 28, 3) := by decide +kernel
theorem dX0_leastRefuting_41 : decode cX0_leastRefuting 41 = .ok (.iaload, 1) := by decide +kernel
theorem dX0_leastRefuting_42 : decode cX0_leastRefuting 42 = .ok (.goto 5, 3) := by decide +kernel
theorem dX0_leastRefuting_45 : decode cX0_leastRefuting 45 = .ok (.bipush (-6), 2) := by decide +kernel
theorem dX0_leastRefuting_47 : decode cX0_leastRefuting 47 = .ok (.ireturn, 1) := by decide +kernel
theorem dX0_highest_0 : decode cX0_highest 0 = .ok (.iconst 0, 1) := by decide +kernel
theorem dX0_highest_1 : decode cX0_highest 1 = .ok (.istore_n 1, 1) := by decide +kernel
theorem dX0_highest_2 : decode cX0_highest 2 = .ok (.aload_n 0, 1) := by decide +kernel
theorem dX0_highest_3 : decode cX0_highest 3 = .ok (.getfield 28, 3) := by decide +kernel
theorem dX0_highest_6 : decode cX0_highest 6 = .ok (.istore_n 2, 1) := by decide +kernel
theorem dX0_highest_7 : decode cX0_highest 7 = .ok (.iload_n 2, 1) := by decide +kernel
theorem dX0_highest_8 : decode cX0_highest 8 = .ok (.aload_n 0, 1) := by decide +kernel
theorem dX0_highest_9 : decode cX0_highest 9 = .ok (.getfield 32, 3) := by decide +kernel
theorem dX0_highest_12 : decode cX0_highest 12 = .ok (.if_icmp .ge 21, 3) := by decide +kernel
theorem dX0_highest_15 : decode cX0_highest 15 = .ok (.aload_n 0, 1) := by decide +kernel
theorem dX0_highest_16 : decode cX0_highest 16 = .ok (.getfield 25, 3) := by decide +kernel
theorem dX0_highest_19 : decode cX0_highest 19 = .ok (.iload_n 2, 1) := by decide +kernel
theorem dX0_highest_20 : decode cX0_highest 20 = .ok (.iaload, 1) := by decide +kernel
theorem dX0_highest_21 : decode cX0_highest 21 = .ok (.ifCond .ne 6, 3) := by decide +kernel
theorem dX0_highest_24 : decode cX0_highest 24 = .ok (.iinc 1 1, 3) := by decide +kernel
theorem dX0_highest_27 : decode cX0_highest 27 = .ok (.iinc 2 1, 3) := by decide +kernel
theorem dX0_highest_30 : decode cX0_highest 30 = .ok (.goto (-23), 3) := by decide +kernel
theorem dX0_highest_33 : decode cX0_highest 33 = .ok (.iload_n 1, 1) := by decide +kernel
theorem dX0_highest_34 : decode cX0_highest 34 = .ok (.ireturn, 1) := by decide +kernel
theorem dX0_greatestHeight_0 : decode cX0_greatestHeight 0 = .ok (.iconst 0, 1) := by decide +kernel
theorem dX0_greatestHeight_1 : decode cX0_greatestHeight 1 = .ok (.istore_n 1, 1) := by decide +kernel
theorem dX0_greatestHeight_2 : decode cX0_greatestHeight 2 = .ok (.aload_n 0, 1) := by decide +kernel
theorem dX0_greatestHeight_3 : decode cX0_greatestHeight 3 = .ok (.getfield 28, 3) := by decide +kernel
theorem dX0_greatestHeight_6 : decode cX0_greatestHeight 6 = .ok (.istore_n 2, 1) := by decide +kernel
theorem dX0_greatestHeight_7 : decode cX0_greatestHeight 7 = .ok (.iload_n 2, 1) := by decide +kernel
theorem dX0_greatestHeight_8 : decode cX0_greatestHeight 8 = .ok (.aload_n 0, 1) := by decide +kernel
theorem dX0_greatestHeight_9 : decode cX0_greatestHeight 9 = .ok (.getfield 32, 3) := by decide +kernel
theorem dX0_greatestHeight_12 : decode cX0_greatestHeight 12 = .ok (.if_icmp .ge 20, 3) := by decide +kernel
theorem dX0_greatestHeight_15 : decode cX0_greatestHeight 15 = .ok (.iload_n 1, 1) := by decide +kernel
theorem dX0_greatestHeight_16 : decode cX0_greatestHeight 16 = .ok (.aload_n 0, 1) := by decide +kernel
theorem dX0_greatestHeight_17 : decode cX0_greatestHeight 17 = .ok (.getfield 25, 3) := by decide +kernel
theorem dX0_greatestHeight_20 : decode cX0_greatestHeight 20 = .ok (.iload_n 2, 1) := by decide +kernel
theorem dX0_greatestHeight_21 : decode cX0_greatestHeight 21 = .ok (.iaload, 1) := by decide +kernel
theorem dX0_greatestHeight_22 : decode cX0_greatestHeight 22 = .ok (.invokestatic 87, 3) := by decide +kernel
theorem dX0_greatestHeight_25 : decode cX0_greatestHeight 25 = .ok (.istore_n 1, 1) := by decide +kernel
theorem dX0_greatestHeight_26 : decode cX0_greatestHeight 26 = .ok (.iinc 2 1, 3) := by decide +kernel
theorem dX0_greatestHeight_29 : decode cX0_greatestHeight 29 = .ok (.goto (-22), 3) := by decide +kernel
theorem dX0_greatestHeight_32 : decode cX0_greatestHeight 32 = .ok (.iload_n 1, 1) := by decide +kernel
theorem dX0_greatestHeight_33 : decode cX0_greatestHeight 33 = .ok (.ireturn, 1) := by decide +kernel
theorem dX0_lowest_0 : decode cX0_lowest 0 = .ok (.iconst 0, 1) := by decide +kernel
theorem dX0_lowest_1 : decode cX0_lowest 1 = .ok (.istore_n 1, 1) := by decide +kernel
theorem dX0_lowest_2 : decode cX0_lowest 2 = .ok (.aload_n 0, 1) := by decide +kernel
theorem dX0_lowest_3 : decode cX0_lowest 3 = .ok (.getfield 28, 3) := by decide +kernel
theorem dX0_lowest_6 : decode cX0_lowest 6 = .ok (.istore_n 2, 1) := by decide +kernel
theorem dX0_lowest_7 : decode cX0_lowest 7 = .ok (.iload_n 2, 1) := by decide +kernel
theorem dX0_lowest_8 : decode cX0_lowest 8 = .ok (.aload_n 0, 1) := by decide +kernel
theorem dX0_lowest_9 : decode cX0_lowest 9 = .ok (.getfield 32, 3) := by decide +kernel
theorem dX0_lowest_12 : decode cX0_lowest 12 = .ok (.if_icmp .ge 20, 3) := by decide +kernel
theorem dX0_lowest_15 : decode cX0_lowest 15 = .ok (.aload_n 0, 1) := by decide +kernel
theorem dX0_lowest_16 : decode cX0_lowest 16 = .ok (.iload_n 2, 1) := by decide +kernel
theorem dX0_lowest_17 : decode cX0_lowest 17 = .ok (.invokevirtual 99, 3) := by decide +kernel
theorem dX0_lowest_20 : decode cX0_lowest 20 = .ok (.ifCond .ne 6, 3) := by decide +kernel
theorem dX0_lowest_23 : decode cX0_lowest 23 = .ok (.iinc 1 1, 3) := by decide +kernel
theorem dX0_lowest_26 : decode cX0_lowest 26 = .ok (.iinc 2 1, 3) := by decide +kernel
theorem dX0_lowest_29 : decode cX0_lowest 29 = .ok (.goto (-22), 3) := by decide +kernel
theorem dX0_lowest_32 : decode cX0_lowest 32 = .ok (.iload_n 1, 1) := by decide +kernel
theorem dX0_lowest_33 : decode cX0_lowest 33 = .ok (.ireturn, 1) := by decide +kernel
theorem dX0_isAboveAny_0 : decode cX0_isAboveAny 0 = .ok (.aload_n 0, 1) := by decide +kernel
theorem dX0_isAboveAny_1 : decode cX0_isAboveAny 1 = .ok (.getfield 28, 3) := by decide +kernel
theorem dX0_isAboveAny_4 : decode cX0_isAboveAny 4 = .ok (.istore_n 2, 1) := by decide +kernel
theorem dX0_isAboveAny_5 : decode cX0_isAboveAny 5 = .ok (.iload_n 2, 1) := by decide +kernel
theorem dX0_isAboveAny_6 : decode cX0_isAboveAny 6 = .ok (.iload_n 1, 1) := by decide +kernel
theorem dX0_isAboveAny_7 : decode cX0_isAboveAny 7 = .ok (.if_icmp .ge 33, 3) := by decide +kernel
theorem dX0_isAboveAny_10 : decode cX0_isAboveAny 10 = .ok (.aload_n 0, 1) := by decide +kernel
theorem dX0_isAboveAny_11 : decode cX0_isAboveAny 11 = .ok (.getfield 18, 3) := by decide +kernel
theorem dX0_isAboveAny_14 : decode cX0_isAboveAny 14 = .ok (.iload_n 2, 1) := by decide +kernel
theorem dX0_isAboveAny_15 : decode cX0_isAboveAny 15 = .ok (.iaload, 1) := by decide +kernel
theorem dX0_isAboveAny_16 : decode cX0_isAboveAny 16 = .ok (.aload_n 0, 1) := by decide +kernel
theorem dX0_isAboveAny_17 : decode cX0_isAboveAny 17 = .ok (.getfield 18, 3) := by decide +kernel
theorem dX0_isAboveAny_20 : decode cX0_isAboveAny 20 = .ok (.iload_n 1, 1) := by decide +kernel
theorem dX0_isAboveAny_21 : decode cX0_isAboveAny 21 = .ok (.iaload, 1) := by decide +kernel
theorem dX0_isAboveAny_22 : decode cX0_isAboveAny 22 = .ok (.iand, 1) := by decide +kernel
theorem dX0_isAboveAny_23 : decode cX0_isAboveAny 23 = .ok (.aload_n 0, 1) := by decide +kernel
theorem dX0_isAboveAny_24 : decode cX0_isAboveAny 24 = .ok (.getfield 18, 3) := by decide +kernel
theorem dX0_isAboveAny_27 : decode cX0_isAboveAny 27 = .ok (.iload_n 2, 1) := by decide +kernel
theorem dX0_isAboveAny_28 : decode cX0_isAboveAny 28 = .ok (.iaload, 1) := by decide +kernel
theorem dX0_isAboveAny_29 : decode cX0_isAboveAny 29 = .ok (.if_icmp .ne 5, 3) := by decide +kernel
theorem dX0_isAboveAny_32 : decode cX0_isAboveAny 32 = .ok (.iconst 1, 1) := by decide +kernel
theorem dX0_isAboveAny_33 : decode cX0_isAboveAny 33 = .ok (.ireturn, 1) := by decide +kernel
theorem dX0_isAboveAny_34 : decode cX0_isAboveAny 34 = .ok (.iinc 2 1, 3) := by decide +kernel
theorem dX0_isAboveAny_37 : decode cX0_isAboveAny 37 = .ok (.goto (-32), 3) := by decide +kernel
theorem dX0_isAboveAny_40 : decode cX0_isAboveAny 40 = .ok (.iconst 0, 1) := by decide +kernel
theorem dX0_isAboveAny_41 : decode cX0_isAboveAny 41 = .ok (.ireturn, 1) := by decide +kernel
