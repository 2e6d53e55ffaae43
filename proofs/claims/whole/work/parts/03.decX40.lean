theorem dX4_init_0 : decode cX4_init 0 = .ok (.aload_n 0, 1) := by decide +kernel
theorem dX4_init_1 : decode cX4_init 1 = .ok (.invokespecial 1, 3) := by decide +kernel
theorem dX4_init_4 : decode cX4_init 4 = .ok (.aload_n 0, 1) := by decide +kernel
theorem dX4_init_5 : decode cX4_init 5 = .ok (.new 7, 3) := by decide +kernel
theorem dX4_init_8 : decode cX4_init 8 = .ok (.dup, 1) := by decide +kernel
theorem dX4_init_9 : decode cX4_init 9 = .ok (.invokespecial 9, 3) := by decide +kernel
theorem dX4_init_12 : decode cX4_init 12 = .ok (.putfield 10, 3) := by decide +kernel
theorem dX4_init_15 : decode cX4_init 15 = .ok (.aload_n 0, 1) := by decide +kernel
theorem dX4_init_16 : decode cX4_init 16 = .ok (.iconst 2, 1) := by decide +kernel
theorem dX4_init_17 : decode cX4_init 17 = .ok (.anewarray 7, 3) := by decide +kernel
theorem dX4_init_20 : decode cX4_init 20 = .ok (.putfield 16, 3) := by decide +kernel
theorem dX4_init_23 : decode cX4_init 23 = .ok (.aload_n 0, 1) := by decide +kernel
theorem dX4_init_24 : decode cX4_init 24 = .ok (.iconst 0, 1) := by decide +kernel
theorem dX4_init_25 : decode cX4_init 25 = .ok (.putfield 20, 3) := by decide +kernel
theorem dX4_init_28 : decode cX4_init 28 = .ok (.aload_n 0, 1) := by decide +kernel
theorem dX4_init_29 : decode cX4_init 29 = .ok (.new 24, 3) := by decide +kernel
theorem dX4_init_32 : decode cX4_init 32 = .ok (.dup, 1) := by decide +kernel
theorem dX4_init_33 : decode cX4_init 33 = .ok (.invokespecial 26, 3) := by decide +kernel
theorem dX4_init_36 : decode cX4_init 36 = .ok (.putfield 27, 3) := by decide +kernel
theorem dX4_init_39 : decode cX4_init 39 = .ok (.aload_n 0, 1) := by decide +kernel
theorem dX4_init_40 : decode cX4_init 40 = .ok (.bipush (-6), 2) := by decide +kernel
theorem dX4_init_42 : decode cX4_init 42 = .ok (.putfield 31, 3) := by decide +kernel
theorem dX4_init_45 : decode cX4_init 45 = .ok (.aload_n 0, 1) := by decide +kernel
theorem dX4_init_46 : decode cX4_init 46 = .ok (.new 34, 3) := by decide +kernel
theorem dX4_init_49 : decode cX4_init 49 = .ok (.dup, 1) := by decide +kernel
theorem dX4_init_50 : decode cX4_init 50 = .ok (.invokespecial 36, 3) := by decide +kernel
theorem dX4_init_53 : decode cX4_init 53 = .ok (.putfield 37, 3) := by decide +kernel
theorem dX4_init_56 : decode cX4_init 56 = .ok (.aload_n 0, 1) := by decide +kernel
theorem dX4_init_57 : decode cX4_init 57 = .ok (.new 41, 3) := by decide +kernel
theorem dX4_init_60 : decode cX4_init 60 = .ok (.dup, 1) := by decide +kernel
theorem dX4_init_61 : decode cX4_init 61 = .ok (.invokespecial 43, 3) := by decide +kernel
theorem dX4_init_64 : decode cX4_init 64 = .ok (.putfield 44, 3) := by decide +kernel
theorem dX4_init_67 : decode cX4_init 67 = .ok (.iconst 0, 1) := by decide +kernel
theorem dX4_init_68 : decode cX4_init 68 = .ok (.istore_n 1, 1) := by decide +kernel
theorem dX4_init_69 : decode cX4_init 69 = .ok (.iload_n 1, 1) := by decide +kernel
theorem dX4_init_70 : decode cX4_init 70 = .ok (.iconst 2, 1) := by decide +kernel
theorem dX4_init_71 : decode cX4_init 71 = .ok (.if_icmp .ge 22, 3) := by decide +kernel
theorem dX4_init_74 : decode cX4_init 74 = .ok (.aload_n 0, 1) := by decide +kernel
theorem dX4_init_75 : decode cX4_init 75 = .ok (.getfield 16, 3) := by decide +kernel
theorem dX4_init_78 : decode cX4_init 78 = .ok (.iload_n 1, 1) := by decide +kernel
theorem dX4_init_79 : decode cX4_init 79 = .ok (.new 7, 3) := by decide +kernel
theorem dX4_init_82 : decode cX4_init 82 = .ok (.dup, 1) := by decide +kernel
theorem dX4_init_83 : decode cX4_init 83 = .ok (.invokespecial 9, 3) := by decide +kernel
theorem dX4_init_86 : decode cX4_init 86 = .ok (.aastore, 1) := by decide +kernel
theorem dX4_init_87 : decode cX4_init 87 = .ok (.iinc 1 1, 3) := by decide +kernel
theorem dX4_init_90 : decode cX4_init 90 = .ok (.goto (-21), 3) := by decide +kernel
theorem dX4_init_93 : decode cX4_init 93 = .ok (.return_, 1) := by decide +kernel
theorem dX4_say_0 : decode cX4_say 0 = .ok (.iload_n 1, 1) := by decide +kernel
theorem dX4_say_1 : decode cX4_say 1 = .ok (.bipush 33, 2) := by decide +kernel
theorem dX4_say_3 : decode cX4_say 3 = .ok (.if_icmp .lt 9, 3) := by decide +kernel
theorem dX4_say_6 : decode cX4_say 6 = .ok (.iload_n 1, 1) := by decide +kernel
theorem dX4_say_7 : decode cX4_say 7 = .ok (.bipush 126, 2) := by decide +kernel
theorem dX4_say_9 : decode cX4_say 9 = .ok (.if_icmp .le 6, 3) := by decide +kernel
theorem dX4_say_12 : decode cX4_say 12 = .ok (.bipush (-2), 2) := by decide +kernel
theorem dX4_say_14 : decode cX4_say 14 = .ok (.ireturn, 1) := by decide +kernel
theorem dX4_say_15 : decode cX4_say 15 = .ok (.aload_n 0, 1) := by decide +kernel
theorem dX4_say_16 : decode cX4_say 16 = .ok (.getfield 27, 3) := by decide +kernel
theorem dX4_say_19 : decode cX4_say 19 = .ok (.getfield 48, 3) := by decide +kernel
theorem dX4_say_22 : decode cX4_say 22 = .ok (.bipush 40, 2) := by decide +kernel
theorem dX4_say_24 : decode cX4_say 24 = .ok (.if_icmp .lt 6, 3) := by decide +kernel
theorem dX4_say_27 : decode cX4_say 27 = .ok (.bipush (-4), 2) := by decide +kernel
theorem dX4_say_29 : decode cX4_say 29 = .ok (.ireturn, 1) := by decide +kernel
theorem dX4_say_30 : decode cX4_say 30 = .ok (.aload_n 0, 1) := by decide +kernel
theorem dX4_say_31 : decode cX4_say 31 = .ok (.getfield 27, 3) := by decide +kernel
theorem dX4_say_34 : decode cX4_say 34 = .ok (.iload_n 1, 1) := by decide +kernel
theorem dX4_say_35 : decode cX4_say 35 = .ok (.invokevirtual 51, 3) := by decide +kernel
theorem dX4_say_38 : decode cX4_say 38 = .ok (.aload_n 0, 1) := by decide +kernel
theorem dX4_say_39 : decode cX4_say 39 = .ok (.getfield 27, 3) := by decide +kernel
theorem dX4_say_42 : decode cX4_say 42 = .ok (.getfield 48, 3) := by decide +kernel
theorem dX4_say_45 : decode cX4_say 45 = .ok (.ireturn, 1) := by decide +kernel
theorem dX4_wipe_0 : decode cX4_wipe 0 = .ok (.aload_n 0, 1) := by decide +kernel
theorem dX4_wipe_1 : decode cX4_wipe 1 = .ok (.getfield 27, 3) := by decide +kernel
theorem dX4_wipe_4 : decode cX4_wipe 4 = .ok (.getfield 48, 3) := by decide +kernel
theorem dX4_wipe_7 : decode cX4_wipe 7 = .ok (.istore_n 1, 1) := by decide +kernel
theorem dX4_wipe_8 : decode cX4_wipe 8 = .ok (.aload_n 0, 1) := by decide +kernel
theorem dX4_wipe_9 : decode cX4_wipe 9 = .ok (.getfield 27, 3) := by decide +kernel
theorem dX4_wipe_12 : decode cX4_wipe 12 = .ok (.iconst 0, 1) := by decide +kernel
theorem dX4_wipe_13 : decode cX4_wipe 13 = .ok (.putfield 48, 3) := by decide +kernel
theorem dX4_wipe_16 : decode cX4_wipe 16 = .ok (.iload_n 1, 1) := by decide +kernel
theorem dX4_wipe_17 : decode cX4_wipe 17 = .ok (.ireturn, 1) := by decide +kernel
theorem dX4_read_0 : decode cX4_read 0 = .ok (.iload_n 1, 1) := by decide +kernel
theorem dX4_read_1 : decode cX4_read 1 = .ok (.invokestatic 55, 3) := by decide +kernel
theorem dX4_read_4 : decode cX4_read 4 = .ok (.ifCond .ne 5, 3) := by decide +kernel
theorem dX4_read_7 : decode cX4_read 7 = .ok (.iconst (-1), 1) := by decide +kernel
theorem dX4_read_8 : decode cX4_read 8 = .ok (.ireturn, 1) := by decide +kernel
theorem dX4_read_9 : decode cX4_read 9 = .ok (.aload_n 0, 1) := by decide +kernel
theorem dX4_read_10 : decode cX4_read 10 = .ok (.getfield 27, 3) := by decide +kernel
theorem dX4_read_13 : decode cX4_read 13 = .ok (.aload_n 0, 1) := by decide +kernel
theorem dX4_read_14 : decode cX4_read 14 = .ok (.getfield 37, 3) := by decide +kernel
theorem dX4_read_17 : decode cX4_read 17 = .ok (.invokevirtual 59, 3) := by decide +kernel
theorem dX4_read_20 : decode cX4_read 20 = .ok (.istore_n 2, 1) := by decide +kernel
theorem dX4_read_21 : decode cX4_read 21 = .ok (.iload_n 2, 1) := by decide +kernel
theorem dX4_read_22 : decode cX4_read 22 = .ok (.bipush (-6), 2) := by decide +kernel
theorem dX4_read_24 : decode cX4_read 24 = .ok (.if_icmp .eq 11, 3) := by decide +kernel
theorem dX4_read_27 : decode cX4_read 27 = .ok (.aload_n 0, 1) := by decide +kernel
theorem dX4_read_28 : decode cX4_read 28 = .ok (.iload_n 2, 1) := by decide +kernel
theorem dX4_read_29 : decode cX4_read 29 = .ok (.putfield 31, 3) := by decide +kernel
theorem dX4_read_32 : decode cX4_read 32 = .ok (.bipush (-7), 2) := by decide +kernel
theorem dX4_read_34 : decode cX4_read 34 = .ok (.ireturn, 1) := by decide +kernel
theorem dX4_read_35 : decode cX4_read 35 = .ok (.aload_n 0, 1) := by decide +kernel
theorem dX4_read_36 : decode cX4_read 36 = .ok (.getfield 37, 3) := by decide +kernel
theorem dX4_read_39 : decode cX4_read 39 = .ok (.getfield 63, 3) := by decide +kernel
theorem dX4_read_42 : decode cX4_read 42 = .ok (.ifCond .eq 6, 3) := by decide +kernel
theorem dX4_read_45 : decode cX4_read 45 = .ok (.bipush (-4), 2) := by decide +kernel
theorem dX4_read_47 : decode cX4_read 47 = .ok (.ireturn, 1) := by decide +kernel
theorem dX4_read_48 : decode cX4_read 48 = .ok (.aload_n 0, 1) := by decide +kernel
theorem dX4_read_49 : decode cX4_read 49 = .ok (.getfield 27, 3) := by decide +kernel
theorem dX4_read_52 : decode cX4_read 52 = .ok (.iconst 0, 1) := by decide +kernel
theorem dX4_read_53 : decode cX4_read 53 = .ok (.putfield 48, 3) := by decide +kernel
theorem dX4_read_56 : decode cX4_read 56 = .ok (.aload_n 0, 1) := by decide +kernel
theorem dX4_read_57 : decode cX4_read 57 = .ok (.iload_n 1, 1) := by decide +kernel
theorem dX4_read_58 : decode cX4_read 58 = .ok (.invokevirtual 67, 3) := by decide +kernel
theorem dX4_read_61 : decode cX4_read 61 = .ok (.ireturn, 1) := by decide +kernel
theorem dX4_fault_0 : decode cX4_fault 0 = .ok (.aload_n 0, 1) := by decide +kernel
theorem dX4_fault_1 : decode cX4_fault 1 = .ok (.getfield 31, 3) := by decide +kernel
theorem dX4_fault_4 : decode cX4_fault 4 = .ok (.ireturn, 1) := by decide +kernel
theorem dX4_make_0 : decode cX4_make 0 = .ok (.iload_n 1, 1) := by decide +kernel
theorem dX4_make_1 : decode cX4_make 1 = .ok (.invokestatic 55, 3) := by decide +kernel
theorem dX4_make_4 : decode cX4_make 4 = .ok (.ifCond .eq 17, 3) := by decide +kernel
theorem dX4_make_7 : decode cX4_make 7 = .ok (.iload_n 2, 1) := by decide +kernel
theorem dX4_make_8 : decode cX4_make 8 = .ok (.invokestatic 55, 3) := by decide +kernel
theorem dX4_make_11 : decode cX4_make 11 = .ok (.ifCond .eq 10, 3) := by decide +kernel
theorem dX4_make_14 : decode cX4_make 14 = .ok (.iload_n 3, 1) := by decide +kernel
theorem dX4_make_15 : decode cX4_make 15 = .ok (.invokestatic 55, 3) := by decide +kernel
theorem dX4_make_18 : decode cX4_make 18 = .ok (.ifCond .ne 5, 3) := by decide +kernel
theorem dX4_make_21 : decode cX4_make 21 = .ok (.iconst (-1), 1) := by decide +kernel
theorem dX4_make_22 : decode cX4_make 22 = .ok (.ireturn, 1) := by decide +kernel
theorem dX4_make_23 : decode cX4_make 23 = .ok (.iload 4, 2) := by decide +kernel
theorem dX4_make_25 : decode cX4_make 25 = .ok (.ifCond .lt 9, 3) := by decide +kernel
theorem dX4_make_28 : decode cX4_make 28 = .ok (.iload 4, 2) := by decide +kernel
theorem dX4_make_30 : decode cX4_make 30 = .ok (.iconst 2, 1) := by decide +kernel
theorem dX4_make_31 : decode cX4_make 31 = .ok (.if_icmp .le 6, 3) := by decide +kernel
theorem dX4_make_34 : decode cX4_make 34 = .ok (.bipush (-2), 2) := by decide +kernel
theorem dX4_make_36 : decode cX4_make 36 = .ok (.ireturn, 1) := by decide +kernel
theorem dX4_make_37 : decode cX4_make 37 = .ok (.aload_n 0, 1) := by decide +kernel
theorem dX4_make_38 : decode cX4_make 38 = .ok (.iload_n 2, 1) := by decide +kernel
theorem dX4_make_39 : decode cX4_make 39 = .ok (.invokevirtual 71, 3) := by decide +kernel
theorem dX4_make_42 : decode cX4_make 42 = .ok (.ifCond .ne 11, 3) := by decide +kernel
theorem dX4_make_45 : decode cX4_make 45 = .ok (.aload_n 0, 1) := by decide +kernel
theorem dX4_make_46 : decode cX4_make 46 = .ok (.iload_n 3, 1) := by decide +kernel
theorem dX4_make_47 : decode cX4_make 47 = .ok (.invokevirtual 71, 3) := by decide +kernel
theorem dX4_make_50 : decode cX4_make 50 = .ok (.ifCond .eq 6, 3) := by decide +kernel
theorem dX4_make_53 : decode cX4_make 53 = .ok (.bipush (-3), 2) := by decide +kernel
theorem dX4_make_55 : decode cX4_make 55 = .ok (.ireturn, 1) := by decide +kernel
theorem dX4_make_56 : decode cX4_make 56 = .ok (.aload_n 0, 1) := by decide +kernel
theorem dX4_make_57 : decode cX4_make 57 = .ok (.getfield 37, 3) := by decide +kernel
theorem dX4_make_60 : decode cX4_make 60 = .ok (.iconst 2, 1) := by decide +kernel
theorem dX4_make_61 : decode cX4_make 61 = .ok (.iload 4, 2) := by decide +kernel
theorem dX4_make_63 : decode cX4_make 63 = .ok (.iadd, 1) := by decide +kernel
theorem dX4_make_64 : decode cX4_make 64 = .ok (.aload_n 0, 1) := by decide +kernel
theorem dX4_make_65 : decode cX4_make 65 = .ok (.getfield 10, 3) := by decide +kernel
theorem dX4_make_68 : decode cX4_make 68 = .ok (.getfield 74, 3) := by decide +kernel
theorem dX4_make_71 : decode cX4_make 71 = .ok (.iload_n 2, 1) := by decide +kernel
theorem dX4_make_72 : decode cX4_make 72 = .ok (.aaload, 1) := by decide +kernel
theorem dX4_make_73 : decode cX4_make 73 = .ok (.aload_n 0, 1) := by decide +kernel
theorem dX4_make_74 : decode cX4_make 74 = .ok (.getfield 10, 3) := by decide +kernel
theorem dX4_make_77 : decode cX4_make 77 = .ok (.getfield 74, 3) := by decide +kernel
theorem dX4_make_80 : decode cX4_make 80 = .ok (.iload_n 3, 1) := by decide +kernel
theorem dX4_make_81 : decode cX4_make 81 = .ok (.aaload, 1) := by decide +kernel
theorem dX4_make_82 : decode cX4_make 82 = .ok (.invokevirtual 78, 3) := by decide +kernel
theorem dX4_make_85 : decode cX4_make 85 = .ok (.aload_n 0, 1) := by decide +kernel
theorem dX4_make_86 : decode cX4_make 86 = .ok (.getfield 37, 3) := by decide +kernel
theorem dX4_make_89 : decode cX4_make 89 = .ok (.getfield 63, 3) := by decide +kernel
theorem dX4_make_92 : decode cX4_make 92 = .ok (.ifCond .eq 8, 3) := by decide +kernel
theorem dX4_make_95 : decode cX4_make 95 = .ok (.bipush (-4), 2) := by decide +kernel
theorem dX4_make_97 : decode cX4_make 97 = .ok (.goto 8, 3) := by decide +kernel
theorem dX4_make_100 : decode cX4_make 100 = .ok (.aload_n 0, 1) := by decide +kernel
theorem dX4_make_101 : decode cX4_make 101 = .ok (.iload_n 1, 1) := by decide +kernel
theorem dX4_make_102 : decode cX4_make 102 = .ok (.invokevirtual 67, 3) := by decide +kernel
theorem dX4_make_105 : decode cX4_make 105 = .ok (.ireturn, 1) := by decide +kernel
theorem dX4_part_0 : decode cX4_part 0 = .ok (.iload_n 1, 1) := by decide +kernel
theorem dX4_part_1 : decode cX4_part 1 = .ok (.invokestatic 55, 3) := by decide +kernel
theorem dX4_part_4 : decode cX4_part 4 = .ok (.ifCond .eq 10, 3) := by decide +kernel
theorem dX4_part_7 : decode cX4_part 7 = .ok (.iload_n 2, 1) := by decide +kernel
theorem dX4_part_8 : decode cX4_part 8 = .ok (.invokestatic 55, 3) := by decide +kernel
theorem dX4_part_11 : decode cX4_part 11 = .ok (.ifCond .ne 5, 3) := by decide +kernel
theorem dX4_part_14 : decode cX4_part 14 = .ok (.iconst (-1), 1) := by decide +kernel
theorem dX4_part_15 : decode cX4_part 15 = .ok (.ireturn, 1) := by decide +kernel
theorem dX4_part_16 : decode cX4_part 16 = .ok (.aload_n 0, 1) := by decide +kernel
theorem dX4_part_17 : decode cX4_part 17 = .ok (.iload_n 2, 1) := by decide +kernel
theorem dX4_part_18 : decode cX4_part 18 = .ok (.invokevirtual 71, 3) := by decide +kernel
theorem dX4_part_21 : decode cX4_part 21 = .ok (.ifCond .eq 6, 3) := by decide +kernel
theorem dX4_part_24 : decode cX4_part 24 = .ok (.bipush (-3), 2) := by decide +kernel
theorem dX4_part_26 : decode cX4_part 26 = .ok (.ireturn, 1) := by decide +kernel
theorem dX4_part_27 : decode cX4_part 27 = .ok (.aload_n 0, 1) := by decide +kernel
theorem dX4_part_28 : decode cX4_part 28 = .ok (.getfield 10, 3) := by decide +kernel
theorem dX4_part_31 : decode cX4_part 31 = .ok (.getfield 74, 3) := by decide +kernel
theorem dX4_part_34 : decode cX4_part 34 = .ok (.iload_n 2, 1) := by decide +kernel
theorem dX4_part_35 : decode cX4_part 35 = .ok (.aaload, 1) := by decide +kernel
theorem dX4_part_36 : decode cX4_part 36 = .ok (.iload_n 3, 1) := by decide +kernel
theorem dX4_part_37 : decode cX4_part 37 = .ok (.invokevirtual 82, 3) := by decide +kernel
theorem dX4_part_40 : decode cX4_part 40 = .ok (.ifCond .ne 6, 3) := by decide +kernel
theorem dX4_part_43 : decode cX4_part 43 = .ok (.bipush (-2), 2) := by decide +kernel
theorem dX4_part_45 : decode cX4_part 45 = .ok (.ireturn, 1) := by decide +kernel
theorem dX4_part_46 : decode cX4_part 46 = .ok (.aload_n 0, 1) := by decide +kernel
theorem dX4_part_47 : decode cX4_part 47 = .ok (.getfield 37, 3) := by decide +kernel
theorem dX4_part_50 : decode cX4_part 50 = .ok (.aload_n 0, 1) := by decide +kernel
theorem dX4_part_51 : decode cX4_part 51 = .ok (.getfield 10, 3) := by decide +kernel
theorem dX4_part_54 : decode cX4_part 54 = .ok (.getfield 74, 3) := by decide +kernel
theorem dX4_part_57 : decode cX4_part 57 = .ok (.iload_n 2, 1) := by decide +kernel
theorem dX4_part_58 : decode cX4_part 58 = .ok (.aaload, 1) := by decide +kernel
theorem dX4_part_59 : decode cX4_part 59 = .ok (.iload_n 3, 1) := by decide +kernel
theorem dX4_part_60 : decode cX4_part 60 = .ok (.invokevirtual 85, 3) := by decide +kernel
theorem dX4_part_63 : decode cX4_part 63 = .ok (.aload_n 0, 1) := by decide +kernel
theorem dX4_part_64 : decode cX4_part 64 = .ok (.iload_n 1, 1) := by decide +kernel
theorem dX4_part_65 : decode cX4_part 65 = .ok (.invokevirtual 67, 3) := by decide +kernel
theorem dX4_part_68 : decode cX4_part 68 = .ok (.ireturn, 1) := by decide +kernel
theorem dX4_sign_0 : decode cX4_sign 0 = .ok (.iload_n 1, 1) := by decide +kernel
theorem dX4_sign_1 : decode cX4_sign 1 = .ok (.invokestatic 55, 3) := by decide +kernel
theorem dX4_sign_4 : decode cX4_sign 4 = .ok (.ifCond .ne 5, 3) := by decide +kernel
theorem dX4_sign_7 : decode cX4_sign 7 = .ok (.iconst (-1), 1) := by decide +kernel
theorem dX4_sign_8 : decode cX4_sign 8 = .ok (.ireturn, 1) := by decide +kernel
theorem dX4_sign_9 : decode cX4_sign 9 = .ok (.iload_n 2, 1) := by decide +kernel
theorem dX4_sign_10 : decode cX4_sign 10 = .ok (.iconst (-1), 1) := by decide +kernel
theorem dX4_sign_11 : decode cX4_sign 11 = .ok (.if_icmp .ge 6, 3) := by decide +kernel
theorem dX4_sign_14 : decode cX4_sign 14 = .ok (.bipush (-2), 2) := by decide +kernel
theorem dX4_sign_16 : decode cX4_sign 16 = .ok (.ireturn, 1) := by decide +kernel
theorem dX4_sign_17 : decode cX4_sign 17 = .ok (.aload_n 0, 1) := by decide +kernel
theorem dX4_sign_18 : decode cX4_sign 18 = .ok (.iload_n 1, 1) := by decide +kernel
theorem dX4_sign_19 : decode cX4_sign 19 = .ok (.invokevirtual 71, 3) := by decide +kernel
theorem dX4_sign_22 : decode cX4_sign 22 = .ok (.ifCond .eq 6, 3) := by decide +kernel
theorem dX4_sign_25 : decode cX4_sign 25 = .ok (.bipush (-3), 2) := by decide +kernel
theorem dX4_sign_27 : decode cX4_sign 27 = .ok (.ireturn, 1) := by decide +kernel
theorem dX4_sign_28 : decode cX4_sign 28 = .ok (.aload_n 0, 1) := by decide +kernel
theorem dX4_sign_29 : decode cX4_sign 29 = .ok (.getfield 10, 3) := by decide +kernel
theorem dX4_sign_32 : decode cX4_sign 32 = .ok (.getfield 74, 3) := by decide +kernel
theorem dX4_sign_35 : decode cX4_sign 35 = .ok (.iload_n 1, 1) := by decide +kernel
theorem dX4_sign_36 : decode cX4_sign 36 = .ok (.aaload, 1) := by decide +kernel
theorem dX4_sign_37 : decode cX4_sign 37 = .ok (.astore_n 3, 1) := by decide +kernel
theorem dX4_sign_38 : decode cX4_sign 38 = .ok (.iload_n 2, 1) := by decide +kernel
theorem dX4_sign_39 : decode cX4_sign 39 = .ok (.iconst (-1), 1) := by decide +kernel
theorem dX4_sign_40 : decode cX4_sign 40 = .ok (.if_icmp .ne 10, 3) := by decide +kernel
theorem dX4_sign_43 : decode cX4_sign 43 = .ok (.aload_n 3, 1) := by decide +kernel
theorem dX4_sign_44 : decode cX4_sign 44 = .ok (.invokevirtual 89, 3) := by decide +kernel
theorem dX4_sign_47 : decode cX4_sign 47 = .ok (.goto 8, 3) := by decide +kernel
theorem dX4_sign_50 : decode cX4_sign 50 = .ok (.aload_n 3, 1) := by decide +kernel
theorem dX4_sign_51 : decode cX4_sign 51 = .ok (.iload_n 2, 1) := by decide +kernel
theorem dX4_sign_52 : decode cX4_sign 52 = .ok (.invokevirtual 93, 3) := by decide +kernel
theorem dX4_sign_55 : decode cX4_sign 55 = .ok (.ireturn, 1) := by decide +kernel
theorem dX4_told_0 : decode cX4_told 0 = .ok (.iload_n 1, 1) := by decide +kernel
theorem dX4_told_1 : decode cX4_told 1 = .ok (.invokestatic 55, 3) := by decide +kernel
theorem dX4_told_4 : decode cX4_told 4 = .ok (.ifCond .ne 5, 3) := by decide +kernel
theorem dX4_told_7 : decode cX4_told 7 = .ok (.iconst (-1), 1) := by decide +kernel
theorem dX4_told_8 : decode cX4_told 8 = .ok (.ireturn, 1) := by decide +kernel
theorem dX4_told_9 : decode cX4_told 9 = .ok (.aload_n 0, 1) := by decide +kernel
theorem dX4_told_10 : decode cX4_told 10 = .ok (.iload_n 1, 1) := by decide +kernel
theorem dX4_told_11 : decode cX4_told 11 = .ok (.invokevirtual 71, 3) := by decide +kernel
theorem dX4_told_14 : decode cX4_told 14 = .ok (.ifCond .eq 6, 3) := by decide +kernel
theorem dX4_told_17 : decode cX4_told 17 = .ok (.bipush (-3), 2) := by decide +kernel
theorem dX4_told_19 : decode cX4_told 19 = .ok (.ireturn, 1) := by decide +kernel
theorem dX4_told_20 : decode cX4_told 20 = .ok (.aload_n 0, 1) := by decide +kernel
theorem dX4_told_21 : decode cX4_told 21 = .ok (.getfield 10, 3) := by decide +kernel
theorem dX4_told_24 : decode cX4_told 24 = .ok (.getfield 74, 3) := by decide +kernel
theorem dX4_told_27 : decode cX4_told 27 = .ok (.iload_n 1, 1) := by decide +kernel
theorem dX4_told_28 : decode cX4_told 28 = .ok (.aaload, 1) := by decide +kernel
theorem dX4_told_29 : decode cX4_told 29 = .ok (.astore 4, 2) := by decide +kernel
theorem dX4_told_31 : decode cX4_told 31 = .ok (.aload 4, 2) := by decide +kernel
theorem dX4_told_33 : decode cX4_told 33 = .ok (.iload_n 2, 1) := by decide +kernel
theorem dX4_told_34 : decode cX4_told 34 = .ok (.invokevirtual 82, 3) := by decide +kernel
theorem dX4_told_37 : decode cX4_told 37 = .ok (.ifCond .ne 6, 3) := by decide +kernel
theorem dX4_told_40 : decode cX4_told 40 = .ok (.bipush (-2), 2) := by decide +kernel
theorem dX4_told_42 : decode cX4_told 42 = .ok (.ireturn, 1) := by decide +kernel
theorem dX4_told_43 : decode cX4_told 43 = .ok (.iload_n 3, 1) := by decide +kernel
theorem dX4_told_44 : decode cX4_told 44 = .ok (.tableswitch 52 0 2 #[28, 36, 44], 28) := by decide +kernel
theorem dX4_told_72 : decode cX4_told 72 = .ok (.aload 4, 2) := by decide +kernel
theorem dX4_told_74 : decode cX4_told 74 = .ok (.getfield 96, 3) := by decide +kernel
theorem dX4_told_77 : decode cX4_told 77 = .ok (.iload_n 2, 1) := by decide +kernel
theorem dX4_told_78 : decode cX4_told 78 = .ok (.iaload, 1) := by decide +kernel
theorem dX4_told_79 : decode cX4_told 79 = .ok (.ireturn, 1) := by decide +kernel
theorem dX4_told_80 : decode cX4_told 80 = .ok (.aload 4, 2) := by decide +kernel
theorem dX4_told_82 : decode cX4_told 82 = .ok (.getfield 100, 3) := by decide +kernel
theorem dX4_told_85 : decode cX4_told 85 = .ok (.iload_n 2, 1) := by decide +kernel
theorem dX4_told_86 : decode cX4_told 86 = .ok (.iaload, 1) := by decide +kernel
theorem dX4_told_87 : decode cX4_told 87 = .ok (.ireturn, 1) := by decide +kernel
theorem dX4_told_88 : decode cX4_told 88 = .ok (.aload 4, 2) := by decide +kernel
theorem dX4_told_90 : decode cX4_told 90 = .ok (.getfield 103, 3) := by decide +kernel
theorem dX4_told_93 : decode cX4_told 93 = .ok (.iload_n 2, 1) := by decide +kernel
theorem dX4_told_94 : decode cX4_told 94 = .ok (.iaload, 1) := by decide +kernel
theorem dX4_told_95 : decode cX4_told 95 = .ok (.ireturn, 1) := by decide +kernel
theorem dX4_told_96 : decode cX4_told 96 = .ok (.bipush (-2), 2) := by decide +kernel
theorem dX4_told_98 : decode cX4_told 98 = .ok (.ireturn, 1) := by decide +kernel
theorem dX4_drop_0 : decode cX4_drop 0 = .ok (.iload_n 1, 1) := by decide +kernel
theorem dX4_drop_1 : decode cX4_drop 1 = .ok (.invokestatic 55, 3) := by decide +kernel
theorem dX4_drop_4 : decode cX4_drop 4 = .ok (.ifCond .ne 5, 3) := by decide +kernel
theorem dX4_drop_7 : decode cX4_drop 7 = .ok (.iconst (-1), 1) := by decide +kernel
theorem dX4_drop_8 : decode cX4_drop 8 = .ok (.ireturn, 1) := by decide +kernel
theorem dX4_drop_9 : decode cX4_drop 9 = .ok (.aload_n 0, 1) := by decide +kernel
theorem dX4_drop_10 : decode cX4_drop 10 = .ok (.iload_n 1, 1) := by decide +kernel
theorem dX4_drop_11 : decode cX4_drop 11 = .ok (.invokevirtual 71, 3) := by decide +kernel
theorem dX4_drop_14 : decode cX4_drop 14 = .ok (.ifCond .eq 7, 3) := by decide +kernel
theorem dX4_drop_17 : decode cX4_drop 17 = .ok (.iconst 0, 1) := by decide +kernel
theorem dX4_drop_18 : decode cX4_drop 18 = .ok (.goto 4, 3) := by decide +kernel
theorem dX4_drop_21 : decode cX4_drop 21 = .ok (.iconst 1, 1) := by decide +kernel
theorem dX4_drop_22 : decode cX4_drop 22 = .ok (.istore_n 2, 1) := by decide +kernel
theorem dX4_drop_23 : decode cX4_drop 23 = .ok (.aload_n 0, 1) := by decide +kernel
theorem dX4_drop_24 : decode cX4_drop 24 = .ok (.getfield 10, 3) := by decide +kernel
theorem dX4_drop_27 : decode cX4_drop 27 = .ok (.getfield 74, 3) := by decide +kernel
theorem dX4_drop_30 : decode cX4_drop 30 = .ok (.iload_n 1, 1) := by decide +kernel
theorem dX4_drop_31 : decode cX4_drop 31 = .ok (.aaload, 1) := by decide +kernel
theorem dX4_drop_32 : decode cX4_drop 32 = .ok (.invokevirtual 106, 3) := by decide +kernel
theorem dX4_drop_35 : decode cX4_drop 35 = .ok (.iload_n 2, 1) := by decide +kernel
theorem dX4_drop_36 : decode cX4_drop 36 = .ok (.ireturn, 1) := by decide +kernel
theorem dX4_plain_0 : decode cX4_plain 0 = .ok (.iload_n 1, 1) := by decide +kernel
theorem dX4_plain_1 : decode cX4_plain 1 = .ok (.invokestatic 55, 3) := by decide +kernel
theorem dX4_plain_4 : decode cX4_plain 4 = .ok (.ifCond .ne 5, 3) := by decide +kernel
theorem dX4_plain_7 : decode cX4_plain 7 = .ok (.iconst (-1), 1) := by decide +kernel
theorem dX4_plain_8 : decode cX4_plain 8 = .ok (.ireturn, 1) := by decide +kernel
theorem dX4_plain_9 : decode cX4_plain 9 = .ok (.aload_n 0, 1) := by decide +kernel
theorem dX4_plain_10 : decode cX4_plain 10 = .ok (.iload_n 1, 1) := by decide +kernel
theorem dX4_plain_11 : decode cX4_plain 11 = .ok (.invokevirtual 71, 3) := by decide +kernel
theorem dX4_plain_14 : decode cX4_plain 14 = .ok (.ifCond .eq 6, 3) := by decide +kernel
theorem dX4_plain_17 : decode cX4_plain 17 = .ok (.bipush (-3), 2) := by decide +kernel
theorem dX4_plain_19 : decode cX4_plain 19 = .ok (.ireturn, 1) := by decide +kernel
theorem dX4_plain_20 : decode cX4_plain 20 = .ok (.aload_n 0, 1) := by decide +kernel
theorem dX4_plain_21 : decode cX4_plain 21 = .ok (.aload_n 0, 1) := by decide +kernel
theorem dX4_plain_22 : decode cX4_plain 22 = .ok (.getfield 10, 3) := by decide +kernel
theorem dX4_plain_25 : decode cX4_plain 25 = .ok (.getfield 74, 3) := by decide +kernel
theorem dX4_plain_28 : decode cX4_plain 28 = .ok (.iload_n 1, 1) := by decide +kernel
theorem dX4_plain_29 : decode cX4_plain 29 = .ok (.aaload, 1) := by decide +kernel
theorem dX4_plain_30 : decode cX4_plain 30 = .ok (.invokevirtual 109, 3) := by decide +kernel
theorem dX4_plain_33 : decode cX4_plain 33 = .ok (.ifCond .eq 7, 3) := by decide +kernel
theorem dX4_plain_36 : decode cX4_plain 36 = .ok (.iconst 1, 1) := by decide +kernel
theorem dX4_plain_37 : decode cX4_plain 37 = .ok (.goto 4, 3) := by decide +kernel
theorem dX4_plain_40 : decode cX4_plain 40 = .ok (.iconst 0, 1) := by decide +kernel
theorem dX4_plain_41 : decode cX4_plain 41 = .ok (.ireturn, 1) := by decide +kernel
theorem dX4_rows_0 : decode cX4_rows 0 = .ok (.iload_n 1, 1) := by decide +kernel
theorem dX4_rows_1 : decode cX4_rows 1 = .ok (.invokestatic 55, 3) := by decide +kernel
theorem dX4_rows_4 : decode cX4_rows 4 = .ok (.ifCond .ne 5, 3) := by decide +kernel
theorem dX4_rows_7 : decode cX4_rows 7 = .ok (.iconst (-1), 1) := by decide +kernel
theorem dX4_rows_8 : decode cX4_rows 8 = .ok (.ireturn, 1) := by decide +kernel
theorem dX4_rows_9 : decode cX4_rows 9 = .ok (.aload_n 0, 1) := by decide +kernel
theorem dX4_rows_10 : decode cX4_rows 10 = .ok (.iload_n 1, 1) := by decide +kernel
theorem dX4_rows_11 : decode cX4_rows 11 = .ok (.invokevirtual 71, 3) := by decide +kernel
theorem dX4_rows_14 : decode cX4_rows 14 = .ok (.ifCond .eq 6, 3) := by decide +kernel
theorem dX4_rows_17 : decode cX4_rows 17 = .ok (.bipush (-3), 2) := by decide +kernel
theorem dX4_rows_19 : decode cX4_rows 19 = .ok (.ireturn, 1) := by decide +kernel
theorem dX4_rows_20 : decode cX4_rows 20 = .ok (.aload_n 0, 1) := by decide +kernel
theorem dX4_rows_21 : decode cX4_rows 21 = .ok (.getfield 10, 3) := by decide +kernel
theorem dX4_rows_24 : decode cX4_rows 24 = .ok (.getfield 74, 3) := by decide +kernel
theorem dX4_rows_27 : decode cX4_rows 27 = .ok (.iload_n 1, 1) := by decide +kernel
theorem dX4_rows_28 : decode cX4_rows 28 = .ok (.aaload, 1) := by decide +kernel
theorem dX4_rows_29 : decode cX4_rows 29 = .ok (.invokevirtual 113, 3) := by decide +kernel
theorem dX4_rows_32 : decode cX4_rows 32 = .ok (.ifCond .eq 7, 3) := by decide +kernel
theorem dX4_rows_35 : decode cX4_rows 35 = .ok (.iconst 1, 1) := by decide +kernel
theorem dX4_rows_36 : decode cX4_rows 36 = .ok (.goto 4, 3) := by decide +kernel
theorem dX4_rows_39 : decode cX4_rows 39 = .ok (.iconst 0, 1) := by decide +kernel
theorem dX4_rows_40 : decode cX4_rows 40 = .ok (.ireturn, 1) := by decide +kernel
theorem dX4_follows_0 : decode cX4_follows 0 = .ok (.iload_n 1, 1) := by decide +kernel
theorem dX4_follows_1 : decode cX4_follows 1 = .ok (.invokestatic 55, 3) := by decide +kernel
theorem dX4_follows_4 : decode cX4_follows 4 = .ok (.ifCond .eq 10, 3) := by decide +kernel
theorem dX4_follows_7 : decode cX4_follows 7 = .ok (.iload_n 2, 1) := by decide +kernel
theorem dX4_follows_8 : decode cX4_follows 8 = .ok (.invokestatic 55, 3) := by decide +kernel
theorem dX4_follows_11 : decode cX4_follows 11 = .ok (.ifCond .ne 5, 3) := by decide +kernel
theorem dX4_follows_14 : decode cX4_follows 14 = .ok (.iconst (-1), 1) := by decide +kernel
theorem dX4_follows_15 : decode cX4_follows 15 = .ok (.ireturn, 1) := by decide +kernel
theorem dX4_follows_16 : decode cX4_follows 16 = .ok (.aload_n 0, 1) := by decide +kernel
theorem dX4_follows_17 : decode cX4_follows 17 = .ok (.iload_n 1, 1) := by decide +kernel
theorem dX4_follows_18 : decode cX4_follows 18 = .ok (.invokevirtual 71, 3) := by decide +kernel
theorem dX4_follows_21 : decode cX4_follows 21 = .ok (.ifCond .ne 11, 3) := by decide +kernel
theorem dX4_follows_24 : decode cX4_follows 24 = .ok (.aload_n 0, 1) := by decide +kernel
theorem dX4_follows_25 : decode cX4_follows 25 = .ok (.iload_n 2, 1) := by decide +kernel
theorem dX4_follows_26 : decode cX4_follows 26 = .ok (.invokevirtual 71, 3) := by decide +kernel
theorem dX4_follows_29 : decode cX4_follows 29 = .ok (.ifCond .eq 6, 3) := by decide +kernel
theorem dX4_follows_32 : decode cX4_follows 32 = .ok (.bipush (-3), 2) := by decide +kernel
theorem dX4_follows_34 : decode cX4_follows 34 = .ok (.ireturn, 1) := by decide +kernel
theorem dX4_follows_35 : decode cX4_follows 35 = .ok (.aload_n 0, 1) := by decide +kernel
theorem dX4_follows_36 : decode cX4_follows 36 = .ok (.getfield 37, 3) := by decide +kernel
theorem dX4_follows_39 : decode cX4_follows 39 = .ok (.iconst 4, 1) := by decide +kernel
theorem dX4_follows_40 : decode cX4_follows 40 = .ok (.aload_n 0, 1) := by decide +kernel
theorem dX4_follows_41 : decode cX4_follows 41 = .ok (.getfield 10, 3) := by decide +kernel
theorem dX4_follows_44 : decode cX4_follows 44 = .ok (.getfield 74, 3) := by decide +kernel
theorem dX4_follows_47 : decode cX4_follows 47 = .ok (.iload_n 1, 1) := by decide +kernel
theorem dX4_follows_48 : decode cX4_follows 48 = .ok (.aaload, 1) := by decide +kernel
theorem dX4_follows_49 : decode cX4_follows 49 = .ok (.aload_n 0, 1) := by decide +kernel
theorem dX4_follows_50 : decode cX4_follows 50 = .ok (.getfield 10, 3) := by decide +kernel
theorem dX4_follows_53 : decode cX4_follows 53 = .ok (.getfield 74, 3) := by decide +kernel
theorem dX4_follows_56 : decode cX4_follows 56 = .ok (.iload_n 2, 1) := by decide +kernel
theorem dX4_follows_57 : decode cX4_follows 57 = .ok (.aaload, 1) := by decide +kernel
theorem dX4_follows_58 : decode cX4_follows 58 = .ok (.invokevirtual 78, 3) := by decide +kernel
theorem dX4_follows_61 : decode cX4_follows 61 = .ok (.aload_n 0, 1) := by decide +kernel
theorem dX4_follows_62 : decode cX4_follows 62 = .ok (.getfield 37, 3) := by decide +kernel
theorem dX4_follows_65 : decode cX4_follows 65 = .ok (.getfield 63, 3) := by decide +kernel
theorem dX4_follows_68 : decode cX4_follows 68 = .ok (.ifCond .eq 6, 3) := by decide +kernel
theorem dX4_follows_71 : decode cX4_follows 71 = .ok (.bipush (-4), 2) := by decide +kernel
theorem dX4_follows_73 : decode cX4_follows 73 = .ok (.ireturn, 1) := by decide +kernel
theorem dX4_follows_74 : decode cX4_follows 74 = .ok (.aload_n 0, 1) := by decide +kernel
theorem dX4_follows_75 : decode cX4_follows 75 = .ok (.aload_n 0, 1) := by decide +kernel
theorem dX4_follows_76 : decode cX4_follows 76 = .ok (.getfield 37, 3) := by decide +kernel
theorem dX4_follows_79 : decode cX4_follows 79 = .ok (.invokevirtual 109, 3) := by decide +kernel
theorem dX4_follows_82 : decode cX4_follows 82 = .ok (.ifCond .eq 7, 3) := by decide +kernel
theorem dX4_follows_85 : decode cX4_follows 85 = .ok (.iconst 1, 1) := by decide +kernel
theorem dX4_follows_86 : decode cX4_follows 86 = .ok (.goto 4, 3) := by decide +kernel
theorem dX4_follows_89 : decode cX4_follows 89 = .ok (.iconst 0, 1) := by decide +kernel
theorem dX4_follows_90 : decode cX4_follows 90 = .ok (.ireturn, 1) := by decide +kernel
theorem dX4_from_0 : decode cX4_from 0 = .ok (.iload_n 1, 1) := by decide +kernel
theorem dX4_from_1 : decode cX4_from 1 = .ok (.invokestatic 55, 3) := by decide +kernel
theorem dX4_from_4 : decode cX4_from 4 = .ok (.ifCond .ne 5, 3) := by decide +kernel
theorem dX4_from_7 : decode cX4_from 7 = .ok (.iconst (-1), 1) := by decide +kernel
theorem dX4_from_8 : decode cX4_from 8 = .ok (.ireturn, 1) := by decide +kernel
theorem dX4_from_9 : decode cX4_from 9 = .ok (.aload_n 0, 1) := by decide +kernel
theorem dX4_from_10 : decode cX4_from 10 = .ok (.iload_n 1, 1) := by decide +kernel
theorem dX4_from_11 : decode cX4_from 11 = .ok (.invokevirtual 71, 3) := by decide +kernel
theorem dX4_from_14 : decode cX4_from 14 = .ok (.ifCond .eq 6, 3) := by decide +kernel
theorem dX4_from_17 : decode cX4_from 17 = .ok (.bipush (-3), 2) := by decide +kernel
theorem dX4_from_19 : decode cX4_from 19 = .ok (.ireturn, 1) := by decide +kernel
theorem dX4_from_20 : decode cX4_from 20 = .ok (.aload_n 0, 1) := by decide +kernel
theorem dX4_from_21 : decode cX4_from 21 = .ok (.getfield 10, 3) := by decide +kernel
theorem dX4_from_24 : decode cX4_from 24 = .ok (.getfield 74, 3) := by decide +kernel
theorem dX4_from_27 : decode cX4_from 27 = .ok (.iload_n 1, 1) := by decide +kernel
theorem dX4_from_28 : decode cX4_from 28 = .ok (.aaload, 1) := by decide +kernel
theorem dX4_from_29 : decode cX4_from 29 = .ok (.astore 4, 2) := by decide +kernel
theorem dX4_from_31 : decode cX4_from 31 = .ok (.aload 4, 2) := by decide +kernel
theorem dX4_from_33 : decode cX4_from 33 = .ok (.iload_n 3, 1) := by decide +kernel
theorem dX4_from_34 : decode cX4_from 34 = .ok (.invokevirtual 82, 3) := by decide +kernel
theorem dX4_from_37 : decode cX4_from 37 = .ok (.ifCond .eq 13, 3) := by decide +kernel
theorem dX4_from_40 : decode cX4_from 40 = .ok (.iload_n 2, 1) := by decide +kernel
theorem dX4_from_41 : decode cX4_from 41 = .ok (.aload 4, 2) := by decide +kernel
theorem dX4_from_43 : decode cX4_from 43 = .ok (.getfield 117, 3) := by decide +kernel
theorem dX4_from_46 : decode cX4_from 46 = .ok (.iushr, 1) := by decide +kernel
theorem dX4_from_47 : decode cX4_from 47 = .ok (.ifCond .eq 6, 3) := by decide +kernel
theorem dX4_from_50 : decode cX4_from 50 = .ok (.bipush (-2), 2) := by decide +kernel
theorem dX4_from_52 : decode cX4_from 52 = .ok (.ireturn, 1) := by decide +kernel
theorem dX4_from_53 : decode cX4_from 53 = .ok (.aload_n 0, 1) := by decide +kernel
theorem dX4_from_54 : decode cX4_from 54 = .ok (.getfield 44, 3) := by decide +kernel
theorem dX4_from_57 : decode cX4_from 57 = .ok (.aload 4, 2) := by decide +kernel
theorem dX4_from_59 : decode cX4_from 59 = .ok (.invokevirtual 120, 3) := by decide +kernel
theorem dX4_from_62 : decode cX4_from 62 = .ok (.aload_n 0, 1) := by decide +kernel
theorem dX4_from_63 : decode cX4_from 63 = .ok (.getfield 44, 3) := by decide +kernel
theorem dX4_from_66 : decode cX4_from 66 = .ok (.iload_n 2, 1) := by decide +kernel
theorem dX4_from_67 : decode cX4_from 67 = .ok (.iload_n 3, 1) := by decide +kernel
theorem dX4_from_68 : decode cX4_from 68 = .ok (.invokevirtual 124, 3) := by decide +kernel
theorem dX4_from_71 : decode cX4_from 71 = .ok (.ifCond .eq 7, 3) := by decide +kernel
theorem dX4_from_74 : decode cX4_from 74 = .ok (.iconst 1, 1) := by decide +kernel
theorem dX4_from_75 : decode cX4_from 75 = .ok (.goto 4, 3) := by decide +kernel
theorem dX4_from_78 : decode cX4_from 78 = .ok (.iconst 0, 1) := by decide +kernel
theorem dX4_from_79 : decode cX4_from 79 = .ok (.ireturn, 1) := by decide +kernel
theorem dX4_worlds_0 : decode cX4_worlds 0 = .ok (.iload_n 1, 1) := by decide +kernel
theorem dX4_worlds_1 : decode cX4_worlds 1 = .ok (.invokestatic 55, 3) := by decide +kernel
theorem dX4_worlds_4 : decode cX4_worlds 4 = .ok (.ifCond .ne 5, 3) := by decide +kernel
theorem dX4_worlds_7 : decode cX4_worlds 7 = .ok (.iconst (-1), 1) := by decide +kernel
theorem dX4_worlds_8 : decode cX4_worlds 8 = .ok (.ireturn, 1) := by decide +kernel
theorem dX4_worlds_9 : decode cX4_worlds 9 = .ok (.iload_n 2, 1) := by decide +kernel
theorem dX4_worlds_10 : decode cX4_worlds 10 = .ok (.ifCond .lt 8, 3) := by decide +kernel
theorem dX4_worlds_13 : decode cX4_worlds 13 = .ok (.iload_n 2, 1) := by decide +kernel
theorem dX4_worlds_14 : decode cX4_worlds 14 = .ok (.iconst 5, 1) := by decide +kernel
theorem dX4_worlds_15 : decode cX4_worlds 15 = .ok (.if_icmp .le 6, 3) := by decide +kernel
theorem dX4_worlds_18 : decode cX4_worlds 18 = .ok (.bipush (-2), 2) := by decide +kernel
theorem dX4_worlds_20 : decode cX4_worlds 20 = .ok (.ireturn, 1) := by decide +kernel
theorem dX4_worlds_21 : decode cX4_worlds 21 = .ok (.aload_n 0, 1) := by decide +kernel
theorem dX4_worlds_22 : decode cX4_worlds 22 = .ok (.iload_n 1, 1) := by decide +kernel
theorem dX4_worlds_23 : decode cX4_worlds 23 = .ok (.invokevirtual 71, 3) := by decide +kernel
theorem dX4_worlds_26 : decode cX4_worlds 26 = .ok (.ifCond .eq 6, 3) := by decide +kernel
theorem dX4_worlds_29 : decode cX4_worlds 29 = .ok (.bipush (-3), 2) := by decide +kernel
theorem dX4_worlds_31 : decode cX4_worlds 31 = .ok (.ireturn, 1) := by decide +kernel
theorem dX4_worlds_32 : decode cX4_worlds 32 = .ok (.aload_n 0, 1) := by decide +kernel
theorem dX4_worlds_33 : decode cX4_worlds 33 = .ok (.getfield 44, 3) := by decide +kernel
theorem dX4_worlds_36 : decode cX4_worlds 36 = .ok (.aload_n 0, 1) := by decide +kernel
theorem dX4_worlds_37 : decode cX4_worlds 37 = .ok (.getfield 10, 3) := by decide +kernel
theorem dX4_worlds_40 : decode cX4_worlds 40 = .ok (.getfield 74, 3) := by decide +kernel
theorem dX4_worlds_43 : decode cX4_worlds 43 = .ok (.iload_n 1, 1) := by decide +kernel
theorem dX4_worlds_44 : decode cX4_worlds 44 = .ok (.aaload, 1) := by decide +kernel
theorem dX4_worlds_45 : decode cX4_worlds 45 = .ok (.invokevirtual 120, 3) := by decide +kernel
theorem dX4_worlds_48 : decode cX4_worlds 48 = .ok (.iload_n 2, 1) := by decide +kernel
theorem dX4_worlds_49 : decode cX4_worlds 49 = .ok (.tableswitch 75 0 4 #[35, 43, 51, 59, 67], 35) := by decide +kernel
theorem dX4_worlds_84 : decode cX4_worlds 84 = .ok (.aload_n 0, 1) := by decide +kernel
theorem dX4_worlds_85 : decode cX4_worlds 85 = .ok (.getfield 44, 3) := by decide +kernel
theorem dX4_worlds_88 : decode cX4_worlds 88 = .ok (.invokevirtual 128, 3) := by decide +kernel
theorem dX4_worlds_91 : decode cX4_worlds 91 = .ok (.ireturn, 1) := by decide +kernel
theorem dX4_worlds_92 : decode cX4_worlds 92 = .ok (.aload_n 0, 1) := by decide +kernel
theorem dX4_worlds_93 : decode cX4_worlds 93 = .ok (.getfield 44, 3) := by decide +kernel
theorem dX4_worlds_96 : decode cX4_worlds 96 = .ok (.invokevirtual 130, 3) := by decide +kernel
theorem dX4_worlds_99 : decode cX4_worlds 99 = .ok (.ireturn, 1) := by decide +kernel
theorem dX4_worlds_100 : decode cX4_worlds 100 = .ok (.aload_n 0, 1) := by decide +kernel
theorem dX4_worlds_101 : decode cX4_worlds 101 = .ok (.getfield 44, 3) := by decide +kernel
theorem dX4_worlds_104 : decode cX4_worlds 104 = .ok (.invokevirtual 133, 3) := by decide +kernel
theorem dX4_worlds_107 : decode cX4_worlds 107 = .ok (.ireturn, 1) := by decide +kernel
theorem dX4_worlds_108 : decode cX4_worlds 108 = .ok (.aload_n 0, 1) := by decide +kernel
theorem dX4_worlds_109 : decode cX4_worlds 109 = .ok (.getfield 44, 3) := by decide +kernel
theorem dX4_worlds_112 : decode cX4_worlds 112 = .ok (.invokevirtual 136, 3) := by decide +kernel
theorem dX4_worlds_115 : decode cX4_worlds 115 = .ok (.ireturn, 1) := by decide +kernel
theorem dX4_worlds_116 : decode cX4_worlds 116 = .ok (.aload_n 0, 1) := by decide +kernel
theorem dX4_worlds_117 : decode cX4_worlds 117 = .ok (.getfield 44, 3) := by decide +kernel
theorem dX4_worlds_120 : decode cX4_worlds 120 = .ok (.invokevirtual 139, 3) := by decide +kernel
theorem dX4_worlds_123 : decode cX4_worlds 123 = .ok (.ireturn, 1) := by decide +kernel
theorem dX4_worlds_124 : decode cX4_worlds 124 = .ok (.aload_n 0, 1) := by decide +kernel
theorem dX4_worlds_125 : decode cX4_worlds 125 = .ok (.getfield 44, 3) := by decide +kernel
theorem dX4_worlds_128 : decode cX4_worlds 128 = .ok (.invokevirtual 142, 3) := by decide +kernel
theorem dX4_worlds_131 : decode cX4_worlds 131 = .ok (.ireturn, 1) := by decide +kernel
theorem dX4_world_0 : decode cX4_world 0 = .ok (.iload_n 1, 1) := by decide +kernel
theorem dX4_world_1 : decode cX4_world 1 = .ok (.invokestatic 55, 3) := by decide +kernel
theorem dX4_world_4 : decode cX4_world 4 = .ok (.ifCond .ne 5, 3) := by decide +kernel
theorem dX4_world_7 : decode cX4_world 7 = .ok (.iconst (-1), 1) := by decide +kernel
theorem dX4_world_8 : decode cX4_world 8 = .ok (.ireturn, 1) := by decide +kernel
theorem dX4_world_9 : decode cX4_world 9 = .ok (.iload_n 3, 1) := by decide +kernel
theorem dX4_world_10 : decode cX4_world 10 = .ok (.ifCond .lt 8, 3) := by decide +kernel
theorem dX4_world_13 : decode cX4_world 13 = .ok (.iload_n 3, 1) := by decide +kernel
theorem dX4_world_14 : decode cX4_world 14 = .ok (.iconst 2, 1) := by decide +kernel
theorem dX4_world_15 : decode cX4_world 15 = .ok (.if_icmp .le 6, 3) := by decide +kernel
theorem dX4_world_18 : decode cX4_world 18 = .ok (.bipush (-2), 2) := by decide +kernel
theorem dX4_world_20 : decode cX4_world 20 = .ok (.ireturn, 1) := by decide +kernel
theorem dX4_world_21 : decode cX4_world 21 = .ok (.aload_n 0, 1) := by decide +kernel
theorem dX4_world_22 : decode cX4_world 22 = .ok (.iload_n 1, 1) := by decide +kernel
theorem dX4_world_23 : decode cX4_world 23 = .ok (.invokevirtual 71, 3) := by decide +kernel
theorem dX4_world_26 : decode cX4_world 26 = .ok (.ifCond .eq 6, 3) := by decide +kernel
theorem dX4_world_29 : decode cX4_world 29 = .ok (.bipush (-3), 2) := by decide +kernel
theorem dX4_world_31 : decode cX4_world 31 = .ok (.ireturn, 1) := by decide +kernel
theorem dX4_world_32 : decode cX4_world 32 = .ok (.aload_n 0, 1) := by decide +kernel
theorem dX4_world_33 : decode cX4_world 33 = .ok (.getfield 44, 3) := by decide +kernel
theorem dX4_world_36 : decode cX4_world 36 = .ok (.aload_n 0, 1) := by decide +kernel
theorem dX4_world_37 : decode cX4_world 37 = .ok (.getfield 10, 3) := by decide +kernel
theorem dX4_world_40 : decode cX4_world 40 = .ok (.getfield 74, 3) := by decide +kernel
theorem dX4_world_43 : decode cX4_world 43 = .ok (.iload_n 1, 1) := by decide +kernel
theorem dX4_world_44 : decode cX4_world 44 = .ok (.aaload, 1) := by decide +kernel
theorem dX4_world_45 : decode cX4_world 45 = .ok (.invokevirtual 120, 3) := by decide +kernel
theorem dX4_world_48 : decode cX4_world 48 = .ok (.iload_n 2, 1) := by decide +kernel
theorem dX4_world_49 : decode cX4_world 49 = .ok (.ifCond .lt 14, 3) := by decide +kernel
theorem dX4_world_52 : decode cX4_world 52 = .ok (.iload_n 2, 1) := by decide +kernel
theorem dX4_world_53 : decode cX4_world 53 = .ok (.aload_n 0, 1) := by decide +kernel
theorem dX4_world_54 : decode cX4_world 54 = .ok (.getfield 44, 3) := by decide +kernel
theorem dX4_world_57 : decode cX4_world 57 = .ok (.invokevirtual 128, 3) := by decide +kernel
theorem dX4_world_60 : decode cX4_world 60 = .ok (.if_icmp .lt 6, 3) := by decide +kernel
theorem dX4_world_63 : decode cX4_world 63 = .ok (.bipush (-6), 2) := by decide +kernel
theorem dX4_world_65 : decode cX4_world 65 = .ok (.ireturn, 1) := by decide +kernel
theorem dX4_world_66 : decode cX4_world 66 = .ok (.iload_n 3, 1) := by decide +kernel
theorem dX4_world_67 : decode cX4_world 67 = .ok (.lookupswitch 43 #[(0, 25), (1, 34)], 25) := by decide +kernel
theorem dX4_world_92 : decode cX4_world 92 = .ok (.aload_n 0, 1) := by decide +kernel
theorem dX4_world_93 : decode cX4_world 93 = .ok (.getfield 44, 3) := by decide +kernel
theorem dX4_world_96 : decode cX4_world 96 = .ok (.iload_n 2, 1) := by decide +kernel
theorem dX4_world_97 : decode cX4_world 97 = .ok (.invokevirtual 145, 3) := by decide +kernel
theorem dX4_world_100 : decode cX4_world 100 = .ok (.ireturn, 1) := by decide +kernel
theorem dX4_world_101 : decode cX4_world 101 = .ok (.aload_n 0, 1) := by decide +kernel
theorem dX4_world_102 : decode cX4_world 102 = .ok (.getfield 44, 3) := by decide +kernel
theorem dX4_world_105 : decode cX4_world 105 = .ok (.iload_n 2, 1) := by decide +kernel
theorem dX4_world_106 : decode cX4_world 106 = .ok (.invokevirtual 148, 3) := by decide +kernel
theorem dX4_world_109 : decode cX4_world 109 = .ok (.ireturn, 1) := by decide +kernel
theorem dX4_world_110 : decode cX4_world 110 = .ok (.aload_n 0, 1) := by decide +kernel
theorem dX4_world_111 : decode cX4_world 111 = .ok (.getfield 44, 3) := by decide +kernel
theorem dX4_world_114 : decode cX4_world 114 = .ok (.iload_n 2, 1) := by decide +kernel
theorem dX4_world_115 : decode cX4_world 115 = .ok (.invokevirtual 151, 3) := by decide +kernel
theorem dX4_world_118 : decode cX4_world 118 = .ok (.ireturn, 1) := by decide +kernel
theorem dX4_image_0 : decode cX4_image 0 = .ok (.iload_n 1, 1) := by decide +kernel
theorem dX4_image_1 : decode cX4_image 1 = .ok (.invokestatic 154, 3) := by decide +kernel
theorem dX4_image_4 : decode cX4_image 4 = .ok (.ifCond .ne 6, 3) := by decide +kernel
theorem dX4_image_7 : decode cX4_image 7 = .ok (.bipush (-2), 2) := by decide +kernel
theorem dX4_image_9 : decode cX4_image 9 = .ok (.ireturn, 1) := by decide +kernel
theorem dX4_image_10 : decode cX4_image 10 = .ok (.aload_n 0, 1) := by decide +kernel
theorem dX4_image_11 : decode cX4_image 11 = .ok (.getfield 16, 3) := by decide +kernel
theorem dX4_image_14 : decode cX4_image 14 = .ok (.iload_n 1, 1) := by decide +kernel
theorem dX4_image_15 : decode cX4_image 15 = .ok (.aaload, 1) := by decide +kernel
theorem dX4_image_16 : decode cX4_image 16 = .ok (.aload_n 0, 1) := by decide +kernel
theorem dX4_image_17 : decode cX4_image 17 = .ok (.getfield 10, 3) := by decide +kernel
theorem dX4_image_20 : decode cX4_image 20 = .ok (.invokevirtual 157, 3) := by decide +kernel
theorem dX4_image_23 : decode cX4_image 23 = .ok (.aload_n 0, 1) := by decide +kernel
theorem dX4_image_24 : decode cX4_image 24 = .ok (.dup, 1) := by decide +kernel
theorem dX4_image_25 : decode cX4_image 25 = .ok (.getfield 20, 3) := by decide +kernel
theorem dX4_image_28 : decode cX4_image 28 = .ok (.iconst 1, 1) := by decide +kernel
theorem dX4_image_29 : decode cX4_image 29 = .ok (.iload_n 1, 1) := by decide +kernel
theorem dX4_image_30 : decode cX4_image 30 = .ok (.ishl, 1) := by decide +kernel
theorem dX4_image_31 : decode cX4_image 31 = .ok (.ior, 1) := by decide +kernel
theorem dX4_image_32 : decode cX4_image 32 = .ok (.putfield 20, 3) := by decide +kernel
theorem dX4_image_35 : decode cX4_image 35 = .ok (.iconst 1, 1) := by decide +kernel
theorem dX4_image_36 : decode cX4_image 36 = .ok (.ireturn, 1) := by decide +kernel
theorem dX4_restore_0 : decode cX4_restore 0 = .ok (.iload_n 1, 1) := by decide +kernel
theorem dX4_restore_1 : decode cX4_restore 1 = .ok (.invokestatic 154, 3) := by decide +kernel
theorem dX4_restore_4 : decode cX4_restore 4 = .ok (.ifCond .ne 6, 3) := by decide +kernel
theorem dX4_restore_7 : decode cX4_restore 7 = .ok (.bipush (-2), 2) := by decide +kernel
theorem dX4_restore_9 : decode cX4_restore 9 = .ok (.ireturn, 1) := by decide +kernel
theorem dX4_restore_10 : decode cX4_restore 10 = .ok (.aload_n 0, 1) := by decide +kernel
theorem dX4_restore_11 : decode cX4_restore 11 = .ok (.getfield 20, 3) := by decide +kernel
theorem dX4_restore_14 : decode cX4_restore 14 = .ok (.iload_n 1, 1) := by decide +kernel
theorem dX4_restore_15 : decode cX4_restore 15 = .ok (.invokestatic 161, 3) := by decide +kernel
theorem dX4_restore_18 : decode cX4_restore 18 = .ok (.ifCond .ne 6, 3) := by decide +kernel
theorem dX4_restore_21 : decode cX4_restore 21 = .ok (.bipush (-3), 2) := by decide +kernel
theorem dX4_restore_23 : decode cX4_restore 23 = .ok (.ireturn, 1) := by decide +kernel
theorem dX4_restore_24 : decode cX4_restore 24 = .ok (.aload_n 0, 1) := by decide +kernel
theorem dX4_restore_25 : decode cX4_restore 25 = .ok (.getfield 10, 3) := by decide +kernel
theorem dX4_restore_28 : decode cX4_restore 28 = .ok (.aload_n 0, 1) := by decide +kernel
theorem dX4_restore_29 : decode cX4_restore 29 = .ok (.getfield 16, 3) := by decide +kernel
theorem dX4_restore_32 : decode cX4_restore 32 = .ok (.iload_n 1, 1) := by decide +kernel
theorem dX4_restore_33 : decode cX4_restore 33 = .ok (.aaload, 1) := by decide +kernel
theorem dX4_restore_34 : decode cX4_restore 34 = .ok (.invokevirtual 157, 3) := by decide +kernel
theorem dX4_restore_37 : decode cX4_restore 37 = .ok (.iconst 1, 1) := by decide +kernel
theorem dX4_restore_38 : decode cX4_restore 38 = .ok (.ireturn, 1) := by decide +kernel
theorem dX4_count_0 : decode cX4_count 0 = .ok (.iload_n 1, 1) := by decide +kernel
theorem dX4_count_1 : decode cX4_count 1 = .ok (.tableswitch 80 0 5 #[39, 44, 49, 59, 67, 75], 39) := by decide +kernel
theorem dX4_count_40 : decode cX4_count 40 = .ok (.aload_n 0, 1) := by decide +kernel
theorem dX4_count_41 : decode cX4_count 41 = .ok (.invokevirtual 164, 3) := by decide +kernel
theorem dX4_count_44 : decode cX4_count 44 = .ok (.ireturn, 1) := by decide +kernel
theorem dX4_count_45 : decode cX4_count 45 = .ok (.aload_n 0, 1) := by decide +kernel
theorem dX4_count_46 : decode cX4_count 46 = .ok (.invokevirtual 167, 3) := by decide +kernel
theorem dX4_count_49 : decode cX4_count 49 = .ok (.ireturn, 1) := by decide +kernel
theorem dX4_count_50 : decode cX4_count 50 = .ok (.aload_n 0, 1) := by decide +kernel
theorem dX4_count_51 : decode cX4_count 51 = .ok (.invokevirtual 170, 3) := by decide +kernel
theorem dX4_count_54 : decode cX4_count 54 = .ok (.aload_n 0, 1) := by decide +kernel
theorem dX4_count_55 : decode cX4_count 55 = .ok (.invokevirtual 167, 3) := by decide +kernel
theorem dX4_count_58 : decode cX4_count 58 = .ok (.isub, 1) := by decide +kernel
theorem dX4_count_59 : decode cX4_count 59 = .ok (.ireturn, 1) := by decide +kernel
theorem dX4_count_60 : decode cX4_count 60 = .ok (.aload_n 0, 1) := by decide +kernel
theorem dX4_count_61 : decode cX4_count 61 = .ok (.getfield 10, 3) := by decide +kernel
theorem dX4_count_64 : decode cX4_count 64 = .ok (.invokevirtual 173, 3) := by decide +kernel
theorem dX4_count_67 : decode cX4_count 67 = .ok (.ireturn, 1) := by decide +kernel
theorem dX4_count_68 : decode cX4_count 68 = .ok (.aload_n 0, 1) := by decide +kernel
theorem dX4_count_69 : decode cX4_count 69 = .ok (.getfield 27, 3) := by decide +kernel
theorem dX4_count_72 : decode cX4_count 72 = .ok (.getfield 48, 3) := by decide +kernel
theorem dX4_count_75 : decode cX4_count 75 = .ok (.ireturn, 1) := by decide +kernel
theorem dX4_count_76 : decode cX4_count 76 = .ok (.aload_n 0, 1) := by decide +kernel
theorem dX4_count_77 : decode cX4_count 77 = .ok (.getfield 20, 3) := by decide +kernel
theorem dX4_count_80 : decode cX4_count 80 = .ok (.ireturn, 1) := by decide +kernel
theorem dX4_count_81 : decode cX4_count 81 = .ok (.iload_n 1, 1) := by decide +kernel
theorem dX4_count_82 : decode cX4_count 82 = .ok (.bipush 10, 2) := by decide +kernel
theorem dX4_count_84 : decode cX4_count 84 = .ok (.isub, 1) := by decide +kernel
theorem dX4_count_85 : decode cX4_count 85 = .ok (.invokestatic 55, 3) := by decide +kernel
theorem dX4_count_88 : decode cX4_count 88 = .ok (.ifCond .eq 21, 3) := by decide +kernel
theorem dX4_count_91 : decode cX4_count 91 = .ok (.aload_n 0, 1) := by decide +kernel
theorem dX4_count_92 : decode cX4_count 92 = .ok (.getfield 10, 3) := by decide +kernel
theorem dX4_count_95 : decode cX4_count 95 = .ok (.getfield 74, 3) := by decide +kernel
theorem dX4_count_98 : decode cX4_count 98 = .ok (.iload_n 1, 1) := by decide +kernel
theorem dX4_count_99 : decode cX4_count 99 = .ok (.bipush 10, 2) := by decide +kernel
theorem dX4_count_101 : decode cX4_count 101 = .ok (.isub, 1) := by decide +kernel
theorem dX4_count_102 : decode cX4_count 102 = .ok (.aaload, 1) := by decide +kernel
theorem dX4_count_103 : decode cX4_count 103 = .ok (.getfield 117, 3) := by decide +kernel
theorem dX4_count_106 : decode cX4_count 106 = .ok (.goto 5, 3) := by decide +kernel
theorem dX4_count_109 : decode cX4_count 109 = .ok (.bipush (-2), 2) := by decide +kernel
theorem dX4_count_111 : decode cX4_count 111 = .ok (.ireturn, 1) := by decide +kernel
theorem dX4_countHeld_0 : decode cX4_countHeld 0 = .ok (.iconst 0, 1) := by decide +kernel
theorem dX4_countHeld_1 : decode cX4_countHeld 1 = .ok (.istore_n 1, 1) := by decide +kernel
theorem dX4_countHeld_2 : decode cX4_countHeld 2 = .ok (.iconst 0, 1) := by decide +kernel
theorem dX4_countHeld_3 : decode cX4_countHeld 3 = .ok (.istore_n 2, 1) := by decide +kernel
theorem dX4_countHeld_4 : decode cX4_countHeld 4 = .ok (.iload_n 2, 1) := by decide +kernel
theorem dX4_countHeld_5 : decode cX4_countHeld 5 = .ok (.bipush 6, 2) := by decide +kernel
theorem dX4_countHeld_7 : decode cX4_countHeld 7 = .ok (.if_icmp .ge 20, 3) := by decide +kernel
theorem dX4_countHeld_10 : decode cX4_countHeld 10 = .ok (.aload_n 0, 1) := by decide +kernel
theorem dX4_countHeld_11 : decode cX4_countHeld 11 = .ok (.iload_n 2, 1) := by decide +kernel
theorem dX4_countHeld_12 : decode cX4_countHeld 12 = .ok (.invokevirtual 71, 3) := by decide +kernel
theorem dX4_countHeld_15 : decode cX4_countHeld 15 = .ok (.ifCond .ne 6, 3) := by decide +kernel
theorem dX4_countHeld_18 : decode cX4_countHeld 18 = .ok (.iinc 1 1, 3) := by decide +kernel
theorem dX4_countHeld_21 : decode cX4_countHeld 21 = .ok (.iinc 2 1, 3) := by decide +kernel
theorem dX4_countHeld_24 : decode cX4_countHeld 24 = .ok (.goto (-20), 3) := by decide +kernel
theorem dX4_countHeld_27 : decode cX4_countHeld 27 = .ok (.iload_n 1, 1) := by decide +kernel
theorem dX4_countHeld_28 : decode cX4_countHeld 28 = .ok (.ireturn, 1) := by decide +kernel
theorem dX4_countPlain_0 : decode cX4_countPlain 0 = .ok (.iconst 0, 1) := by decide +kernel
theorem dX4_countPlain_1 : decode cX4_countPlain 1 = .ok (.istore_n 1, 1) := by decide +kernel
theorem dX4_countPlain_2 : decode cX4_countPlain 2 = .ok (.iconst 0, 1) := by decide +kernel
theorem dX4_countPlain_3 : decode cX4_countPlain 3 = .ok (.istore_n 2, 1) := by decide +kernel
theorem dX4_countPlain_4 : decode cX4_countPlain 4 = .ok (.iload_n 2, 1) := by decide +kernel
theorem dX4_countPlain_5 : decode cX4_countPlain 5 = .ok (.bipush 6, 2) := by decide +kernel
theorem dX4_countPlain_7 : decode cX4_countPlain 7 = .ok (.if_icmp .ge 36, 3) := by decide +kernel
theorem dX4_countPlain_10 : decode cX4_countPlain 10 = .ok (.aload_n 0, 1) := by decide +kernel
theorem dX4_countPlain_11 : decode cX4_countPlain 11 = .ok (.iload_n 2, 1) := by decide +kernel
theorem dX4_countPlain_12 : decode cX4_countPlain 12 = .ok (.invokevirtual 71, 3) := by decide +kernel
theorem dX4_countPlain_15 : decode cX4_countPlain 15 = .ok (.ifCond .ne 22, 3) := by decide +kernel
theorem dX4_countPlain_18 : decode cX4_countPlain 18 = .ok (.aload_n 0, 1) := by decide +kernel
theorem dX4_countPlain_19 : decode cX4_countPlain 19 = .ok (.aload_n 0, 1) := by decide +kernel
theorem dX4_countPlain_20 : decode cX4_countPlain 20 = .ok (.getfield 10, 3) := by decide +kernel
theorem dX4_countPlain_23 : decode cX4_countPlain 23 = .ok (.getfield 74, 3) := by decide +kernel
theorem dX4_countPlain_26 : decode cX4_countPlain 26 = .ok (.iload_n 2, 1) := by decide +kernel
theorem dX4_countPlain_27 : decode cX4_countPlain 27 = .ok (.aaload, 1) := by decide +kernel
theorem dX4_countPlain_28 : decode cX4_countPlain 28 = .ok (.invokevirtual 109, 3) := by decide +kernel
theorem dX4_countPlain_31 : decode cX4_countPlain 31 = .ok (.ifCond .eq 6, 3) := by decide +kernel
theorem dX4_countPlain_34 : decode cX4_countPlain 34 = .ok (.iinc 1 1, 3) := by decide +kernel
theorem dX4_countPlain_37 : decode cX4_countPlain 37 = .ok (.iinc 2 1, 3) := by decide +kernel
theorem dX4_countPlain_40 : decode cX4_countPlain 40 = .ok (.goto (-36), 3) := by decide +kernel
theorem dX4_countPlain_43 : decode cX4_countPlain 43 = .ok (.iload_n 1, 1) := by decide +kernel
theorem dX4_countPlain_44 : decode cX4_countPlain 44 = .ok (.ireturn, 1) := by decide +kernel
theorem dX4_countTrueByRows_0 : decode cX4_countTrueByRows 0 = .ok (.iconst 0, 1) := by decide +kernel
theorem dX4_countTrueByRows_1 : decode cX4_countTrueByRows 1 = .ok (.istore_n 1, 1) := by decide +kernel
theorem dX4_countTrueByRows_2 : decode cX4_countTrueByRows 2 = .ok (.iconst 0, 1) := by decide +kernel
theorem dX4_countTrueByRows_3 : decode cX4_countTrueByRows 3 = .ok (.istore_n 2, 1) := by decide +kernel
theorem dX4_countTrueByRows_4 : decode cX4_countTrueByRows 4 = .ok (.iload_n 2, 1) := by decide +kernel
theorem dX4_countTrueByRows_5 : decode cX4_countTrueByRows 5 = .ok (.bipush 6, 2) := by decide +kernel
theorem dX4_countTrueByRows_7 : decode cX4_countTrueByRows 7 = .ok (.if_icmp .ge 35, 3) := by decide +kernel
theorem dX4_countTrueByRows_10 : decode cX4_countTrueByRows 10 = .ok (.aload_n 0, 1) := by decide +kernel
theorem dX4_countTrueByRows_11 : decode cX4_countTrueByRows 11 = .ok (.iload_n 2, 1) := by decide +kernel
theorem dX4_countTrueByRows_12 : decode cX4_countTrueByRows 12 = .ok (.invokevirtual 71, 3) := by decide +kernel
theorem dX4_countTrueByRows_15 : decode cX4_countTrueByRows 15 = .ok (.ifCond .ne 21, 3) := by decide +kernel
theorem dX4_countTrueByRows_18 : decode cX4_countTrueByRows 18 = .ok (.aload_n 0, 1) := by decide +kernel
theorem dX4_countTrueByRows_19 : decode cX4_countTrueByRows 19 = .ok (.getfield 10, 3) := by decide +kernel
theorem dX4_countTrueByRows_22 : decode cX4_countTrueByRows 22 = .ok (.getfield 74, 3) := by decide +kernel
theorem dX4_countTrueByRows_25 : decode cX4_countTrueByRows 25 = .ok (.iload_n 2, 1) := by decide +kernel
theorem dX4_countTrueByRows_26 : decode cX4_countTrueByRows 26 = .ok (.aaload, 1) := by decide +kernel
theorem dX4_countTrueByRows_27 : decode cX4_countTrueByRows 27 = .ok (.invokevirtual 113, 3) := by decide +kernel
theorem dX4_countTrueByRows_30 : decode cX4_countTrueByRows 30 = .ok (.ifCond .eq 6, 3) := by decide +kernel
theorem dX4_countTrueByRows_33 : decode cX4_countTrueByRows 33 = .ok (.iinc 1 1, 3) := by decide +kernel
theorem dX4_countTrueByRows_36 : decode cX4_countTrueByRows 36 = .ok (.iinc 2 1, 3) := by decide +kernel
theorem dX4_countTrueByRows_39 : decode cX4_countTrueByRows 39 = .ok (.goto (-35), 3) := by decide +kernel
theorem dX4_countTrueByRows_42 : decode cX4_countTrueByRows 42 = .ok (.iload_n 1, 1) := by decide +kernel
theorem dX4_countTrueByRows_43 : decode cX4_countTrueByRows 43 = .ok (.ireturn, 1) := by decide +kernel
theorem dX4_isPlain_0 : decode cX4_isPlain 0 = .ok (.aload_n 1, 1) := by decide +kernel
theorem dX4_isPlain_1 : decode cX4_isPlain 1 = .ok (.invokevirtual 113, 3) := by decide +kernel
theorem dX4_isPlain_4 : decode cX4_isPlain 4 = .ok (.ifCond .ne 5, 3) := by decide +kernel
theorem dX4_isPlain_7 : decode cX4_isPlain 7 = .ok (.iconst 0, 1) := by decide +kernel
theorem dX4_isPlain_8 : decode cX4_isPlain 8 = .ok (.ireturn, 1) := by decide +kernel
theorem dX4_isPlain_9 : decode cX4_isPlain 9 = .ok (.aload_n 0, 1) := by decide +kernel
theorem dX4_isPlain_10 : decode cX4_isPlain 10 = .ok (.getfield 44, 3) := by decide +kernel
theorem dX4_isPlain_13 : decode cX4_isPlain 13 = .ok (.aload_n 1, 1) := by decide +kernel
theorem dX4_isPlain_14 : decode cX4_isPlain 14 = .ok (.invokevirtual 120, 3) := by decide +kernel
theorem dX4_isPlain_17 : decode cX4_isPlain 17 = .ok (.aload_n 0, 1) := by decide +kernel
theorem dX4_isPlain_18 : decode cX4_isPlain 18 = .ok (.getfield 44, 3) := by decide +kernel
theorem dX4_isPlain_21 : decode cX4_isPlain 21 = .ok (.invokevirtual 130, 3) := by decide +kernel
theorem dX4_isPlain_24 : decode cX4_isPlain 24 = .ok (.ifCond .ne 7, 3) := by decide +kernel
