theorem dX1_init_0 : decode cX1_init 0 = .ok (.aload_n 0, 1) := by decide +kernel
theorem dX1_init_1 : decode cX1_init 1 = .ok (.invokespecial 3, 3) := by decide +kernel
theorem dX1_init_4 : decode cX1_init 4 = .ok (.aload_n 0, 1) := by decide +kernel
theorem dX1_init_5 : decode cX1_init 5 = .ok (.iconst 0, 1) := by decide +kernel
theorem dX1_init_6 : decode cX1_init 6 = .ok (.putfield 9, 3) := by decide +kernel
theorem dX1_init_9 : decode cX1_init 9 = .ok (.aload_n 0, 1) := by decide +kernel
theorem dX1_init_10 : decode cX1_init 10 = .ok (.iconst 0, 1) := by decide +kernel
theorem dX1_init_11 : decode cX1_init 11 = .ok (.putfield 15, 3) := by decide +kernel
theorem dX1_init_14 : decode cX1_init 14 = .ok (.aload_n 0, 1) := by decide +kernel
theorem dX1_init_15 : decode cX1_init 15 = .ok (.bipush 11, 2) := by decide +kernel
theorem dX1_init_17 : decode cX1_init 17 = .ok (.newarray .int, 2) := by decide +kernel
theorem dX1_init_19 : decode cX1_init 19 = .ok (.putfield 19, 3) := by decide +kernel
theorem dX1_init_22 : decode cX1_init 22 = .ok (.aload_n 0, 1) := by decide +kernel
theorem dX1_init_23 : decode cX1_init 23 = .ok (.bipush 11, 2) := by decide +kernel
theorem dX1_init_25 : decode cX1_init 25 = .ok (.newarray .int, 2) := by decide +kernel
theorem dX1_init_27 : decode cX1_init 27 = .ok (.putfield 23, 3) := by decide +kernel
theorem dX1_init_30 : decode cX1_init 30 = .ok (.aload_n 0, 1) := by decide +kernel
theorem dX1_init_31 : decode cX1_init 31 = .ok (.bipush 11, 2) := by decide +kernel
theorem dX1_init_33 : decode cX1_init 33 = .ok (.newarray .int, 2) := by decide +kernel
theorem dX1_init_35 : decode cX1_init 35 = .ok (.putfield 26, 3) := by decide +kernel
theorem dX1_init_38 : decode cX1_init 38 = .ok (.aload_n 0, 1) := by decide +kernel
theorem dX1_init_39 : decode cX1_init 39 = .ok (.bipush 11, 2) := by decide +kernel
theorem dX1_init_41 : decode cX1_init 41 = .ok (.newarray .int, 2) := by decide +kernel
theorem dX1_init_43 : decode cX1_init 43 = .ok (.putfield 29, 3) := by decide +kernel
theorem dX1_init_46 : decode cX1_init 46 = .ok (.aload_n 0, 1) := by decide +kernel
theorem dX1_init_47 : decode cX1_init 47 = .ok (.bipush 11, 2) := by decide +kernel
theorem dX1_init_49 : decode cX1_init 49 = .ok (.newarray .int, 2) := by decide +kernel
theorem dX1_init_51 : decode cX1_init 51 = .ok (.putfield 32, 3) := by decide +kernel
theorem dX1_init_54 : decode cX1_init 54 = .ok (.aload_n 0, 1) := by decide +kernel
theorem dX1_init_55 : decode cX1_init 55 = .ok (.bipush 11, 2) := by decide +kernel
theorem dX1_init_57 : decode cX1_init 57 = .ok (.newarray .int, 2) := by decide +kernel
theorem dX1_init_59 : decode cX1_init 59 = .ok (.putfield 35, 3) := by decide +kernel
theorem dX1_init_62 : decode cX1_init 62 = .ok (.return_, 1) := by decide +kernel
theorem dX1_clear_0 : decode cX1_clear 0 = .ok (.aload_n 0, 1) := by decide +kernel
theorem dX1_clear_1 : decode cX1_clear 1 = .ok (.iconst 0, 1) := by decide +kernel
theorem dX1_clear_2 : decode cX1_clear 2 = .ok (.putfield 9, 3) := by decide +kernel
theorem dX1_clear_5 : decode cX1_clear 5 = .ok (.aload_n 0, 1) := by decide +kernel
theorem dX1_clear_6 : decode cX1_clear 6 = .ok (.iconst 0, 1) := by decide +kernel
theorem dX1_clear_7 : decode cX1_clear 7 = .ok (.putfield 15, 3) := by decide +kernel
theorem dX1_clear_10 : decode cX1_clear 10 = .ok (.return_, 1) := by decide +kernel
theorem dX1_copyFrom_0 : decode cX1_copyFrom 0 = .ok (.aload_n 0, 1) := by decide +kernel
theorem dX1_copyFrom_1 : decode cX1_copyFrom 1 = .ok (.aload_n 1, 1) := by decide +kernel
theorem dX1_copyFrom_2 : decode cX1_copyFrom 2 = .ok (.getfield 9, 3) := by decide +kernel
theorem dX1_copyFrom_5 : decode cX1_copyFrom 5 = .ok (.putfield 9, 3) := by decide +kernel
theorem dX1_copyFrom_8 : decode cX1_copyFrom 8 = .ok (.aload_n 0, 1) := by decide +kernel
theorem dX1_copyFrom_9 : decode cX1_copyFrom 9 = .ok (.aload_n 1, 1) := by decide +kernel
theorem dX1_copyFrom_10 : decode cX1_copyFrom 10 = .ok (.getfield 15, 3) := by decide +kernel
theorem dX1_copyFrom_13 : decode cX1_copyFrom 13 = .ok (.putfield 15, 3) := by decide +kernel
theorem dX1_copyFrom_16 : decode cX1_copyFrom 16 = .ok (.iconst 0, 1) := by decide +kernel
theorem dX1_copyFrom_17 : decode cX1_copyFrom 17 = .ok (.istore_n 2, 1) := by decide +kernel
theorem dX1_copyFrom_18 : decode cX1_copyFrom 18 = .ok (.iload_n 2, 1) := by decide +kernel
theorem dX1_copyFrom_19 : decode cX1_copyFrom 19 = .ok (.aload_n 1, 1) := by decide +kernel
theorem dX1_copyFrom_20 : decode cX1_copyFrom 20 = .ok (.getfield 9, 3) := by decide +kernel
theorem dX1_copyFrom_23 : decode cX1_copyFrom 23 = .ok (.if_icmp .ge 69, 3) := by decide +kernel
theorem dX1_copyFrom_26 : decode cX1_copyFrom 26 = .ok (.aload_n 0, 1) := by decide +kernel
theorem dX1_copyFrom_27 : decode cX1_copyFrom 27 = .ok (.getfield 19, 3) := by decide +kernel
theorem dX1_copyFrom_30 : decode cX1_copyFrom 30 = .ok (.iload_n 2, 1) := by decide +kernel
theorem dX1_copyFrom_31 : decode cX1_copyFrom 31 = .ok (.aload_n 1, 1) := by decide +kernel
theorem dX1_copyFrom_32 : decode cX1_copyFrom 32 = .ok (.getfield 19, 3) := by decide +kernel
theorem dX1_copyFrom_35 : decode cX1_copyFrom 35 = .ok (.iload_n 2, 1) := by decide +kernel
theorem dX1_copyFrom_36 : decode cX1_copyFrom 36 = .ok (.iaload, 1) := by decide +kernel
theorem dX1_copyFrom_37 : decode cX1_copyFrom 37 = .ok (.iastore, 1) := by decide +kernel
theorem dX1_copyFrom_38 : decode cX1_copyFrom 38 = .ok (.aload_n 0, 1) := by decide +kernel
theorem dX1_copyFrom_39 : decode cX1_copyFrom 39 = .ok (.getfield 23, 3) := by decide +kernel
theorem dX1_copyFrom_42 : decode cX1_copyFrom 42 = .ok (.iload_n 2, 1) := by decide +kernel
theorem dX1_copyFrom_43 : decode cX1_copyFrom 43 = .ok (.aload_n 1, 1) := by decide +kernel
theorem dX1_copyFrom_44 : decode cX1_copyFrom 44 = .ok (.getfield 23, 3) := by decide +kernel
theorem dX1_copyFrom_47 : decode cX1_copyFrom 47 = .ok (.iload_n 2, 1) := by decide +kernel
theorem dX1_copyFrom_48 : decode cX1_copyFrom 48 = .ok (.iaload, 1) := by decide +kernel
theorem dX1_copyFrom_49 : decode cX1_copyFrom 49 = .ok (.iastore, 1) := by decide +kernel
theorem dX1_copyFrom_50 : decode cX1_copyFrom 50 = .ok (.aload_n 0, 1) := by decide +kernel
theorem dX1_copyFrom_51 : decode cX1_copyFrom 51 = .ok (.getfield 26, 3) := by decide +kernel
theorem dX1_copyFrom_54 : decode cX1_copyFrom 54 = .ok (.iload_n 2, 1) := by decide +kernel
theorem dX1_copyFrom_55 : decode cX1_copyFrom 55 = .ok (.aload_n 1, 1) := by decide +kernel
theorem dX1_copyFrom_56 : decode cX1_copyFrom 56 = .ok (.getfield 26, 3) := by decide +kernel
theorem dX1_copyFrom_59 : decode cX1_copyFrom 59 = .ok (.iload_n 2, 1) := by decide +kernel
theorem dX1_copyFrom_60 : decode cX1_copyFrom 60 = .ok (.iaload, 1) := by decide +kernel
theorem dX1_copyFrom_61 : decode cX1_copyFrom 61 = .ok (.iastore, 1) := by decide +kernel
theorem dX1_copyFrom_62 : decode cX1_copyFrom 62 = .ok (.aload_n 0, 1) := by decide +kernel
theorem dX1_copyFrom_63 : decode cX1_copyFrom 63 = .ok (.getfield 29, 3) := by decide +kernel
theorem dX1_copyFrom_66 : decode cX1_copyFrom 66 = .ok (.iload_n 2, 1) := by decide +kernel
theorem dX1_copyFrom_67 : decode cX1_copyFrom 67 = .ok (.aload_n 1, 1) := by decide +kernel
theorem dX1_copyFrom_68 : decode cX1_copyFrom 68 = .ok (.getfield 29, 3) := by decide +kernel
theorem dX1_copyFrom_71 : decode cX1_copyFrom 71 = .ok (.iload_n 2, 1) := by decide +kernel
theorem dX1_copyFrom_72 : decode cX1_copyFrom 72 = .ok (.iaload, 1) := by decide +kernel
theorem dX1_copyFrom_73 : decode cX1_copyFrom 73 = .ok (.iastore, 1) := by decide +kernel
theorem dX1_copyFrom_74 : decode cX1_copyFrom 74 = .ok (.aload_n 0, 1) := by decide +kernel
theorem dX1_copyFrom_75 : decode cX1_copyFrom 75 = .ok (.getfield 32, 3) := by decide +kernel
theorem dX1_copyFrom_78 : decode cX1_copyFrom 78 = .ok (.iload_n 2, 1) := by decide +kernel
theorem dX1_copyFrom_79 : decode cX1_copyFrom 79 = .ok (.aload_n 1, 1) := by decide +kernel
theorem dX1_copyFrom_80 : decode cX1_copyFrom 80 = .ok (.getfield 32, 3) := by decide +kernel
theorem dX1_copyFrom_83 : decode cX1_copyFrom 83 = .ok (.iload_n 2, 1) := by decide +kernel
theorem dX1_copyFrom_84 : decode cX1_copyFrom 84 = .ok (.iaload, 1) := by decide +kernel
theorem dX1_copyFrom_85 : decode cX1_copyFrom 85 = .ok (.iastore, 1) := by decide +kernel
theorem dX1_copyFrom_86 : decode cX1_copyFrom 86 = .ok (.iinc 2 1, 3) := by decide +kernel
theorem dX1_copyFrom_89 : decode cX1_copyFrom 89 = .ok (.goto (-71), 3) := by decide +kernel
theorem dX1_copyFrom_92 : decode cX1_copyFrom 92 = .ok (.return_, 1) := by decide +kernel
theorem dX1_sameAs_0 : decode cX1_sameAs 0 = .ok (.aload_n 0, 1) := by decide +kernel
theorem dX1_sameAs_1 : decode cX1_sameAs 1 = .ok (.getfield 9, 3) := by decide +kernel
theorem dX1_sameAs_4 : decode cX1_sameAs 4 = .ok (.aload_n 1, 1) := by decide +kernel
theorem dX1_sameAs_5 : decode cX1_sameAs 5 = .ok (.getfield 9, 3) := by decide +kernel
theorem dX1_sameAs_8 : decode cX1_sameAs 8 = .ok (.if_icmp .eq 5, 3) := by decide +kernel
theorem dX1_sameAs_11 : decode cX1_sameAs 11 = .ok (.iconst 0, 1) := by decide +kernel
theorem dX1_sameAs_12 : decode cX1_sameAs 12 = .ok (.ireturn, 1) := by decide +kernel
theorem dX1_sameAs_13 : decode cX1_sameAs 13 = .ok (.iconst 0, 1) := by decide +kernel
theorem dX1_sameAs_14 : decode cX1_sameAs 14 = .ok (.istore_n 2, 1) := by decide +kernel
theorem dX1_sameAs_15 : decode cX1_sameAs 15 = .ok (.iload_n 2, 1) := by decide +kernel
theorem dX1_sameAs_16 : decode cX1_sameAs 16 = .ok (.aload_n 0, 1) := by decide +kernel
theorem dX1_sameAs_17 : decode cX1_sameAs 17 = .ok (.getfield 9, 3) := by decide +kernel
theorem dX1_sameAs_20 : decode cX1_sameAs 20 = .ok (.if_icmp .ge 37, 3) := by decide +kernel
theorem dX1_sameAs_23 : decode cX1_sameAs 23 = .ok (.aload_n 0, 1) := by decide +kernel
theorem dX1_sameAs_24 : decode cX1_sameAs 24 = .ok (.iload_n 2, 1) := by decide +kernel
theorem dX1_sameAs_25 : decode cX1_sameAs 25 = .ok (.aload_n 1, 1) := by decide +kernel
theorem dX1_sameAs_26 : decode cX1_sameAs 26 = .ok (.getfield 19, 3) := by decide +kernel
theorem dX1_sameAs_29 : decode cX1_sameAs 29 = .ok (.iload_n 2, 1) := by decide +kernel
theorem dX1_sameAs_30 : decode cX1_sameAs 30 = .ok (.iaload, 1) := by decide +kernel
theorem dX1_sameAs_31 : decode cX1_sameAs 31 = .ok (.aload_n 1, 1) := by decide +kernel
theorem dX1_sameAs_32 : decode cX1_sameAs 32 = .ok (.getfield 23, 3) := by decide +kernel
theorem dX1_sameAs_35 : decode cX1_sameAs 35 = .ok (.iload_n 2, 1) := by decide +kernel
theorem dX1_sameAs_36 : decode cX1_sameAs 36 = .ok (.iaload, 1) := by decide +kernel
theorem dX1_sameAs_37 : decode cX1_sameAs 37 = .ok (.aload_n 1, 1) := by decide +kernel
theorem dX1_sameAs_38 : decode cX1_sameAs 38 = .ok (.getfield 26, 3) := by decide +kernel
theorem dX1_sameAs_41 : decode cX1_sameAs 41 = .ok (.iload_n 2, 1) := by decide +kernel
theorem dX1_sameAs_42 : decode cX1_sameAs 42 = .ok (.iaload, 1) := by decide +kernel
theorem dX1_sameAs_43 : decode cX1_sameAs 43 = .ok (.invokevirtual 38, 3) := by decide +kernel
theorem dX1_sameAs_46 : decode cX1_sameAs 46 = .ok (.ifCond .ne 5, 3) := by decide +kernel
theorem dX1_sameAs_49 : decode cX1_sameAs 49 = .ok (.iconst 0, 1) := by decide +kernel
theorem dX1_sameAs_50 : decode cX1_sameAs 50 = .ok (.ireturn, 1) := by decide +kernel
theorem dX1_sameAs_51 : decode cX1_sameAs 51 = .ok (.iinc 2 1, 3) := by decide +kernel
theorem dX1_sameAs_54 : decode cX1_sameAs 54 = .ok (.goto (-39), 3) := by decide +kernel
theorem dX1_sameAs_57 : decode cX1_sameAs 57 = .ok (.iconst 1, 1) := by decide +kernel
theorem dX1_sameAs_58 : decode cX1_sameAs 58 = .ok (.ireturn, 1) := by decide +kernel
theorem dX1_hasPart_0 : decode cX1_hasPart 0 = .ok (.iload_n 1, 1) := by decide +kernel
theorem dX1_hasPart_1 : decode cX1_hasPart 1 = .ok (.ifCond .lt 15, 3) := by decide +kernel
theorem dX1_hasPart_4 : decode cX1_hasPart 4 = .ok (.iload_n 1, 1) := by decide +kernel
theorem dX1_hasPart_5 : decode cX1_hasPart 5 = .ok (.aload_n 0, 1) := by decide +kernel
theorem dX1_hasPart_6 : decode cX1_hasPart 6 = .ok (.getfield 9, 3) := by decide +kernel
theorem dX1_hasPart_9 : decode cX1_hasPart 9 = .ok (.if_icmp .ge 7, 3) := by decide +kernel
theorem dX1_hasPart_12 : decode cX1_hasPart 12 = .ok (.iconst 1, 1) := by decide +kernel
theorem dX1_hasPart_13 : decode cX1_hasPart 13 = .ok (.goto 4, 3) := by decide +kernel
theorem dX1_hasPart_16 : decode cX1_hasPart 16 = .ok (.iconst 0, 1) := by decide +kernel
theorem dX1_hasPart_17 : decode cX1_hasPart 17 = .ok (.ireturn, 1) := by decide +kernel
theorem dX1_root_0 : decode cX1_root 0 = .ok (.aload_n 0, 1) := by decide +kernel
theorem dX1_root_1 : decode cX1_root 1 = .ok (.getfield 9, 3) := by decide +kernel
theorem dX1_root_4 : decode cX1_root 4 = .ok (.iconst 1, 1) := by decide +kernel
theorem dX1_root_5 : decode cX1_root 5 = .ok (.isub, 1) := by decide +kernel
theorem dX1_root_6 : decode cX1_root 6 = .ok (.ireturn, 1) := by decide +kernel
theorem dX1_add_0 : decode cX1_add 0 = .ok (.iconst 0, 1) := by decide +kernel
theorem dX1_add_1 : decode cX1_add 1 = .ok (.istore 4, 2) := by decide +kernel
theorem dX1_add_3 : decode cX1_add 3 = .ok (.iload 4, 2) := by decide +kernel
theorem dX1_add_5 : decode cX1_add 5 = .ok (.aload_n 0, 1) := by decide +kernel
theorem dX1_add_6 : decode cX1_add 6 = .ok (.getfield 9, 3) := by decide +kernel
theorem dX1_add_9 : decode cX1_add 9 = .ok (.if_icmp .ge 24, 3) := by decide +kernel
theorem dX1_add_12 : decode cX1_add 12 = .ok (.aload_n 0, 1) := by decide +kernel
theorem dX1_add_13 : decode cX1_add 13 = .ok (.iload 4, 2) := by decide +kernel
theorem dX1_add_15 : decode cX1_add 15 = .ok (.iload_n 1, 1) := by decide +kernel
theorem dX1_add_16 : decode cX1_add 16 = .ok (.iload_n 2, 1) := by decide +kernel
theorem dX1_add_17 : decode cX1_add 17 = .ok (.iload_n 3, 1) := by decide +kernel
theorem dX1_add_18 : decode cX1_add 18 = .ok (.invokevirtual 38, 3) := by decide +kernel
theorem dX1_add_21 : decode cX1_add 21 = .ok (.ifCond .eq 6, 3) := by decide +kernel
theorem dX1_add_24 : decode cX1_add 24 = .ok (.iload 4, 2) := by decide +kernel
theorem dX1_add_26 : decode cX1_add 26 = .ok (.ireturn, 1) := by decide +kernel
theorem dX1_add_27 : decode cX1_add 27 = .ok (.iinc 4 1, 3) := by decide +kernel
theorem dX1_add_30 : decode cX1_add 30 = .ok (.goto (-27), 3) := by decide +kernel
theorem dX1_add_33 : decode cX1_add 33 = .ok (.aload_n 0, 1) := by decide +kernel
theorem dX1_add_34 : decode cX1_add 34 = .ok (.getfield 9, 3) := by decide +kernel
theorem dX1_add_37 : decode cX1_add 37 = .ok (.bipush 11, 2) := by decide +kernel
theorem dX1_add_39 : decode cX1_add 39 = .ok (.if_icmp .ge 13, 3) := by decide +kernel
theorem dX1_add_42 : decode cX1_add 42 = .ok (.aload_n 0, 1) := by decide +kernel
theorem dX1_add_43 : decode cX1_add 43 = .ok (.iload_n 1, 1) := by decide +kernel
theorem dX1_add_44 : decode cX1_add 44 = .ok (.iload_n 2, 1) := by decide +kernel
theorem dX1_add_45 : decode cX1_add 45 = .ok (.iload_n 3, 1) := by decide +kernel
theorem dX1_add_46 : decode cX1_add 46 = .ok (.invokevirtual 42, 3) := by decide +kernel
theorem dX1_add_49 : decode cX1_add 49 = .ok (.ifCond .ne 10, 3) := by decide +kernel
theorem dX1_add_52 : decode cX1_add 52 = .ok (.aload_n 0, 1) := by decide +kernel
theorem dX1_add_53 : decode cX1_add 53 = .ok (.iconst 1, 1) := by decide +kernel
theorem dX1_add_54 : decode cX1_add 54 = .ok (.putfield 15, 3) := by decide +kernel
theorem dX1_add_57 : decode cX1_add 57 = .ok (.iconst 0, 1) := by decide +kernel
theorem dX1_add_58 : decode cX1_add 58 = .ok (.ireturn, 1) := by decide +kernel
theorem dX1_add_59 : decode cX1_add 59 = .ok (.aload_n 0, 1) := by decide +kernel
theorem dX1_add_60 : decode cX1_add 60 = .ok (.getfield 19, 3) := by decide +kernel
theorem dX1_add_63 : decode cX1_add 63 = .ok (.aload_n 0, 1) := by decide +kernel
theorem dX1_add_64 : decode cX1_add 64 = .ok (.getfield 9, 3) := by decide +kernel
theorem dX1_add_67 : decode cX1_add 67 = .ok (.iload_n 1, 1) := by decide +kernel
theorem dX1_add_68 : decode cX1_add 68 = .ok (.iastore, 1) := by decide +kernel
theorem dX1_add_69 : decode cX1_add 69 = .ok (.aload_n 0, 1) := by decide +kernel
theorem dX1_add_70 : decode cX1_add 70 = .ok (.getfield 23, 3) := by decide +kernel
theorem dX1_add_73 : decode cX1_add 73 = .ok (.aload_n 0, 1) := by decide +kernel
theorem dX1_add_74 : decode cX1_add 74 = .ok (.getfield 9, 3) := by decide +kernel
theorem dX1_add_77 : decode cX1_add 77 = .ok (.iload_n 2, 1) := by decide +kernel
theorem dX1_add_78 : decode cX1_add 78 = .ok (.iastore, 1) := by decide +kernel
theorem dX1_add_79 : decode cX1_add 79 = .ok (.aload_n 0, 1) := by decide +kernel
theorem dX1_add_80 : decode cX1_add 80 = .ok (.getfield 26, 3) := by decide +kernel
theorem dX1_add_83 : decode cX1_add 83 = .ok (.aload_n 0, 1) := by decide +kernel
theorem dX1_add_84 : decode cX1_add 84 = .ok (.getfield 9, 3) := by decide +kernel
theorem dX1_add_87 : decode cX1_add 87 = .ok (.iload_n 3, 1) := by decide +kernel
theorem dX1_add_88 : decode cX1_add 88 = .ok (.iastore, 1) := by decide +kernel
theorem dX1_add_89 : decode cX1_add 89 = .ok (.aload_n 0, 1) := by decide +kernel
theorem dX1_add_90 : decode cX1_add 90 = .ok (.getfield 29, 3) := by decide +kernel
theorem dX1_add_93 : decode cX1_add 93 = .ok (.aload_n 0, 1) := by decide +kernel
theorem dX1_add_94 : decode cX1_add 94 = .ok (.getfield 9, 3) := by decide +kernel
theorem dX1_add_97 : decode cX1_add 97 = .ok (.iload_n 1, 1) := by decide +kernel
theorem dX1_add_98 : decode cX1_add 98 = .ok (.iconst 2, 1) := by decide +kernel
theorem dX1_add_99 : decode cX1_add 99 = .ok (.if_icmp .ge 7, 3) := by decide +kernel
theorem dX1_add_102 : decode cX1_add 102 = .ok (.iconst 1, 1) := by decide +kernel
theorem dX1_add_103 : decode cX1_add 103 = .ok (.goto 18, 3) := by decide +kernel
theorem dX1_add_106 : decode cX1_add 106 = .ok (.aload_n 0, 1) := by decide +kernel
theorem dX1_add_107 : decode cX1_add 107 = .ok (.getfield 29, 3) := by decide +kernel
theorem dX1_add_110 : decode cX1_add 110 = .ok (.iload_n 2, 1) := by decide +kernel
theorem dX1_add_111 : decode cX1_add 111 = .ok (.iaload, 1) := by decide +kernel
theorem dX1_add_112 : decode cX1_add 112 = .ok (.aload_n 0, 1) := by decide +kernel
theorem dX1_add_113 : decode cX1_add 113 = .ok (.getfield 29, 3) := by decide +kernel
theorem dX1_add_116 : decode cX1_add 116 = .ok (.iload_n 3, 1) := by decide +kernel
theorem dX1_add_117 : decode cX1_add 117 = .ok (.iaload, 1) := by decide +kernel
theorem dX1_add_118 : decode cX1_add 118 = .ok (.iadd, 1) := by decide +kernel
theorem dX1_add_119 : decode cX1_add 119 = .ok (.iconst 3, 1) := by decide +kernel
theorem dX1_add_120 : decode cX1_add 120 = .ok (.iadd, 1) := by decide +kernel
theorem dX1_add_121 : decode cX1_add 121 = .ok (.iastore, 1) := by decide +kernel
theorem dX1_add_122 : decode cX1_add 122 = .ok (.aload_n 0, 1) := by decide +kernel
theorem dX1_add_123 : decode cX1_add 123 = .ok (.getfield 32, 3) := by decide +kernel
theorem dX1_add_126 : decode cX1_add 126 = .ok (.aload_n 0, 1) := by decide +kernel
theorem dX1_add_127 : decode cX1_add 127 = .ok (.getfield 9, 3) := by decide +kernel
theorem dX1_add_130 : decode cX1_add 130 = .ok (.aload_n 0, 1) := by decide +kernel
theorem dX1_add_131 : decode cX1_add 131 = .ok (.iload_n 1, 1) := by decide +kernel
theorem dX1_add_132 : decode cX1_add 132 = .ok (.iload_n 2, 1) := by decide +kernel
theorem dX1_add_133 : decode cX1_add 133 = .ok (.iload_n 3, 1) := by decide +kernel
theorem dX1_add_134 : decode cX1_add 134 = .ok (.invokevirtual 46, 3) := by decide +kernel
theorem dX1_add_137 : decode cX1_add 137 = .ok (.iastore, 1) := by decide +kernel
theorem dX1_add_138 : decode cX1_add 138 = .ok (.aload_n 0, 1) := by decide +kernel
theorem dX1_add_139 : decode cX1_add 139 = .ok (.dup, 1) := by decide +kernel
theorem dX1_add_140 : decode cX1_add 140 = .ok (.getfield 9, 3) := by decide +kernel
theorem dX1_add_143 : decode cX1_add 143 = .ok (.iconst 1, 1) := by decide +kernel
theorem dX1_add_144 : decode cX1_add 144 = .ok (.iadd, 1) := by decide +kernel
theorem dX1_add_145 : decode cX1_add 145 = .ok (.putfield 9, 3) := by decide +kernel
theorem dX1_add_148 : decode cX1_add 148 = .ok (.aload_n 0, 1) := by decide +kernel
theorem dX1_add_149 : decode cX1_add 149 = .ok (.getfield 9, 3) := by decide +kernel
theorem dX1_add_152 : decode cX1_add 152 = .ok (.iconst 1, 1) := by decide +kernel
theorem dX1_add_153 : decode cX1_add 153 = .ok (.isub, 1) := by decide +kernel
theorem dX1_add_154 : decode cX1_add 154 = .ok (.ireturn, 1) := by decide +kernel
theorem dX1_canStand_0 : decode cX1_canStand 0 = .ok (.iload_n 1, 1) := by decide +kernel
theorem dX1_canStand_1 : decode cX1_canStand 1 = .ok (.lookupswitch 47 #[(0, 27), (1, 45)], 27) := by decide +kernel
theorem dX1_canStand_28 : decode cX1_canStand 28 = .ok (.iload_n 2, 1) := by decide +kernel
theorem dX1_canStand_29 : decode cX1_canStand 29 = .ok (.ifCond .lt 15, 3) := by decide +kernel
theorem dX1_canStand_32 : decode cX1_canStand 32 = .ok (.iload_n 2, 1) := by decide +kernel
theorem dX1_canStand_33 : decode cX1_canStand 33 = .ok (.getstatic 50, 3) := by decide +kernel
theorem dX1_canStand_36 : decode cX1_canStand 36 = .ok (.arraylength, 1) := by decide +kernel
theorem dX1_canStand_37 : decode cX1_canStand 37 = .ok (.if_icmp .ge 7, 3) := by decide +kernel
theorem dX1_canStand_40 : decode cX1_canStand 40 = .ok (.iconst 1, 1) := by decide +kernel
theorem dX1_canStand_41 : decode cX1_canStand 41 = .ok (.goto 4, 3) := by decide +kernel
theorem dX1_canStand_44 : decode cX1_canStand 44 = .ok (.iconst 0, 1) := by decide +kernel
theorem dX1_canStand_45 : decode cX1_canStand 45 = .ok (.ireturn, 1) := by decide +kernel
theorem dX1_canStand_46 : decode cX1_canStand 46 = .ok (.iconst 1, 1) := by decide +kernel
theorem dX1_canStand_47 : decode cX1_canStand 47 = .ok (.ireturn, 1) := by decide +kernel
theorem dX1_canStand_48 : decode cX1_canStand 48 = .ok (.iload_n 2, 1) := by decide +kernel
theorem dX1_canStand_49 : decode cX1_canStand 49 = .ok (.ifCond .lt 27, 3) := by decide +kernel
theorem dX1_canStand_52 : decode cX1_canStand 52 = .ok (.iload_n 2, 1) := by decide +kernel
theorem dX1_canStand_53 : decode cX1_canStand 53 = .ok (.aload_n 0, 1) := by decide +kernel
theorem dX1_canStand_54 : decode cX1_canStand 54 = .ok (.getfield 9, 3) := by decide +kernel
theorem dX1_canStand_57 : decode cX1_canStand 57 = .ok (.if_icmp .ge 19, 3) := by decide +kernel
theorem dX1_canStand_60 : decode cX1_canStand 60 = .ok (.iload_n 3, 1) := by decide +kernel
theorem dX1_canStand_61 : decode cX1_canStand 61 = .ok (.ifCond .lt 15, 3) := by decide +kernel
theorem dX1_canStand_64 : decode cX1_canStand 64 = .ok (.iload_n 3, 1) := by decide +kernel
theorem dX1_canStand_65 : decode cX1_canStand 65 = .ok (.aload_n 0, 1) := by decide +kernel
theorem dX1_canStand_66 : decode cX1_canStand 66 = .ok (.getfield 9, 3) := by decide +kernel
theorem dX1_canStand_69 : decode cX1_canStand 69 = .ok (.if_icmp .ge 7, 3) := by decide +kernel
theorem dX1_canStand_72 : decode cX1_canStand 72 = .ok (.iconst 1, 1) := by decide +kernel
theorem dX1_canStand_73 : decode cX1_canStand 73 = .ok (.goto 4, 3) := by decide +kernel
theorem dX1_canStand_76 : decode cX1_canStand 76 = .ok (.iconst 0, 1) := by decide +kernel
theorem dX1_canStand_77 : decode cX1_canStand 77 = .ok (.ireturn, 1) := by decide +kernel
theorem dX1_isAt_0 : decode cX1_isAt 0 = .ok (.aload_n 0, 1) := by decide +kernel
theorem dX1_isAt_1 : decode cX1_isAt 1 = .ok (.getfield 19, 3) := by decide +kernel
theorem dX1_isAt_4 : decode cX1_isAt 4 = .ok (.iload_n 1, 1) := by decide +kernel
theorem dX1_isAt_5 : decode cX1_isAt 5 = .ok (.iaload, 1) := by decide +kernel
theorem dX1_isAt_6 : decode cX1_isAt 6 = .ok (.iload_n 2, 1) := by decide +kernel
theorem dX1_isAt_7 : decode cX1_isAt 7 = .ok (.if_icmp .ne 28, 3) := by decide +kernel
theorem dX1_isAt_10 : decode cX1_isAt 10 = .ok (.aload_n 0, 1) := by decide +kernel
theorem dX1_isAt_11 : decode cX1_isAt 11 = .ok (.getfield 23, 3) := by decide +kernel
theorem dX1_isAt_14 : decode cX1_isAt 14 = .ok (.iload_n 1, 1) := by decide +kernel
theorem dX1_isAt_15 : decode cX1_isAt 15 = .ok (.iaload, 1) := by decide +kernel
theorem dX1_isAt_16 : decode cX1_isAt 16 = .ok (.iload_n 3, 1) := by decide +kernel
theorem dX1_isAt_17 : decode cX1_isAt 17 = .ok (.if_icmp .ne 18, 3) := by decide +kernel
theorem dX1_isAt_20 : decode cX1_isAt 20 = .ok (.aload_n 0, 1) := by decide +kernel
theorem dX1_isAt_21 : decode cX1_isAt 21 = .ok (.getfield 26, 3) := by decide +kernel
theorem dX1_isAt_24 : decode cX1_isAt 24 = .ok (.iload_n 1, 1) := by decide +kernel
theorem dX1_isAt_25 : decode cX1_isAt 25 = .ok (.iaload, 1) := by decide +kernel
theorem dX1_isAt_26 : decode cX1_isAt 26 = .ok (.iload 4, 2) := by decide +kernel
theorem dX1_isAt_28 : decode cX1_isAt 28 = .ok (.if_icmp .ne 7, 3) := by decide +kernel
theorem dX1_isAt_31 : decode cX1_isAt 31 = .ok (.iconst 1, 1) := by decide +kernel
theorem dX1_isAt_32 : decode cX1_isAt 32 = .ok (.goto 4, 3) := by decide +kernel
theorem dX1_isAt_35 : decode cX1_isAt 35 = .ok (.iconst 0, 1) := by decide +kernel
theorem dX1_isAt_36 : decode cX1_isAt 36 = .ok (.ireturn, 1) := by decide +kernel
theorem dX1_rowsOf_0 : decode cX1_rowsOf 0 = .ok (.iload_n 1, 1) := by decide +kernel
theorem dX1_rowsOf_1 : decode cX1_rowsOf 1 = .ok (.tableswitch 88 0 4 #[35, 88, 41, 55, 69], 35) := by decide +kernel
theorem dX1_rowsOf_36 : decode cX1_rowsOf 36 = .ok (.getstatic 50, 3) := by decide +kernel
theorem dX1_rowsOf_39 : decode cX1_rowsOf 39 = .ok (.iload_n 2, 1) := by decide +kernel
theorem dX1_rowsOf_40 : decode cX1_rowsOf 40 = .ok (.iaload, 1) := by decide +kernel
theorem dX1_rowsOf_41 : decode cX1_rowsOf 41 = .ok (.ireturn, 1) := by decide +kernel
theorem dX1_rowsOf_42 : decode cX1_rowsOf 42 = .ok (.aload_n 0, 1) := by decide +kernel
theorem dX1_rowsOf_43 : decode cX1_rowsOf 43 = .ok (.getfield 32, 3) := by decide +kernel
theorem dX1_rowsOf_46 : decode cX1_rowsOf 46 = .ok (.iload_n 2, 1) := by decide +kernel
theorem dX1_rowsOf_47 : decode cX1_rowsOf 47 = .ok (.iaload, 1) := by decide +kernel
theorem dX1_rowsOf_48 : decode cX1_rowsOf 48 = .ok (.aload_n 0, 1) := by decide +kernel
theorem dX1_rowsOf_49 : decode cX1_rowsOf 49 = .ok (.getfield 32, 3) := by decide +kernel
theorem dX1_rowsOf_52 : decode cX1_rowsOf 52 = .ok (.iload_n 3, 1) := by decide +kernel
theorem dX1_rowsOf_53 : decode cX1_rowsOf 53 = .ok (.iaload, 1) := by decide +kernel
theorem dX1_rowsOf_54 : decode cX1_rowsOf 54 = .ok (.iand, 1) := by decide +kernel
theorem dX1_rowsOf_55 : decode cX1_rowsOf 55 = .ok (.ireturn, 1) := by decide +kernel
theorem dX1_rowsOf_56 : decode cX1_rowsOf 56 = .ok (.aload_n 0, 1) := by decide +kernel
theorem dX1_rowsOf_57 : decode cX1_rowsOf 57 = .ok (.getfield 32, 3) := by decide +kernel
theorem dX1_rowsOf_60 : decode cX1_rowsOf 60 = .ok (.iload_n 2, 1) := by decide +kernel
theorem dX1_rowsOf_61 : decode cX1_rowsOf 61 = .ok (.iaload, 1) := by decide +kernel
theorem dX1_rowsOf_62 : decode cX1_rowsOf 62 = .ok (.aload_n 0, 1) := by decide +kernel
theorem dX1_rowsOf_63 : decode cX1_rowsOf 63 = .ok (.getfield 32, 3) := by decide +kernel
theorem dX1_rowsOf_66 : decode cX1_rowsOf 66 = .ok (.iload_n 3, 1) := by decide +kernel
theorem dX1_rowsOf_67 : decode cX1_rowsOf 67 = .ok (.iaload, 1) := by decide +kernel
theorem dX1_rowsOf_68 : decode cX1_rowsOf 68 = .ok (.ior, 1) := by decide +kernel
theorem dX1_rowsOf_69 : decode cX1_rowsOf 69 = .ok (.ireturn, 1) := by decide +kernel
theorem dX1_rowsOf_70 : decode cX1_rowsOf 70 = .ok (.aload_n 0, 1) := by decide +kernel
theorem dX1_rowsOf_71 : decode cX1_rowsOf 71 = .ok (.getfield 32, 3) := by decide +kernel
theorem dX1_rowsOf_74 : decode cX1_rowsOf 74 = .ok (.iload_n 2, 1) := by decide +kernel
theorem dX1_rowsOf_75 : decode cX1_rowsOf 75 = .ok (.iaload, 1) := by decide +kernel
theorem dX1_rowsOf_76 : decode cX1_rowsOf 76 = .ok (.iconst (-1), 1) := by decide +kernel
theorem dX1_rowsOf_77 : decode cX1_rowsOf 77 = .ok (.ixor, 1) := by decide +kernel
theorem dX1_rowsOf_78 : decode cX1_rowsOf 78 = .ok (.ldc 53, 2) := by decide +kernel
theorem dX1_rowsOf_80 : decode cX1_rowsOf 80 = .ok (.iand, 1) := by decide +kernel
theorem dX1_rowsOf_81 : decode cX1_rowsOf 81 = .ok (.aload_n 0, 1) := by decide +kernel
theorem dX1_rowsOf_82 : decode cX1_rowsOf 82 = .ok (.getfield 32, 3) := by decide +kernel
theorem dX1_rowsOf_85 : decode cX1_rowsOf 85 = .ok (.iload_n 3, 1) := by decide +kernel
theorem dX1_rowsOf_86 : decode cX1_rowsOf 86 = .ok (.iaload, 1) := by decide +kernel
theorem dX1_rowsOf_87 : decode cX1_rowsOf 87 = .ok (.ior, 1) := by decide +kernel
theorem dX1_rowsOf_88 : decode cX1_rowsOf 88 = .ok (.ireturn, 1) := by decide +kernel
theorem dX1_rowsOf_89 : decode cX1_rowsOf 89 = .ok (.iconst 0, 1) := by decide +kernel
theorem dX1_rowsOf_90 : decode cX1_rowsOf 90 = .ok (.ireturn, 1) := by decide +kernel
theorem dX1_becomePair_0 : decode cX1_becomePair 0 = .ok (.aload_n 0, 1) := by decide +kernel
theorem dX1_becomePair_1 : decode cX1_becomePair 1 = .ok (.aload_n 2, 1) := by decide +kernel
theorem dX1_becomePair_2 : decode cX1_becomePair 2 = .ok (.invokevirtual 54, 3) := by decide +kernel
theorem dX1_becomePair_5 : decode cX1_becomePair 5 = .ok (.iconst 0, 1) := by decide +kernel
theorem dX1_becomePair_6 : decode cX1_becomePair 6 = .ok (.istore 4, 2) := by decide +kernel
theorem dX1_becomePair_8 : decode cX1_becomePair 8 = .ok (.iload 4, 2) := by decide +kernel
theorem dX1_becomePair_10 : decode cX1_becomePair 10 = .ok (.aload_n 3, 1) := by decide +kernel
theorem dX1_becomePair_11 : decode cX1_becomePair 11 = .ok (.getfield 9, 3) := by decide +kernel
theorem dX1_becomePair_14 : decode cX1_becomePair 14 = .ok (.if_icmp .ge 90, 3) := by decide +kernel
theorem dX1_becomePair_17 : decode cX1_becomePair 17 = .ok (.aload_n 0, 1) := by decide +kernel
theorem dX1_becomePair_18 : decode cX1_becomePair 18 = .ok (.getfield 35, 3) := by decide +kernel
theorem dX1_becomePair_21 : decode cX1_becomePair 21 = .ok (.iload 4, 2) := by decide +kernel
theorem dX1_becomePair_23 : decode cX1_becomePair 23 = .ok (.aload_n 3, 1) := by decide +kernel
theorem dX1_becomePair_24 : decode cX1_becomePair 24 = .ok (.getfield 19, 3) := by decide +kernel
theorem dX1_becomePair_27 : decode cX1_becomePair 27 = .ok (.iload 4, 2) := by decide +kernel
theorem dX1_becomePair_29 : decode cX1_becomePair 29 = .ok (.iaload, 1) := by decide +kernel
theorem dX1_becomePair_30 : decode cX1_becomePair 30 = .ok (.iconst 2, 1) := by decide +kernel
theorem dX1_becomePair_31 : decode cX1_becomePair 31 = .ok (.if_icmp .ge 31, 3) := by decide +kernel
theorem dX1_becomePair_34 : decode cX1_becomePair 34 = .ok (.aload_n 0, 1) := by decide +kernel
theorem dX1_becomePair_35 : decode cX1_becomePair 35 = .ok (.aload_n 3, 1) := by decide +kernel
theorem dX1_becomePair_36 : decode cX1_becomePair 36 = .ok (.getfield 19, 3) := by decide +kernel
theorem dX1_becomePair_39 : decode cX1_becomePair 39 = .ok (.iload 4, 2) := by decide +kernel
theorem dX1_becomePair_41 : decode cX1_becomePair 41 = .ok (.iaload, 1) := by decide +kernel
theorem dX1_becomePair_42 : decode cX1_becomePair 42 = .ok (.aload_n 3, 1) := by decide +kernel
theorem dX1_becomePair_43 : decode cX1_becomePair 43 = .ok (.getfield 23, 3) := by decide +kernel
theorem dX1_becomePair_46 : decode cX1_becomePair 46 = .ok (.iload 4, 2) := by decide +kernel
theorem dX1_becomePair_48 : decode cX1_becomePair 48 = .ok (.iaload, 1) := by decide +kernel
theorem dX1_becomePair_49 : decode cX1_becomePair 49 = .ok (.aload_n 3, 1) := by decide +kernel
theorem dX1_becomePair_50 : decode cX1_becomePair 50 = .ok (.getfield 26, 3) := by decide +kernel
theorem dX1_becomePair_53 : decode cX1_becomePair 53 = .ok (.iload 4, 2) := by decide +kernel
theorem dX1_becomePair_55 : decode cX1_becomePair 55 = .ok (.iaload, 1) := by decide +kernel
theorem dX1_becomePair_56 : decode cX1_becomePair 56 = .ok (.invokevirtual 58, 3) := by decide +kernel
theorem dX1_becomePair_59 : decode cX1_becomePair 59 = .ok (.goto 38, 3) := by decide +kernel
theorem dX1_becomePair_62 : decode cX1_becomePair 62 = .ok (.aload_n 0, 1) := by decide +kernel
theorem dX1_becomePair_63 : decode cX1_becomePair 63 = .ok (.aload_n 3, 1) := by decide +kernel
theorem dX1_becomePair_64 : decode cX1_becomePair 64 = .ok (.getfield 19, 3) := by decide +kernel
theorem dX1_becomePair_67 : decode cX1_becomePair 67 = .ok (.iload 4, 2) := by decide +kernel
theorem dX1_becomePair_69 : decode cX1_becomePair 69 = .ok (.iaload, 1) := by decide +kernel
theorem dX1_becomePair_70 : decode cX1_becomePair 70 = .ok (.aload_n 0, 1) := by decide +kernel
theorem dX1_becomePair_71 : decode cX1_becomePair 71 = .ok (.getfield 35, 3) := by decide +kernel
theorem dX1_becomePair_74 : decode cX1_becomePair 74 = .ok (.aload_n 3, 1) := by decide +kernel
theorem dX1_becomePair_75 : decode cX1_becomePair 75 = .ok (.getfield 23, 3) := by decide +kernel
theorem dX1_becomePair_78 : decode cX1_becomePair 78 = .ok (.iload 4, 2) := by decide +kernel
theorem dX1_becomePair_80 : decode cX1_becomePair 80 = .ok (.iaload, 1) := by decide +kernel
theorem dX1_becomePair_81 : decode cX1_becomePair 81 = .ok (.iaload, 1) := by decide +kernel
theorem dX1_becomePair_82 : decode cX1_becomePair 82 = .ok (.aload_n 0, 1) := by decide +kernel
theorem dX1_becomePair_83 : decode cX1_becomePair 83 = .ok (.getfield 35, 3) := by decide +kernel
theorem dX1_becomePair_86 : decode cX1_becomePair 86 = .ok (.aload_n 3, 1) := by decide +kernel
theorem dX1_becomePair_87 : decode cX1_becomePair 87 = .ok (.getfield 26, 3) := by decide +kernel
theorem dX1_becomePair_90 : decode cX1_becomePair 90 = .ok (.iload 4, 2) := by decide +kernel
theorem dX1_becomePair_92 : decode cX1_becomePair 92 = .ok (.iaload, 1) := by decide +kernel
theorem dX1_becomePair_93 : decode cX1_becomePair 93 = .ok (.iaload, 1) := by decide +kernel
theorem dX1_becomePair_94 : decode cX1_becomePair 94 = .ok (.invokevirtual 58, 3) := by decide +kernel
theorem dX1_becomePair_97 : decode cX1_becomePair 97 = .ok (.iastore, 1) := by decide +kernel
theorem dX1_becomePair_98 : decode cX1_becomePair 98 = .ok (.iinc 4 1, 3) := by decide +kernel
theorem dX1_becomePair_101 : decode cX1_becomePair 101 = .ok (.goto (-93), 3) := by decide +kernel
theorem dX1_becomePair_104 : decode cX1_becomePair 104 = .ok (.aload_n 0, 1) := by decide +kernel
theorem dX1_becomePair_105 : decode cX1_becomePair 105 = .ok (.iload_n 1, 1) := by decide +kernel
theorem dX1_becomePair_106 : decode cX1_becomePair 106 = .ok (.aload_n 2, 1) := by decide +kernel
theorem dX1_becomePair_107 : decode cX1_becomePair 107 = .ok (.invokevirtual 61, 3) := by decide +kernel
theorem dX1_becomePair_110 : decode cX1_becomePair 110 = .ok (.aload_n 0, 1) := by decide +kernel
theorem dX1_becomePair_111 : decode cX1_becomePair 111 = .ok (.getfield 35, 3) := by decide +kernel
theorem dX1_becomePair_114 : decode cX1_becomePair 114 = .ok (.aload_n 3, 1) := by decide +kernel
theorem dX1_becomePair_115 : decode cX1_becomePair 115 = .ok (.invokevirtual 61, 3) := by decide +kernel
theorem dX1_becomePair_118 : decode cX1_becomePair 118 = .ok (.iaload, 1) := by decide +kernel
theorem dX1_becomePair_119 : decode cX1_becomePair 119 = .ok (.invokevirtual 58, 3) := by decide +kernel
theorem dX1_becomePair_122 : decode cX1_becomePair 122 = .ok (.pop, 1) := by decide +kernel
theorem dX1_becomePair_123 : decode cX1_becomePair 123 = .ok (.return_, 1) := by decide +kernel
theorem dX1_becomePart_0 : decode cX1_becomePart 0 = .ok (.aload_n 0, 1) := by decide +kernel
theorem dX1_becomePart_1 : decode cX1_becomePart 1 = .ok (.invokevirtual 65, 3) := by decide +kernel
theorem dX1_becomePart_4 : decode cX1_becomePart 4 = .ok (.iconst 0, 1) := by decide +kernel
theorem dX1_becomePart_5 : decode cX1_becomePart 5 = .ok (.istore_n 3, 1) := by decide +kernel
theorem dX1_becomePart_6 : decode cX1_becomePart 6 = .ok (.iload_n 3, 1) := by decide +kernel
theorem dX1_becomePart_7 : decode cX1_becomePart 7 = .ok (.bipush 11, 2) := by decide +kernel
theorem dX1_becomePart_9 : decode cX1_becomePart 9 = .ok (.if_icmp .ge 17, 3) := by decide +kernel
theorem dX1_becomePart_12 : decode cX1_becomePart 12 = .ok (.aload_n 0, 1) := by decide +kernel
theorem dX1_becomePart_13 : decode cX1_becomePart 13 = .ok (.getfield 35, 3) := by decide +kernel
theorem dX1_becomePart_16 : decode cX1_becomePart 16 = .ok (.iload_n 3, 1) := by decide +kernel
theorem dX1_becomePart_17 : decode cX1_becomePart 17 = .ok (.bipush (-6), 2) := by decide +kernel
theorem dX1_becomePart_19 : decode cX1_becomePart 19 = .ok (.iastore, 1) := by decide +kernel
theorem dX1_becomePart_20 : decode cX1_becomePart 20 = .ok (.iinc 3 1, 3) := by decide +kernel
theorem dX1_becomePart_23 : decode cX1_becomePart 23 = .ok (.goto (-17), 3) := by decide +kernel
theorem dX1_becomePart_26 : decode cX1_becomePart 26 = .ok (.aload_n 0, 1) := by decide +kernel
theorem dX1_becomePart_27 : decode cX1_becomePart 27 = .ok (.aload_n 1, 1) := by decide +kernel
theorem dX1_becomePart_28 : decode cX1_becomePart 28 = .ok (.iload_n 2, 1) := by decide +kernel
theorem dX1_becomePart_29 : decode cX1_becomePart 29 = .ok (.iconst 0, 1) := by decide +kernel
theorem dX1_becomePart_30 : decode cX1_becomePart 30 = .ok (.invokestatic 68, 3) := by decide +kernel
theorem dX1_becomePart_33 : decode cX1_becomePart 33 = .ok (.pop, 1) := by decide +kernel
theorem dX1_becomePart_34 : decode cX1_becomePart 34 = .ok (.return_, 1) := by decide +kernel
theorem dX1_addPart_0 : decode cX1_addPart 0 = .ok (.aload_n 0, 1) := by decide +kernel
theorem dX1_addPart_1 : decode cX1_addPart 1 = .ok (.getfield 35, 3) := by decide +kernel
theorem dX1_addPart_4 : decode cX1_addPart 4 = .ok (.iload_n 2, 1) := by decide +kernel
theorem dX1_addPart_5 : decode cX1_addPart 5 = .ok (.iaload, 1) := by decide +kernel
theorem dX1_addPart_6 : decode cX1_addPart 6 = .ok (.bipush (-6), 2) := by decide +kernel
theorem dX1_addPart_8 : decode cX1_addPart 8 = .ok (.if_icmp .ne 9, 3) := by decide +kernel
theorem dX1_addPart_11 : decode cX1_addPart 11 = .ok (.iload_n 3, 1) := by decide +kernel
theorem dX1_addPart_12 : decode cX1_addPart 12 = .ok (.bipush 11, 2) := by decide +kernel
theorem dX1_addPart_14 : decode cX1_addPart 14 = .ok (.if_icmp .lt 10, 3) := by decide +kernel
theorem dX1_addPart_17 : decode cX1_addPart 17 = .ok (.aload_n 0, 1) := by decide +kernel
theorem dX1_addPart_18 : decode cX1_addPart 18 = .ok (.getfield 35, 3) := by decide +kernel
theorem dX1_addPart_21 : decode cX1_addPart 21 = .ok (.iload_n 2, 1) := by decide +kernel
theorem dX1_addPart_22 : decode cX1_addPart 22 = .ok (.iaload, 1) := by decide +kernel
theorem dX1_addPart_23 : decode cX1_addPart 23 = .ok (.ireturn, 1) := by decide +kernel
theorem dX1_addPart_24 : decode cX1_addPart 24 = .ok (.aload_n 1, 1) := by decide +kernel
theorem dX1_addPart_25 : decode cX1_addPart 25 = .ok (.getfield 23, 3) := by decide +kernel
theorem dX1_addPart_28 : decode cX1_addPart 28 = .ok (.iload_n 2, 1) := by decide +kernel
theorem dX1_addPart_29 : decode cX1_addPart 29 = .ok (.iaload, 1) := by decide +kernel
theorem dX1_addPart_30 : decode cX1_addPart 30 = .ok (.istore 4, 2) := by decide +kernel
theorem dX1_addPart_32 : decode cX1_addPart 32 = .ok (.aload_n 1, 1) := by decide +kernel
theorem dX1_addPart_33 : decode cX1_addPart 33 = .ok (.getfield 26, 3) := by decide +kernel
theorem dX1_addPart_36 : decode cX1_addPart 36 = .ok (.iload_n 2, 1) := by decide +kernel
theorem dX1_addPart_37 : decode cX1_addPart 37 = .ok (.iaload, 1) := by decide +kernel
theorem dX1_addPart_38 : decode cX1_addPart 38 = .ok (.istore 5, 2) := by decide +kernel
theorem dX1_addPart_40 : decode cX1_addPart 40 = .ok (.aload_n 1, 1) := by decide +kernel
theorem dX1_addPart_41 : decode cX1_addPart 41 = .ok (.getfield 19, 3) := by decide +kernel
theorem dX1_addPart_44 : decode cX1_addPart 44 = .ok (.iload_n 2, 1) := by decide +kernel
theorem dX1_addPart_45 : decode cX1_addPart 45 = .ok (.iaload, 1) := by decide +kernel
theorem dX1_addPart_46 : decode cX1_addPart 46 = .ok (.iconst 2, 1) := by decide +kernel
theorem dX1_addPart_47 : decode cX1_addPart 47 = .ok (.if_icmp .lt 27, 3) := by decide +kernel
theorem dX1_addPart_50 : decode cX1_addPart 50 = .ok (.aload_n 0, 1) := by decide +kernel
theorem dX1_addPart_51 : decode cX1_addPart 51 = .ok (.aload_n 1, 1) := by decide +kernel
theorem dX1_addPart_52 : decode cX1_addPart 52 = .ok (.iload 4, 2) := by decide +kernel
theorem dX1_addPart_54 : decode cX1_addPart 54 = .ok (.iload_n 3, 1) := by decide +kernel
theorem dX1_addPart_55 : decode cX1_addPart 55 = .ok (.iconst 1, 1) := by decide +kernel
theorem dX1_addPart_56 : decode cX1_addPart 56 = .ok (.iadd, 1) := by decide +kernel
theorem dX1_addPart_57 : decode cX1_addPart 57 = .ok (.invokestatic 68, 3) := by decide +kernel
theorem dX1_addPart_60 : decode cX1_addPart 60 = .ok (.istore 4, 2) := by decide +kernel
theorem dX1_addPart_62 : decode cX1_addPart 62 = .ok (.aload_n 0, 1) := by decide +kernel
theorem dX1_addPart_63 : decode cX1_addPart 63 = .ok (.aload_n 1, 1) := by decide +kernel
theorem dX1_addPart_64 : decode cX1_addPart 64 = .ok (.iload 5, 2) := by decide +kernel
theorem dX1_addPart_66 : decode cX1_addPart 66 = .ok (.iload_n 3, 1) := by decide +kernel
theorem dX1_addPart_67 : decode cX1_addPart 67 = .ok (.iconst 1, 1) := by decide +kernel
theorem dX1_addPart_68 : decode cX1_addPart 68 = .ok (.iadd, 1) := by decide +kernel
theorem dX1_addPart_69 : decode cX1_addPart 69 = .ok (.invokestatic 68, 3) := by decide +kernel
theorem dX1_addPart_72 : decode cX1_addPart 72 = .ok (.istore 5, 2) := by decide +kernel
theorem dX1_addPart_74 : decode cX1_addPart 74 = .ok (.aload_n 0, 1) := by decide +kernel
theorem dX1_addPart_75 : decode cX1_addPart 75 = .ok (.getfield 35, 3) := by decide +kernel
theorem dX1_addPart_78 : decode cX1_addPart 78 = .ok (.iload_n 2, 1) := by decide +kernel
theorem dX1_addPart_79 : decode cX1_addPart 79 = .ok (.aload_n 0, 1) := by decide +kernel
theorem dX1_addPart_80 : decode cX1_addPart 80 = .ok (.aload_n 1, 1) := by decide +kernel
theorem dX1_addPart_81 : decode cX1_addPart 81 = .ok (.getfield 19, 3) := by decide +kernel
theorem dX1_addPart_84 : decode cX1_addPart 84 = .ok (.iload_n 2, 1) := by decide +kernel
theorem dX1_addPart_85 : decode cX1_addPart 85 = .ok (.iaload, 1) := by decide +kernel
theorem dX1_addPart_86 : decode cX1_addPart 86 = .ok (.iload 4, 2) := by decide +kernel
theorem dX1_addPart_88 : decode cX1_addPart 88 = .ok (.iload 5, 2) := by decide +kernel
theorem dX1_addPart_90 : decode cX1_addPart 90 = .ok (.invokevirtual 58, 3) := by decide +kernel
theorem dX1_addPart_93 : decode cX1_addPart 93 = .ok (.iastore, 1) := by decide +kernel
theorem dX1_addPart_94 : decode cX1_addPart 94 = .ok (.aload_n 0, 1) := by decide +kernel
theorem dX1_addPart_95 : decode cX1_addPart 95 = .ok (.getfield 35, 3) := by decide +kernel
theorem dX1_addPart_98 : decode cX1_addPart 98 = .ok (.iload_n 2, 1) := by decide +kernel
theorem dX1_addPart_99 : decode cX1_addPart 99 = .ok (.iaload, 1) := by decide +kernel
theorem dX1_addPart_100 : decode cX1_addPart 100 = .ok (.ireturn, 1) := by decide +kernel
theorem dX1_isTrueByRows_0 : decode cX1_isTrueByRows 0 = .ok (.aload_n 0, 1) := by decide +kernel
theorem dX1_isTrueByRows_1 : decode cX1_isTrueByRows 1 = .ok (.getfield 9, 3) := by decide +kernel
theorem dX1_isTrueByRows_4 : decode cX1_isTrueByRows 4 = .ok (.ifCond .le 21, 3) := by decide +kernel
theorem dX1_isTrueByRows_7 : decode cX1_isTrueByRows 7 = .ok (.aload_n 0, 1) := by decide +kernel
theorem dX1_isTrueByRows_8 : decode cX1_isTrueByRows 8 = .ok (.getfield 32, 3) := by decide +kernel
theorem dX1_isTrueByRows_11 : decode cX1_isTrueByRows 11 = .ok (.aload_n 0, 1) := by decide +kernel
theorem dX1_isTrueByRows_12 : decode cX1_isTrueByRows 12 = .ok (.invokevirtual 61, 3) := by decide +kernel
theorem dX1_isTrueByRows_15 : decode cX1_isTrueByRows 15 = .ok (.iaload, 1) := by decide +kernel
theorem dX1_isTrueByRows_16 : decode cX1_isTrueByRows 16 = .ok (.ldc 53, 2) := by decide +kernel
theorem dX1_isTrueByRows_18 : decode cX1_isTrueByRows 18 = .ok (.if_icmp .ne 7, 3) := by decide +kernel
theorem dX1_isTrueByRows_21 : decode cX1_isTrueByRows 21 = .ok (.iconst 1, 1) := by decide +kernel
theorem dX1_isTrueByRows_22 : decode cX1_isTrueByRows 22 = .ok (.goto 4, 3) := by decide +kernel
theorem dX1_isTrueByRows_25 : decode cX1_isTrueByRows 25 = .ok (.iconst 0, 1) := by decide +kernel
theorem dX1_isTrueByRows_26 : decode cX1_isTrueByRows 26 = .ok (.ireturn, 1) := by decide +kernel
theorem dX1_signs_0 : decode cX1_signs 0 = .ok (.aload_n 0, 1) := by decide +kernel
theorem dX1_signs_1 : decode cX1_signs 1 = .ok (.getfield 9, 3) := by decide +kernel
theorem dX1_signs_4 : decode cX1_signs 4 = .ok (.ifCond .le 15, 3) := by decide +kernel
theorem dX1_signs_7 : decode cX1_signs 7 = .ok (.aload_n 0, 1) := by decide +kernel
theorem dX1_signs_8 : decode cX1_signs 8 = .ok (.getfield 29, 3) := by decide +kernel
theorem dX1_signs_11 : decode cX1_signs 11 = .ok (.aload_n 0, 1) := by decide +kernel
theorem dX1_signs_12 : decode cX1_signs 12 = .ok (.invokevirtual 61, 3) := by decide +kernel
theorem dX1_signs_15 : decode cX1_signs 15 = .ok (.iaload, 1) := by decide +kernel
theorem dX1_signs_16 : decode cX1_signs 16 = .ok (.goto 4, 3) := by decide +kernel
theorem dX1_signs_19 : decode cX1_signs 19 = .ok (.iconst 0, 1) := by decide +kernel
theorem dX1_signs_20 : decode cX1_signs 20 = .ok (.ireturn, 1) := by decide +kernel
theorem dX1_signAt_0 : decode cX1_signAt 0 = .ok (.iload_n 1, 1) := by decide +kernel
theorem dX1_signAt_1 : decode cX1_signAt 1 = .ok (.ifCond .lt 11, 3) := by decide +kernel
theorem dX1_signAt_4 : decode cX1_signAt 4 = .ok (.iload_n 1, 1) := by decide +kernel
theorem dX1_signAt_5 : decode cX1_signAt 5 = .ok (.aload_n 0, 1) := by decide +kernel
theorem dX1_signAt_6 : decode cX1_signAt 6 = .ok (.invokevirtual 72, 3) := by decide +kernel
theorem dX1_signAt_9 : decode cX1_signAt 9 = .ok (.if_icmp .lt 6, 3) := by decide +kernel
theorem dX1_signAt_12 : decode cX1_signAt 12 = .ok (.bipush (-6), 2) := by decide +kernel
theorem dX1_signAt_14 : decode cX1_signAt 14 = .ok (.ireturn, 1) := by decide +kernel
theorem dX1_signAt_15 : decode cX1_signAt 15 = .ok (.aload_n 0, 1) := by decide +kernel
theorem dX1_signAt_16 : decode cX1_signAt 16 = .ok (.invokevirtual 61, 3) := by decide +kernel
theorem dX1_signAt_19 : decode cX1_signAt 19 = .ok (.istore_n 2, 1) := by decide +kernel
theorem dX1_signAt_20 : decode cX1_signAt 20 = .ok (.iload_n 1, 1) := by decide +kernel
theorem dX1_signAt_21 : decode cX1_signAt 21 = .ok (.istore_n 3, 1) := by decide +kernel
theorem dX1_signAt_22 : decode cX1_signAt 22 = .ok (.iconst 0, 1) := by decide +kernel
theorem dX1_signAt_23 : decode cX1_signAt 23 = .ok (.istore 4, 2) := by decide +kernel
theorem dX1_signAt_25 : decode cX1_signAt 25 = .ok (.iload 4, 2) := by decide +kernel
theorem dX1_signAt_27 : decode cX1_signAt 27 = .ok (.bipush 11, 2) := by decide +kernel
theorem dX1_signAt_29 : decode cX1_signAt 29 = .ok (.if_icmp .ge 121, 3) := by decide +kernel
theorem dX1_signAt_32 : decode cX1_signAt 32 = .ok (.aload_n 0, 1) := by decide +kernel
theorem dX1_signAt_33 : decode cX1_signAt 33 = .ok (.getfield 19, 3) := by decide +kernel
theorem dX1_signAt_36 : decode cX1_signAt 36 = .ok (.iload_n 2, 1) := by decide +kernel
theorem dX1_signAt_37 : decode cX1_signAt 37 = .ok (.iaload, 1) := by decide +kernel
theorem dX1_signAt_38 : decode cX1_signAt 38 = .ok (.iconst 2, 1) := by decide +kernel
theorem dX1_signAt_39 : decode cX1_signAt 39 = .ok (.if_icmp .lt 111, 3) := by decide +kernel
theorem dX1_signAt_42 : decode cX1_signAt 42 = .ok (.aload_n 0, 1) := by decide +kernel
theorem dX1_signAt_43 : decode cX1_signAt 43 = .ok (.getfield 29, 3) := by decide +kernel
theorem dX1_signAt_46 : decode cX1_signAt 46 = .ok (.aload_n 0, 1) := by decide +kernel
theorem dX1_signAt_47 : decode cX1_signAt 47 = .ok (.getfield 23, 3) := by decide +kernel
theorem dX1_signAt_50 : decode cX1_signAt 50 = .ok (.iload_n 2, 1) := by decide +kernel
theorem dX1_signAt_51 : decode cX1_signAt 51 = .ok (.iaload, 1) := by decide +kernel
theorem dX1_signAt_52 : decode cX1_signAt 52 = .ok (.iaload, 1) := by decide +kernel
theorem dX1_signAt_53 : decode cX1_signAt 53 = .ok (.iconst 1, 1) := by decide +kernel
theorem dX1_signAt_54 : decode cX1_signAt 54 = .ok (.iadd, 1) := by decide +kernel
theorem dX1_signAt_55 : decode cX1_signAt 55 = .ok (.istore 5, 2) := by decide +kernel
theorem dX1_signAt_57 : decode cX1_signAt 57 = .ok (.iload 5, 2) := by decide +kernel
theorem dX1_signAt_59 : decode cX1_signAt 59 = .ok (.aload_n 0, 1) := by decide +kernel
theorem dX1_signAt_60 : decode cX1_signAt 60 = .ok (.getfield 29, 3) := by decide +kernel
theorem dX1_signAt_63 : decode cX1_signAt 63 = .ok (.aload_n 0, 1) := by decide +kernel
theorem dX1_signAt_64 : decode cX1_signAt 64 = .ok (.getfield 26, 3) := by decide +kernel
theorem dX1_signAt_67 : decode cX1_signAt 67 = .ok (.iload_n 2, 1) := by decide +kernel
theorem dX1_signAt_68 : decode cX1_signAt 68 = .ok (.iaload, 1) := by decide +kernel
theorem dX1_signAt_69 : decode cX1_signAt 69 = .ok (.iaload, 1) := by decide +kernel
theorem dX1_signAt_70 : decode cX1_signAt 70 = .ok (.iadd, 1) := by decide +kernel
theorem dX1_signAt_71 : decode cX1_signAt 71 = .ok (.iconst 1, 1) := by decide +kernel
theorem dX1_signAt_72 : decode cX1_signAt 72 = .ok (.iadd, 1) := by decide +kernel
theorem dX1_signAt_73 : decode cX1_signAt 73 = .ok (.istore 6, 2) := by decide +kernel
theorem dX1_signAt_75 : decode cX1_signAt 75 = .ok (.iload_n 3, 1) := by decide +kernel
theorem dX1_signAt_76 : decode cX1_signAt 76 = .ok (.ifCond .ne 6, 3) := by decide +kernel
theorem dX1_signAt_79 : decode cX1_signAt 79 = .ok (.bipush 40, 2) := by decide +kernel
theorem dX1_signAt_81 : decode cX1_signAt 81 = .ok (.ireturn, 1) := by decide +kernel
theorem dX1_signAt_82 : decode cX1_signAt 82 = .ok (.iload_n 3, 1) := by decide +kernel
theorem dX1_signAt_83 : decode cX1_signAt 83 = .ok (.iload 5, 2) := by decide +kernel
theorem dX1_signAt_85 : decode cX1_signAt 85 = .ok (.if_icmp .ne 17, 3) := by decide +kernel
theorem dX1_signAt_88 : decode cX1_signAt 88 = .ok (.ldc 75, 2) := by decide +kernel
theorem dX1_signAt_90 : decode cX1_signAt 90 = .ok (.aload_n 0, 1) := by decide +kernel
theorem dX1_signAt_91 : decode cX1_signAt 91 = .ok (.getfield 19, 3) := by decide +kernel
theorem dX1_signAt_94 : decode cX1_signAt 94 = .ok (.iload_n 2, 1) := by decide +kernel
theorem dX1_signAt_95 : decode cX1_signAt 95 = .ok (.iaload, 1) := by decide +kernel
theorem dX1_signAt_96 : decode cX1_signAt 96 = .ok (.iconst 2, 1) := by decide +kernel
theorem dX1_signAt_97 : decode cX1_signAt 97 = .ok (.isub, 1) := by decide +kernel
theorem dX1_signAt_98 : decode cX1_signAt 98 = .ok (.invokevirtual 77, 3) := by decide +kernel
theorem dX1_signAt_101 : decode cX1_signAt 101 = .ok (.ireturn, 1) := by decide +kernel
theorem dX1_signAt_102 : decode cX1_signAt 102 = .ok (.iload_n 3, 1) := by decide +kernel
theorem dX1_signAt_103 : decode cX1_signAt 103 = .ok (.iload 6, 2) := by decide +kernel
theorem dX1_signAt_105 : decode cX1_signAt 105 = .ok (.if_icmp .ne 6, 3) := by decide +kernel
theorem dX1_signAt_108 : decode cX1_signAt 108 = .ok (.bipush 41, 2) := by decide +kernel
theorem dX1_signAt_110 : decode cX1_signAt 110 = .ok (.ireturn, 1) := by decide +kernel
theorem dX1_signAt_111 : decode cX1_signAt 111 = .ok (.iload_n 3, 1) := by decide +kernel
theorem dX1_signAt_112 : decode cX1_signAt 112 = .ok (.iload 5, 2) := by decide +kernel
theorem dX1_signAt_114 : decode cX1_signAt 114 = .ok (.if_icmp .ge 16, 3) := by decide +kernel
theorem dX1_signAt_117 : decode cX1_signAt 117 = .ok (.iinc 3 (-1), 3) := by decide +kernel
theorem dX1_signAt_120 : decode cX1_signAt 120 = .ok (.aload_n 0, 1) := by decide +kernel
theorem dX1_signAt_121 : decode cX1_signAt 121 = .ok (.getfield 23, 3) := by decide +kernel
theorem dX1_signAt_124 : decode cX1_signAt 124 = .ok (.iload_n 2, 1) := by decide +kernel
theorem dX1_signAt_125 : decode cX1_signAt 125 = .ok (.iaload, 1) := by decide +kernel
theorem dX1_signAt_126 : decode cX1_signAt 126 = .ok (.istore_n 2, 1) := by decide +kernel
theorem dX1_signAt_127 : decode cX1_signAt 127 = .ok (.goto 17, 3) := by decide +kernel
theorem dX1_signAt_130 : decode cX1_signAt 130 = .ok (.iload_n 3, 1) := by decide +kernel
theorem dX1_signAt_131 : decode cX1_signAt 131 = .ok (.iload 5, 2) := by decide +kernel
theorem dX1_signAt_133 : decode cX1_signAt 133 = .ok (.iconst 1, 1) := by decide +kernel
theorem dX1_signAt_134 : decode cX1_signAt 134 = .ok (.iadd, 1) := by decide +kernel
theorem dX1_signAt_135 : decode cX1_signAt 135 = .ok (.isub, 1) := by decide +kernel
theorem dX1_signAt_136 : decode cX1_signAt 136 = .ok (.istore_n 3, 1) := by decide +kernel
theorem dX1_signAt_137 : decode cX1_signAt 137 = .ok (.aload_n 0, 1) := by decide +kernel
theorem dX1_signAt_138 : decode cX1_signAt 138 = .ok (.getfield 26, 3) := by decide +kernel
theorem dX1_signAt_141 : decode cX1_signAt 141 = .ok (.iload_n 2, 1) := by decide +kernel
theorem dX1_signAt_142 : decode cX1_signAt 142 = .ok (.iaload, 1) := by decide +kernel
theorem dX1_signAt_143 : decode cX1_signAt 143 = .ok (.istore_n 2, 1) := by decide +kernel
theorem dX1_signAt_144 : decode cX1_signAt 144 = .ok (.iinc 4 1, 3) := by decide +kernel
theorem dX1_signAt_147 : decode cX1_signAt 147 = .ok (.goto (-122), 3) := by decide +kernel
theorem dX1_signAt_150 : decode cX1_signAt 150 = .ok (.aload_n 0, 1) := by decide +kernel
theorem dX1_signAt_151 : decode cX1_signAt 151 = .ok (.getfield 19, 3) := by decide +kernel
theorem dX1_signAt_154 : decode cX1_signAt 154 = .ok (.iload_n 2, 1) := by decide +kernel
theorem dX1_signAt_155 : decode cX1_signAt 155 = .ok (.iaload, 1) := by decide +kernel
theorem dX1_signAt_156 : decode cX1_signAt 156 = .ok (.ifCond .ne 17, 3) := by decide +kernel
theorem dX1_signAt_159 : decode cX1_signAt 159 = .ok (.ldc 83, 2) := by decide +kernel
theorem dX1_signAt_161 : decode cX1_signAt 161 = .ok (.aload_n 0, 1) := by decide +kernel
theorem dX1_signAt_162 : decode cX1_signAt 162 = .ok (.getfield 23, 3) := by decide +kernel
theorem dX1_signAt_165 : decode cX1_signAt 165 = .ok (.iload_n 2, 1) := by decide +kernel
theorem dX1_signAt_166 : decode cX1_signAt 166 = .ok (.iaload, 1) := by decide +kernel
theorem dX1_signAt_167 : decode cX1_signAt 167 = .ok (.invokevirtual 77, 3) := by decide +kernel
theorem dX1_signAt_170 : decode cX1_signAt 170 = .ok (.goto 5, 3) := by decide +kernel
theorem dX1_signAt_173 : decode cX1_signAt 173 = .ok (.bipush 70, 2) := by decide +kernel
theorem dX1_signAt_175 : decode cX1_signAt 175 = .ok (.ireturn, 1) := by decide +kernel
