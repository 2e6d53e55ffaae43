theorem dX3_init_0 : decode cX3_init 0 = .ok (.aload_n 0, 1) := by decide +kernel
theorem dX3_init_1 : decode cX3_init 1 = .ok (.invokespecial 3, 3) := by decide +kernel
theorem dX3_init_4 : decode cX3_init 4 = .ok (.aload_n 0, 1) := by decide +kernel
theorem dX3_init_5 : decode cX3_init 5 = .ok (.iconst 0, 1) := by decide +kernel
theorem dX3_init_6 : decode cX3_init 6 = .ok (.putfield 9, 3) := by decide +kernel
theorem dX3_init_9 : decode cX3_init 9 = .ok (.aload_n 0, 1) := by decide +kernel
theorem dX3_init_10 : decode cX3_init 10 = .ok (.bipush 40, 2) := by decide +kernel
theorem dX3_init_12 : decode cX3_init 12 = .ok (.newarray .int, 2) := by decide +kernel
theorem dX3_init_14 : decode cX3_init 14 = .ok (.putfield 15, 3) := by decide +kernel
theorem dX3_init_17 : decode cX3_init 17 = .ok (.aload_n 0, 1) := by decide +kernel
theorem dX3_init_18 : decode cX3_init 18 = .ok (.bipush 40, 2) := by decide +kernel
theorem dX3_init_20 : decode cX3_init 20 = .ok (.newarray .int, 2) := by decide +kernel
theorem dX3_init_22 : decode cX3_init 22 = .ok (.putfield 19, 3) := by decide +kernel
theorem dX3_init_25 : decode cX3_init 25 = .ok (.aload_n 0, 1) := by decide +kernel
theorem dX3_init_26 : decode cX3_init 26 = .ok (.bipush 40, 2) := by decide +kernel
theorem dX3_init_28 : decode cX3_init 28 = .ok (.newarray .int, 2) := by decide +kernel
theorem dX3_init_30 : decode cX3_init 30 = .ok (.putfield 22, 3) := by decide +kernel
theorem dX3_init_33 : decode cX3_init 33 = .ok (.aload_n 0, 1) := by decide +kernel
theorem dX3_init_34 : decode cX3_init 34 = .ok (.iconst 0, 1) := by decide +kernel
theorem dX3_init_35 : decode cX3_init 35 = .ok (.putfield 25, 3) := by decide +kernel
theorem dX3_init_38 : decode cX3_init 38 = .ok (.aload_n 0, 1) := by decide +kernel
theorem dX3_init_39 : decode cX3_init 39 = .ok (.iconst 1, 1) := by decide +kernel
theorem dX3_init_40 : decode cX3_init 40 = .ok (.putfield 28, 3) := by decide +kernel
theorem dX3_init_43 : decode cX3_init 43 = .ok (.aload_n 0, 1) := by decide +kernel
theorem dX3_init_44 : decode cX3_init 44 = .ok (.iconst 0, 1) := by decide +kernel
theorem dX3_init_45 : decode cX3_init 45 = .ok (.putfield 32, 3) := by decide +kernel
theorem dX3_init_48 : decode cX3_init 48 = .ok (.return_, 1) := by decide +kernel
theorem dX3_add_0 : decode cX3_add 0 = .ok (.aload_n 0, 1) := by decide +kernel
theorem dX3_add_1 : decode cX3_add 1 = .ok (.getfield 9, 3) := by decide +kernel
theorem dX3_add_4 : decode cX3_add 4 = .ok (.bipush 40, 2) := by decide +kernel
theorem dX3_add_6 : decode cX3_add 6 = .ok (.if_icmp .ge 23, 3) := by decide +kernel
theorem dX3_add_9 : decode cX3_add 9 = .ok (.aload_n 0, 1) := by decide +kernel
theorem dX3_add_10 : decode cX3_add 10 = .ok (.getfield 15, 3) := by decide +kernel
theorem dX3_add_13 : decode cX3_add 13 = .ok (.aload_n 0, 1) := by decide +kernel
theorem dX3_add_14 : decode cX3_add 14 = .ok (.getfield 9, 3) := by decide +kernel
theorem dX3_add_17 : decode cX3_add 17 = .ok (.iload_n 1, 1) := by decide +kernel
theorem dX3_add_18 : decode cX3_add 18 = .ok (.iastore, 1) := by decide +kernel
theorem dX3_add_19 : decode cX3_add 19 = .ok (.aload_n 0, 1) := by decide +kernel
theorem dX3_add_20 : decode cX3_add 20 = .ok (.dup, 1) := by decide +kernel
theorem dX3_add_21 : decode cX3_add 21 = .ok (.getfield 9, 3) := by decide +kernel
theorem dX3_add_24 : decode cX3_add 24 = .ok (.iconst 1, 1) := by decide +kernel
theorem dX3_add_25 : decode cX3_add 25 = .ok (.iadd, 1) := by decide +kernel
theorem dX3_add_26 : decode cX3_add 26 = .ok (.putfield 9, 3) := by decide +kernel
theorem dX3_add_29 : decode cX3_add 29 = .ok (.return_, 1) := by decide +kernel
theorem dX3_parseInto_0 : decode cX3_parseInto 0 = .ok (.aload_n 1, 1) := by decide +kernel
theorem dX3_parseInto_1 : decode cX3_parseInto 1 = .ok (.invokevirtual 35, 3) := by decide +kernel
theorem dX3_parseInto_4 : decode cX3_parseInto 4 = .ok (.aload_n 0, 1) := by decide +kernel
theorem dX3_parseInto_5 : decode cX3_parseInto 5 = .ok (.iconst 0, 1) := by decide +kernel
theorem dX3_parseInto_6 : decode cX3_parseInto 6 = .ok (.putfield 25, 3) := by decide +kernel
theorem dX3_parseInto_9 : decode cX3_parseInto 9 = .ok (.aload_n 0, 1) := by decide +kernel
theorem dX3_parseInto_10 : decode cX3_parseInto 10 = .ok (.iconst 1, 1) := by decide +kernel
theorem dX3_parseInto_11 : decode cX3_parseInto 11 = .ok (.putfield 28, 3) := by decide +kernel
theorem dX3_parseInto_14 : decode cX3_parseInto 14 = .ok (.iconst 0, 1) := by decide +kernel
theorem dX3_parseInto_15 : decode cX3_parseInto 15 = .ok (.istore_n 2, 1) := by decide +kernel
theorem dX3_parseInto_16 : decode cX3_parseInto 16 = .ok (.iload_n 2, 1) := by decide +kernel
theorem dX3_parseInto_17 : decode cX3_parseInto 17 = .ok (.aload_n 0, 1) := by decide +kernel
theorem dX3_parseInto_18 : decode cX3_parseInto 18 = .ok (.getfield 9, 3) := by decide +kernel
theorem dX3_parseInto_21 : decode cX3_parseInto 21 = .ok (.if_icmp .ge 48, 3) := by decide +kernel
theorem dX3_parseInto_24 : decode cX3_parseInto 24 = .ok (.aload_n 0, 1) := by decide +kernel
theorem dX3_parseInto_25 : decode cX3_parseInto 25 = .ok (.getfield 28, 3) := by decide +kernel
theorem dX3_parseInto_28 : decode cX3_parseInto 28 = .ok (.ifCond .eq 17, 3) := by decide +kernel
theorem dX3_parseInto_31 : decode cX3_parseInto 31 = .ok (.aload_n 0, 1) := by decide +kernel
theorem dX3_parseInto_32 : decode cX3_parseInto 32 = .ok (.aload_n 1, 1) := by decide +kernel
theorem dX3_parseInto_33 : decode cX3_parseInto 33 = .ok (.aload_n 0, 1) := by decide +kernel
theorem dX3_parseInto_34 : decode cX3_parseInto 34 = .ok (.getfield 15, 3) := by decide +kernel
theorem dX3_parseInto_37 : decode cX3_parseInto 37 = .ok (.iload_n 2, 1) := by decide +kernel
theorem dX3_parseInto_38 : decode cX3_parseInto 38 = .ok (.iaload, 1) := by decide +kernel
theorem dX3_parseInto_39 : decode cX3_parseInto 39 = .ok (.invokevirtual 40, 3) := by decide +kernel
theorem dX3_parseInto_42 : decode cX3_parseInto 42 = .ok (.goto 14, 3) := by decide +kernel
theorem dX3_parseInto_45 : decode cX3_parseInto 45 = .ok (.aload_n 0, 1) := by decide +kernel
theorem dX3_parseInto_46 : decode cX3_parseInto 46 = .ok (.aload_n 1, 1) := by decide +kernel
theorem dX3_parseInto_47 : decode cX3_parseInto 47 = .ok (.aload_n 0, 1) := by decide +kernel
theorem dX3_parseInto_48 : decode cX3_parseInto 48 = .ok (.getfield 15, 3) := by decide +kernel
theorem dX3_parseInto_51 : decode cX3_parseInto 51 = .ok (.iload_n 2, 1) := by decide +kernel
theorem dX3_parseInto_52 : decode cX3_parseInto 52 = .ok (.iaload, 1) := by decide +kernel
theorem dX3_parseInto_53 : decode cX3_parseInto 53 = .ok (.invokevirtual 44, 3) := by decide +kernel
theorem dX3_parseInto_56 : decode cX3_parseInto 56 = .ok (.istore_n 3, 1) := by decide +kernel
theorem dX3_parseInto_57 : decode cX3_parseInto 57 = .ok (.iload_n 3, 1) := by decide +kernel
theorem dX3_parseInto_58 : decode cX3_parseInto 58 = .ok (.ifCond .ne 5, 3) := by decide +kernel
theorem dX3_parseInto_61 : decode cX3_parseInto 61 = .ok (.iload_n 2, 1) := by decide +kernel
theorem dX3_parseInto_62 : decode cX3_parseInto 62 = .ok (.ireturn, 1) := by decide +kernel
theorem dX3_parseInto_63 : decode cX3_parseInto 63 = .ok (.iinc 2 1, 3) := by decide +kernel
theorem dX3_parseInto_66 : decode cX3_parseInto 66 = .ok (.goto (-50), 3) := by decide +kernel
theorem dX3_parseInto_69 : decode cX3_parseInto 69 = .ok (.aload_n 0, 1) := by decide +kernel
theorem dX3_parseInto_70 : decode cX3_parseInto 70 = .ok (.getfield 28, 3) := by decide +kernel
theorem dX3_parseInto_73 : decode cX3_parseInto 73 = .ok (.ifCond .ne 10, 3) := by decide +kernel
theorem dX3_parseInto_76 : decode cX3_parseInto 76 = .ok (.aload_n 0, 1) := by decide +kernel
theorem dX3_parseInto_77 : decode cX3_parseInto 77 = .ok (.getfield 25, 3) := by decide +kernel
theorem dX3_parseInto_80 : decode cX3_parseInto 80 = .ok (.ifCond .le 10, 3) := by decide +kernel
theorem dX3_parseInto_83 : decode cX3_parseInto 83 = .ok (.aload_n 0, 1) := by decide +kernel
theorem dX3_parseInto_84 : decode cX3_parseInto 84 = .ok (.getfield 9, 3) := by decide +kernel
theorem dX3_parseInto_87 : decode cX3_parseInto 87 = .ok (.goto 5, 3) := by decide +kernel
theorem dX3_parseInto_90 : decode cX3_parseInto 90 = .ok (.bipush (-6), 2) := by decide +kernel
theorem dX3_parseInto_92 : decode cX3_parseInto 92 = .ok (.ireturn, 1) := by decide +kernel
theorem dX3_begin_0 : decode cX3_begin 0 = .ok (.iload_n 2, 1) := by decide +kernel
theorem dX3_begin_1 : decode cX3_begin 1 = .ok (.bipush 40, 2) := by decide +kernel
theorem dX3_begin_3 : decode cX3_begin 3 = .ok (.if_icmp .ne 9, 3) := by decide +kernel
theorem dX3_begin_6 : decode cX3_begin 6 = .ok (.aload_n 0, 1) := by decide +kernel
theorem dX3_begin_7 : decode cX3_begin 7 = .ok (.iconst 1, 1) := by decide +kernel
theorem dX3_begin_8 : decode cX3_begin 8 = .ok (.invokevirtual 47, 3) := by decide +kernel
theorem dX3_begin_11 : decode cX3_begin 11 = .ok (.ireturn, 1) := by decide +kernel
theorem dX3_begin_12 : decode cX3_begin 12 = .ok (.iload_n 2, 1) := by decide +kernel
theorem dX3_begin_13 : decode cX3_begin 13 = .ok (.bipush 45, 2) := by decide +kernel
theorem dX3_begin_15 : decode cX3_begin 15 = .ok (.if_icmp .ne 9, 3) := by decide +kernel
theorem dX3_begin_18 : decode cX3_begin 18 = .ok (.aload_n 0, 1) := by decide +kernel
theorem dX3_begin_19 : decode cX3_begin 19 = .ok (.iconst 0, 1) := by decide +kernel
theorem dX3_begin_20 : decode cX3_begin 20 = .ok (.invokevirtual 47, 3) := by decide +kernel
theorem dX3_begin_23 : decode cX3_begin 23 = .ok (.ireturn, 1) := by decide +kernel
theorem dX3_begin_24 : decode cX3_begin 24 = .ok (.iload_n 2, 1) := by decide +kernel
theorem dX3_begin_25 : decode cX3_begin 25 = .ok (.bipush 70, 2) := by decide +kernel
theorem dX3_begin_27 : decode cX3_begin 27 = .ok (.if_icmp .ne 19, 3) := by decide +kernel
theorem dX3_begin_30 : decode cX3_begin 30 = .ok (.aload_n 0, 1) := by decide +kernel
theorem dX3_begin_31 : decode cX3_begin 31 = .ok (.aload_n 1, 1) := by decide +kernel
theorem dX3_begin_32 : decode cX3_begin 32 = .ok (.aload_n 1, 1) := by decide +kernel
theorem dX3_begin_33 : decode cX3_begin 33 = .ok (.iconst 1, 1) := by decide +kernel
theorem dX3_begin_34 : decode cX3_begin 34 = .ok (.bipush (-6), 2) := by decide +kernel
theorem dX3_begin_36 : decode cX3_begin 36 = .ok (.bipush (-6), 2) := by decide +kernel
theorem dX3_begin_38 : decode cX3_begin 38 = .ok (.invokevirtual 51, 3) := by decide +kernel
theorem dX3_begin_41 : decode cX3_begin 41 = .ok (.invokevirtual 55, 3) := by decide +kernel
theorem dX3_begin_44 : decode cX3_begin 44 = .ok (.iconst 1, 1) := by decide +kernel
theorem dX3_begin_45 : decode cX3_begin 45 = .ok (.ireturn, 1) := by decide +kernel
theorem dX3_begin_46 : decode cX3_begin 46 = .ok (.ldc 59, 2) := by decide +kernel
theorem dX3_begin_48 : decode cX3_begin 48 = .ok (.iload_n 2, 1) := by decide +kernel
theorem dX3_begin_49 : decode cX3_begin 49 = .ok (.i2c, 1) := by decide +kernel
theorem dX3_begin_50 : decode cX3_begin 50 = .ok (.invokevirtual 61, 3) := by decide +kernel
theorem dX3_begin_53 : decode cX3_begin 53 = .ok (.istore_n 3, 1) := by decide +kernel
theorem dX3_begin_54 : decode cX3_begin 54 = .ok (.iload_n 3, 1) := by decide +kernel
theorem dX3_begin_55 : decode cX3_begin 55 = .ok (.ifCond .ge 5, 3) := by decide +kernel
theorem dX3_begin_58 : decode cX3_begin 58 = .ok (.iconst 0, 1) := by decide +kernel
theorem dX3_begin_59 : decode cX3_begin 59 = .ok (.ireturn, 1) := by decide +kernel
theorem dX3_begin_60 : decode cX3_begin 60 = .ok (.aload_n 0, 1) := by decide +kernel
theorem dX3_begin_61 : decode cX3_begin 61 = .ok (.aload_n 1, 1) := by decide +kernel
theorem dX3_begin_62 : decode cX3_begin 62 = .ok (.aload_n 1, 1) := by decide +kernel
theorem dX3_begin_63 : decode cX3_begin 63 = .ok (.iconst 0, 1) := by decide +kernel
theorem dX3_begin_64 : decode cX3_begin 64 = .ok (.iload_n 3, 1) := by decide +kernel
theorem dX3_begin_65 : decode cX3_begin 65 = .ok (.bipush (-6), 2) := by decide +kernel
theorem dX3_begin_67 : decode cX3_begin 67 = .ok (.invokevirtual 51, 3) := by decide +kernel
theorem dX3_begin_70 : decode cX3_begin 70 = .ok (.invokevirtual 55, 3) := by decide +kernel
theorem dX3_begin_73 : decode cX3_begin 73 = .ok (.iconst 1, 1) := by decide +kernel
theorem dX3_begin_74 : decode cX3_begin 74 = .ok (.ireturn, 1) := by decide +kernel
theorem dX3_open_0 : decode cX3_open 0 = .ok (.aload_n 0, 1) := by decide +kernel
theorem dX3_open_1 : decode cX3_open 1 = .ok (.getfield 25, 3) := by decide +kernel
theorem dX3_open_4 : decode cX3_open 4 = .ok (.bipush 40, 2) := by decide +kernel
theorem dX3_open_6 : decode cX3_open 6 = .ok (.if_icmp .lt 5, 3) := by decide +kernel
theorem dX3_open_9 : decode cX3_open 9 = .ok (.iconst 0, 1) := by decide +kernel
theorem dX3_open_10 : decode cX3_open 10 = .ok (.ireturn, 1) := by decide +kernel
theorem dX3_open_11 : decode cX3_open 11 = .ok (.aload_n 0, 1) := by decide +kernel
theorem dX3_open_12 : decode cX3_open 12 = .ok (.getfield 19, 3) := by decide +kernel
theorem dX3_open_15 : decode cX3_open 15 = .ok (.aload_n 0, 1) := by decide +kernel
theorem dX3_open_16 : decode cX3_open 16 = .ok (.getfield 25, 3) := by decide +kernel
theorem dX3_open_19 : decode cX3_open 19 = .ok (.iload_n 1, 1) := by decide +kernel
theorem dX3_open_20 : decode cX3_open 20 = .ok (.iastore, 1) := by decide +kernel
theorem dX3_open_21 : decode cX3_open 21 = .ok (.aload_n 0, 1) := by decide +kernel
theorem dX3_open_22 : decode cX3_open 22 = .ok (.dup, 1) := by decide +kernel
theorem dX3_open_23 : decode cX3_open 23 = .ok (.getfield 25, 3) := by decide +kernel
theorem dX3_open_26 : decode cX3_open 26 = .ok (.iconst 1, 1) := by decide +kernel
theorem dX3_open_27 : decode cX3_open 27 = .ok (.iadd, 1) := by decide +kernel
theorem dX3_open_28 : decode cX3_open 28 = .ok (.putfield 25, 3) := by decide +kernel
theorem dX3_open_31 : decode cX3_open 31 = .ok (.iconst 1, 1) := by decide +kernel
theorem dX3_open_32 : decode cX3_open 32 = .ok (.ireturn, 1) := by decide +kernel
theorem dX3_goOn_0 : decode cX3_goOn 0 = .ok (.aload_n 0, 1) := by decide +kernel
theorem dX3_goOn_1 : decode cX3_goOn 1 = .ok (.getfield 25, 3) := by decide +kernel
theorem dX3_goOn_4 : decode cX3_goOn 4 = .ok (.ifCond .ne 5, 3) := by decide +kernel
theorem dX3_goOn_7 : decode cX3_goOn 7 = .ok (.iconst 0, 1) := by decide +kernel
theorem dX3_goOn_8 : decode cX3_goOn 8 = .ok (.ireturn, 1) := by decide +kernel
theorem dX3_goOn_9 : decode cX3_goOn 9 = .ok (.aload_n 0, 1) := by decide +kernel
theorem dX3_goOn_10 : decode cX3_goOn 10 = .ok (.getfield 25, 3) := by decide +kernel
theorem dX3_goOn_13 : decode cX3_goOn 13 = .ok (.iconst 1, 1) := by decide +kernel
theorem dX3_goOn_14 : decode cX3_goOn 14 = .ok (.isub, 1) := by decide +kernel
theorem dX3_goOn_15 : decode cX3_goOn 15 = .ok (.istore_n 3, 1) := by decide +kernel
theorem dX3_goOn_16 : decode cX3_goOn 16 = .ok (.aload_n 0, 1) := by decide +kernel
theorem dX3_goOn_17 : decode cX3_goOn 17 = .ok (.getfield 19, 3) := by decide +kernel
theorem dX3_goOn_20 : decode cX3_goOn 20 = .ok (.iload_n 3, 1) := by decide +kernel
theorem dX3_goOn_21 : decode cX3_goOn 21 = .ok (.iaload, 1) := by decide +kernel
theorem dX3_goOn_22 : decode cX3_goOn 22 = .ok (.iconst 1, 1) := by decide +kernel
theorem dX3_goOn_23 : decode cX3_goOn 23 = .ok (.if_icmp .ne 46, 3) := by decide +kernel
theorem dX3_goOn_26 : decode cX3_goOn 26 = .ok (.ldc 67, 2) := by decide +kernel
theorem dX3_goOn_28 : decode cX3_goOn 28 = .ok (.iload_n 2, 1) := by decide +kernel
theorem dX3_goOn_29 : decode cX3_goOn 29 = .ok (.i2c, 1) := by decide +kernel
theorem dX3_goOn_30 : decode cX3_goOn 30 = .ok (.invokevirtual 61, 3) := by decide +kernel
theorem dX3_goOn_33 : decode cX3_goOn 33 = .ok (.istore 4, 2) := by decide +kernel
theorem dX3_goOn_35 : decode cX3_goOn 35 = .ok (.iload 4, 2) := by decide +kernel
theorem dX3_goOn_37 : decode cX3_goOn 37 = .ok (.ifCond .ge 5, 3) := by decide +kernel
theorem dX3_goOn_40 : decode cX3_goOn 40 = .ok (.iconst 0, 1) := by decide +kernel
theorem dX3_goOn_41 : decode cX3_goOn 41 = .ok (.ireturn, 1) := by decide +kernel
theorem dX3_goOn_42 : decode cX3_goOn 42 = .ok (.aload_n 0, 1) := by decide +kernel
theorem dX3_goOn_43 : decode cX3_goOn 43 = .ok (.getfield 19, 3) := by decide +kernel
theorem dX3_goOn_46 : decode cX3_goOn 46 = .ok (.iload_n 3, 1) := by decide +kernel
theorem dX3_goOn_47 : decode cX3_goOn 47 = .ok (.iconst 2, 1) := by decide +kernel
theorem dX3_goOn_48 : decode cX3_goOn 48 = .ok (.iload 4, 2) := by decide +kernel
theorem dX3_goOn_50 : decode cX3_goOn 50 = .ok (.iadd, 1) := by decide +kernel
theorem dX3_goOn_51 : decode cX3_goOn 51 = .ok (.iastore, 1) := by decide +kernel
theorem dX3_goOn_52 : decode cX3_goOn 52 = .ok (.aload_n 0, 1) := by decide +kernel
theorem dX3_goOn_53 : decode cX3_goOn 53 = .ok (.getfield 22, 3) := by decide +kernel
theorem dX3_goOn_56 : decode cX3_goOn 56 = .ok (.iload_n 3, 1) := by decide +kernel
theorem dX3_goOn_57 : decode cX3_goOn 57 = .ok (.aload_n 0, 1) := by decide +kernel
theorem dX3_goOn_58 : decode cX3_goOn 58 = .ok (.getfield 32, 3) := by decide +kernel
theorem dX3_goOn_61 : decode cX3_goOn 61 = .ok (.iastore, 1) := by decide +kernel
theorem dX3_goOn_62 : decode cX3_goOn 62 = .ok (.aload_n 0, 1) := by decide +kernel
theorem dX3_goOn_63 : decode cX3_goOn 63 = .ok (.iconst 1, 1) := by decide +kernel
theorem dX3_goOn_64 : decode cX3_goOn 64 = .ok (.putfield 28, 3) := by decide +kernel
theorem dX3_goOn_67 : decode cX3_goOn 67 = .ok (.iconst 1, 1) := by decide +kernel
theorem dX3_goOn_68 : decode cX3_goOn 68 = .ok (.ireturn, 1) := by decide +kernel
theorem dX3_goOn_69 : decode cX3_goOn 69 = .ok (.iload_n 2, 1) := by decide +kernel
theorem dX3_goOn_70 : decode cX3_goOn 70 = .ok (.bipush 41, 2) := by decide +kernel
theorem dX3_goOn_72 : decode cX3_goOn 72 = .ok (.if_icmp .eq 5, 3) := by decide +kernel
theorem dX3_goOn_75 : decode cX3_goOn 75 = .ok (.iconst 0, 1) := by decide +kernel
theorem dX3_goOn_76 : decode cX3_goOn 76 = .ok (.ireturn, 1) := by decide +kernel
theorem dX3_goOn_77 : decode cX3_goOn 77 = .ok (.aload_n 0, 1) := by decide +kernel
theorem dX3_goOn_78 : decode cX3_goOn 78 = .ok (.iload_n 3, 1) := by decide +kernel
theorem dX3_goOn_79 : decode cX3_goOn 79 = .ok (.putfield 25, 3) := by decide +kernel
theorem dX3_goOn_82 : decode cX3_goOn 82 = .ok (.aload_n 0, 1) := by decide +kernel
theorem dX3_goOn_83 : decode cX3_goOn 83 = .ok (.aload_n 1, 1) := by decide +kernel
theorem dX3_goOn_84 : decode cX3_goOn 84 = .ok (.aload_n 1, 1) := by decide +kernel
theorem dX3_goOn_85 : decode cX3_goOn 85 = .ok (.aload_n 0, 1) := by decide +kernel
theorem dX3_goOn_86 : decode cX3_goOn 86 = .ok (.getfield 19, 3) := by decide +kernel
theorem dX3_goOn_89 : decode cX3_goOn 89 = .ok (.iload_n 3, 1) := by decide +kernel
theorem dX3_goOn_90 : decode cX3_goOn 90 = .ok (.iaload, 1) := by decide +kernel
theorem dX3_goOn_91 : decode cX3_goOn 91 = .ok (.aload_n 0, 1) := by decide +kernel
theorem dX3_goOn_92 : decode cX3_goOn 92 = .ok (.getfield 22, 3) := by decide +kernel
theorem dX3_goOn_95 : decode cX3_goOn 95 = .ok (.iload_n 3, 1) := by decide +kernel
theorem dX3_goOn_96 : decode cX3_goOn 96 = .ok (.iaload, 1) := by decide +kernel
theorem dX3_goOn_97 : decode cX3_goOn 97 = .ok (.aload_n 0, 1) := by decide +kernel
theorem dX3_goOn_98 : decode cX3_goOn 98 = .ok (.getfield 32, 3) := by decide +kernel
theorem dX3_goOn_101 : decode cX3_goOn 101 = .ok (.invokevirtual 51, 3) := by decide +kernel
theorem dX3_goOn_104 : decode cX3_goOn 104 = .ok (.invokevirtual 55, 3) := by decide +kernel
theorem dX3_goOn_107 : decode cX3_goOn 107 = .ok (.iconst 1, 1) := by decide +kernel
theorem dX3_goOn_108 : decode cX3_goOn 108 = .ok (.ireturn, 1) := by decide +kernel
theorem dX3_finish_0 : decode cX3_finish 0 = .ok (.aload_n 0, 1) := by decide +kernel
theorem dX3_finish_1 : decode cX3_finish 1 = .ok (.iload_n 2, 1) := by decide +kernel
theorem dX3_finish_2 : decode cX3_finish 2 = .ok (.putfield 32, 3) := by decide +kernel
theorem dX3_finish_5 : decode cX3_finish 5 = .ok (.aload_n 0, 1) := by decide +kernel
theorem dX3_finish_6 : decode cX3_finish 6 = .ok (.iconst 0, 1) := by decide +kernel
theorem dX3_finish_7 : decode cX3_finish 7 = .ok (.putfield 28, 3) := by decide +kernel
theorem dX3_finish_10 : decode cX3_finish 10 = .ok (.aload_n 0, 1) := by decide +kernel
theorem dX3_finish_11 : decode cX3_finish 11 = .ok (.getfield 25, 3) := by decide +kernel
theorem dX3_finish_14 : decode cX3_finish 14 = .ok (.ifCond .le 52, 3) := by decide +kernel
theorem dX3_finish_17 : decode cX3_finish 17 = .ok (.aload_n 0, 1) := by decide +kernel
theorem dX3_finish_18 : decode cX3_finish 18 = .ok (.getfield 19, 3) := by decide +kernel
theorem dX3_finish_21 : decode cX3_finish 21 = .ok (.aload_n 0, 1) := by decide +kernel
theorem dX3_finish_22 : decode cX3_finish 22 = .ok (.getfield 25, 3) := by decide +kernel
theorem dX3_finish_25 : decode cX3_finish 25 = .ok (.iconst 1, 1) := by decide +kernel
theorem dX3_finish_26 : decode cX3_finish 26 = .ok (.isub, 1) := by decide +kernel
theorem dX3_finish_27 : decode cX3_finish 27 = .ok (.iaload, 1) := by decide +kernel
theorem dX3_finish_28 : decode cX3_finish 28 = .ok (.ifCond .ne 38, 3) := by decide +kernel
theorem dX3_finish_31 : decode cX3_finish 31 = .ok (.aload_n 0, 1) := by decide +kernel
theorem dX3_finish_32 : decode cX3_finish 32 = .ok (.dup, 1) := by decide +kernel
theorem dX3_finish_33 : decode cX3_finish 33 = .ok (.getfield 25, 3) := by decide +kernel
theorem dX3_finish_36 : decode cX3_finish 36 = .ok (.iconst 1, 1) := by decide +kernel
theorem dX3_finish_37 : decode cX3_finish 37 = .ok (.isub, 1) := by decide +kernel
theorem dX3_finish_38 : decode cX3_finish 38 = .ok (.putfield 25, 3) := by decide +kernel
theorem dX3_finish_41 : decode cX3_finish 41 = .ok (.aload_n 0, 1) := by decide +kernel
theorem dX3_finish_42 : decode cX3_finish 42 = .ok (.aload_n 1, 1) := by decide +kernel
theorem dX3_finish_43 : decode cX3_finish 43 = .ok (.iconst 4, 1) := by decide +kernel
theorem dX3_finish_44 : decode cX3_finish 44 = .ok (.aload_n 0, 1) := by decide +kernel
theorem dX3_finish_45 : decode cX3_finish 45 = .ok (.getfield 32, 3) := by decide +kernel
theorem dX3_finish_48 : decode cX3_finish 48 = .ok (.aload_n 1, 1) := by decide +kernel
theorem dX3_finish_49 : decode cX3_finish 49 = .ok (.iconst 1, 1) := by decide +kernel
theorem dX3_finish_50 : decode cX3_finish 50 = .ok (.bipush (-6), 2) := by decide +kernel
theorem dX3_finish_52 : decode cX3_finish 52 = .ok (.bipush (-6), 2) := by decide +kernel
theorem dX3_finish_54 : decode cX3_finish 54 = .ok (.invokevirtual 51, 3) := by decide +kernel
theorem dX3_finish_57 : decode cX3_finish 57 = .ok (.invokevirtual 51, 3) := by decide +kernel
theorem dX3_finish_60 : decode cX3_finish 60 = .ok (.putfield 32, 3) := by decide +kernel
theorem dX3_finish_63 : decode cX3_finish 63 = .ok (.goto (-53), 3) := by decide +kernel
theorem dX3_finish_66 : decode cX3_finish 66 = .ok (.return_, 1) := by decide +kernel
