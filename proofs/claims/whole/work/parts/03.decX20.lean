theorem dX2_init_0 : decode cX2_init 0 = .ok (.aload_n 0, 1) := by decide +kernel
theorem dX2_init_1 : decode cX2_init 1 = .ok (.invokespecial 3, 3) := by decide +kernel
theorem dX2_init_4 : decode cX2_init 4 = .ok (.aload_n 0, 1) := by decide +kernel
theorem dX2_init_5 : decode cX2_init 5 = .ok (.bipush 6, 2) := by decide +kernel
theorem dX2_init_7 : decode cX2_init 7 = .ok (.anewarray 9, 3) := by decide +kernel
theorem dX2_init_10 : decode cX2_init 10 = .ok (.putfield 11, 3) := by decide +kernel
theorem dX2_init_13 : decode cX2_init 13 = .ok (.iconst 0, 1) := by decide +kernel
theorem dX2_init_14 : decode cX2_init 14 = .ok (.istore_n 1, 1) := by decide +kernel
theorem dX2_init_15 : decode cX2_init 15 = .ok (.iload_n 1, 1) := by decide +kernel
theorem dX2_init_16 : decode cX2_init 16 = .ok (.bipush 6, 2) := by decide +kernel
theorem dX2_init_18 : decode cX2_init 18 = .ok (.if_icmp .ge 22, 3) := by decide +kernel
theorem dX2_init_21 : decode cX2_init 21 = .ok (.aload_n 0, 1) := by decide +kernel
theorem dX2_init_22 : decode cX2_init 22 = .ok (.getfield 11, 3) := by decide +kernel
theorem dX2_init_25 : decode cX2_init 25 = .ok (.iload_n 1, 1) := by decide +kernel
theorem dX2_init_26 : decode cX2_init 26 = .ok (.new 9, 3) := by decide +kernel
theorem dX2_init_29 : decode cX2_init 29 = .ok (.dup, 1) := by decide +kernel
theorem dX2_init_30 : decode cX2_init 30 = .ok (.invokespecial 17, 3) := by decide +kernel
theorem dX2_init_33 : decode cX2_init 33 = .ok (.aastore, 1) := by decide +kernel
theorem dX2_init_34 : decode cX2_init 34 = .ok (.iinc 1 1, 3) := by decide +kernel
theorem dX2_init_37 : decode cX2_init 37 = .ok (.goto (-22), 3) := by decide +kernel
theorem dX2_init_40 : decode cX2_init 40 = .ok (.return_, 1) := by decide +kernel
theorem dX2_copyFrom_0 : decode cX2_copyFrom 0 = .ok (.iconst 0, 1) := by decide +kernel
theorem dX2_copyFrom_1 : decode cX2_copyFrom 1 = .ok (.istore_n 2, 1) := by decide +kernel
theorem dX2_copyFrom_2 : decode cX2_copyFrom 2 = .ok (.iload_n 2, 1) := by decide +kernel
theorem dX2_copyFrom_3 : decode cX2_copyFrom 3 = .ok (.bipush 6, 2) := by decide +kernel
theorem dX2_copyFrom_5 : decode cX2_copyFrom 5 = .ok (.if_icmp .ge 24, 3) := by decide +kernel
theorem dX2_copyFrom_8 : decode cX2_copyFrom 8 = .ok (.aload_n 0, 1) := by decide +kernel
theorem dX2_copyFrom_9 : decode cX2_copyFrom 9 = .ok (.getfield 11, 3) := by decide +kernel
theorem dX2_copyFrom_12 : decode cX2_copyFrom 12 = .ok (.iload_n 2, 1) := by decide +kernel
theorem dX2_copyFrom_13 : decode cX2_copyFrom 13 = .ok (.aaload, 1) := by decide +kernel
theorem dX2_copyFrom_14 : decode cX2_copyFrom 14 = .ok (.aload_n 1, 1) := by decide +kernel
theorem dX2_copyFrom_15 : decode cX2_copyFrom 15 = .ok (.getfield 11, 3) := by decide +kernel
theorem dX2_copyFrom_18 : decode cX2_copyFrom 18 = .ok (.iload_n 2, 1) := by decide +kernel
theorem dX2_copyFrom_19 : decode cX2_copyFrom 19 = .ok (.aaload, 1) := by decide +kernel
theorem dX2_copyFrom_20 : decode cX2_copyFrom 20 = .ok (.invokevirtual 18, 3) := by decide +kernel
theorem dX2_copyFrom_23 : decode cX2_copyFrom 23 = .ok (.iinc 2 1, 3) := by decide +kernel
theorem dX2_copyFrom_26 : decode cX2_copyFrom 26 = .ok (.goto (-24), 3) := by decide +kernel
theorem dX2_copyFrom_29 : decode cX2_copyFrom 29 = .ok (.return_, 1) := by decide +kernel
theorem dX2_countUnlike_0 : decode cX2_countUnlike 0 = .ok (.iconst 0, 1) := by decide +kernel
theorem dX2_countUnlike_1 : decode cX2_countUnlike 1 = .ok (.istore_n 1, 1) := by decide +kernel
theorem dX2_countUnlike_2 : decode cX2_countUnlike 2 = .ok (.iconst 0, 1) := by decide +kernel
theorem dX2_countUnlike_3 : decode cX2_countUnlike 3 = .ok (.istore_n 2, 1) := by decide +kernel
theorem dX2_countUnlike_4 : decode cX2_countUnlike 4 = .ok (.iload_n 2, 1) := by decide +kernel
theorem dX2_countUnlike_5 : decode cX2_countUnlike 5 = .ok (.bipush 6, 2) := by decide +kernel
theorem dX2_countUnlike_7 : decode cX2_countUnlike 7 = .ok (.if_icmp .ge 32, 3) := by decide +kernel
theorem dX2_countUnlike_10 : decode cX2_countUnlike 10 = .ok (.aload_n 0, 1) := by decide +kernel
theorem dX2_countUnlike_11 : decode cX2_countUnlike 11 = .ok (.getfield 11, 3) := by decide +kernel
theorem dX2_countUnlike_14 : decode cX2_countUnlike 14 = .ok (.iload_n 2, 1) := by decide +kernel
theorem dX2_countUnlike_15 : decode cX2_countUnlike 15 = .ok (.aaload, 1) := by decide +kernel
theorem dX2_countUnlike_16 : decode cX2_countUnlike 16 = .ok (.getfield 22, 3) := by decide +kernel
theorem dX2_countUnlike_19 : decode cX2_countUnlike 19 = .ok (.ifCond .le 14, 3) := by decide +kernel
theorem dX2_countUnlike_22 : decode cX2_countUnlike 22 = .ok (.aload_n 0, 1) := by decide +kernel
theorem dX2_countUnlike_23 : decode cX2_countUnlike 23 = .ok (.iload_n 2, 1) := by decide +kernel
theorem dX2_countUnlike_24 : decode cX2_countUnlike 24 = .ok (.invokevirtual 26, 3) := by decide +kernel
theorem dX2_countUnlike_27 : decode cX2_countUnlike 27 = .ok (.ifCond .ne 6, 3) := by decide +kernel
theorem dX2_countUnlike_30 : decode cX2_countUnlike 30 = .ok (.iinc 1 1, 3) := by decide +kernel
theorem dX2_countUnlike_33 : decode cX2_countUnlike 33 = .ok (.iinc 2 1, 3) := by decide +kernel
theorem dX2_countUnlike_36 : decode cX2_countUnlike 36 = .ok (.goto (-32), 3) := by decide +kernel
theorem dX2_countUnlike_39 : decode cX2_countUnlike 39 = .ok (.iload_n 1, 1) := by decide +kernel
theorem dX2_countUnlike_40 : decode cX2_countUnlike 40 = .ok (.ireturn, 1) := by decide +kernel
theorem dX2_standsBefore_0 : decode cX2_standsBefore 0 = .ok (.iconst 0, 1) := by decide +kernel
theorem dX2_standsBefore_1 : decode cX2_standsBefore 1 = .ok (.istore_n 2, 1) := by decide +kernel
theorem dX2_standsBefore_2 : decode cX2_standsBefore 2 = .ok (.iload_n 2, 1) := by decide +kernel
theorem dX2_standsBefore_3 : decode cX2_standsBefore 3 = .ok (.iload_n 1, 1) := by decide +kernel
theorem dX2_standsBefore_4 : decode cX2_standsBefore 4 = .ok (.if_icmp .ge 29, 3) := by decide +kernel
theorem dX2_standsBefore_7 : decode cX2_standsBefore 7 = .ok (.aload_n 0, 1) := by decide +kernel
theorem dX2_standsBefore_8 : decode cX2_standsBefore 8 = .ok (.getfield 11, 3) := by decide +kernel
theorem dX2_standsBefore_11 : decode cX2_standsBefore 11 = .ok (.iload_n 2, 1) := by decide +kernel
theorem dX2_standsBefore_12 : decode cX2_standsBefore 12 = .ok (.aaload, 1) := by decide +kernel
theorem dX2_standsBefore_13 : decode cX2_standsBefore 13 = .ok (.aload_n 0, 1) := by decide +kernel
theorem dX2_standsBefore_14 : decode cX2_standsBefore 14 = .ok (.getfield 11, 3) := by decide +kernel
theorem dX2_standsBefore_17 : decode cX2_standsBefore 17 = .ok (.iload_n 1, 1) := by decide +kernel
theorem dX2_standsBefore_18 : decode cX2_standsBefore 18 = .ok (.aaload, 1) := by decide +kernel
theorem dX2_standsBefore_19 : decode cX2_standsBefore 19 = .ok (.invokevirtual 30, 3) := by decide +kernel
theorem dX2_standsBefore_22 : decode cX2_standsBefore 22 = .ok (.ifCond .eq 5, 3) := by decide +kernel
theorem dX2_standsBefore_25 : decode cX2_standsBefore 25 = .ok (.iconst 1, 1) := by decide +kernel
theorem dX2_standsBefore_26 : decode cX2_standsBefore 26 = .ok (.ireturn, 1) := by decide +kernel
theorem dX2_standsBefore_27 : decode cX2_standsBefore 27 = .ok (.iinc 2 1, 3) := by decide +kernel
theorem dX2_standsBefore_30 : decode cX2_standsBefore 30 = .ok (.goto (-28), 3) := by decide +kernel
theorem dX2_standsBefore_33 : decode cX2_standsBefore 33 = .ok (.iconst 0, 1) := by decide +kernel
theorem dX2_standsBefore_34 : decode cX2_standsBefore 34 = .ok (.ireturn, 1) := by decide +kernel
