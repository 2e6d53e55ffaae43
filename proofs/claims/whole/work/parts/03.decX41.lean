theorem dX4_isPlain_27 : decode cX4_isPlain 27 = .ok (.iconst 1, 1) := by decide +kernel
theorem dX4_isPlain_28 : decode cX4_isPlain 28 = .ok (.goto 4, 3) := by decide +kernel
theorem dX4_isPlain_31 : decode cX4_isPlain 31 = .ok (.iconst 0, 1) := by decide +kernel
theorem dX4_isPlain_32 : decode cX4_isPlain 32 = .ok (.ireturn, 1) := by decide +kernel
theorem dX4_putDraft_0 : decode cX4_putDraft 0 = .ok (.aload_n 0, 1) := by decide +kernel
theorem dX4_putDraft_1 : decode cX4_putDraft 1 = .ok (.getfield 10, 3) := by decide +kernel
theorem dX4_putDraft_4 : decode cX4_putDraft 4 = .ok (.getfield 74, 3) := by decide +kernel
theorem dX4_putDraft_7 : decode cX4_putDraft 7 = .ok (.iload_n 1, 1) := by decide +kernel
theorem dX4_putDraft_8 : decode cX4_putDraft 8 = .ok (.aaload, 1) := by decide +kernel
theorem dX4_putDraft_9 : decode cX4_putDraft 9 = .ok (.aload_n 0, 1) := by decide +kernel
theorem dX4_putDraft_10 : decode cX4_putDraft 10 = .ok (.getfield 37, 3) := by decide +kernel
theorem dX4_putDraft_13 : decode cX4_putDraft 13 = .ok (.invokevirtual 176, 3) := by decide +kernel
theorem dX4_putDraft_16 : decode cX4_putDraft 16 = .ok (.aload_n 0, 1) := by decide +kernel
theorem dX4_putDraft_17 : decode cX4_putDraft 17 = .ok (.getfield 37, 3) := by decide +kernel
theorem dX4_putDraft_20 : decode cX4_putDraft 20 = .ok (.getfield 117, 3) := by decide +kernel
theorem dX4_putDraft_23 : decode cX4_putDraft 23 = .ok (.ireturn, 1) := by decide +kernel
theorem dX4_isEmpty_0 : decode cX4_isEmpty 0 = .ok (.aload_n 0, 1) := by decide +kernel
theorem dX4_isEmpty_1 : decode cX4_isEmpty 1 = .ok (.getfield 10, 3) := by decide +kernel
theorem dX4_isEmpty_4 : decode cX4_isEmpty 4 = .ok (.getfield 74, 3) := by decide +kernel
theorem dX4_isEmpty_7 : decode cX4_isEmpty 7 = .ok (.iload_n 1, 1) := by decide +kernel
theorem dX4_isEmpty_8 : decode cX4_isEmpty 8 = .ok (.aaload, 1) := by decide +kernel
theorem dX4_isEmpty_9 : decode cX4_isEmpty 9 = .ok (.getfield 117, 3) := by decide +kernel
theorem dX4_isEmpty_12 : decode cX4_isEmpty 12 = .ok (.ifCond .ne 7, 3) := by decide +kernel
theorem dX4_isEmpty_15 : decode cX4_isEmpty 15 = .ok (.iconst 1, 1) := by decide +kernel
theorem dX4_isEmpty_16 : decode cX4_isEmpty 16 = .ok (.goto 4, 3) := by decide +kernel
theorem dX4_isEmpty_19 : decode cX4_isEmpty 19 = .ok (.iconst 0, 1) := by decide +kernel
theorem dX4_isEmpty_20 : decode cX4_isEmpty 20 = .ok (.ireturn, 1) := by decide +kernel
theorem dX4_isSlot_0 : decode cX4_isSlot 0 = .ok (.iload_n 0, 1) := by decide +kernel
theorem dX4_isSlot_1 : decode cX4_isSlot 1 = .ok (.ifCond .lt 13, 3) := by decide +kernel
theorem dX4_isSlot_4 : decode cX4_isSlot 4 = .ok (.iload_n 0, 1) := by decide +kernel
theorem dX4_isSlot_5 : decode cX4_isSlot 5 = .ok (.bipush 6, 2) := by decide +kernel
theorem dX4_isSlot_7 : decode cX4_isSlot 7 = .ok (.if_icmp .ge 7, 3) := by decide +kernel
theorem dX4_isSlot_10 : decode cX4_isSlot 10 = .ok (.iconst 1, 1) := by decide +kernel
theorem dX4_isSlot_11 : decode cX4_isSlot 11 = .ok (.goto 4, 3) := by decide +kernel
theorem dX4_isSlot_14 : decode cX4_isSlot 14 = .ok (.iconst 0, 1) := by decide +kernel
theorem dX4_isSlot_15 : decode cX4_isSlot 15 = .ok (.ireturn, 1) := by decide +kernel
theorem dX4_isImage_0 : decode cX4_isImage 0 = .ok (.iload_n 0, 1) := by decide +kernel
theorem dX4_isImage_1 : decode cX4_isImage 1 = .ok (.ifCond .lt 12, 3) := by decide +kernel
theorem dX4_isImage_4 : decode cX4_isImage 4 = .ok (.iload_n 0, 1) := by decide +kernel
theorem dX4_isImage_5 : decode cX4_isImage 5 = .ok (.iconst 2, 1) := by decide +kernel
theorem dX4_isImage_6 : decode cX4_isImage 6 = .ok (.if_icmp .ge 7, 3) := by decide +kernel
theorem dX4_isImage_9 : decode cX4_isImage 9 = .ok (.iconst 1, 1) := by decide +kernel
theorem dX4_isImage_10 : decode cX4_isImage 10 = .ok (.goto 4, 3) := by decide +kernel
theorem dX4_isImage_13 : decode cX4_isImage 13 = .ok (.iconst 0, 1) := by decide +kernel
theorem dX4_isImage_14 : decode cX4_isImage 14 = .ok (.ireturn, 1) := by decide +kernel
theorem dX4_has_0 : decode cX4_has 0 = .ok (.iload_n 0, 1) := by decide +kernel
theorem dX4_has_1 : decode cX4_has 1 = .ok (.iload_n 1, 1) := by decide +kernel
theorem dX4_has_2 : decode cX4_has 2 = .ok (.iushr, 1) := by decide +kernel
theorem dX4_has_3 : decode cX4_has 3 = .ok (.iconst 1, 1) := by decide +kernel
theorem dX4_has_4 : decode cX4_has 4 = .ok (.iand, 1) := by decide +kernel
theorem dX4_has_5 : decode cX4_has 5 = .ok (.ifCond .eq 7, 3) := by decide +kernel
theorem dX4_has_8 : decode cX4_has 8 = .ok (.iconst 1, 1) := by decide +kernel
theorem dX4_has_9 : decode cX4_has 9 = .ok (.goto 4, 3) := by decide +kernel
theorem dX4_has_12 : decode cX4_has 12 = .ok (.iconst 0, 1) := by decide +kernel
theorem dX4_has_13 : decode cX4_has 13 = .ok (.ireturn, 1) := by decide +kernel
