theorem d_Fr_init_0 : decode b_Fr_init 0 = .ok (.aload_n 0, 1) := by decide +kernel
theorem d_Fr_init_1 : decode b_Fr_init 1 = .ok (.invokespecial 1, 3) := by decide +kernel
theorem d_Fr_init_4 : decode b_Fr_init 4 = .ok (.aload_n 0, 1) := by decide +kernel
theorem d_Fr_init_5 : decode b_Fr_init 5 = .ok (.iconst 1, 1) := by decide +kernel
theorem d_Fr_init_6 : decode b_Fr_init 6 = .ok (.putfield 7, 3) := by decide +kernel
theorem d_Fr_init_9 : decode b_Fr_init 9 = .ok (.return_, 1) := by decide +kernel
theorem d_Fr_become_0 : decode b_Fr_become 0 = .ok (.aload_n 0, 1) := by decide +kernel
theorem d_Fr_become_1 : decode b_Fr_become 1 = .ok (.iload_n 1, 1) := by decide +kernel
theorem d_Fr_become_2 : decode b_Fr_become 2 = .ok (.putfield 13, 3) := by decide +kernel
theorem d_Fr_become_5 : decode b_Fr_become 5 = .ok (.aload_n 0, 1) := by decide +kernel
theorem d_Fr_become_6 : decode b_Fr_become 6 = .ok (.iconst 1, 1) := by decide +kernel
theorem d_Fr_become_7 : decode b_Fr_become 7 = .ok (.iload_n 2, 1) := by decide +kernel
theorem d_Fr_become_8 : decode b_Fr_become 8 = .ok (.invokestatic 16, 3) := by decide +kernel
theorem d_Fr_become_11 : decode b_Fr_become 11 = .ok (.putfield 7, 3) := by decide +kernel
theorem d_Fr_become_14 : decode b_Fr_become 14 = .ok (.return_, 1) := by decide +kernel
theorem d_Fr_raiseTo_0 : decode b_Fr_raiseTo 0 = .ok (.iload_n 1, 1) := by decide +kernel
theorem d_Fr_raiseTo_1 : decode b_Fr_raiseTo 1 = .ok (.i2l, 1) := by decide +kernel
theorem d_Fr_raiseTo_2 : decode b_Fr_raiseTo 2 = .ok (.aload_n 0, 1) := by decide +kernel
theorem d_Fr_raiseTo_3 : decode b_Fr_raiseTo 3 = .ok (.getfield 7, 3) := by decide +kernel
theorem d_Fr_raiseTo_6 : decode b_Fr_raiseTo 6 = .ok (.i2l, 1) := by decide +kernel
theorem d_Fr_raiseTo_7 : decode b_Fr_raiseTo 7 = .ok (.lmul, 1) := by decide +kernel
theorem d_Fr_raiseTo_8 : decode b_Fr_raiseTo 8 = .ok (.aload_n 0, 1) := by decide +kernel
theorem d_Fr_raiseTo_9 : decode b_Fr_raiseTo 9 = .ok (.getfield 13, 3) := by decide +kernel
theorem d_Fr_raiseTo_12 : decode b_Fr_raiseTo 12 = .ok (.i2l, 1) := by decide +kernel
theorem d_Fr_raiseTo_13 : decode b_Fr_raiseTo 13 = .ok (.iload_n 2, 1) := by decide +kernel
theorem d_Fr_raiseTo_14 : decode b_Fr_raiseTo 14 = .ok (.i2l, 1) := by decide +kernel
theorem d_Fr_raiseTo_15 : decode b_Fr_raiseTo 15 = .ok (.lmul, 1) := by decide +kernel
theorem d_Fr_raiseTo_16 : decode b_Fr_raiseTo 16 = .ok (.lcmp, 1) := by decide +kernel
theorem d_Fr_raiseTo_17 : decode b_Fr_raiseTo 17 = .ok (.ifCond .le 9, 3) := by decide +kernel
theorem d_Fr_raiseTo_20 : decode b_Fr_raiseTo 20 = .ok (.aload_n 0, 1) := by decide +kernel
theorem d_Fr_raiseTo_21 : decode b_Fr_raiseTo 21 = .ok (.iload_n 1, 1) := by decide +kernel
theorem d_Fr_raiseTo_22 : decode b_Fr_raiseTo 22 = .ok (.iload_n 2, 1) := by decide +kernel
theorem d_Fr_raiseTo_23 : decode b_Fr_raiseTo 23 = .ok (.invokevirtual 22, 3) := by decide +kernel
theorem d_Fr_raiseTo_26 : decode b_Fr_raiseTo 26 = .ok (.return_, 1) := by decide +kernel
theorem d_Fr_lowerTo_0 : decode b_Fr_lowerTo 0 = .ok (.iload_n 1, 1) := by decide +kernel
theorem d_Fr_lowerTo_1 : decode b_Fr_lowerTo 1 = .ok (.i2l, 1) := by decide +kernel
theorem d_Fr_lowerTo_2 : decode b_Fr_lowerTo 2 = .ok (.aload_n 0, 1) := by decide +kernel
theorem d_Fr_lowerTo_3 : decode b_Fr_lowerTo 3 = .ok (.getfield 7, 3) := by decide +kernel
theorem d_Fr_lowerTo_6 : decode b_Fr_lowerTo 6 = .ok (.i2l, 1) := by decide +kernel
theorem d_Fr_lowerTo_7 : decode b_Fr_lowerTo 7 = .ok (.lmul, 1) := by decide +kernel
theorem d_Fr_lowerTo_8 : decode b_Fr_lowerTo 8 = .ok (.aload_n 0, 1) := by decide +kernel
theorem d_Fr_lowerTo_9 : decode b_Fr_lowerTo 9 = .ok (.getfield 13, 3) := by decide +kernel
theorem d_Fr_lowerTo_12 : decode b_Fr_lowerTo 12 = .ok (.i2l, 1) := by decide +kernel
theorem d_Fr_lowerTo_13 : decode b_Fr_lowerTo 13 = .ok (.iload_n 2, 1) := by decide +kernel
theorem d_Fr_lowerTo_14 : decode b_Fr_lowerTo 14 = .ok (.i2l, 1) := by decide +kernel
theorem d_Fr_lowerTo_15 : decode b_Fr_lowerTo 15 = .ok (.lmul, 1) := by decide +kernel
theorem d_Fr_lowerTo_16 : decode b_Fr_lowerTo 16 = .ok (.lcmp, 1) := by decide +kernel
theorem d_Fr_lowerTo_17 : decode b_Fr_lowerTo 17 = .ok (.ifCond .ge 9, 3) := by decide +kernel
theorem d_Fr_lowerTo_20 : decode b_Fr_lowerTo 20 = .ok (.aload_n 0, 1) := by decide +kernel
theorem d_Fr_lowerTo_21 : decode b_Fr_lowerTo 21 = .ok (.iload_n 1, 1) := by decide +kernel
theorem d_Fr_lowerTo_22 : decode b_Fr_lowerTo 22 = .ok (.iload_n 2, 1) := by decide +kernel
theorem d_Fr_lowerTo_23 : decode b_Fr_lowerTo 23 = .ok (.invokevirtual 22, 3) := by decide +kernel
theorem d_Fr_lowerTo_26 : decode b_Fr_lowerTo 26 = .ok (.return_, 1) := by decide +kernel
theorem d_Fr_isBelow_0 : decode b_Fr_isBelow 0 = .ok (.aload_n 0, 1) := by decide +kernel
theorem d_Fr_isBelow_1 : decode b_Fr_isBelow 1 = .ok (.getfield 13, 3) := by decide +kernel
theorem d_Fr_isBelow_4 : decode b_Fr_isBelow 4 = .ok (.i2l, 1) := by decide +kernel
theorem d_Fr_isBelow_5 : decode b_Fr_isBelow 5 = .ok (.aload_n 1, 1) := by decide +kernel
theorem d_Fr_isBelow_6 : decode b_Fr_isBelow 6 = .ok (.getfield 7, 3) := by decide +kernel
theorem d_Fr_isBelow_9 : decode b_Fr_isBelow 9 = .ok (.i2l, 1) := by decide +kernel
theorem d_Fr_isBelow_10 : decode b_Fr_isBelow 10 = .ok (.lmul, 1) := by decide +kernel
theorem d_Fr_isBelow_11 : decode b_Fr_isBelow 11 = .ok (.aload_n 1, 1) := by decide +kernel
theorem d_Fr_isBelow_12 : decode b_Fr_isBelow 12 = .ok (.getfield 13, 3) := by decide +kernel
theorem d_Fr_isBelow_15 : decode b_Fr_isBelow 15 = .ok (.i2l, 1) := by decide +kernel
theorem d_Fr_isBelow_16 : decode b_Fr_isBelow 16 = .ok (.aload_n 0, 1) := by decide +kernel
theorem d_Fr_isBelow_17 : decode b_Fr_isBelow 17 = .ok (.getfield 7, 3) := by decide +kernel
theorem d_Fr_isBelow_20 : decode b_Fr_isBelow 20 = .ok (.i2l, 1) := by decide +kernel
theorem d_Fr_isBelow_21 : decode b_Fr_isBelow 21 = .ok (.lmul, 1) := by decide +kernel
theorem d_Fr_isBelow_22 : decode b_Fr_isBelow 22 = .ok (.lcmp, 1) := by decide +kernel
theorem d_Fr_isBelow_23 : decode b_Fr_isBelow 23 = .ok (.ifCond .ge 7, 3) := by decide +kernel
theorem d_Fr_isBelow_26 : decode b_Fr_isBelow 26 = .ok (.iconst 1, 1) := by decide +kernel
theorem d_Fr_isBelow_27 : decode b_Fr_isBelow 27 = .ok (.goto 4, 3) := by decide +kernel
theorem d_Fr_isBelow_30 : decode b_Fr_isBelow 30 = .ok (.iconst 0, 1) := by decide +kernel
theorem d_Fr_isBelow_31 : decode b_Fr_isBelow 31 = .ok (.ireturn, 1) := by decide +kernel
theorem d_Fr_part_0 : decode b_Fr_part 0 = .ok (.iconst 1, 1) := by decide +kernel
theorem d_Fr_part_1 : decode b_Fr_part 1 = .ok (.aload_n 0, 1) := by decide +kernel
theorem d_Fr_part_2 : decode b_Fr_part 2 = .ok (.getfield 13, 3) := by decide +kernel
theorem d_Fr_part_5 : decode b_Fr_part 5 = .ok (.aload_n 0, 1) := by decide +kernel
theorem d_Fr_part_6 : decode b_Fr_part 6 = .ok (.getfield 7, 3) := by decide +kernel
theorem d_Fr_part_9 : decode b_Fr_part 9 = .ok (.invokestatic 26, 3) := by decide +kernel
theorem d_Fr_part_12 : decode b_Fr_part 12 = .ok (.invokestatic 16, 3) := by decide +kernel
theorem d_Fr_part_15 : decode b_Fr_part 15 = .ok (.istore_n 2, 1) := by decide +kernel
theorem d_Fr_part_16 : decode b_Fr_part 16 = .ok (.iload_n 1, 1) := by decide +kernel
theorem d_Fr_part_17 : decode b_Fr_part 17 = .ok (.ifCond .ne 10, 3) := by decide +kernel
theorem d_Fr_part_20 : decode b_Fr_part 20 = .ok (.aload_n 0, 1) := by decide +kernel
theorem d_Fr_part_21 : decode b_Fr_part 21 = .ok (.getfield 13, 3) := by decide +kernel
theorem d_Fr_part_24 : decode b_Fr_part 24 = .ok (.goto 7, 3) := by decide +kernel
theorem d_Fr_part_27 : decode b_Fr_part 27 = .ok (.aload_n 0, 1) := by decide +kernel
theorem d_Fr_part_28 : decode b_Fr_part 28 = .ok (.getfield 7, 3) := by decide +kernel
theorem d_Fr_part_31 : decode b_Fr_part 31 = .ok (.iload_n 2, 1) := by decide +kernel
theorem d_Fr_part_32 : decode b_Fr_part 32 = .ok (.idiv, 1) := by decide +kernel
theorem d_Fr_part_33 : decode b_Fr_part 33 = .ok (.ireturn, 1) := by decide +kernel
theorem d_Fr_greatestDivisor_0 : decode b_Fr_greatestDivisor 0 = .ok (.iload_n 0, 1) := by decide +kernel
theorem d_Fr_greatestDivisor_1 : decode b_Fr_greatestDivisor 1 = .ok (.istore_n 2, 1) := by decide +kernel
theorem d_Fr_greatestDivisor_2 : decode b_Fr_greatestDivisor 2 = .ok (.iload_n 1, 1) := by decide +kernel
theorem d_Fr_greatestDivisor_3 : decode b_Fr_greatestDivisor 3 = .ok (.istore_n 3, 1) := by decide +kernel
theorem d_Fr_greatestDivisor_4 : decode b_Fr_greatestDivisor 4 = .ok (.iconst 0, 1) := by decide +kernel
theorem d_Fr_greatestDivisor_5 : decode b_Fr_greatestDivisor 5 = .ok (.istore 4, 2) := by decide +kernel
theorem d_Fr_greatestDivisor_7 : decode b_Fr_greatestDivisor 7 = .ok (.iload 4, 2) := by decide +kernel
theorem d_Fr_greatestDivisor_9 : decode b_Fr_greatestDivisor 9 = .ok (.bipush 100, 2) := by decide +kernel
theorem d_Fr_greatestDivisor_11 : decode b_Fr_greatestDivisor 11 = .ok (.if_icmp .ge 23, 3) := by decide +kernel
theorem d_Fr_greatestDivisor_14 : decode b_Fr_greatestDivisor 14 = .ok (.iload_n 3, 1) := by decide +kernel
theorem d_Fr_greatestDivisor_15 : decode b_Fr_greatestDivisor 15 = .ok (.ifCond .le 19, 3) := by decide +kernel
theorem d_Fr_greatestDivisor_18 : decode b_Fr_greatestDivisor 18 = .ok (.iload_n 2, 1) := by decide +kernel
theorem d_Fr_greatestDivisor_19 : decode b_Fr_greatestDivisor 19 = .ok (.iload_n 3, 1) := by decide +kernel
theorem d_Fr_greatestDivisor_20 : decode b_Fr_greatestDivisor 20 = .ok (.irem, 1) := by decide +kernel
theorem d_Fr_greatestDivisor_21 : decode b_Fr_greatestDivisor 21 = .ok (.istore 5, 2) := by decide +kernel
theorem d_Fr_greatestDivisor_23 : decode b_Fr_greatestDivisor 23 = .ok (.iload_n 3, 1) := by decide +kernel
theorem d_Fr_greatestDivisor_24 : decode b_Fr_greatestDivisor 24 = .ok (.istore_n 2, 1) := by decide +kernel
theorem d_Fr_greatestDivisor_25 : decode b_Fr_greatestDivisor 25 = .ok (.iload 5, 2) := by decide +kernel
theorem d_Fr_greatestDivisor_27 : decode b_Fr_greatestDivisor 27 = .ok (.istore_n 3, 1) := by decide +kernel
theorem d_Fr_greatestDivisor_28 : decode b_Fr_greatestDivisor 28 = .ok (.iinc 4 1, 3) := by decide +kernel
theorem d_Fr_greatestDivisor_31 : decode b_Fr_greatestDivisor 31 = .ok (.goto (-24), 3) := by decide +kernel
theorem d_Fr_greatestDivisor_34 : decode b_Fr_greatestDivisor 34 = .ok (.iload_n 2, 1) := by decide +kernel
theorem d_Fr_greatestDivisor_35 : decode b_Fr_greatestDivisor 35 = .ok (.ireturn, 1) := by decide +kernel
