theorem d_Te_init_0 : decode b_Te_init 0 = .ok (.aload_n 0, 1) := by decide +kernel
theorem d_Te_init_1 : decode b_Te_init 1 = .ok (.invokespecial 3, 3) := by decide +kernel
theorem d_Te_init_4 : decode b_Te_init 4 = .ok (.aload_n 0, 1) := by decide +kernel
theorem d_Te_init_5 : decode b_Te_init 5 = .ok (.bipush 120, 2) := by decide +kernel
theorem d_Te_init_7 : decode b_Te_init 7 = .ok (.newarray .int, 2) := by decide +kernel
theorem d_Te_init_9 : decode b_Te_init 9 = .ok (.putfield 9, 3) := by decide +kernel
theorem d_Te_init_12 : decode b_Te_init 12 = .ok (.return_, 1) := by decide +kernel
theorem d_Te_append_0 : decode b_Te_append 0 = .ok (.aload_n 0, 1) := by decide +kernel
theorem d_Te_append_1 : decode b_Te_append 1 = .ok (.getfield 15, 3) := by decide +kernel
theorem d_Te_append_4 : decode b_Te_append 4 = .ok (.bipush 120, 2) := by decide +kernel
theorem d_Te_append_6 : decode b_Te_append 6 = .ok (.if_icmp .lt 5, 3) := by decide +kernel
theorem d_Te_append_9 : decode b_Te_append 9 = .ok (.iconst 0, 1) := by decide +kernel
theorem d_Te_append_10 : decode b_Te_append 10 = .ok (.ireturn, 1) := by decide +kernel
theorem d_Te_append_11 : decode b_Te_append 11 = .ok (.aload_n 0, 1) := by decide +kernel
theorem d_Te_append_12 : decode b_Te_append 12 = .ok (.getfield 9, 3) := by decide +kernel
theorem d_Te_append_15 : decode b_Te_append 15 = .ok (.aload_n 0, 1) := by decide +kernel
theorem d_Te_append_16 : decode b_Te_append 16 = .ok (.getfield 15, 3) := by decide +kernel
theorem d_Te_append_19 : decode b_Te_append 19 = .ok (.iload_n 1, 1) := by decide +kernel
theorem d_Te_append_20 : decode b_Te_append 20 = .ok (.iastore, 1) := by decide +kernel
theorem d_Te_append_21 : decode b_Te_append 21 = .ok (.aload_n 0, 1) := by decide +kernel
theorem d_Te_append_22 : decode b_Te_append 22 = .ok (.dup, 1) := by decide +kernel
theorem d_Te_append_23 : decode b_Te_append 23 = .ok (.getfield 15, 3) := by decide +kernel
theorem d_Te_append_26 : decode b_Te_append 26 = .ok (.iconst 1, 1) := by decide +kernel
theorem d_Te_append_27 : decode b_Te_append 27 = .ok (.iadd, 1) := by decide +kernel
theorem d_Te_append_28 : decode b_Te_append 28 = .ok (.putfield 15, 3) := by decide +kernel
theorem d_Te_append_31 : decode b_Te_append 31 = .ok (.iconst 1, 1) := by decide +kernel
theorem d_Te_append_32 : decode b_Te_append 32 = .ok (.ireturn, 1) := by decide +kernel
theorem d_Te_empty_0 : decode b_Te_empty 0 = .ok (.aload_n 0, 1) := by decide +kernel
theorem d_Te_empty_1 : decode b_Te_empty 1 = .ok (.getfield 15, 3) := by decide +kernel
theorem d_Te_empty_4 : decode b_Te_empty 4 = .ok (.istore_n 1, 1) := by decide +kernel
theorem d_Te_empty_5 : decode b_Te_empty 5 = .ok (.aload_n 0, 1) := by decide +kernel
theorem d_Te_empty_6 : decode b_Te_empty 6 = .ok (.iconst 0, 1) := by decide +kernel
theorem d_Te_empty_7 : decode b_Te_empty 7 = .ok (.putfield 15, 3) := by decide +kernel
theorem d_Te_empty_10 : decode b_Te_empty 10 = .ok (.iload_n 1, 1) := by decide +kernel
theorem d_Te_empty_11 : decode b_Te_empty 11 = .ok (.ireturn, 1) := by decide +kernel
theorem d_Te_readInto_0 : decode b_Te_readInto 0 = .ok (.aload_n 1, 1) := by decide +kernel
theorem d_Te_readInto_1 : decode b_Te_readInto 1 = .ok (.invokevirtual 19, 3) := by decide +kernel
theorem d_Te_readInto_4 : decode b_Te_readInto 4 = .ok (.aload_n 0, 1) := by decide +kernel
theorem d_Te_readInto_5 : decode b_Te_readInto 5 = .ok (.iconst (-1), 1) := by decide +kernel
theorem d_Te_readInto_6 : decode b_Te_readInto 6 = .ok (.putfield 24, 3) := by decide +kernel
theorem d_Te_readInto_9 : decode b_Te_readInto 9 = .ok (.aload_n 0, 1) := by decide +kernel
theorem d_Te_readInto_10 : decode b_Te_readInto 10 = .ok (.iconst 0, 1) := by decide +kernel
theorem d_Te_readInto_11 : decode b_Te_readInto 11 = .ok (.putfield 27, 3) := by decide +kernel
theorem d_Te_readInto_14 : decode b_Te_readInto 14 = .ok (.aload_n 0, 1) := by decide +kernel
theorem d_Te_readInto_15 : decode b_Te_readInto 15 = .ok (.iconst 0, 1) := by decide +kernel
theorem d_Te_readInto_16 : decode b_Te_readInto 16 = .ok (.putfield 30, 3) := by decide +kernel
theorem d_Te_readInto_19 : decode b_Te_readInto 19 = .ok (.aload_n 0, 1) := by decide +kernel
theorem d_Te_readInto_20 : decode b_Te_readInto 20 = .ok (.iconst 0, 1) := by decide +kernel
theorem d_Te_readInto_21 : decode b_Te_readInto 21 = .ok (.putfield 33, 3) := by decide +kernel
theorem d_Te_readInto_24 : decode b_Te_readInto 24 = .ok (.iconst 0, 1) := by decide +kernel
theorem d_Te_readInto_25 : decode b_Te_readInto 25 = .ok (.istore_n 2, 1) := by decide +kernel
theorem d_Te_readInto_26 : decode b_Te_readInto 26 = .ok (.iconst 0, 1) := by decide +kernel
theorem d_Te_readInto_27 : decode b_Te_readInto 27 = .ok (.istore_n 3, 1) := by decide +kernel
theorem d_Te_readInto_28 : decode b_Te_readInto 28 = .ok (.iload_n 3, 1) := by decide +kernel
theorem d_Te_readInto_29 : decode b_Te_readInto 29 = .ok (.aload_n 0, 1) := by decide +kernel
theorem d_Te_readInto_30 : decode b_Te_readInto 30 = .ok (.getfield 15, 3) := by decide +kernel
theorem d_Te_readInto_33 : decode b_Te_readInto 33 = .ok (.if_icmp .ge 48, 3) := by decide +kernel
theorem d_Te_readInto_36 : decode b_Te_readInto 36 = .ok (.iload_n 3, 1) := by decide +kernel
theorem d_Te_readInto_37 : decode b_Te_readInto 37 = .ok (.iload_n 2, 1) := by decide +kernel
theorem d_Te_readInto_38 : decode b_Te_readInto 38 = .ok (.if_icmp .lt 37, 3) := by decide +kernel
theorem d_Te_readInto_41 : decode b_Te_readInto 41 = .ok (.aload_n 0, 1) := by decide +kernel
theorem d_Te_readInto_42 : decode b_Te_readInto 42 = .ok (.iload_n 3, 1) := by decide +kernel
theorem d_Te_readInto_43 : decode b_Te_readInto 43 = .ok (.invokevirtual 36, 3) := by decide +kernel
theorem d_Te_readInto_46 : decode b_Te_readInto 46 = .ok (.bipush 32, 2) := by decide +kernel
theorem d_Te_readInto_48 : decode b_Te_readInto 48 = .ok (.if_icmp .ne 6, 3) := by decide +kernel
theorem d_Te_readInto_51 : decode b_Te_readInto 51 = .ok (.goto 24, 3) := by decide +kernel
theorem d_Te_readInto_54 : decode b_Te_readInto 54 = .ok (.aload_n 0, 1) := by decide +kernel
theorem d_Te_readInto_55 : decode b_Te_readInto 55 = .ok (.iload_n 3, 1) := by decide +kernel
theorem d_Te_readInto_56 : decode b_Te_readInto 56 = .ok (.invokevirtual 40, 3) := by decide +kernel
theorem d_Te_readInto_59 : decode b_Te_readInto 59 = .ok (.istore_n 2, 1) := by decide +kernel
theorem d_Te_readInto_60 : decode b_Te_readInto 60 = .ok (.aload_n 0, 1) := by decide +kernel
theorem d_Te_readInto_61 : decode b_Te_readInto 61 = .ok (.iload_n 3, 1) := by decide +kernel
theorem d_Te_readInto_62 : decode b_Te_readInto 62 = .ok (.iload_n 2, 1) := by decide +kernel
theorem d_Te_readInto_63 : decode b_Te_readInto 63 = .ok (.aload_n 1, 1) := by decide +kernel
theorem d_Te_readInto_64 : decode b_Te_readInto 64 = .ok (.invokevirtual 43, 3) := by decide +kernel
theorem d_Te_readInto_67 : decode b_Te_readInto 67 = .ok (.ifCond .ne 8, 3) := by decide +kernel
theorem d_Te_readInto_70 : decode b_Te_readInto 70 = .ok (.bipush (-10), 2) := by decide +kernel
theorem d_Te_readInto_72 : decode b_Te_readInto 72 = .ok (.iload_n 3, 1) := by decide +kernel
theorem d_Te_readInto_73 : decode b_Te_readInto 73 = .ok (.isub, 1) := by decide +kernel
theorem d_Te_readInto_74 : decode b_Te_readInto 74 = .ok (.ireturn, 1) := by decide +kernel
theorem d_Te_readInto_75 : decode b_Te_readInto 75 = .ok (.iinc 3 1, 3) := by decide +kernel
theorem d_Te_readInto_78 : decode b_Te_readInto 78 = .ok (.goto (-50), 3) := by decide +kernel
theorem d_Te_readInto_81 : decode b_Te_readInto 81 = .ok (.aload_n 0, 1) := by decide +kernel
theorem d_Te_readInto_82 : decode b_Te_readInto 82 = .ok (.getfield 24, 3) := by decide +kernel
theorem d_Te_readInto_85 : decode b_Te_readInto 85 = .ok (.iconst (-1), 1) := by decide +kernel
theorem d_Te_readInto_86 : decode b_Te_readInto 86 = .ok (.if_icmp .eq 11, 3) := by decide +kernel
theorem d_Te_readInto_89 : decode b_Te_readInto 89 = .ok (.bipush (-10), 2) := by decide +kernel
theorem d_Te_readInto_91 : decode b_Te_readInto 91 = .ok (.aload_n 0, 1) := by decide +kernel
theorem d_Te_readInto_92 : decode b_Te_readInto 92 = .ok (.getfield 15, 3) := by decide +kernel
theorem d_Te_readInto_95 : decode b_Te_readInto 95 = .ok (.isub, 1) := by decide +kernel
theorem d_Te_readInto_96 : decode b_Te_readInto 96 = .ok (.ireturn, 1) := by decide +kernel
theorem d_Te_readInto_97 : decode b_Te_readInto 97 = .ok (.aload_n 1, 1) := by decide +kernel
theorem d_Te_readInto_98 : decode b_Te_readInto 98 = .ok (.aload_n 1, 1) := by decide +kernel
theorem d_Te_readInto_99 : decode b_Te_readInto 99 = .ok (.getfield 47, 3) := by decide +kernel
theorem d_Te_readInto_102 : decode b_Te_readInto 102 = .ok (.putfield 50, 3) := by decide +kernel
theorem d_Te_readInto_105 : decode b_Te_readInto 105 = .ok (.aload_n 0, 1) := by decide +kernel
theorem d_Te_readInto_106 : decode b_Te_readInto 106 = .ok (.getfield 30, 3) := by decide +kernel
theorem d_Te_readInto_109 : decode b_Te_readInto 109 = .ok (.ireturn, 1) := by decide +kernel
theorem d_Te_letterAt_0 : decode b_Te_letterAt 0 = .ok (.iload_n 1, 1) := by decide +kernel
theorem d_Te_letterAt_1 : decode b_Te_letterAt 1 = .ok (.iconst 0, 1) := by decide +kernel
theorem d_Te_letterAt_2 : decode b_Te_letterAt 2 = .ok (.aload_n 0, 1) := by decide +kernel
theorem d_Te_letterAt_3 : decode b_Te_letterAt 3 = .ok (.getfield 15, 3) := by decide +kernel
theorem d_Te_letterAt_6 : decode b_Te_letterAt 6 = .ok (.bipush 120, 2) := by decide +kernel
theorem d_Te_letterAt_8 : decode b_Te_letterAt 8 = .ok (.invokestatic 53, 3) := by decide +kernel
theorem d_Te_letterAt_11 : decode b_Te_letterAt 11 = .ok (.iconst 1, 1) := by decide +kernel
theorem d_Te_letterAt_12 : decode b_Te_letterAt 12 = .ok (.isub, 1) := by decide +kernel
theorem d_Te_letterAt_13 : decode b_Te_letterAt 13 = .ok (.invokestatic 59, 3) := by decide +kernel
theorem d_Te_letterAt_16 : decode b_Te_letterAt 16 = .ok (.ifCond .eq 8, 3) := by decide +kernel
theorem d_Te_letterAt_19 : decode b_Te_letterAt 19 = .ok (.bipush 32, 2) := by decide +kernel
theorem d_Te_letterAt_21 : decode b_Te_letterAt 21 = .ok (.goto 9, 3) := by decide +kernel
theorem d_Te_letterAt_24 : decode b_Te_letterAt 24 = .ok (.aload_n 0, 1) := by decide +kernel
theorem d_Te_letterAt_25 : decode b_Te_letterAt 25 = .ok (.getfield 9, 3) := by decide +kernel
theorem d_Te_letterAt_28 : decode b_Te_letterAt 28 = .ok (.iload_n 1, 1) := by decide +kernel
theorem d_Te_letterAt_29 : decode b_Te_letterAt 29 = .ok (.iaload, 1) := by decide +kernel
theorem d_Te_letterAt_30 : decode b_Te_letterAt 30 = .ok (.ireturn, 1) := by decide +kernel
theorem d_Te_isFigure_0 : decode b_Te_isFigure 0 = .ok (.aload_n 0, 1) := by decide +kernel
theorem d_Te_isFigure_1 : decode b_Te_isFigure 1 = .ok (.iload_n 1, 1) := by decide +kernel
theorem d_Te_isFigure_2 : decode b_Te_isFigure 2 = .ok (.invokevirtual 36, 3) := by decide +kernel
theorem d_Te_isFigure_5 : decode b_Te_isFigure 5 = .ok (.istore_n 2, 1) := by decide +kernel
theorem d_Te_isFigure_6 : decode b_Te_isFigure 6 = .ok (.iload_n 2, 1) := by decide +kernel
theorem d_Te_isFigure_7 : decode b_Te_isFigure 7 = .ok (.bipush 48, 2) := by decide +kernel
theorem d_Te_isFigure_9 : decode b_Te_isFigure 9 = .ok (.if_icmp .lt 13, 3) := by decide +kernel
theorem d_Te_isFigure_12 : decode b_Te_isFigure 12 = .ok (.iload_n 2, 1) := by decide +kernel
theorem d_Te_isFigure_13 : decode b_Te_isFigure 13 = .ok (.bipush 57, 2) := by decide +kernel
theorem d_Te_isFigure_15 : decode b_Te_isFigure 15 = .ok (.if_icmp .gt 7, 3) := by decide +kernel
theorem d_Te_isFigure_18 : decode b_Te_isFigure 18 = .ok (.iconst 1, 1) := by decide +kernel
theorem d_Te_isFigure_19 : decode b_Te_isFigure 19 = .ok (.goto 4, 3) := by decide +kernel
theorem d_Te_isFigure_22 : decode b_Te_isFigure 22 = .ok (.iconst 0, 1) := by decide +kernel
theorem d_Te_isFigure_23 : decode b_Te_isFigure 23 = .ok (.ireturn, 1) := by decide +kernel
theorem d_Te_endOfToken_0 : decode b_Te_endOfToken 0 = .ok (.iload_n 1, 1) := by decide +kernel
theorem d_Te_endOfToken_1 : decode b_Te_endOfToken 1 = .ok (.iconst 1, 1) := by decide +kernel
theorem d_Te_endOfToken_2 : decode b_Te_endOfToken 2 = .ok (.iadd, 1) := by decide +kernel
theorem d_Te_endOfToken_3 : decode b_Te_endOfToken 3 = .ok (.istore_n 2, 1) := by decide +kernel
theorem d_Te_endOfToken_4 : decode b_Te_endOfToken 4 = .ok (.aload_n 0, 1) := by decide +kernel
theorem d_Te_endOfToken_5 : decode b_Te_endOfToken 5 = .ok (.iload_n 1, 1) := by decide +kernel
theorem d_Te_endOfToken_6 : decode b_Te_endOfToken 6 = .ok (.invokevirtual 63, 3) := by decide +kernel
theorem d_Te_endOfToken_9 : decode b_Te_endOfToken 9 = .ok (.ifCond .eq 25, 3) := by decide +kernel
theorem d_Te_endOfToken_12 : decode b_Te_endOfToken 12 = .ok (.iload_n 2, 1) := by decide +kernel
theorem d_Te_endOfToken_13 : decode b_Te_endOfToken 13 = .ok (.aload_n 0, 1) := by decide +kernel
theorem d_Te_endOfToken_14 : decode b_Te_endOfToken 14 = .ok (.getfield 15, 3) := by decide +kernel
theorem d_Te_endOfToken_17 : decode b_Te_endOfToken 17 = .ok (.if_icmp .ge 17, 3) := by decide +kernel
theorem d_Te_endOfToken_20 : decode b_Te_endOfToken 20 = .ok (.aload_n 0, 1) := by decide +kernel
theorem d_Te_endOfToken_21 : decode b_Te_endOfToken 21 = .ok (.iload_n 2, 1) := by decide +kernel
theorem d_Te_endOfToken_22 : decode b_Te_endOfToken 22 = .ok (.invokevirtual 63, 3) := by decide +kernel
theorem d_Te_endOfToken_25 : decode b_Te_endOfToken 25 = .ok (.ifCond .eq 9, 3) := by decide +kernel
theorem d_Te_endOfToken_28 : decode b_Te_endOfToken 28 = .ok (.iinc 2 1, 3) := by decide +kernel
theorem d_Te_endOfToken_31 : decode b_Te_endOfToken 31 = .ok (.goto (-19), 3) := by decide +kernel
theorem d_Te_endOfToken_34 : decode b_Te_endOfToken 34 = .ok (.iload_n 2, 1) := by decide +kernel
theorem d_Te_endOfToken_35 : decode b_Te_endOfToken 35 = .ok (.ireturn, 1) := by decide +kernel
theorem d_Te_takesToken_0 : decode b_Te_takesToken 0 = .ok (.aload_n 0, 1) := by decide +kernel
theorem d_Te_takesToken_1 : decode b_Te_takesToken 1 = .ok (.iload_n 1, 1) := by decide +kernel
theorem d_Te_takesToken_2 : decode b_Te_takesToken 2 = .ok (.invokevirtual 63, 3) := by decide +kernel
theorem d_Te_takesToken_5 : decode b_Te_takesToken 5 = .ok (.ifCond .eq 15, 3) := by decide +kernel
theorem d_Te_takesToken_8 : decode b_Te_takesToken 8 = .ok (.aload_n 0, 1) := by decide +kernel
theorem d_Te_takesToken_9 : decode b_Te_takesToken 9 = .ok (.aload_n 0, 1) := by decide +kernel
theorem d_Te_takesToken_10 : decode b_Te_takesToken 10 = .ok (.iload_n 1, 1) := by decide +kernel
theorem d_Te_takesToken_11 : decode b_Te_takesToken 11 = .ok (.iload_n 2, 1) := by decide +kernel
theorem d_Te_takesToken_12 : decode b_Te_takesToken 12 = .ok (.invokevirtual 67, 3) := by decide +kernel
theorem d_Te_takesToken_15 : decode b_Te_takesToken 15 = .ok (.aload_n 3, 1) := by decide +kernel
theorem d_Te_takesToken_16 : decode b_Te_takesToken 16 = .ok (.invokevirtual 70, 3) := by decide +kernel
theorem d_Te_takesToken_19 : decode b_Te_takesToken 19 = .ok (.ireturn, 1) := by decide +kernel
theorem d_Te_takesToken_20 : decode b_Te_takesToken 20 = .ok (.aload_n 0, 1) := by decide +kernel
theorem d_Te_takesToken_21 : decode b_Te_takesToken 21 = .ok (.iload_n 1, 1) := by decide +kernel
theorem d_Te_takesToken_22 : decode b_Te_takesToken 22 = .ok (.invokevirtual 36, 3) := by decide +kernel
theorem d_Te_takesToken_25 : decode b_Te_takesToken 25 = .ok (.bipush 59, 2) := by decide +kernel
theorem d_Te_takesToken_27 : decode b_Te_takesToken 27 = .ok (.if_icmp .ne 8, 3) := by decide +kernel
theorem d_Te_takesToken_30 : decode b_Te_takesToken 30 = .ok (.aload_n 0, 1) := by decide +kernel
theorem d_Te_takesToken_31 : decode b_Te_takesToken 31 = .ok (.invokevirtual 74, 3) := by decide +kernel
theorem d_Te_takesToken_34 : decode b_Te_takesToken 34 = .ok (.ireturn, 1) := by decide +kernel
theorem d_Te_takesToken_35 : decode b_Te_takesToken 35 = .ok (.aload_n 0, 1) := by decide +kernel
theorem d_Te_takesToken_36 : decode b_Te_takesToken 36 = .ok (.aload_n 0, 1) := by decide +kernel
theorem d_Te_takesToken_37 : decode b_Te_takesToken 37 = .ok (.iload_n 1, 1) := by decide +kernel
theorem d_Te_takesToken_38 : decode b_Te_takesToken 38 = .ok (.invokevirtual 36, 3) := by decide +kernel
theorem d_Te_takesToken_41 : decode b_Te_takesToken 41 = .ok (.invokevirtual 78, 3) := by decide +kernel
theorem d_Te_takesToken_44 : decode b_Te_takesToken 44 = .ok (.ireturn, 1) := by decide +kernel
theorem d_Te_numberAt_0 : decode b_Te_numberAt 0 = .ok (.aload_n 0, 1) := by decide +kernel
theorem d_Te_numberAt_1 : decode b_Te_numberAt 1 = .ok (.iload_n 1, 1) := by decide +kernel
theorem d_Te_numberAt_2 : decode b_Te_numberAt 2 = .ok (.invokevirtual 36, 3) := by decide +kernel
theorem d_Te_numberAt_5 : decode b_Te_numberAt 5 = .ok (.bipush 48, 2) := by decide +kernel
theorem d_Te_numberAt_7 : decode b_Te_numberAt 7 = .ok (.if_icmp .ne 12, 3) := by decide +kernel
theorem d_Te_numberAt_10 : decode b_Te_numberAt 10 = .ok (.iload_n 2, 1) := by decide +kernel
theorem d_Te_numberAt_11 : decode b_Te_numberAt 11 = .ok (.iload_n 1, 1) := by decide +kernel
theorem d_Te_numberAt_12 : decode b_Te_numberAt 12 = .ok (.iconst 1, 1) := by decide +kernel
theorem d_Te_numberAt_13 : decode b_Te_numberAt 13 = .ok (.iadd, 1) := by decide +kernel
theorem d_Te_numberAt_14 : decode b_Te_numberAt 14 = .ok (.if_icmp .le 5, 3) := by decide +kernel
theorem d_Te_numberAt_17 : decode b_Te_numberAt 17 = .ok (.iconst (-1), 1) := by decide +kernel
theorem d_Te_numberAt_18 : decode b_Te_numberAt 18 = .ok (.ireturn, 1) := by decide +kernel
theorem d_Te_numberAt_19 : decode b_Te_numberAt 19 = .ok (.iconst 0, 1) := by decide +kernel
theorem d_Te_numberAt_20 : decode b_Te_numberAt 20 = .ok (.istore_n 3, 1) := by decide +kernel
theorem d_Te_numberAt_21 : decode b_Te_numberAt 21 = .ok (.iload_n 1, 1) := by decide +kernel
theorem d_Te_numberAt_22 : decode b_Te_numberAt 22 = .ok (.istore 4, 2) := by decide +kernel
theorem d_Te_numberAt_24 : decode b_Te_numberAt 24 = .ok (.iload 4, 2) := by decide +kernel
theorem d_Te_numberAt_26 : decode b_Te_numberAt 26 = .ok (.iload_n 2, 1) := by decide +kernel
theorem d_Te_numberAt_27 : decode b_Te_numberAt 27 = .ok (.if_icmp .ge 33, 3) := by decide +kernel
theorem d_Te_numberAt_30 : decode b_Te_numberAt 30 = .ok (.iload_n 3, 1) := by decide +kernel
theorem d_Te_numberAt_31 : decode b_Te_numberAt 31 = .ok (.bipush 10, 2) := by decide +kernel
theorem d_Te_numberAt_33 : decode b_Te_numberAt 33 = .ok (.imul, 1) := by decide +kernel
theorem d_Te_numberAt_34 : decode b_Te_numberAt 34 = .ok (.aload_n 0, 1) := by decide +kernel
theorem d_Te_numberAt_35 : decode b_Te_numberAt 35 = .ok (.iload 4, 2) := by decide +kernel
theorem d_Te_numberAt_37 : decode b_Te_numberAt 37 = .ok (.invokevirtual 36, 3) := by decide +kernel
theorem d_Te_numberAt_40 : decode b_Te_numberAt 40 = .ok (.iadd, 1) := by decide +kernel
theorem d_Te_numberAt_41 : decode b_Te_numberAt 41 = .ok (.bipush 48, 2) := by decide +kernel
theorem d_Te_numberAt_43 : decode b_Te_numberAt 43 = .ok (.isub, 1) := by decide +kernel
theorem d_Te_numberAt_44 : decode b_Te_numberAt 44 = .ok (.istore_n 3, 1) := by decide +kernel
theorem d_Te_numberAt_45 : decode b_Te_numberAt 45 = .ok (.iload_n 3, 1) := by decide +kernel
theorem d_Te_numberAt_46 : decode b_Te_numberAt 46 = .ok (.sipush 999, 3) := by decide +kernel
theorem d_Te_numberAt_49 : decode b_Te_numberAt 49 = .ok (.if_icmp .le 5, 3) := by decide +kernel
theorem d_Te_numberAt_52 : decode b_Te_numberAt 52 = .ok (.iconst (-1), 1) := by decide +kernel
theorem d_Te_numberAt_53 : decode b_Te_numberAt 53 = .ok (.ireturn, 1) := by decide +kernel
theorem d_Te_numberAt_54 : decode b_Te_numberAt 54 = .ok (.iinc 4 1, 3) := by decide +kernel
theorem d_Te_numberAt_57 : decode b_Te_numberAt 57 = .ok (.goto (-33), 3) := by decide +kernel
theorem d_Te_numberAt_60 : decode b_Te_numberAt 60 = .ok (.iload_n 3, 1) := by decide +kernel
theorem d_Te_numberAt_61 : decode b_Te_numberAt 61 = .ok (.ireturn, 1) := by decide +kernel
theorem d_Te_takesKind_0 : decode b_Te_takesKind 0 = .ok (.aload_n 0, 1) := by decide +kernel
theorem d_Te_takesKind_1 : decode b_Te_takesKind 1 = .ok (.getfield 24, 3) := by decide +kernel
theorem d_Te_takesKind_4 : decode b_Te_takesKind 4 = .ok (.iconst (-1), 1) := by decide +kernel
theorem d_Te_takesKind_5 : decode b_Te_takesKind 5 = .ok (.if_icmp .eq 5, 3) := by decide +kernel
theorem d_Te_takesKind_8 : decode b_Te_takesKind 8 = .ok (.iconst 0, 1) := by decide +kernel
theorem d_Te_takesKind_9 : decode b_Te_takesKind 9 = .ok (.ireturn, 1) := by decide +kernel
theorem d_Te_takesKind_10 : decode b_Te_takesKind 10 = .ok (.iconst 0, 1) := by decide +kernel
theorem d_Te_takesKind_11 : decode b_Te_takesKind 11 = .ok (.istore_n 2, 1) := by decide +kernel
theorem d_Te_takesKind_12 : decode b_Te_takesKind 12 = .ok (.iload_n 2, 1) := by decide +kernel
theorem d_Te_takesKind_13 : decode b_Te_takesKind 13 = .ok (.getstatic 81, 3) := by decide +kernel
theorem d_Te_takesKind_16 : decode b_Te_takesKind 16 = .ok (.arraylength, 1) := by decide +kernel
theorem d_Te_takesKind_17 : decode b_Te_takesKind 17 = .ok (.if_icmp .ge 53, 3) := by decide +kernel
theorem d_Te_takesKind_20 : decode b_Te_takesKind 20 = .ok (.getstatic 81, 3) := by decide +kernel
theorem d_Te_takesKind_23 : decode b_Te_takesKind 23 = .ok (.iload_n 2, 1) := by decide +kernel
theorem d_Te_takesKind_24 : decode b_Te_takesKind 24 = .ok (.caload, 1) := by decide +kernel
theorem d_Te_takesKind_25 : decode b_Te_takesKind 25 = .ok (.iload_n 1, 1) := by decide +kernel
theorem d_Te_takesKind_26 : decode b_Te_takesKind 26 = .ok (.if_icmp .ne 38, 3) := by decide +kernel
theorem d_Te_takesKind_29 : decode b_Te_takesKind 29 = .ok (.aload_n 0, 1) := by decide +kernel
theorem d_Te_takesKind_30 : decode b_Te_takesKind 30 = .ok (.getfield 33, 3) := by decide +kernel
theorem d_Te_takesKind_33 : decode b_Te_takesKind 33 = .ok (.iload_n 2, 1) := by decide +kernel
theorem d_Te_takesKind_34 : decode b_Te_takesKind 34 = .ok (.ishr, 1) := by decide +kernel
theorem d_Te_takesKind_35 : decode b_Te_takesKind 35 = .ok (.iconst 1, 1) := by decide +kernel
theorem d_Te_takesKind_36 : decode b_Te_takesKind 36 = .ok (.iand, 1) := by decide +kernel
theorem d_Te_takesKind_37 : decode b_Te_takesKind 37 = .ok (.ifCond .ne 27, 3) := by decide +kernel
theorem d_Te_takesKind_40 : decode b_Te_takesKind 40 = .ok (.aload_n 0, 1) := by decide +kernel
theorem d_Te_takesKind_41 : decode b_Te_takesKind 41 = .ok (.dup, 1) := by decide +kernel
theorem d_Te_takesKind_42 : decode b_Te_takesKind 42 = .ok (.getfield 33, 3) := by decide +kernel
theorem d_Te_takesKind_45 : decode b_Te_takesKind 45 = .ok (.iconst 1, 1) := by decide +kernel
theorem d_Te_takesKind_46 : decode b_Te_takesKind 46 = .ok (.iload_n 2, 1) := by decide +kernel
theorem d_Te_takesKind_47 : decode b_Te_takesKind 47 = .ok (.ishl, 1) := by decide +kernel
theorem d_Te_takesKind_48 : decode b_Te_takesKind 48 = .ok (.ior, 1) := by decide +kernel
theorem d_Te_takesKind_49 : decode b_Te_takesKind 49 = .ok (.putfield 33, 3) := by decide +kernel
theorem d_Te_takesKind_52 : decode b_Te_takesKind 52 = .ok (.aload_n 0, 1) := by decide +kernel
theorem d_Te_takesKind_53 : decode b_Te_takesKind 53 = .ok (.iload_n 2, 1) := by decide +kernel
theorem d_Te_takesKind_54 : decode b_Te_takesKind 54 = .ok (.putfield 24, 3) := by decide +kernel
theorem d_Te_takesKind_57 : decode b_Te_takesKind 57 = .ok (.aload_n 0, 1) := by decide +kernel
theorem d_Te_takesKind_58 : decode b_Te_takesKind 58 = .ok (.iconst 0, 1) := by decide +kernel
theorem d_Te_takesKind_59 : decode b_Te_takesKind 59 = .ok (.putfield 27, 3) := by decide +kernel
theorem d_Te_takesKind_62 : decode b_Te_takesKind 62 = .ok (.iconst 1, 1) := by decide +kernel
theorem d_Te_takesKind_63 : decode b_Te_takesKind 63 = .ok (.ireturn, 1) := by decide +kernel
theorem d_Te_takesKind_64 : decode b_Te_takesKind 64 = .ok (.iinc 2 1, 3) := by decide +kernel
theorem d_Te_takesKind_67 : decode b_Te_takesKind 67 = .ok (.goto (-55), 3) := by decide +kernel
theorem d_Te_takesKind_70 : decode b_Te_takesKind 70 = .ok (.iconst 0, 1) := by decide +kernel
theorem d_Te_takesKind_71 : decode b_Te_takesKind 71 = .ok (.ireturn, 1) := by decide +kernel
theorem d_Te_takesNumber_0 : decode b_Te_takesNumber 0 = .ok (.aload_n 0, 1) := by decide +kernel
theorem d_Te_takesNumber_1 : decode b_Te_takesNumber 1 = .ok (.getfield 24, 3) := by decide +kernel
theorem d_Te_takesNumber_4 : decode b_Te_takesNumber 4 = .ok (.ifCond .lt 19, 3) := by decide +kernel
theorem d_Te_takesNumber_7 : decode b_Te_takesNumber 7 = .ok (.aload_n 0, 1) := by decide +kernel
theorem d_Te_takesNumber_8 : decode b_Te_takesNumber 8 = .ok (.getfield 24, 3) := by decide +kernel
theorem d_Te_takesNumber_11 : decode b_Te_takesNumber 11 = .ok (.getstatic 81, 3) := by decide +kernel
theorem d_Te_takesNumber_14 : decode b_Te_takesNumber 14 = .ok (.arraylength, 1) := by decide +kernel
theorem d_Te_takesNumber_15 : decode b_Te_takesNumber 15 = .ok (.if_icmp .ge 8, 3) := by decide +kernel
theorem d_Te_takesNumber_18 : decode b_Te_takesNumber 18 = .ok (.iload_n 1, 1) := by decide +kernel
theorem d_Te_takesNumber_19 : decode b_Te_takesNumber 19 = .ok (.iconst (-1), 1) := by decide +kernel
theorem d_Te_takesNumber_20 : decode b_Te_takesNumber 20 = .ok (.if_icmp .ne 5, 3) := by decide +kernel
theorem d_Te_takesNumber_23 : decode b_Te_takesNumber 23 = .ok (.iconst 0, 1) := by decide +kernel
theorem d_Te_takesNumber_24 : decode b_Te_takesNumber 24 = .ok (.ireturn, 1) := by decide +kernel
theorem d_Te_takesNumber_25 : decode b_Te_takesNumber 25 = .ok (.aload_n 0, 1) := by decide +kernel
theorem d_Te_takesNumber_26 : decode b_Te_takesNumber 26 = .ok (.getfield 27, 3) := by decide +kernel
theorem d_Te_takesNumber_29 : decode b_Te_takesNumber 29 = .ok (.getstatic 85, 3) := by decide +kernel
theorem d_Te_takesNumber_32 : decode b_Te_takesNumber 32 = .ok (.aload_n 0, 1) := by decide +kernel
theorem d_Te_takesNumber_33 : decode b_Te_takesNumber 33 = .ok (.getfield 24, 3) := by decide +kernel
theorem d_Te_takesNumber_36 : decode b_Te_takesNumber 36 = .ok (.iaload, 1) := by decide +kernel
theorem d_Te_takesNumber_37 : decode b_Te_takesNumber 37 = .ok (.if_icmp .ge 15, 3) := by decide +kernel
theorem d_Te_takesNumber_40 : decode b_Te_takesNumber 40 = .ok (.iload_n 1, 1) := by decide +kernel
theorem d_Te_takesNumber_41 : decode b_Te_takesNumber 41 = .ok (.getstatic 88, 3) := by decide +kernel
theorem d_Te_takesNumber_44 : decode b_Te_takesNumber 44 = .ok (.aload_n 0, 1) := by decide +kernel
theorem d_Te_takesNumber_45 : decode b_Te_takesNumber 45 = .ok (.getfield 24, 3) := by decide +kernel
theorem d_Te_takesNumber_48 : decode b_Te_takesNumber 48 = .ok (.iaload, 1) := by decide +kernel
theorem d_Te_takesNumber_49 : decode b_Te_takesNumber 49 = .ok (.if_icmp .le 5, 3) := by decide +kernel
theorem d_Te_takesNumber_52 : decode b_Te_takesNumber 52 = .ok (.iconst 0, 1) := by decide +kernel
theorem d_Te_takesNumber_53 : decode b_Te_takesNumber 53 = .ok (.ireturn, 1) := by decide +kernel
theorem d_Te_takesNumber_54 : decode b_Te_takesNumber 54 = .ok (.getstatic 81, 3) := by decide +kernel
theorem d_Te_takesNumber_57 : decode b_Te_takesNumber 57 = .ok (.aload_n 0, 1) := by decide +kernel
theorem d_Te_takesNumber_58 : decode b_Te_takesNumber 58 = .ok (.getfield 24, 3) := by decide +kernel
theorem d_Te_takesNumber_61 : decode b_Te_takesNumber 61 = .ok (.caload, 1) := by decide +kernel
theorem d_Te_takesNumber_62 : decode b_Te_takesNumber 62 = .ok (.lookupswitch 62 #[(99, 54), (100, 46), (105, 34)], 34) := by decide +kernel
theorem d_Te_takesNumber_96 : decode b_Te_takesNumber 96 = .ok (.aload_n 2, 1) := by decide +kernel
theorem d_Te_takesNumber_97 : decode b_Te_takesNumber 97 = .ok (.aload_n 0, 1) := by decide +kernel
theorem d_Te_takesNumber_98 : decode b_Te_takesNumber 98 = .ok (.getfield 27, 3) := by decide +kernel
theorem d_Te_takesNumber_101 : decode b_Te_takesNumber 101 = .ok (.iload_n 1, 1) := by decide +kernel
theorem d_Te_takesNumber_102 : decode b_Te_takesNumber 102 = .ok (.invokevirtual 91, 3) := by decide +kernel
theorem d_Te_takesNumber_105 : decode b_Te_takesNumber 105 = .ok (.goto 28, 3) := by decide +kernel
theorem d_Te_takesNumber_108 : decode b_Te_takesNumber 108 = .ok (.aload_n 2, 1) := by decide +kernel
theorem d_Te_takesNumber_109 : decode b_Te_takesNumber 109 = .ok (.iload_n 1, 1) := by decide +kernel
theorem d_Te_takesNumber_110 : decode b_Te_takesNumber 110 = .ok (.putfield 95, 3) := by decide +kernel
theorem d_Te_takesNumber_113 : decode b_Te_takesNumber 113 = .ok (.goto 20, 3) := by decide +kernel
theorem d_Te_takesNumber_116 : decode b_Te_takesNumber 116 = .ok (.aload_n 2, 1) := by decide +kernel
theorem d_Te_takesNumber_117 : decode b_Te_takesNumber 117 = .ok (.iload_n 1, 1) := by decide +kernel
theorem d_Te_takesNumber_118 : decode b_Te_takesNumber 118 = .ok (.putfield 47, 3) := by decide +kernel
theorem d_Te_takesNumber_121 : decode b_Te_takesNumber 121 = .ok (.goto 12, 3) := by decide +kernel
theorem d_Te_takesNumber_124 : decode b_Te_takesNumber 124 = .ok (.aload_n 2, 1) := by decide +kernel
theorem d_Te_takesNumber_125 : decode b_Te_takesNumber 125 = .ok (.aload_n 0, 1) := by decide +kernel
theorem d_Te_takesNumber_126 : decode b_Te_takesNumber 126 = .ok (.getfield 27, 3) := by decide +kernel
theorem d_Te_takesNumber_129 : decode b_Te_takesNumber 129 = .ok (.iload_n 1, 1) := by decide +kernel
theorem d_Te_takesNumber_130 : decode b_Te_takesNumber 130 = .ok (.invokevirtual 98, 3) := by decide +kernel
theorem d_Te_takesNumber_133 : decode b_Te_takesNumber 133 = .ok (.aload_n 0, 1) := by decide +kernel
theorem d_Te_takesNumber_134 : decode b_Te_takesNumber 134 = .ok (.dup, 1) := by decide +kernel
theorem d_Te_takesNumber_135 : decode b_Te_takesNumber 135 = .ok (.getfield 27, 3) := by decide +kernel
theorem d_Te_takesNumber_138 : decode b_Te_takesNumber 138 = .ok (.iconst 1, 1) := by decide +kernel
theorem d_Te_takesNumber_139 : decode b_Te_takesNumber 139 = .ok (.iadd, 1) := by decide +kernel
theorem d_Te_takesNumber_140 : decode b_Te_takesNumber 140 = .ok (.putfield 27, 3) := by decide +kernel
theorem d_Te_takesNumber_143 : decode b_Te_takesNumber 143 = .ok (.iconst 1, 1) := by decide +kernel
theorem d_Te_takesNumber_144 : decode b_Te_takesNumber 144 = .ok (.ireturn, 1) := by decide +kernel
theorem d_Te_takesEnd_0 : decode b_Te_takesEnd 0 = .ok (.aload_n 0, 1) := by decide +kernel
theorem d_Te_takesEnd_1 : decode b_Te_takesEnd 1 = .ok (.getfield 24, 3) := by decide +kernel
theorem d_Te_takesEnd_4 : decode b_Te_takesEnd 4 = .ok (.ifCond .lt 29, 3) := by decide +kernel
theorem d_Te_takesEnd_7 : decode b_Te_takesEnd 7 = .ok (.aload_n 0, 1) := by decide +kernel
theorem d_Te_takesEnd_8 : decode b_Te_takesEnd 8 = .ok (.getfield 24, 3) := by decide +kernel
theorem d_Te_takesEnd_11 : decode b_Te_takesEnd 11 = .ok (.getstatic 81, 3) := by decide +kernel
theorem d_Te_takesEnd_14 : decode b_Te_takesEnd 14 = .ok (.arraylength, 1) := by decide +kernel
theorem d_Te_takesEnd_15 : decode b_Te_takesEnd 15 = .ok (.if_icmp .ge 18, 3) := by decide +kernel
theorem d_Te_takesEnd_18 : decode b_Te_takesEnd 18 = .ok (.aload_n 0, 1) := by decide +kernel
theorem d_Te_takesEnd_19 : decode b_Te_takesEnd 19 = .ok (.getfield 27, 3) := by decide +kernel
theorem d_Te_takesEnd_22 : decode b_Te_takesEnd 22 = .ok (.getstatic 101, 3) := by decide +kernel
theorem d_Te_takesEnd_25 : decode b_Te_takesEnd 25 = .ok (.aload_n 0, 1) := by decide +kernel
theorem d_Te_takesEnd_26 : decode b_Te_takesEnd 26 = .ok (.getfield 24, 3) := by decide +kernel
theorem d_Te_takesEnd_29 : decode b_Te_takesEnd 29 = .ok (.iaload, 1) := by decide +kernel
theorem d_Te_takesEnd_30 : decode b_Te_takesEnd 30 = .ok (.if_icmp .ge 5, 3) := by decide +kernel
theorem d_Te_takesEnd_33 : decode b_Te_takesEnd 33 = .ok (.iconst 0, 1) := by decide +kernel
theorem d_Te_takesEnd_34 : decode b_Te_takesEnd 34 = .ok (.ireturn, 1) := by decide +kernel
theorem d_Te_takesEnd_35 : decode b_Te_takesEnd 35 = .ok (.aload_n 0, 1) := by decide +kernel
theorem d_Te_takesEnd_36 : decode b_Te_takesEnd 36 = .ok (.iconst (-1), 1) := by decide +kernel
theorem d_Te_takesEnd_37 : decode b_Te_takesEnd 37 = .ok (.putfield 24, 3) := by decide +kernel
theorem d_Te_takesEnd_40 : decode b_Te_takesEnd 40 = .ok (.aload_n 0, 1) := by decide +kernel
theorem d_Te_takesEnd_41 : decode b_Te_takesEnd 41 = .ok (.dup, 1) := by decide +kernel
theorem d_Te_takesEnd_42 : decode b_Te_takesEnd 42 = .ok (.getfield 30, 3) := by decide +kernel
theorem d_Te_takesEnd_45 : decode b_Te_takesEnd 45 = .ok (.iconst 1, 1) := by decide +kernel
theorem d_Te_takesEnd_46 : decode b_Te_takesEnd 46 = .ok (.iadd, 1) := by decide +kernel
theorem d_Te_takesEnd_47 : decode b_Te_takesEnd 47 = .ok (.putfield 30, 3) := by decide +kernel
theorem d_Te_takesEnd_50 : decode b_Te_takesEnd 50 = .ok (.iconst 1, 1) := by decide +kernel
theorem d_Te_takesEnd_51 : decode b_Te_takesEnd 51 = .ok (.ireturn, 1) := by decide +kernel
