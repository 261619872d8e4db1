theorem d_Fu_init_0 : decode b_Fu_init 0 = .ok (.aload_n 0, 1) := by decide +kernel
theorem d_Fu_init_1 : decode b_Fu_init 1 = .ok (.invokespecial 3, 3) := by decide +kernel
theorem d_Fu_init_4 : decode b_Fu_init 4 = .ok (.aload_n 0, 1) := by decide +kernel
theorem d_Fu_init_5 : decode b_Fu_init 5 = .ok (.sipush 1000, 3) := by decide +kernel
theorem d_Fu_init_8 : decode b_Fu_init 8 = .ok (.newarray .int, 2) := by decide +kernel
theorem d_Fu_init_10 : decode b_Fu_init 10 = .ok (.putfield 9, 3) := by decide +kernel
theorem d_Fu_init_13 : decode b_Fu_init 13 = .ok (.return_, 1) := by decide +kernel
theorem d_Fu_leastCap_0 : decode b_Fu_leastCap 0 = .ok (.iconst 0, 1) := by decide +kernel
theorem d_Fu_leastCap_1 : decode b_Fu_leastCap 1 = .ok (.istore_n 3, 1) := by decide +kernel
theorem d_Fu_leastCap_2 : decode b_Fu_leastCap 2 = .ok (.iload_n 3, 1) := by decide +kernel
theorem d_Fu_leastCap_3 : decode b_Fu_leastCap 3 = .ok (.sipush 999, 3) := by decide +kernel
theorem d_Fu_leastCap_6 : decode b_Fu_leastCap 6 = .ok (.if_icmp .gt 20, 3) := by decide +kernel
theorem d_Fu_leastCap_9 : decode b_Fu_leastCap 9 = .ok (.aload_n 1, 1) := by decide +kernel
theorem d_Fu_leastCap_10 : decode b_Fu_leastCap 10 = .ok (.iload_n 3, 1) := by decide +kernel
theorem d_Fu_leastCap_11 : decode b_Fu_leastCap 11 = .ok (.iload_n 2, 1) := by decide +kernel
theorem d_Fu_leastCap_12 : decode b_Fu_leastCap 12 = .ok (.invokestatic 15, 3) := by decide +kernel
theorem d_Fu_leastCap_15 : decode b_Fu_leastCap 15 = .ok (.ifCond .ne 5, 3) := by decide +kernel
theorem d_Fu_leastCap_18 : decode b_Fu_leastCap 18 = .ok (.iload_n 3, 1) := by decide +kernel
theorem d_Fu_leastCap_19 : decode b_Fu_leastCap 19 = .ok (.ireturn, 1) := by decide +kernel
theorem d_Fu_leastCap_20 : decode b_Fu_leastCap 20 = .ok (.iinc 3 1, 3) := by decide +kernel
theorem d_Fu_leastCap_23 : decode b_Fu_leastCap 23 = .ok (.goto (-21), 3) := by decide +kernel
theorem d_Fu_leastCap_26 : decode b_Fu_leastCap 26 = .ok (.bipush (-9), 2) := by decide +kernel
theorem d_Fu_leastCap_28 : decode b_Fu_leastCap 28 = .ok (.ireturn, 1) := by decide +kernel
theorem d_Fu_failsWithin_0 : decode b_Fu_failsWithin 0 = .ok (.iload_n 1, 1) := by decide +kernel
theorem d_Fu_failsWithin_1 : decode b_Fu_failsWithin 1 = .ok (.istore_n 3, 1) := by decide +kernel
theorem d_Fu_failsWithin_2 : decode b_Fu_failsWithin 2 = .ok (.iconst 0, 1) := by decide +kernel
theorem d_Fu_failsWithin_3 : decode b_Fu_failsWithin 3 = .ok (.istore 4, 2) := by decide +kernel
theorem d_Fu_failsWithin_5 : decode b_Fu_failsWithin 5 = .ok (.iload 4, 2) := by decide +kernel
theorem d_Fu_failsWithin_7 : decode b_Fu_failsWithin 7 = .ok (.iload_n 2, 1) := by decide +kernel
theorem d_Fu_failsWithin_8 : decode b_Fu_failsWithin 8 = .ok (.if_icmp .ge 36, 3) := by decide +kernel
theorem d_Fu_failsWithin_11 : decode b_Fu_failsWithin 11 = .ok (.aload_n 0, 1) := by decide +kernel
theorem d_Fu_failsWithin_12 : decode b_Fu_failsWithin 12 = .ok (.iload 4, 2) := by decide +kernel
theorem d_Fu_failsWithin_14 : decode b_Fu_failsWithin 14 = .ok (.iload_n 3, 1) := by decide +kernel
theorem d_Fu_failsWithin_15 : decode b_Fu_failsWithin 15 = .ok (.aload_n 0, 1) := by decide +kernel
theorem d_Fu_failsWithin_16 : decode b_Fu_failsWithin 16 = .ok (.getfield 19, 3) := by decide +kernel
theorem d_Fu_failsWithin_19 : decode b_Fu_failsWithin 19 = .ok (.invokevirtual 25, 3) := by decide +kernel
theorem d_Fu_failsWithin_22 : decode b_Fu_failsWithin 22 = .ok (.istore 5, 2) := by decide +kernel
theorem d_Fu_failsWithin_24 : decode b_Fu_failsWithin 24 = .ok (.iload 5, 2) := by decide +kernel
theorem d_Fu_failsWithin_26 : decode b_Fu_failsWithin 26 = .ok (.ifCond .ge 5, 3) := by decide +kernel
theorem d_Fu_failsWithin_29 : decode b_Fu_failsWithin 29 = .ok (.iconst 1, 1) := by decide +kernel
theorem d_Fu_failsWithin_30 : decode b_Fu_failsWithin 30 = .ok (.ireturn, 1) := by decide +kernel
theorem d_Fu_failsWithin_31 : decode b_Fu_failsWithin 31 = .ok (.iload 5, 2) := by decide +kernel
theorem d_Fu_failsWithin_33 : decode b_Fu_failsWithin 33 = .ok (.iload_n 1, 1) := by decide +kernel
theorem d_Fu_failsWithin_34 : decode b_Fu_failsWithin 34 = .ok (.invokestatic 29, 3) := by decide +kernel
theorem d_Fu_failsWithin_37 : decode b_Fu_failsWithin 37 = .ok (.istore_n 3, 1) := by decide +kernel
theorem d_Fu_failsWithin_38 : decode b_Fu_failsWithin 38 = .ok (.iinc 4 1, 3) := by decide +kernel
theorem d_Fu_failsWithin_41 : decode b_Fu_failsWithin 41 = .ok (.goto (-36), 3) := by decide +kernel
theorem d_Fu_failsWithin_44 : decode b_Fu_failsWithin 44 = .ok (.iconst 0, 1) := by decide +kernel
theorem d_Fu_failsWithin_45 : decode b_Fu_failsWithin 45 = .ok (.ireturn, 1) := by decide +kernel
theorem d_Fu_volumeBehind_0 : decode b_Fu_volumeBehind 0 = .ok (.aload_n 1, 1) := by decide +kernel
theorem d_Fu_volumeBehind_1 : decode b_Fu_volumeBehind 1 = .ok (.getfield 35, 3) := by decide +kernel
theorem d_Fu_volumeBehind_4 : decode b_Fu_volumeBehind 4 = .ok (.istore_n 3, 1) := by decide +kernel
theorem d_Fu_volumeBehind_5 : decode b_Fu_volumeBehind 5 = .ok (.iconst 0, 1) := by decide +kernel
theorem d_Fu_volumeBehind_6 : decode b_Fu_volumeBehind 6 = .ok (.istore 4, 2) := by decide +kernel
theorem d_Fu_volumeBehind_8 : decode b_Fu_volumeBehind 8 = .ok (.iload 4, 2) := by decide +kernel
theorem d_Fu_volumeBehind_10 : decode b_Fu_volumeBehind 10 = .ok (.iload_n 2, 1) := by decide +kernel
theorem d_Fu_volumeBehind_11 : decode b_Fu_volumeBehind 11 = .ok (.if_icmp .gt 28, 3) := by decide +kernel
theorem d_Fu_volumeBehind_14 : decode b_Fu_volumeBehind 14 = .ok (.aload_n 1, 1) := by decide +kernel
theorem d_Fu_volumeBehind_15 : decode b_Fu_volumeBehind 15 = .ok (.iload 4, 2) := by decide +kernel
theorem d_Fu_volumeBehind_17 : decode b_Fu_volumeBehind 17 = .ok (.iload_n 3, 1) := by decide +kernel
theorem d_Fu_volumeBehind_18 : decode b_Fu_volumeBehind 18 = .ok (.aload_n 1, 1) := by decide +kernel
theorem d_Fu_volumeBehind_19 : decode b_Fu_volumeBehind 19 = .ok (.getfield 19, 3) := by decide +kernel
theorem d_Fu_volumeBehind_22 : decode b_Fu_volumeBehind 22 = .ok (.invokevirtual 25, 3) := by decide +kernel
theorem d_Fu_volumeBehind_25 : decode b_Fu_volumeBehind 25 = .ok (.aload_n 1, 1) := by decide +kernel
theorem d_Fu_volumeBehind_26 : decode b_Fu_volumeBehind 26 = .ok (.getfield 35, 3) := by decide +kernel
theorem d_Fu_volumeBehind_29 : decode b_Fu_volumeBehind 29 = .ok (.invokestatic 38, 3) := by decide +kernel
theorem d_Fu_volumeBehind_32 : decode b_Fu_volumeBehind 32 = .ok (.istore_n 3, 1) := by decide +kernel
theorem d_Fu_volumeBehind_33 : decode b_Fu_volumeBehind 33 = .ok (.iinc 4 1, 3) := by decide +kernel
theorem d_Fu_volumeBehind_36 : decode b_Fu_volumeBehind 36 = .ok (.goto (-28), 3) := by decide +kernel
theorem d_Fu_volumeBehind_39 : decode b_Fu_volumeBehind 39 = .ok (.iload_n 3, 1) := by decide +kernel
theorem d_Fu_volumeBehind_40 : decode b_Fu_volumeBehind 40 = .ok (.ireturn, 1) := by decide +kernel
theorem d_Fu_findRound_0 : decode b_Fu_findRound 0 = .ok (.iconst 0, 1) := by decide +kernel
theorem d_Fu_findRound_1 : decode b_Fu_findRound 1 = .ok (.istore_n 2, 1) := by decide +kernel
theorem d_Fu_findRound_2 : decode b_Fu_findRound 2 = .ok (.iload_n 2, 1) := by decide +kernel
theorem d_Fu_findRound_3 : decode b_Fu_findRound 3 = .ok (.sipush 999, 3) := by decide +kernel
theorem d_Fu_findRound_6 : decode b_Fu_findRound 6 = .ok (.if_icmp .gt 16, 3) := by decide +kernel
theorem d_Fu_findRound_9 : decode b_Fu_findRound 9 = .ok (.aload_n 0, 1) := by decide +kernel
theorem d_Fu_findRound_10 : decode b_Fu_findRound 10 = .ok (.getfield 9, 3) := by decide +kernel
theorem d_Fu_findRound_13 : decode b_Fu_findRound 13 = .ok (.iload_n 2, 1) := by decide +kernel
theorem d_Fu_findRound_14 : decode b_Fu_findRound 14 = .ok (.iconst (-1), 1) := by decide +kernel
theorem d_Fu_findRound_15 : decode b_Fu_findRound 15 = .ok (.iastore, 1) := by decide +kernel
theorem d_Fu_findRound_16 : decode b_Fu_findRound 16 = .ok (.iinc 2 1, 3) := by decide +kernel
theorem d_Fu_findRound_19 : decode b_Fu_findRound 19 = .ok (.goto (-17), 3) := by decide +kernel
theorem d_Fu_findRound_22 : decode b_Fu_findRound 22 = .ok (.aload_n 1, 1) := by decide +kernel
theorem d_Fu_findRound_23 : decode b_Fu_findRound 23 = .ok (.getfield 35, 3) := by decide +kernel
theorem d_Fu_findRound_26 : decode b_Fu_findRound 26 = .ok (.istore_n 2, 1) := by decide +kernel
theorem d_Fu_findRound_27 : decode b_Fu_findRound 27 = .ok (.iconst 0, 1) := by decide +kernel
theorem d_Fu_findRound_28 : decode b_Fu_findRound 28 = .ok (.istore_n 3, 1) := by decide +kernel
theorem d_Fu_findRound_29 : decode b_Fu_findRound 29 = .ok (.iload_n 3, 1) := by decide +kernel
theorem d_Fu_findRound_30 : decode b_Fu_findRound 30 = .ok (.sipush 999, 3) := by decide +kernel
theorem d_Fu_findRound_33 : decode b_Fu_findRound 33 = .ok (.if_icmp .gt 31, 3) := by decide +kernel
theorem d_Fu_findRound_36 : decode b_Fu_findRound 36 = .ok (.aload_n 0, 1) := by decide +kernel
theorem d_Fu_findRound_37 : decode b_Fu_findRound 37 = .ok (.iload_n 2, 1) := by decide +kernel
theorem d_Fu_findRound_38 : decode b_Fu_findRound 38 = .ok (.invokevirtual 41, 3) := by decide +kernel
theorem d_Fu_findRound_41 : decode b_Fu_findRound 41 = .ok (.iconst (-1), 1) := by decide +kernel
theorem d_Fu_findRound_42 : decode b_Fu_findRound 42 = .ok (.if_icmp .ne 22, 3) := by decide +kernel
theorem d_Fu_findRound_45 : decode b_Fu_findRound 45 = .ok (.aload_n 0, 1) := by decide +kernel
theorem d_Fu_findRound_46 : decode b_Fu_findRound 46 = .ok (.iload_n 2, 1) := by decide +kernel
theorem d_Fu_findRound_47 : decode b_Fu_findRound 47 = .ok (.iload_n 3, 1) := by decide +kernel
theorem d_Fu_findRound_48 : decode b_Fu_findRound 48 = .ok (.invokevirtual 45, 3) := by decide +kernel
theorem d_Fu_findRound_51 : decode b_Fu_findRound 51 = .ok (.aload_n 0, 1) := by decide +kernel
theorem d_Fu_findRound_52 : decode b_Fu_findRound 52 = .ok (.aload_n 1, 1) := by decide +kernel
theorem d_Fu_findRound_53 : decode b_Fu_findRound 53 = .ok (.iload_n 2, 1) := by decide +kernel
theorem d_Fu_findRound_54 : decode b_Fu_findRound 54 = .ok (.invokevirtual 49, 3) := by decide +kernel
theorem d_Fu_findRound_57 : decode b_Fu_findRound 57 = .ok (.istore_n 2, 1) := by decide +kernel
theorem d_Fu_findRound_58 : decode b_Fu_findRound 58 = .ok (.iinc 3 1, 3) := by decide +kernel
theorem d_Fu_findRound_61 : decode b_Fu_findRound 61 = .ok (.goto (-32), 3) := by decide +kernel
theorem d_Fu_findRound_64 : decode b_Fu_findRound 64 = .ok (.aload_n 0, 1) := by decide +kernel
theorem d_Fu_findRound_65 : decode b_Fu_findRound 65 = .ok (.aload_n 0, 1) := by decide +kernel
theorem d_Fu_findRound_66 : decode b_Fu_findRound 66 = .ok (.iload_n 2, 1) := by decide +kernel
theorem d_Fu_findRound_67 : decode b_Fu_findRound 67 = .ok (.invokevirtual 41, 3) := by decide +kernel
theorem d_Fu_findRound_70 : decode b_Fu_findRound 70 = .ok (.putfield 53, 3) := by decide +kernel
theorem d_Fu_findRound_73 : decode b_Fu_findRound 73 = .ok (.aload_n 0, 1) := by decide +kernel
theorem d_Fu_findRound_74 : decode b_Fu_findRound 74 = .ok (.iload_n 3, 1) := by decide +kernel
theorem d_Fu_findRound_75 : decode b_Fu_findRound 75 = .ok (.aload_n 0, 1) := by decide +kernel
theorem d_Fu_findRound_76 : decode b_Fu_findRound 76 = .ok (.getfield 53, 3) := by decide +kernel
theorem d_Fu_findRound_79 : decode b_Fu_findRound 79 = .ok (.isub, 1) := by decide +kernel
theorem d_Fu_findRound_80 : decode b_Fu_findRound 80 = .ok (.putfield 56, 3) := by decide +kernel
theorem d_Fu_findRound_83 : decode b_Fu_findRound 83 = .ok (.aload_n 0, 1) := by decide +kernel
theorem d_Fu_findRound_84 : decode b_Fu_findRound 84 = .ok (.iconst 0, 1) := by decide +kernel
theorem d_Fu_findRound_85 : decode b_Fu_findRound 85 = .ok (.putfield 59, 3) := by decide +kernel
theorem d_Fu_findRound_88 : decode b_Fu_findRound 88 = .ok (.iconst 0, 1) := by decide +kernel
theorem d_Fu_findRound_89 : decode b_Fu_findRound 89 = .ok (.istore 4, 2) := by decide +kernel
theorem d_Fu_findRound_91 : decode b_Fu_findRound 91 = .ok (.iload 4, 2) := by decide +kernel
theorem d_Fu_findRound_93 : decode b_Fu_findRound 93 = .ok (.aload_n 0, 1) := by decide +kernel
theorem d_Fu_findRound_94 : decode b_Fu_findRound 94 = .ok (.getfield 56, 3) := by decide +kernel
theorem d_Fu_findRound_97 : decode b_Fu_findRound 97 = .ok (.if_icmp .ge 16, 3) := by decide +kernel
theorem d_Fu_findRound_100 : decode b_Fu_findRound 100 = .ok (.aload_n 0, 1) := by decide +kernel
theorem d_Fu_findRound_101 : decode b_Fu_findRound 101 = .ok (.aload_n 1, 1) := by decide +kernel
theorem d_Fu_findRound_102 : decode b_Fu_findRound 102 = .ok (.iload_n 2, 1) := by decide +kernel
theorem d_Fu_findRound_103 : decode b_Fu_findRound 103 = .ok (.invokevirtual 49, 3) := by decide +kernel
theorem d_Fu_findRound_106 : decode b_Fu_findRound 106 = .ok (.istore_n 2, 1) := by decide +kernel
theorem d_Fu_findRound_107 : decode b_Fu_findRound 107 = .ok (.iinc 4 1, 3) := by decide +kernel
theorem d_Fu_findRound_110 : decode b_Fu_findRound 110 = .ok (.goto (-19), 3) := by decide +kernel
theorem d_Fu_findRound_113 : decode b_Fu_findRound 113 = .ok (.return_, 1) := by decide +kernel
theorem d_Fu_multipleOf_0 : decode b_Fu_multipleOf 0 = .ok (.iload_n 1, 1) := by decide +kernel
theorem d_Fu_multipleOf_1 : decode b_Fu_multipleOf 1 = .ok (.iconst 0, 1) := by decide +kernel
theorem d_Fu_multipleOf_2 : decode b_Fu_multipleOf 2 = .ok (.sipush 999, 3) := by decide +kernel
theorem d_Fu_multipleOf_5 : decode b_Fu_multipleOf 5 = .ok (.invokestatic 62, 3) := by decide +kernel
theorem d_Fu_multipleOf_8 : decode b_Fu_multipleOf 8 = .ok (.ifCond .eq 7, 3) := by decide +kernel
theorem d_Fu_multipleOf_11 : decode b_Fu_multipleOf 11 = .ok (.iconst 0, 1) := by decide +kernel
theorem d_Fu_multipleOf_12 : decode b_Fu_multipleOf 12 = .ok (.goto 9, 3) := by decide +kernel
theorem d_Fu_multipleOf_15 : decode b_Fu_multipleOf 15 = .ok (.aload_n 0, 1) := by decide +kernel
theorem d_Fu_multipleOf_16 : decode b_Fu_multipleOf 16 = .ok (.getfield 9, 3) := by decide +kernel
theorem d_Fu_multipleOf_19 : decode b_Fu_multipleOf 19 = .ok (.iload_n 1, 1) := by decide +kernel
theorem d_Fu_multipleOf_20 : decode b_Fu_multipleOf 20 = .ok (.iaload, 1) := by decide +kernel
theorem d_Fu_multipleOf_21 : decode b_Fu_multipleOf 21 = .ok (.ireturn, 1) := by decide +kernel
theorem d_Fu_noteMultiple_0 : decode b_Fu_noteMultiple 0 = .ok (.iload_n 1, 1) := by decide +kernel
theorem d_Fu_noteMultiple_1 : decode b_Fu_noteMultiple 1 = .ok (.iconst 0, 1) := by decide +kernel
theorem d_Fu_noteMultiple_2 : decode b_Fu_noteMultiple 2 = .ok (.sipush 999, 3) := by decide +kernel
theorem d_Fu_noteMultiple_5 : decode b_Fu_noteMultiple 5 = .ok (.invokestatic 62, 3) := by decide +kernel
theorem d_Fu_noteMultiple_8 : decode b_Fu_noteMultiple 8 = .ok (.ifCond .ne 10, 3) := by decide +kernel
theorem d_Fu_noteMultiple_11 : decode b_Fu_noteMultiple 11 = .ok (.aload_n 0, 1) := by decide +kernel
theorem d_Fu_noteMultiple_12 : decode b_Fu_noteMultiple 12 = .ok (.getfield 9, 3) := by decide +kernel
theorem d_Fu_noteMultiple_15 : decode b_Fu_noteMultiple 15 = .ok (.iload_n 1, 1) := by decide +kernel
theorem d_Fu_noteMultiple_16 : decode b_Fu_noteMultiple 16 = .ok (.iload_n 2, 1) := by decide +kernel
theorem d_Fu_noteMultiple_17 : decode b_Fu_noteMultiple 17 = .ok (.iastore, 1) := by decide +kernel
theorem d_Fu_noteMultiple_18 : decode b_Fu_noteMultiple 18 = .ok (.return_, 1) := by decide +kernel
theorem d_Fu_volumeAfterAll_0 : decode b_Fu_volumeAfterAll 0 = .ok (.iload_n 2, 1) := by decide +kernel
theorem d_Fu_volumeAfterAll_1 : decode b_Fu_volumeAfterAll 1 = .ok (.istore_n 3, 1) := by decide +kernel
theorem d_Fu_volumeAfterAll_2 : decode b_Fu_volumeAfterAll 2 = .ok (.iconst 0, 1) := by decide +kernel
theorem d_Fu_volumeAfterAll_3 : decode b_Fu_volumeAfterAll 3 = .ok (.istore 4, 2) := by decide +kernel
theorem d_Fu_volumeAfterAll_5 : decode b_Fu_volumeAfterAll 5 = .ok (.iload 4, 2) := by decide +kernel
theorem d_Fu_volumeAfterAll_7 : decode b_Fu_volumeAfterAll 7 = .ok (.aload_n 1, 1) := by decide +kernel
theorem d_Fu_volumeAfterAll_8 : decode b_Fu_volumeAfterAll 8 = .ok (.getfield 66, 3) := by decide +kernel
theorem d_Fu_volumeAfterAll_11 : decode b_Fu_volumeAfterAll 11 = .ok (.if_icmp .ge 47, 3) := by decide +kernel
theorem d_Fu_volumeAfterAll_14 : decode b_Fu_volumeAfterAll 14 = .ok (.aload_n 1, 1) := by decide +kernel
theorem d_Fu_volumeAfterAll_15 : decode b_Fu_volumeAfterAll 15 = .ok (.iload 4, 2) := by decide +kernel
theorem d_Fu_volumeAfterAll_17 : decode b_Fu_volumeAfterAll 17 = .ok (.iload_n 3, 1) := by decide +kernel
theorem d_Fu_volumeAfterAll_18 : decode b_Fu_volumeAfterAll 18 = .ok (.aload_n 1, 1) := by decide +kernel
theorem d_Fu_volumeAfterAll_19 : decode b_Fu_volumeAfterAll 19 = .ok (.getfield 19, 3) := by decide +kernel
theorem d_Fu_volumeAfterAll_22 : decode b_Fu_volumeAfterAll 22 = .ok (.invokevirtual 25, 3) := by decide +kernel
theorem d_Fu_volumeAfterAll_25 : decode b_Fu_volumeAfterAll 25 = .ok (.istore 5, 2) := by decide +kernel
theorem d_Fu_volumeAfterAll_27 : decode b_Fu_volumeAfterAll 27 = .ok (.iload 5, 2) := by decide +kernel
theorem d_Fu_volumeAfterAll_29 : decode b_Fu_volumeAfterAll 29 = .ok (.ifCond .ge 13, 3) := by decide +kernel
theorem d_Fu_volumeAfterAll_32 : decode b_Fu_volumeAfterAll 32 = .ok (.aload_n 0, 1) := by decide +kernel
theorem d_Fu_volumeAfterAll_33 : decode b_Fu_volumeAfterAll 33 = .ok (.dup, 1) := by decide +kernel
theorem d_Fu_volumeAfterAll_34 : decode b_Fu_volumeAfterAll 34 = .ok (.getfield 59, 3) := by decide +kernel
theorem d_Fu_volumeAfterAll_37 : decode b_Fu_volumeAfterAll 37 = .ok (.iconst 1, 1) := by decide +kernel
theorem d_Fu_volumeAfterAll_38 : decode b_Fu_volumeAfterAll 38 = .ok (.iadd, 1) := by decide +kernel
theorem d_Fu_volumeAfterAll_39 : decode b_Fu_volumeAfterAll 39 = .ok (.putfield 59, 3) := by decide +kernel
theorem d_Fu_volumeAfterAll_42 : decode b_Fu_volumeAfterAll 42 = .ok (.iload 5, 2) := by decide +kernel
theorem d_Fu_volumeAfterAll_44 : decode b_Fu_volumeAfterAll 44 = .ok (.aload_n 1, 1) := by decide +kernel
theorem d_Fu_volumeAfterAll_45 : decode b_Fu_volumeAfterAll 45 = .ok (.getfield 35, 3) := by decide +kernel
theorem d_Fu_volumeAfterAll_48 : decode b_Fu_volumeAfterAll 48 = .ok (.invokestatic 38, 3) := by decide +kernel
theorem d_Fu_volumeAfterAll_51 : decode b_Fu_volumeAfterAll 51 = .ok (.istore_n 3, 1) := by decide +kernel
theorem d_Fu_volumeAfterAll_52 : decode b_Fu_volumeAfterAll 52 = .ok (.iinc 4 1, 3) := by decide +kernel
theorem d_Fu_volumeAfterAll_55 : decode b_Fu_volumeAfterAll 55 = .ok (.goto (-50), 3) := by decide +kernel
theorem d_Fu_volumeAfterAll_58 : decode b_Fu_volumeAfterAll 58 = .ok (.iload_n 3, 1) := by decide +kernel
theorem d_Fu_volumeAfterAll_59 : decode b_Fu_volumeAfterAll 59 = .ok (.ireturn, 1) := by decide +kernel
