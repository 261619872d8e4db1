theorem d_Ba_init_0 : decode b_Ba_init 0 = .ok (.aload_n 0, 1) := by decide +kernel
theorem d_Ba_init_1 : decode b_Ba_init 1 = .ok (.invokespecial 3, 3) := by decide +kernel
theorem d_Ba_init_4 : decode b_Ba_init 4 = .ok (.aload_n 0, 1) := by decide +kernel
theorem d_Ba_init_5 : decode b_Ba_init 5 = .ok (.bipush 12, 2) := by decide +kernel
theorem d_Ba_init_7 : decode b_Ba_init 7 = .ok (.newarray .int, 2) := by decide +kernel
theorem d_Ba_init_9 : decode b_Ba_init 9 = .ok (.putfield 9, 3) := by decide +kernel
theorem d_Ba_init_12 : decode b_Ba_init 12 = .ok (.aload_n 0, 1) := by decide +kernel
theorem d_Ba_init_13 : decode b_Ba_init 13 = .ok (.bipush 10, 2) := by decide +kernel
theorem d_Ba_init_15 : decode b_Ba_init 15 = .ok (.newarray .int, 2) := by decide +kernel
theorem d_Ba_init_17 : decode b_Ba_init 17 = .ok (.putfield 15, 3) := by decide +kernel
theorem d_Ba_init_20 : decode b_Ba_init 20 = .ok (.aload_n 0, 1) := by decide +kernel
theorem d_Ba_init_21 : decode b_Ba_init 21 = .ok (.iconst 1, 1) := by decide +kernel
theorem d_Ba_init_22 : decode b_Ba_init 22 = .ok (.putfield 18, 3) := by decide +kernel
theorem d_Ba_init_25 : decode b_Ba_init 25 = .ok (.return_, 1) := by decide +kernel
theorem d_Ba_copyFrom_0 : decode b_Ba_copyFrom 0 = .ok (.aload_n 1, 1) := by decide +kernel
theorem d_Ba_copyFrom_1 : decode b_Ba_copyFrom 1 = .ok (.getfield 9, 3) := by decide +kernel
theorem d_Ba_copyFrom_4 : decode b_Ba_copyFrom 4 = .ok (.iconst 0, 1) := by decide +kernel
theorem d_Ba_copyFrom_5 : decode b_Ba_copyFrom 5 = .ok (.aload_n 0, 1) := by decide +kernel
theorem d_Ba_copyFrom_6 : decode b_Ba_copyFrom 6 = .ok (.getfield 9, 3) := by decide +kernel
theorem d_Ba_copyFrom_9 : decode b_Ba_copyFrom 9 = .ok (.iconst 0, 1) := by decide +kernel
theorem d_Ba_copyFrom_10 : decode b_Ba_copyFrom 10 = .ok (.bipush 12, 2) := by decide +kernel
theorem d_Ba_copyFrom_12 : decode b_Ba_copyFrom 12 = .ok (.invokestatic 22, 3) := by decide +kernel
theorem d_Ba_copyFrom_15 : decode b_Ba_copyFrom 15 = .ok (.aload_n 1, 1) := by decide +kernel
theorem d_Ba_copyFrom_16 : decode b_Ba_copyFrom 16 = .ok (.getfield 15, 3) := by decide +kernel
theorem d_Ba_copyFrom_19 : decode b_Ba_copyFrom 19 = .ok (.iconst 0, 1) := by decide +kernel
theorem d_Ba_copyFrom_20 : decode b_Ba_copyFrom 20 = .ok (.aload_n 0, 1) := by decide +kernel
theorem d_Ba_copyFrom_21 : decode b_Ba_copyFrom 21 = .ok (.getfield 15, 3) := by decide +kernel
theorem d_Ba_copyFrom_24 : decode b_Ba_copyFrom 24 = .ok (.iconst 0, 1) := by decide +kernel
theorem d_Ba_copyFrom_25 : decode b_Ba_copyFrom 25 = .ok (.bipush 10, 2) := by decide +kernel
theorem d_Ba_copyFrom_27 : decode b_Ba_copyFrom 27 = .ok (.invokestatic 22, 3) := by decide +kernel
theorem d_Ba_copyFrom_30 : decode b_Ba_copyFrom 30 = .ok (.aload_n 0, 1) := by decide +kernel
theorem d_Ba_copyFrom_31 : decode b_Ba_copyFrom 31 = .ok (.aload_n 1, 1) := by decide +kernel
theorem d_Ba_copyFrom_32 : decode b_Ba_copyFrom 32 = .ok (.getfield 18, 3) := by decide +kernel
theorem d_Ba_copyFrom_35 : decode b_Ba_copyFrom 35 = .ok (.putfield 18, 3) := by decide +kernel
theorem d_Ba_copyFrom_38 : decode b_Ba_copyFrom 38 = .ok (.aload_n 0, 1) := by decide +kernel
theorem d_Ba_copyFrom_39 : decode b_Ba_copyFrom 39 = .ok (.aload_n 1, 1) := by decide +kernel
theorem d_Ba_copyFrom_40 : decode b_Ba_copyFrom 40 = .ok (.getfield 28, 3) := by decide +kernel
theorem d_Ba_copyFrom_43 : decode b_Ba_copyFrom 43 = .ok (.putfield 28, 3) := by decide +kernel
theorem d_Ba_copyFrom_46 : decode b_Ba_copyFrom 46 = .ok (.aload_n 0, 1) := by decide +kernel
theorem d_Ba_copyFrom_47 : decode b_Ba_copyFrom 47 = .ok (.aload_n 1, 1) := by decide +kernel
theorem d_Ba_copyFrom_48 : decode b_Ba_copyFrom 48 = .ok (.getfield 31, 3) := by decide +kernel
theorem d_Ba_copyFrom_51 : decode b_Ba_copyFrom 51 = .ok (.putfield 31, 3) := by decide +kernel
theorem d_Ba_copyFrom_54 : decode b_Ba_copyFrom 54 = .ok (.aload_n 0, 1) := by decide +kernel
theorem d_Ba_copyFrom_55 : decode b_Ba_copyFrom 55 = .ok (.aload_n 1, 1) := by decide +kernel
theorem d_Ba_copyFrom_56 : decode b_Ba_copyFrom 56 = .ok (.getfield 34, 3) := by decide +kernel
theorem d_Ba_copyFrom_59 : decode b_Ba_copyFrom 59 = .ok (.putfield 34, 3) := by decide +kernel
theorem d_Ba_copyFrom_62 : decode b_Ba_copyFrom 62 = .ok (.aload_n 0, 1) := by decide +kernel
theorem d_Ba_copyFrom_63 : decode b_Ba_copyFrom 63 = .ok (.aload_n 1, 1) := by decide +kernel
theorem d_Ba_copyFrom_64 : decode b_Ba_copyFrom 64 = .ok (.getfield 37, 3) := by decide +kernel
theorem d_Ba_copyFrom_67 : decode b_Ba_copyFrom 67 = .ok (.putfield 37, 3) := by decide +kernel
theorem d_Ba_copyFrom_70 : decode b_Ba_copyFrom 70 = .ok (.aload_n 0, 1) := by decide +kernel
theorem d_Ba_copyFrom_71 : decode b_Ba_copyFrom 71 = .ok (.aload_n 1, 1) := by decide +kernel
theorem d_Ba_copyFrom_72 : decode b_Ba_copyFrom 72 = .ok (.getfield 40, 3) := by decide +kernel
theorem d_Ba_copyFrom_75 : decode b_Ba_copyFrom 75 = .ok (.putfield 40, 3) := by decide +kernel
theorem d_Ba_copyFrom_78 : decode b_Ba_copyFrom 78 = .ok (.aload_n 0, 1) := by decide +kernel
theorem d_Ba_copyFrom_79 : decode b_Ba_copyFrom 79 = .ok (.aload_n 1, 1) := by decide +kernel
theorem d_Ba_copyFrom_80 : decode b_Ba_copyFrom 80 = .ok (.getfield 43, 3) := by decide +kernel
theorem d_Ba_copyFrom_83 : decode b_Ba_copyFrom 83 = .ok (.putfield 43, 3) := by decide +kernel
theorem d_Ba_copyFrom_86 : decode b_Ba_copyFrom 86 = .ok (.aload_n 0, 1) := by decide +kernel
theorem d_Ba_copyFrom_87 : decode b_Ba_copyFrom 87 = .ok (.aload_n 1, 1) := by decide +kernel
theorem d_Ba_copyFrom_88 : decode b_Ba_copyFrom 88 = .ok (.getfield 46, 3) := by decide +kernel
theorem d_Ba_copyFrom_91 : decode b_Ba_copyFrom 91 = .ok (.putfield 46, 3) := by decide +kernel
theorem d_Ba_copyFrom_94 : decode b_Ba_copyFrom 94 = .ok (.return_, 1) := by decide +kernel
theorem d_Ba_becomeAsAtFirst_0 : decode b_Ba_becomeAsAtFirst 0 = .ok (.iconst 0, 1) := by decide +kernel
theorem d_Ba_becomeAsAtFirst_1 : decode b_Ba_becomeAsAtFirst 1 = .ok (.istore_n 1, 1) := by decide +kernel
theorem d_Ba_becomeAsAtFirst_2 : decode b_Ba_becomeAsAtFirst 2 = .ok (.iload_n 1, 1) := by decide +kernel
theorem d_Ba_becomeAsAtFirst_3 : decode b_Ba_becomeAsAtFirst 3 = .ok (.bipush 12, 2) := by decide +kernel
theorem d_Ba_becomeAsAtFirst_5 : decode b_Ba_becomeAsAtFirst 5 = .ok (.if_icmp .ge 16, 3) := by decide +kernel
theorem d_Ba_becomeAsAtFirst_8 : decode b_Ba_becomeAsAtFirst 8 = .ok (.aload_n 0, 1) := by decide +kernel
theorem d_Ba_becomeAsAtFirst_9 : decode b_Ba_becomeAsAtFirst 9 = .ok (.getfield 9, 3) := by decide +kernel
theorem d_Ba_becomeAsAtFirst_12 : decode b_Ba_becomeAsAtFirst 12 = .ok (.iload_n 1, 1) := by decide +kernel
theorem d_Ba_becomeAsAtFirst_13 : decode b_Ba_becomeAsAtFirst 13 = .ok (.iconst 0, 1) := by decide +kernel
theorem d_Ba_becomeAsAtFirst_14 : decode b_Ba_becomeAsAtFirst 14 = .ok (.iastore, 1) := by decide +kernel
theorem d_Ba_becomeAsAtFirst_15 : decode b_Ba_becomeAsAtFirst 15 = .ok (.iinc 1 1, 3) := by decide +kernel
theorem d_Ba_becomeAsAtFirst_18 : decode b_Ba_becomeAsAtFirst 18 = .ok (.goto (-16), 3) := by decide +kernel
theorem d_Ba_becomeAsAtFirst_21 : decode b_Ba_becomeAsAtFirst 21 = .ok (.iconst 0, 1) := by decide +kernel
theorem d_Ba_becomeAsAtFirst_22 : decode b_Ba_becomeAsAtFirst 22 = .ok (.istore_n 1, 1) := by decide +kernel
theorem d_Ba_becomeAsAtFirst_23 : decode b_Ba_becomeAsAtFirst 23 = .ok (.iload_n 1, 1) := by decide +kernel
theorem d_Ba_becomeAsAtFirst_24 : decode b_Ba_becomeAsAtFirst 24 = .ok (.bipush 10, 2) := by decide +kernel
theorem d_Ba_becomeAsAtFirst_26 : decode b_Ba_becomeAsAtFirst 26 = .ok (.if_icmp .ge 16, 3) := by decide +kernel
theorem d_Ba_becomeAsAtFirst_29 : decode b_Ba_becomeAsAtFirst 29 = .ok (.aload_n 0, 1) := by decide +kernel
theorem d_Ba_becomeAsAtFirst_30 : decode b_Ba_becomeAsAtFirst 30 = .ok (.getfield 15, 3) := by decide +kernel
theorem d_Ba_becomeAsAtFirst_33 : decode b_Ba_becomeAsAtFirst 33 = .ok (.iload_n 1, 1) := by decide +kernel
theorem d_Ba_becomeAsAtFirst_34 : decode b_Ba_becomeAsAtFirst 34 = .ok (.iconst 0, 1) := by decide +kernel
theorem d_Ba_becomeAsAtFirst_35 : decode b_Ba_becomeAsAtFirst 35 = .ok (.iastore, 1) := by decide +kernel
theorem d_Ba_becomeAsAtFirst_36 : decode b_Ba_becomeAsAtFirst 36 = .ok (.iinc 1 1, 3) := by decide +kernel
theorem d_Ba_becomeAsAtFirst_39 : decode b_Ba_becomeAsAtFirst 39 = .ok (.goto (-16), 3) := by decide +kernel
theorem d_Ba_becomeAsAtFirst_42 : decode b_Ba_becomeAsAtFirst 42 = .ok (.aload_n 0, 1) := by decide +kernel
theorem d_Ba_becomeAsAtFirst_43 : decode b_Ba_becomeAsAtFirst 43 = .ok (.iconst 1, 1) := by decide +kernel
theorem d_Ba_becomeAsAtFirst_44 : decode b_Ba_becomeAsAtFirst 44 = .ok (.putfield 18, 3) := by decide +kernel
theorem d_Ba_becomeAsAtFirst_47 : decode b_Ba_becomeAsAtFirst 47 = .ok (.aload_n 0, 1) := by decide +kernel
theorem d_Ba_becomeAsAtFirst_48 : decode b_Ba_becomeAsAtFirst 48 = .ok (.iconst 0, 1) := by decide +kernel
theorem d_Ba_becomeAsAtFirst_49 : decode b_Ba_becomeAsAtFirst 49 = .ok (.putfield 28, 3) := by decide +kernel
theorem d_Ba_becomeAsAtFirst_52 : decode b_Ba_becomeAsAtFirst 52 = .ok (.aload_n 0, 1) := by decide +kernel
theorem d_Ba_becomeAsAtFirst_53 : decode b_Ba_becomeAsAtFirst 53 = .ok (.iconst 0, 1) := by decide +kernel
theorem d_Ba_becomeAsAtFirst_54 : decode b_Ba_becomeAsAtFirst 54 = .ok (.putfield 31, 3) := by decide +kernel
theorem d_Ba_becomeAsAtFirst_57 : decode b_Ba_becomeAsAtFirst 57 = .ok (.aload_n 0, 1) := by decide +kernel
theorem d_Ba_becomeAsAtFirst_58 : decode b_Ba_becomeAsAtFirst 58 = .ok (.iconst 0, 1) := by decide +kernel
theorem d_Ba_becomeAsAtFirst_59 : decode b_Ba_becomeAsAtFirst 59 = .ok (.putfield 34, 3) := by decide +kernel
theorem d_Ba_becomeAsAtFirst_62 : decode b_Ba_becomeAsAtFirst 62 = .ok (.aload_n 0, 1) := by decide +kernel
theorem d_Ba_becomeAsAtFirst_63 : decode b_Ba_becomeAsAtFirst 63 = .ok (.iconst 0, 1) := by decide +kernel
theorem d_Ba_becomeAsAtFirst_64 : decode b_Ba_becomeAsAtFirst 64 = .ok (.putfield 37, 3) := by decide +kernel
theorem d_Ba_becomeAsAtFirst_67 : decode b_Ba_becomeAsAtFirst 67 = .ok (.aload_n 0, 1) := by decide +kernel
theorem d_Ba_becomeAsAtFirst_68 : decode b_Ba_becomeAsAtFirst 68 = .ok (.iconst 0, 1) := by decide +kernel
theorem d_Ba_becomeAsAtFirst_69 : decode b_Ba_becomeAsAtFirst 69 = .ok (.putfield 40, 3) := by decide +kernel
theorem d_Ba_becomeAsAtFirst_72 : decode b_Ba_becomeAsAtFirst 72 = .ok (.aload_n 0, 1) := by decide +kernel
theorem d_Ba_becomeAsAtFirst_73 : decode b_Ba_becomeAsAtFirst 73 = .ok (.iconst 0, 1) := by decide +kernel
theorem d_Ba_becomeAsAtFirst_74 : decode b_Ba_becomeAsAtFirst 74 = .ok (.putfield 43, 3) := by decide +kernel
theorem d_Ba_becomeAsAtFirst_77 : decode b_Ba_becomeAsAtFirst 77 = .ok (.aload_n 0, 1) := by decide +kernel
theorem d_Ba_becomeAsAtFirst_78 : decode b_Ba_becomeAsAtFirst 78 = .ok (.iconst 0, 1) := by decide +kernel
theorem d_Ba_becomeAsAtFirst_79 : decode b_Ba_becomeAsAtFirst 79 = .ok (.putfield 46, 3) := by decide +kernel
theorem d_Ba_becomeAsAtFirst_82 : decode b_Ba_becomeAsAtFirst 82 = .ok (.return_, 1) := by decide +kernel
theorem d_Ba_hasNoPlace_0 : decode b_Ba_hasNoPlace 0 = .ok (.iload_n 1, 1) := by decide +kernel
theorem d_Ba_hasNoPlace_1 : decode b_Ba_hasNoPlace 1 = .ok (.iconst 0, 1) := by decide +kernel
theorem d_Ba_hasNoPlace_2 : decode b_Ba_hasNoPlace 2 = .ok (.aload_n 0, 1) := by decide +kernel
theorem d_Ba_hasNoPlace_3 : decode b_Ba_hasNoPlace 3 = .ok (.getfield 18, 3) := by decide +kernel
theorem d_Ba_hasNoPlace_6 : decode b_Ba_hasNoPlace 6 = .ok (.bipush 12, 2) := by decide +kernel
theorem d_Ba_hasNoPlace_8 : decode b_Ba_hasNoPlace 8 = .ok (.invokestatic 49, 3) := by decide +kernel
theorem d_Ba_hasNoPlace_11 : decode b_Ba_hasNoPlace 11 = .ok (.iconst 1, 1) := by decide +kernel
theorem d_Ba_hasNoPlace_12 : decode b_Ba_hasNoPlace 12 = .ok (.isub, 1) := by decide +kernel
theorem d_Ba_hasNoPlace_13 : decode b_Ba_hasNoPlace 13 = .ok (.invokestatic 55, 3) := by decide +kernel
theorem d_Ba_hasNoPlace_16 : decode b_Ba_hasNoPlace 16 = .ok (.ireturn, 1) := by decide +kernel
theorem d_Ba_inflowOf_0 : decode b_Ba_inflowOf 0 = .ok (.iload_n 1, 1) := by decide +kernel
theorem d_Ba_inflowOf_1 : decode b_Ba_inflowOf 1 = .ok (.ifCond .lt 16, 3) := by decide +kernel
theorem d_Ba_inflowOf_4 : decode b_Ba_inflowOf 4 = .ok (.aload_n 0, 1) := by decide +kernel
theorem d_Ba_inflowOf_5 : decode b_Ba_inflowOf 5 = .ok (.getfield 18, 3) := by decide +kernel
theorem d_Ba_inflowOf_8 : decode b_Ba_inflowOf 8 = .ok (.iconst 1, 1) := by decide +kernel
theorem d_Ba_inflowOf_9 : decode b_Ba_inflowOf 9 = .ok (.bipush 12, 2) := by decide +kernel
theorem d_Ba_inflowOf_11 : decode b_Ba_inflowOf 11 = .ok (.invokestatic 55, 3) := by decide +kernel
theorem d_Ba_inflowOf_14 : decode b_Ba_inflowOf 14 = .ok (.ifCond .eq 5, 3) := by decide +kernel
theorem d_Ba_inflowOf_17 : decode b_Ba_inflowOf 17 = .ok (.iconst 0, 1) := by decide +kernel
theorem d_Ba_inflowOf_18 : decode b_Ba_inflowOf 18 = .ok (.ireturn, 1) := by decide +kernel
theorem d_Ba_inflowOf_19 : decode b_Ba_inflowOf 19 = .ok (.aload_n 0, 1) := by decide +kernel
theorem d_Ba_inflowOf_20 : decode b_Ba_inflowOf 20 = .ok (.getfield 9, 3) := by decide +kernel
theorem d_Ba_inflowOf_23 : decode b_Ba_inflowOf 23 = .ok (.iload_n 1, 1) := by decide +kernel
theorem d_Ba_inflowOf_24 : decode b_Ba_inflowOf 24 = .ok (.aload_n 0, 1) := by decide +kernel
theorem d_Ba_inflowOf_25 : decode b_Ba_inflowOf 25 = .ok (.getfield 18, 3) := by decide +kernel
theorem d_Ba_inflowOf_28 : decode b_Ba_inflowOf 28 = .ok (.irem, 1) := by decide +kernel
theorem d_Ba_inflowOf_29 : decode b_Ba_inflowOf 29 = .ok (.iaload, 1) := by decide +kernel
theorem d_Ba_inflowOf_30 : decode b_Ba_inflowOf 30 = .ok (.ireturn, 1) := by decide +kernel
theorem d_Ba_lossOf_0 : decode b_Ba_lossOf 0 = .ok (.iload_n 1, 1) := by decide +kernel
theorem d_Ba_lossOf_1 : decode b_Ba_lossOf 1 = .ok (.bipush 100, 2) := by decide +kernel
theorem d_Ba_lossOf_3 : decode b_Ba_lossOf 3 = .ok (.idiv, 1) := by decide +kernel
theorem d_Ba_lossOf_4 : decode b_Ba_lossOf 4 = .ok (.istore_n 2, 1) := by decide +kernel
theorem d_Ba_lossOf_5 : decode b_Ba_lossOf 5 = .ok (.iload_n 2, 1) := by decide +kernel
theorem d_Ba_lossOf_6 : decode b_Ba_lossOf 6 = .ok (.iconst 0, 1) := by decide +kernel
theorem d_Ba_lossOf_7 : decode b_Ba_lossOf 7 = .ok (.bipush 9, 2) := by decide +kernel
theorem d_Ba_lossOf_9 : decode b_Ba_lossOf 9 = .ok (.invokestatic 55, 3) := by decide +kernel
theorem d_Ba_lossOf_12 : decode b_Ba_lossOf 12 = .ok (.ifCond .eq 7, 3) := by decide +kernel
theorem d_Ba_lossOf_15 : decode b_Ba_lossOf 15 = .ok (.iconst 0, 1) := by decide +kernel
theorem d_Ba_lossOf_16 : decode b_Ba_lossOf 16 = .ok (.goto 9, 3) := by decide +kernel
theorem d_Ba_lossOf_19 : decode b_Ba_lossOf 19 = .ok (.aload_n 0, 1) := by decide +kernel
theorem d_Ba_lossOf_20 : decode b_Ba_lossOf 20 = .ok (.getfield 15, 3) := by decide +kernel
theorem d_Ba_lossOf_23 : decode b_Ba_lossOf 23 = .ok (.iload_n 2, 1) := by decide +kernel
theorem d_Ba_lossOf_24 : decode b_Ba_lossOf 24 = .ok (.iaload, 1) := by decide +kernel
theorem d_Ba_lossOf_25 : decode b_Ba_lossOf 25 = .ok (.ireturn, 1) := by decide +kernel
theorem d_Ba_total_0 : decode b_Ba_total 0 = .ok (.iconst 0, 1) := by decide +kernel
theorem d_Ba_total_1 : decode b_Ba_total 1 = .ok (.istore_n 1, 1) := by decide +kernel
theorem d_Ba_total_2 : decode b_Ba_total 2 = .ok (.iconst 0, 1) := by decide +kernel
theorem d_Ba_total_3 : decode b_Ba_total 3 = .ok (.istore_n 2, 1) := by decide +kernel
theorem d_Ba_total_4 : decode b_Ba_total 4 = .ok (.iload_n 2, 1) := by decide +kernel
theorem d_Ba_total_5 : decode b_Ba_total 5 = .ok (.aload_n 0, 1) := by decide +kernel
theorem d_Ba_total_6 : decode b_Ba_total 6 = .ok (.getfield 18, 3) := by decide +kernel
theorem d_Ba_total_9 : decode b_Ba_total 9 = .ok (.if_icmp .ge 17, 3) := by decide +kernel
theorem d_Ba_total_12 : decode b_Ba_total 12 = .ok (.iload_n 1, 1) := by decide +kernel
theorem d_Ba_total_13 : decode b_Ba_total 13 = .ok (.aload_n 0, 1) := by decide +kernel
theorem d_Ba_total_14 : decode b_Ba_total 14 = .ok (.iload_n 2, 1) := by decide +kernel
theorem d_Ba_total_15 : decode b_Ba_total 15 = .ok (.invokevirtual 59, 3) := by decide +kernel
theorem d_Ba_total_18 : decode b_Ba_total 18 = .ok (.iadd, 1) := by decide +kernel
theorem d_Ba_total_19 : decode b_Ba_total 19 = .ok (.istore_n 1, 1) := by decide +kernel
theorem d_Ba_total_20 : decode b_Ba_total 20 = .ok (.iinc 2 1, 3) := by decide +kernel
theorem d_Ba_total_23 : decode b_Ba_total 23 = .ok (.goto (-19), 3) := by decide +kernel
theorem d_Ba_total_26 : decode b_Ba_total 26 = .ok (.iload_n 1, 1) := by decide +kernel
theorem d_Ba_total_27 : decode b_Ba_total 27 = .ok (.ireturn, 1) := by decide +kernel
theorem d_Ba_levelWith_0 : decode b_Ba_levelWith 0 = .ok (.iload_n 2, 1) := by decide +kernel
theorem d_Ba_levelWith_1 : decode b_Ba_levelWith 1 = .ok (.iload_n 1, 1) := by decide +kernel
theorem d_Ba_levelWith_2 : decode b_Ba_levelWith 2 = .ok (.iadd, 1) := by decide +kernel
theorem d_Ba_levelWith_3 : decode b_Ba_levelWith 3 = .ok (.aload_n 0, 1) := by decide +kernel
theorem d_Ba_levelWith_4 : decode b_Ba_levelWith 4 = .ok (.iload_n 2, 1) := by decide +kernel
theorem d_Ba_levelWith_5 : decode b_Ba_levelWith 5 = .ok (.invokevirtual 63, 3) := by decide +kernel
theorem d_Ba_levelWith_8 : decode b_Ba_levelWith 8 = .ok (.isub, 1) := by decide +kernel
theorem d_Ba_levelWith_9 : decode b_Ba_levelWith 9 = .ok (.iload_n 3, 1) := by decide +kernel
theorem d_Ba_levelWith_10 : decode b_Ba_levelWith 10 = .ok (.isub, 1) := by decide +kernel
theorem d_Ba_levelWith_11 : decode b_Ba_levelWith 11 = .ok (.ireturn, 1) := by decide +kernel
theorem d_Ba_levelBehind_0 : decode b_Ba_levelBehind 0 = .ok (.aload_n 0, 1) := by decide +kernel
theorem d_Ba_levelBehind_1 : decode b_Ba_levelBehind 1 = .ok (.aload_n 0, 1) := by decide +kernel
theorem d_Ba_levelBehind_2 : decode b_Ba_levelBehind 2 = .ok (.iload_n 1, 1) := by decide +kernel
theorem d_Ba_levelBehind_3 : decode b_Ba_levelBehind 3 = .ok (.invokevirtual 59, 3) := by decide +kernel
theorem d_Ba_levelBehind_6 : decode b_Ba_levelBehind 6 = .ok (.iload_n 2, 1) := by decide +kernel
theorem d_Ba_levelBehind_7 : decode b_Ba_levelBehind 7 = .ok (.iload_n 3, 1) := by decide +kernel
theorem d_Ba_levelBehind_8 : decode b_Ba_levelBehind 8 = .ok (.invokevirtual 66, 3) := by decide +kernel
theorem d_Ba_levelBehind_11 : decode b_Ba_levelBehind 11 = .ok (.ireturn, 1) := by decide +kernel
theorem d_Ba_held_0 : decode b_Ba_held 0 = .ok (.iconst 0, 1) := by decide +kernel
theorem d_Ba_held_1 : decode b_Ba_held 1 = .ok (.iload_n 0, 1) := by decide +kernel
theorem d_Ba_held_2 : decode b_Ba_held 2 = .ok (.iload_n 1, 1) := by decide +kernel
theorem d_Ba_held_3 : decode b_Ba_held 3 = .ok (.invokestatic 49, 3) := by decide +kernel
theorem d_Ba_held_6 : decode b_Ba_held 6 = .ok (.invokestatic 70, 3) := by decide +kernel
theorem d_Ba_held_9 : decode b_Ba_held 9 = .ok (.ireturn, 1) := by decide +kernel
theorem d_Ba_pass_0 : decode b_Ba_pass 0 = .ok (.aload_n 0, 1) := by decide +kernel
theorem d_Ba_pass_1 : decode b_Ba_pass 1 = .ok (.aload_n 0, 1) := by decide +kernel
theorem d_Ba_pass_2 : decode b_Ba_pass 2 = .ok (.getfield 34, 3) := by decide +kernel
theorem d_Ba_pass_5 : decode b_Ba_pass 5 = .ok (.aload_n 0, 1) := by decide +kernel
theorem d_Ba_pass_6 : decode b_Ba_pass 6 = .ok (.getfield 37, 3) := by decide +kernel
theorem d_Ba_pass_9 : decode b_Ba_pass 9 = .ok (.aload_n 0, 1) := by decide +kernel
theorem d_Ba_pass_10 : decode b_Ba_pass 10 = .ok (.getfield 28, 3) := by decide +kernel
theorem d_Ba_pass_13 : decode b_Ba_pass 13 = .ok (.invokevirtual 73, 3) := by decide +kernel
theorem d_Ba_pass_16 : decode b_Ba_pass 16 = .ok (.istore_n 1, 1) := by decide +kernel
theorem d_Ba_pass_17 : decode b_Ba_pass 17 = .ok (.iload_n 1, 1) := by decide +kernel
theorem d_Ba_pass_18 : decode b_Ba_pass 18 = .ok (.ifCond .ge 23, 3) := by decide +kernel
theorem d_Ba_pass_21 : decode b_Ba_pass 21 = .ok (.aload_n 0, 1) := by decide +kernel
theorem d_Ba_pass_22 : decode b_Ba_pass 22 = .ok (.dup, 1) := by decide +kernel
theorem d_Ba_pass_23 : decode b_Ba_pass 23 = .ok (.getfield 40, 3) := by decide +kernel
theorem d_Ba_pass_26 : decode b_Ba_pass 26 = .ok (.iconst 1, 1) := by decide +kernel
theorem d_Ba_pass_27 : decode b_Ba_pass 27 = .ok (.iadd, 1) := by decide +kernel
theorem d_Ba_pass_28 : decode b_Ba_pass 28 = .ok (.putfield 40, 3) := by decide +kernel
theorem d_Ba_pass_31 : decode b_Ba_pass 31 = .ok (.aload_n 0, 1) := by decide +kernel
theorem d_Ba_pass_32 : decode b_Ba_pass 32 = .ok (.dup, 1) := by decide +kernel
theorem d_Ba_pass_33 : decode b_Ba_pass 33 = .ok (.getfield 43, 3) := by decide +kernel
theorem d_Ba_pass_36 : decode b_Ba_pass 36 = .ok (.iload_n 1, 1) := by decide +kernel
theorem d_Ba_pass_37 : decode b_Ba_pass 37 = .ok (.isub, 1) := by decide +kernel
theorem d_Ba_pass_38 : decode b_Ba_pass 38 = .ok (.putfield 43, 3) := by decide +kernel
theorem d_Ba_pass_41 : decode b_Ba_pass 41 = .ok (.iload_n 1, 1) := by decide +kernel
theorem d_Ba_pass_42 : decode b_Ba_pass 42 = .ok (.aload_n 0, 1) := by decide +kernel
theorem d_Ba_pass_43 : decode b_Ba_pass 43 = .ok (.getfield 31, 3) := by decide +kernel
theorem d_Ba_pass_46 : decode b_Ba_pass 46 = .ok (.if_icmp .le 18, 3) := by decide +kernel
theorem d_Ba_pass_49 : decode b_Ba_pass 49 = .ok (.aload_n 0, 1) := by decide +kernel
theorem d_Ba_pass_50 : decode b_Ba_pass 50 = .ok (.dup, 1) := by decide +kernel
theorem d_Ba_pass_51 : decode b_Ba_pass 51 = .ok (.getfield 46, 3) := by decide +kernel
theorem d_Ba_pass_54 : decode b_Ba_pass 54 = .ok (.iload_n 1, 1) := by decide +kernel
theorem d_Ba_pass_55 : decode b_Ba_pass 55 = .ok (.aload_n 0, 1) := by decide +kernel
theorem d_Ba_pass_56 : decode b_Ba_pass 56 = .ok (.getfield 31, 3) := by decide +kernel
theorem d_Ba_pass_59 : decode b_Ba_pass 59 = .ok (.isub, 1) := by decide +kernel
theorem d_Ba_pass_60 : decode b_Ba_pass 60 = .ok (.iadd, 1) := by decide +kernel
theorem d_Ba_pass_61 : decode b_Ba_pass 61 = .ok (.putfield 46, 3) := by decide +kernel
theorem d_Ba_pass_64 : decode b_Ba_pass 64 = .ok (.aload_n 0, 1) := by decide +kernel
theorem d_Ba_pass_65 : decode b_Ba_pass 65 = .ok (.iload_n 1, 1) := by decide +kernel
theorem d_Ba_pass_66 : decode b_Ba_pass 66 = .ok (.aload_n 0, 1) := by decide +kernel
theorem d_Ba_pass_67 : decode b_Ba_pass 67 = .ok (.getfield 31, 3) := by decide +kernel
theorem d_Ba_pass_70 : decode b_Ba_pass 70 = .ok (.invokestatic 76, 3) := by decide +kernel
theorem d_Ba_pass_73 : decode b_Ba_pass 73 = .ok (.putfield 37, 3) := by decide +kernel
theorem d_Ba_pass_76 : decode b_Ba_pass 76 = .ok (.aload_n 0, 1) := by decide +kernel
theorem d_Ba_pass_77 : decode b_Ba_pass 77 = .ok (.dup, 1) := by decide +kernel
theorem d_Ba_pass_78 : decode b_Ba_pass 78 = .ok (.getfield 34, 3) := by decide +kernel
theorem d_Ba_pass_81 : decode b_Ba_pass 81 = .ok (.iconst 1, 1) := by decide +kernel
theorem d_Ba_pass_82 : decode b_Ba_pass 82 = .ok (.iadd, 1) := by decide +kernel
theorem d_Ba_pass_83 : decode b_Ba_pass 83 = .ok (.putfield 34, 3) := by decide +kernel
theorem d_Ba_pass_86 : decode b_Ba_pass 86 = .ok (.return_, 1) := by decide +kernel
theorem d_Ba_changeCap_0 : decode b_Ba_changeCap 0 = .ok (.aload_n 0, 1) := by decide +kernel
theorem d_Ba_changeCap_1 : decode b_Ba_changeCap 1 = .ok (.iload_n 1, 1) := by decide +kernel
theorem d_Ba_changeCap_2 : decode b_Ba_changeCap 2 = .ok (.putfield 31, 3) := by decide +kernel
theorem d_Ba_changeCap_5 : decode b_Ba_changeCap 5 = .ok (.aload_n 0, 1) := by decide +kernel
theorem d_Ba_changeCap_6 : decode b_Ba_changeCap 6 = .ok (.getfield 37, 3) := by decide +kernel
theorem d_Ba_changeCap_9 : decode b_Ba_changeCap 9 = .ok (.iload_n 1, 1) := by decide +kernel
theorem d_Ba_changeCap_10 : decode b_Ba_changeCap 10 = .ok (.if_icmp .le 23, 3) := by decide +kernel
theorem d_Ba_changeCap_13 : decode b_Ba_changeCap 13 = .ok (.aload_n 0, 1) := by decide +kernel
theorem d_Ba_changeCap_14 : decode b_Ba_changeCap 14 = .ok (.dup, 1) := by decide +kernel
theorem d_Ba_changeCap_15 : decode b_Ba_changeCap 15 = .ok (.getfield 46, 3) := by decide +kernel
theorem d_Ba_changeCap_18 : decode b_Ba_changeCap 18 = .ok (.aload_n 0, 1) := by decide +kernel
theorem d_Ba_changeCap_19 : decode b_Ba_changeCap 19 = .ok (.getfield 37, 3) := by decide +kernel
theorem d_Ba_changeCap_22 : decode b_Ba_changeCap 22 = .ok (.iload_n 1, 1) := by decide +kernel
theorem d_Ba_changeCap_23 : decode b_Ba_changeCap 23 = .ok (.isub, 1) := by decide +kernel
theorem d_Ba_changeCap_24 : decode b_Ba_changeCap 24 = .ok (.iadd, 1) := by decide +kernel
theorem d_Ba_changeCap_25 : decode b_Ba_changeCap 25 = .ok (.putfield 46, 3) := by decide +kernel
theorem d_Ba_changeCap_28 : decode b_Ba_changeCap 28 = .ok (.aload_n 0, 1) := by decide +kernel
theorem d_Ba_changeCap_29 : decode b_Ba_changeCap 29 = .ok (.iload_n 1, 1) := by decide +kernel
theorem d_Ba_changeCap_30 : decode b_Ba_changeCap 30 = .ok (.putfield 37, 3) := by decide +kernel
theorem d_Ba_changeCap_33 : decode b_Ba_changeCap 33 = .ok (.return_, 1) := by decide +kernel
theorem d_Ba_changeInflow_0 : decode b_Ba_changeInflow 0 = .ok (.aload_n 0, 1) := by decide +kernel
theorem d_Ba_changeInflow_1 : decode b_Ba_changeInflow 1 = .ok (.iload_n 1, 1) := by decide +kernel
theorem d_Ba_changeInflow_2 : decode b_Ba_changeInflow 2 = .ok (.invokevirtual 79, 3) := by decide +kernel
theorem d_Ba_changeInflow_5 : decode b_Ba_changeInflow 5 = .ok (.ifCond .ne 10, 3) := by decide +kernel
theorem d_Ba_changeInflow_8 : decode b_Ba_changeInflow 8 = .ok (.aload_n 0, 1) := by decide +kernel
theorem d_Ba_changeInflow_9 : decode b_Ba_changeInflow 9 = .ok (.getfield 9, 3) := by decide +kernel
theorem d_Ba_changeInflow_12 : decode b_Ba_changeInflow 12 = .ok (.iload_n 1, 1) := by decide +kernel
theorem d_Ba_changeInflow_13 : decode b_Ba_changeInflow 13 = .ok (.iload_n 2, 1) := by decide +kernel
theorem d_Ba_changeInflow_14 : decode b_Ba_changeInflow 14 = .ok (.iastore, 1) := by decide +kernel
theorem d_Ba_changeInflow_15 : decode b_Ba_changeInflow 15 = .ok (.return_, 1) := by decide +kernel
theorem d_Ba_changeLoss_0 : decode b_Ba_changeLoss 0 = .ok (.iload_n 1, 1) := by decide +kernel
theorem d_Ba_changeLoss_1 : decode b_Ba_changeLoss 1 = .ok (.iconst 0, 1) := by decide +kernel
theorem d_Ba_changeLoss_2 : decode b_Ba_changeLoss 2 = .ok (.bipush 9, 2) := by decide +kernel
theorem d_Ba_changeLoss_4 : decode b_Ba_changeLoss 4 = .ok (.invokestatic 55, 3) := by decide +kernel
theorem d_Ba_changeLoss_7 : decode b_Ba_changeLoss 7 = .ok (.ifCond .ne 10, 3) := by decide +kernel
theorem d_Ba_changeLoss_10 : decode b_Ba_changeLoss 10 = .ok (.aload_n 0, 1) := by decide +kernel
theorem d_Ba_changeLoss_11 : decode b_Ba_changeLoss 11 = .ok (.getfield 15, 3) := by decide +kernel
theorem d_Ba_changeLoss_14 : decode b_Ba_changeLoss 14 = .ok (.iload_n 1, 1) := by decide +kernel
theorem d_Ba_changeLoss_15 : decode b_Ba_changeLoss 15 = .ok (.iload_n 2, 1) := by decide +kernel
theorem d_Ba_changeLoss_16 : decode b_Ba_changeLoss 16 = .ok (.iastore, 1) := by decide +kernel
theorem d_Ba_changeLoss_17 : decode b_Ba_changeLoss 17 = .ok (.return_, 1) := by decide +kernel
theorem d_Ba_addInflow_0 : decode b_Ba_addInflow 0 = .ok (.iload_n 1, 1) := by decide +kernel
theorem d_Ba_addInflow_1 : decode b_Ba_addInflow 1 = .ok (.iconst 0, 1) := by decide +kernel
theorem d_Ba_addInflow_2 : decode b_Ba_addInflow 2 = .ok (.bipush 11, 2) := by decide +kernel
theorem d_Ba_addInflow_4 : decode b_Ba_addInflow 4 = .ok (.invokestatic 55, 3) := by decide +kernel
theorem d_Ba_addInflow_7 : decode b_Ba_addInflow 7 = .ok (.ifCond .ne 17, 3) := by decide +kernel
theorem d_Ba_addInflow_10 : decode b_Ba_addInflow 10 = .ok (.aload_n 0, 1) := by decide +kernel
theorem d_Ba_addInflow_11 : decode b_Ba_addInflow 11 = .ok (.iload_n 1, 1) := by decide +kernel
theorem d_Ba_addInflow_12 : decode b_Ba_addInflow 12 = .ok (.iconst 1, 1) := by decide +kernel
theorem d_Ba_addInflow_13 : decode b_Ba_addInflow 13 = .ok (.iadd, 1) := by decide +kernel
theorem d_Ba_addInflow_14 : decode b_Ba_addInflow 14 = .ok (.putfield 18, 3) := by decide +kernel
theorem d_Ba_addInflow_17 : decode b_Ba_addInflow 17 = .ok (.aload_n 0, 1) := by decide +kernel
theorem d_Ba_addInflow_18 : decode b_Ba_addInflow 18 = .ok (.getfield 9, 3) := by decide +kernel
theorem d_Ba_addInflow_21 : decode b_Ba_addInflow 21 = .ok (.iload_n 1, 1) := by decide +kernel
theorem d_Ba_addInflow_22 : decode b_Ba_addInflow 22 = .ok (.iload_n 2, 1) := by decide +kernel
theorem d_Ba_addInflow_23 : decode b_Ba_addInflow 23 = .ok (.iastore, 1) := by decide +kernel
theorem d_Ba_addInflow_24 : decode b_Ba_addInflow 24 = .ok (.return_, 1) := by decide +kernel
