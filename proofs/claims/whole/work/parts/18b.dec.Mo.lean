theorem d_Mo_readText_0 : decode b_Mo_readText 0 = .ok (.aload_n 0, 1) := by decide +kernel
theorem d_Mo_readText_1 : decode b_Mo_readText 1 = .ok (.invokevirtual 47, 3) := by decide +kernel
theorem d_Mo_readText_4 : decode b_Mo_readText 4 = .ok (.aload_n 0, 1) := by decide +kernel
theorem d_Mo_readText_5 : decode b_Mo_readText 5 = .ok (.iconst 0, 1) := by decide +kernel
theorem d_Mo_readText_6 : decode b_Mo_readText 6 = .ok (.putfield 54, 3) := by decide +kernel
theorem d_Mo_readText_9 : decode b_Mo_readText 9 = .ok (.aload_n 0, 1) := by decide +kernel
theorem d_Mo_readText_10 : decode b_Mo_readText 10 = .ok (.iconst 0, 1) := by decide +kernel
theorem d_Mo_readText_11 : decode b_Mo_readText 11 = .ok (.putfield 88, 3) := by decide +kernel
theorem d_Mo_readText_14 : decode b_Mo_readText 14 = .ok (.aload_n 0, 1) := by decide +kernel
theorem d_Mo_readText_15 : decode b_Mo_readText 15 = .ok (.iconst 0, 1) := by decide +kernel
theorem d_Mo_readText_16 : decode b_Mo_readText 16 = .ok (.putfield 81, 3) := by decide +kernel
theorem d_Mo_readText_19 : decode b_Mo_readText 19 = .ok (.aload_n 0, 1) := by decide +kernel
theorem d_Mo_readText_20 : decode b_Mo_readText 20 = .ok (.invokevirtual 74, 3) := by decide +kernel
theorem d_Mo_readText_23 : decode b_Mo_readText 23 = .ok (.aload_n 0, 1) := by decide +kernel
theorem d_Mo_readText_24 : decode b_Mo_readText 24 = .ok (.getfield 64, 3) := by decide +kernel
theorem d_Mo_readText_27 : decode b_Mo_readText 27 = .ok (.iconst 2, 1) := by decide +kernel
theorem d_Mo_readText_28 : decode b_Mo_readText 28 = .ok (.if_icmp .eq 22, 3) := by decide +kernel
theorem d_Mo_readText_31 : decode b_Mo_readText 31 = .ok (.aload_n 0, 1) := by decide +kernel
theorem d_Mo_readText_32 : decode b_Mo_readText 32 = .ok (.invokevirtual 91, 3) := by decide +kernel
theorem d_Mo_readText_35 : decode b_Mo_readText 35 = .ok (.ifCond .ne 8, 3) := by decide +kernel
theorem d_Mo_readText_38 : decode b_Mo_readText 38 = .ok (.aload_n 0, 1) := by decide +kernel
theorem d_Mo_readText_39 : decode b_Mo_readText 39 = .ok (.getfield 61, 3) := by decide +kernel
theorem d_Mo_readText_42 : decode b_Mo_readText 42 = .ok (.ireturn, 1) := by decide +kernel
theorem d_Mo_readText_43 : decode b_Mo_readText 43 = .ok (.aload_n 0, 1) := by decide +kernel
theorem d_Mo_readText_44 : decode b_Mo_readText 44 = .ok (.invokevirtual 74, 3) := by decide +kernel
theorem d_Mo_readText_47 : decode b_Mo_readText 47 = .ok (.goto (-24), 3) := by decide +kernel
theorem d_Mo_readText_50 : decode b_Mo_readText 50 = .ok (.aload_n 0, 1) := by decide +kernel
theorem d_Mo_readText_51 : decode b_Mo_readText 51 = .ok (.getfield 13, 3) := by decide +kernel
theorem d_Mo_readText_54 : decode b_Mo_readText 54 = .ok (.bipush 26, 2) := by decide +kernel
theorem d_Mo_readText_56 : decode b_Mo_readText 56 = .ok (.aload_n 0, 1) := by decide +kernel
theorem d_Mo_readText_57 : decode b_Mo_readText 57 = .ok (.getfield 13, 3) := by decide +kernel
theorem d_Mo_readText_60 : decode b_Mo_readText 60 = .ok (.bipush 14, 2) := by decide +kernel
theorem d_Mo_readText_62 : decode b_Mo_readText 62 = .ok (.iaload, 1) := by decide +kernel
theorem d_Mo_readText_63 : decode b_Mo_readText 63 = .ok (.iastore, 1) := by decide +kernel
theorem d_Mo_readText_64 : decode b_Mo_readText 64 = .ok (.bipush (-9), 2) := by decide +kernel
theorem d_Mo_readText_66 : decode b_Mo_readText 66 = .ok (.ireturn, 1) := by decide +kernel
theorem d_Mo_type_0 : decode b_Mo_type 0 = .ok (.iload_n 1, 1) := by decide +kernel
theorem d_Mo_type_1 : decode b_Mo_type 1 = .ok (.iconst 0, 1) := by decide +kernel
theorem d_Mo_type_2 : decode b_Mo_type 2 = .ok (.sipush 255, 3) := by decide +kernel
theorem d_Mo_type_5 : decode b_Mo_type 5 = .ok (.invokestatic 67, 3) := by decide +kernel
theorem d_Mo_type_8 : decode b_Mo_type 8 = .ok (.ifCond .ne 5, 3) := by decide +kernel
theorem d_Mo_type_11 : decode b_Mo_type 11 = .ok (.iconst (-1), 1) := by decide +kernel
theorem d_Mo_type_12 : decode b_Mo_type 12 = .ok (.ireturn, 1) := by decide +kernel
theorem d_Mo_type_13 : decode b_Mo_type 13 = .ok (.aload_n 0, 1) := by decide +kernel
theorem d_Mo_type_14 : decode b_Mo_type 14 = .ok (.getfield 58, 3) := by decide +kernel
theorem d_Mo_type_17 : decode b_Mo_type 17 = .ok (.bipush 120, 2) := by decide +kernel
theorem d_Mo_type_19 : decode b_Mo_type 19 = .ok (.if_icmp .ne 6, 3) := by decide +kernel
theorem d_Mo_type_22 : decode b_Mo_type 22 = .ok (.bipush (-3), 2) := by decide +kernel
theorem d_Mo_type_24 : decode b_Mo_type 24 = .ok (.ireturn, 1) := by decide +kernel
theorem d_Mo_type_25 : decode b_Mo_type 25 = .ok (.aload_n 0, 1) := by decide +kernel
theorem d_Mo_type_26 : decode b_Mo_type 26 = .ok (.getfield 32, 3) := by decide +kernel
theorem d_Mo_type_29 : decode b_Mo_type 29 = .ok (.aload_n 0, 1) := by decide +kernel
theorem d_Mo_type_30 : decode b_Mo_type 30 = .ok (.getfield 58, 3) := by decide +kernel
theorem d_Mo_type_33 : decode b_Mo_type 33 = .ok (.iload_n 1, 1) := by decide +kernel
theorem d_Mo_type_34 : decode b_Mo_type 34 = .ok (.iastore, 1) := by decide +kernel
theorem d_Mo_type_35 : decode b_Mo_type 35 = .ok (.aload_n 0, 1) := by decide +kernel
theorem d_Mo_type_36 : decode b_Mo_type 36 = .ok (.dup, 1) := by decide +kernel
theorem d_Mo_type_37 : decode b_Mo_type 37 = .ok (.getfield 58, 3) := by decide +kernel
theorem d_Mo_type_40 : decode b_Mo_type 40 = .ok (.iconst 1, 1) := by decide +kernel
theorem d_Mo_type_41 : decode b_Mo_type 41 = .ok (.iadd, 1) := by decide +kernel
theorem d_Mo_type_42 : decode b_Mo_type 42 = .ok (.putfield 58, 3) := by decide +kernel
theorem d_Mo_type_45 : decode b_Mo_type 45 = .ok (.aload_n 0, 1) := by decide +kernel
theorem d_Mo_type_46 : decode b_Mo_type 46 = .ok (.getfield 58, 3) := by decide +kernel
theorem d_Mo_type_49 : decode b_Mo_type 49 = .ok (.ireturn, 1) := by decide +kernel
theorem d_Mo_clear_0 : decode b_Mo_clear 0 = .ok (.aload_n 0, 1) := by decide +kernel
theorem d_Mo_clear_1 : decode b_Mo_clear 1 = .ok (.getfield 58, 3) := by decide +kernel
theorem d_Mo_clear_4 : decode b_Mo_clear 4 = .ok (.istore_n 1, 1) := by decide +kernel
theorem d_Mo_clear_5 : decode b_Mo_clear 5 = .ok (.aload_n 0, 1) := by decide +kernel
theorem d_Mo_clear_6 : decode b_Mo_clear 6 = .ok (.iconst 0, 1) := by decide +kernel
theorem d_Mo_clear_7 : decode b_Mo_clear 7 = .ok (.putfield 58, 3) := by decide +kernel
theorem d_Mo_clear_10 : decode b_Mo_clear 10 = .ok (.iload_n 1, 1) := by decide +kernel
theorem d_Mo_clear_11 : decode b_Mo_clear 11 = .ok (.ireturn, 1) := by decide +kernel
theorem d_Mo_tells_0 : decode b_Mo_tells 0 = .ok (.aload_n 0, 1) := by decide +kernel
theorem d_Mo_tells_1 : decode b_Mo_tells 1 = .ok (.invokevirtual 95, 3) := by decide +kernel
theorem d_Mo_tells_4 : decode b_Mo_tells 4 = .ok (.istore_n 1, 1) := by decide +kernel
theorem d_Mo_tells_5 : decode b_Mo_tells 5 = .ok (.iload_n 1, 1) := by decide +kernel
theorem d_Mo_tells_6 : decode b_Mo_tells 6 = .ok (.bipush (-9), 2) := by decide +kernel
theorem d_Mo_tells_8 : decode b_Mo_tells 8 = .ok (.if_icmp .eq 8, 3) := by decide +kernel
theorem d_Mo_tells_11 : decode b_Mo_tells 11 = .ok (.bipush (-10), 2) := by decide +kernel
theorem d_Mo_tells_13 : decode b_Mo_tells 13 = .ok (.iload_n 1, 1) := by decide +kernel
theorem d_Mo_tells_14 : decode b_Mo_tells 14 = .ok (.isub, 1) := by decide +kernel
theorem d_Mo_tells_15 : decode b_Mo_tells 15 = .ok (.ireturn, 1) := by decide +kernel
theorem d_Mo_tells_16 : decode b_Mo_tells 16 = .ok (.aload_n 0, 1) := by decide +kernel
theorem d_Mo_tells_17 : decode b_Mo_tells 17 = .ok (.invokevirtual 99, 3) := by decide +kernel
theorem d_Mo_tells_20 : decode b_Mo_tells 20 = .ok (.aload_n 0, 1) := by decide +kernel
theorem d_Mo_tells_21 : decode b_Mo_tells 21 = .ok (.getfield 13, 3) := by decide +kernel
theorem d_Mo_tells_24 : decode b_Mo_tells 24 = .ok (.iconst 0, 1) := by decide +kernel
theorem d_Mo_tells_25 : decode b_Mo_tells 25 = .ok (.aload_n 0, 1) := by decide +kernel
theorem d_Mo_tells_26 : decode b_Mo_tells 26 = .ok (.getfield 7, 3) := by decide +kernel
theorem d_Mo_tells_29 : decode b_Mo_tells 29 = .ok (.iconst 0, 1) := by decide +kernel
theorem d_Mo_tells_30 : decode b_Mo_tells 30 = .ok (.invokestatic 50, 3) := by decide +kernel
theorem d_Mo_tells_33 : decode b_Mo_tells 33 = .ok (.aload_n 0, 1) := by decide +kernel
theorem d_Mo_tells_34 : decode b_Mo_tells 34 = .ok (.iconst 0, 1) := by decide +kernel
theorem d_Mo_tells_35 : decode b_Mo_tells 35 = .ok (.putfield 58, 3) := by decide +kernel
theorem d_Mo_tells_38 : decode b_Mo_tells 38 = .ok (.aload_n 0, 1) := by decide +kernel
theorem d_Mo_tells_39 : decode b_Mo_tells 39 = .ok (.getfield 88, 3) := by decide +kernel
theorem d_Mo_tells_42 : decode b_Mo_tells 42 = .ok (.ireturn, 1) := by decide +kernel
theorem d_Mo_note_0 : decode b_Mo_note 0 = .ok (.aload_n 0, 1) := by decide +kernel
theorem d_Mo_note_1 : decode b_Mo_note 1 = .ok (.getfield 102, 3) := by decide +kernel
theorem d_Mo_note_4 : decode b_Mo_note 4 = .ok (.bipush 6, 2) := by decide +kernel
theorem d_Mo_note_6 : decode b_Mo_note 6 = .ok (.if_icmp .ne 43, 3) := by decide +kernel
theorem d_Mo_note_9 : decode b_Mo_note 9 = .ok (.iconst 0, 1) := by decide +kernel
theorem d_Mo_note_10 : decode b_Mo_note 10 = .ok (.istore_n 1, 1) := by decide +kernel
theorem d_Mo_note_11 : decode b_Mo_note 11 = .ok (.iload_n 1, 1) := by decide +kernel
theorem d_Mo_note_12 : decode b_Mo_note 12 = .ok (.sipush 150, 3) := by decide +kernel
theorem d_Mo_note_15 : decode b_Mo_note 15 = .ok (.if_icmp .ge 24, 3) := by decide +kernel
theorem d_Mo_note_18 : decode b_Mo_note 18 = .ok (.aload_n 0, 1) := by decide +kernel
theorem d_Mo_note_19 : decode b_Mo_note 19 = .ok (.getfield 16, 3) := by decide +kernel
theorem d_Mo_note_22 : decode b_Mo_note 22 = .ok (.iload_n 1, 1) := by decide +kernel
theorem d_Mo_note_23 : decode b_Mo_note 23 = .ok (.aload_n 0, 1) := by decide +kernel
theorem d_Mo_note_24 : decode b_Mo_note 24 = .ok (.getfield 16, 3) := by decide +kernel
theorem d_Mo_note_27 : decode b_Mo_note 27 = .ok (.iload_n 1, 1) := by decide +kernel
theorem d_Mo_note_28 : decode b_Mo_note 28 = .ok (.bipush 30, 2) := by decide +kernel
theorem d_Mo_note_30 : decode b_Mo_note 30 = .ok (.iadd, 1) := by decide +kernel
theorem d_Mo_note_31 : decode b_Mo_note 31 = .ok (.iaload, 1) := by decide +kernel
theorem d_Mo_note_32 : decode b_Mo_note 32 = .ok (.iastore, 1) := by decide +kernel
theorem d_Mo_note_33 : decode b_Mo_note 33 = .ok (.iinc 1 1, 3) := by decide +kernel
theorem d_Mo_note_36 : decode b_Mo_note 36 = .ok (.goto (-25), 3) := by decide +kernel
theorem d_Mo_note_39 : decode b_Mo_note 39 = .ok (.aload_n 0, 1) := by decide +kernel
theorem d_Mo_note_40 : decode b_Mo_note 40 = .ok (.dup, 1) := by decide +kernel
theorem d_Mo_note_41 : decode b_Mo_note 41 = .ok (.getfield 102, 3) := by decide +kernel
theorem d_Mo_note_44 : decode b_Mo_note 44 = .ok (.iconst 1, 1) := by decide +kernel
theorem d_Mo_note_45 : decode b_Mo_note 45 = .ok (.isub, 1) := by decide +kernel
theorem d_Mo_note_46 : decode b_Mo_note 46 = .ok (.putfield 102, 3) := by decide +kernel
theorem d_Mo_note_49 : decode b_Mo_note 49 = .ok (.aload_n 0, 1) := by decide +kernel
theorem d_Mo_note_50 : decode b_Mo_note 50 = .ok (.getfield 7, 3) := by decide +kernel
theorem d_Mo_note_53 : decode b_Mo_note 53 = .ok (.iconst 0, 1) := by decide +kernel
theorem d_Mo_note_54 : decode b_Mo_note 54 = .ok (.aload_n 0, 1) := by decide +kernel
theorem d_Mo_note_55 : decode b_Mo_note 55 = .ok (.getfield 16, 3) := by decide +kernel
theorem d_Mo_note_58 : decode b_Mo_note 58 = .ok (.bipush 30, 2) := by decide +kernel
theorem d_Mo_note_60 : decode b_Mo_note 60 = .ok (.aload_n 0, 1) := by decide +kernel
theorem d_Mo_note_61 : decode b_Mo_note 61 = .ok (.getfield 102, 3) := by decide +kernel
theorem d_Mo_note_64 : decode b_Mo_note 64 = .ok (.imul, 1) := by decide +kernel
theorem d_Mo_note_65 : decode b_Mo_note 65 = .ok (.invokestatic 50, 3) := by decide +kernel
theorem d_Mo_note_68 : decode b_Mo_note 68 = .ok (.aload_n 0, 1) := by decide +kernel
theorem d_Mo_note_69 : decode b_Mo_note 69 = .ok (.dup, 1) := by decide +kernel
theorem d_Mo_note_70 : decode b_Mo_note 70 = .ok (.getfield 102, 3) := by decide +kernel
theorem d_Mo_note_73 : decode b_Mo_note 73 = .ok (.iconst 1, 1) := by decide +kernel
theorem d_Mo_note_74 : decode b_Mo_note 74 = .ok (.iadd, 1) := by decide +kernel
theorem d_Mo_note_75 : decode b_Mo_note 75 = .ok (.putfield 102, 3) := by decide +kernel
theorem d_Mo_note_78 : decode b_Mo_note 78 = .ok (.return_, 1) := by decide +kernel
theorem d_Mo_undo_0 : decode b_Mo_undo 0 = .ok (.aload_n 0, 1) := by decide +kernel
theorem d_Mo_undo_1 : decode b_Mo_undo 1 = .ok (.getfield 102, 3) := by decide +kernel
theorem d_Mo_undo_4 : decode b_Mo_undo 4 = .ok (.ifCond .ne 6, 3) := by decide +kernel
theorem d_Mo_undo_7 : decode b_Mo_undo 7 = .ok (.bipush (-2), 2) := by decide +kernel
theorem d_Mo_undo_9 : decode b_Mo_undo 9 = .ok (.ireturn, 1) := by decide +kernel
theorem d_Mo_undo_10 : decode b_Mo_undo 10 = .ok (.aload_n 0, 1) := by decide +kernel
theorem d_Mo_undo_11 : decode b_Mo_undo 11 = .ok (.dup, 1) := by decide +kernel
theorem d_Mo_undo_12 : decode b_Mo_undo 12 = .ok (.getfield 102, 3) := by decide +kernel
theorem d_Mo_undo_15 : decode b_Mo_undo 15 = .ok (.iconst 1, 1) := by decide +kernel
theorem d_Mo_undo_16 : decode b_Mo_undo 16 = .ok (.isub, 1) := by decide +kernel
theorem d_Mo_undo_17 : decode b_Mo_undo 17 = .ok (.putfield 102, 3) := by decide +kernel
theorem d_Mo_undo_20 : decode b_Mo_undo 20 = .ok (.aload_n 0, 1) := by decide +kernel
theorem d_Mo_undo_21 : decode b_Mo_undo 21 = .ok (.getfield 16, 3) := by decide +kernel
theorem d_Mo_undo_24 : decode b_Mo_undo 24 = .ok (.bipush 30, 2) := by decide +kernel
theorem d_Mo_undo_26 : decode b_Mo_undo 26 = .ok (.aload_n 0, 1) := by decide +kernel
theorem d_Mo_undo_27 : decode b_Mo_undo 27 = .ok (.getfield 102, 3) := by decide +kernel
theorem d_Mo_undo_30 : decode b_Mo_undo 30 = .ok (.imul, 1) := by decide +kernel
theorem d_Mo_undo_31 : decode b_Mo_undo 31 = .ok (.aload_n 0, 1) := by decide +kernel
theorem d_Mo_undo_32 : decode b_Mo_undo 32 = .ok (.getfield 7, 3) := by decide +kernel
theorem d_Mo_undo_35 : decode b_Mo_undo 35 = .ok (.iconst 0, 1) := by decide +kernel
theorem d_Mo_undo_36 : decode b_Mo_undo 36 = .ok (.invokestatic 50, 3) := by decide +kernel
theorem d_Mo_undo_39 : decode b_Mo_undo 39 = .ok (.aload_n 0, 1) := by decide +kernel
theorem d_Mo_undo_40 : decode b_Mo_undo 40 = .ok (.getfield 102, 3) := by decide +kernel
theorem d_Mo_undo_43 : decode b_Mo_undo 43 = .ok (.ireturn, 1) := by decide +kernel
theorem d_Mo_lossOf_0 : decode b_Mo_lossOf 0 = .ok (.aload_n 0, 1) := by decide +kernel
theorem d_Mo_lossOf_1 : decode b_Mo_lossOf 1 = .ok (.getfield 7, 3) := by decide +kernel
theorem d_Mo_lossOf_4 : decode b_Mo_lossOf 4 = .ok (.bipush 15, 2) := by decide +kernel
theorem d_Mo_lossOf_6 : decode b_Mo_lossOf 6 = .ok (.iload_n 1, 1) := by decide +kernel
theorem d_Mo_lossOf_7 : decode b_Mo_lossOf 7 = .ok (.bipush 100, 2) := by decide +kernel
theorem d_Mo_lossOf_9 : decode b_Mo_lossOf 9 = .ok (.idiv, 1) := by decide +kernel
theorem d_Mo_lossOf_10 : decode b_Mo_lossOf 10 = .ok (.iadd, 1) := by decide +kernel
theorem d_Mo_lossOf_11 : decode b_Mo_lossOf 11 = .ok (.iaload, 1) := by decide +kernel
theorem d_Mo_lossOf_12 : decode b_Mo_lossOf 12 = .ok (.ireturn, 1) := by decide +kernel
theorem d_Mo_flowAt_0 : decode b_Mo_flowAt 0 = .ok (.aload_n 0, 1) := by decide +kernel
theorem d_Mo_flowAt_1 : decode b_Mo_flowAt 1 = .ok (.getfield 7, 3) := by decide +kernel
theorem d_Mo_flowAt_4 : decode b_Mo_flowAt 4 = .ok (.iconst 1, 1) := by decide +kernel
theorem d_Mo_flowAt_5 : decode b_Mo_flowAt 5 = .ok (.iload_n 1, 1) := by decide +kernel
theorem d_Mo_flowAt_6 : decode b_Mo_flowAt 6 = .ok (.aload_n 0, 1) := by decide +kernel
theorem d_Mo_flowAt_7 : decode b_Mo_flowAt 7 = .ok (.getfield 7, 3) := by decide +kernel
theorem d_Mo_flowAt_10 : decode b_Mo_flowAt 10 = .ok (.iconst 0, 1) := by decide +kernel
theorem d_Mo_flowAt_11 : decode b_Mo_flowAt 11 = .ok (.iaload, 1) := by decide +kernel
theorem d_Mo_flowAt_12 : decode b_Mo_flowAt 12 = .ok (.irem, 1) := by decide +kernel
theorem d_Mo_flowAt_13 : decode b_Mo_flowAt 13 = .ok (.iadd, 1) := by decide +kernel
theorem d_Mo_flowAt_14 : decode b_Mo_flowAt 14 = .ok (.iaload, 1) := by decide +kernel
theorem d_Mo_flowAt_15 : decode b_Mo_flowAt 15 = .ok (.ireturn, 1) := by decide +kernel
theorem d_Mo_rawBehind_0 : decode b_Mo_rawBehind 0 = .ok (.iload_n 1, 1) := by decide +kernel
theorem d_Mo_rawBehind_1 : decode b_Mo_rawBehind 1 = .ok (.iload_n 2, 1) := by decide +kernel
theorem d_Mo_rawBehind_2 : decode b_Mo_rawBehind 2 = .ok (.iadd, 1) := by decide +kernel
theorem d_Mo_rawBehind_3 : decode b_Mo_rawBehind 3 = .ok (.aload_n 0, 1) := by decide +kernel
theorem d_Mo_rawBehind_4 : decode b_Mo_rawBehind 4 = .ok (.iload_n 1, 1) := by decide +kernel
theorem d_Mo_rawBehind_5 : decode b_Mo_rawBehind 5 = .ok (.invokevirtual 105, 3) := by decide +kernel
theorem d_Mo_rawBehind_8 : decode b_Mo_rawBehind 8 = .ok (.isub, 1) := by decide +kernel
theorem d_Mo_rawBehind_9 : decode b_Mo_rawBehind 9 = .ok (.iload_n 3, 1) := by decide +kernel
theorem d_Mo_rawBehind_10 : decode b_Mo_rawBehind 10 = .ok (.isub, 1) := by decide +kernel
theorem d_Mo_rawBehind_11 : decode b_Mo_rawBehind 11 = .ok (.ireturn, 1) := by decide +kernel
theorem d_Mo_kept_0 : decode b_Mo_kept 0 = .ok (.iload_n 0, 1) := by decide +kernel
theorem d_Mo_kept_1 : decode b_Mo_kept 1 = .ok (.ifCond .ge 7, 3) := by decide +kernel
theorem d_Mo_kept_4 : decode b_Mo_kept 4 = .ok (.iconst 0, 1) := by decide +kernel
theorem d_Mo_kept_5 : decode b_Mo_kept 5 = .ok (.goto 13, 3) := by decide +kernel
theorem d_Mo_kept_8 : decode b_Mo_kept 8 = .ok (.iload_n 0, 1) := by decide +kernel
theorem d_Mo_kept_9 : decode b_Mo_kept 9 = .ok (.iload_n 1, 1) := by decide +kernel
theorem d_Mo_kept_10 : decode b_Mo_kept 10 = .ok (.if_icmp .le 7, 3) := by decide +kernel
theorem d_Mo_kept_13 : decode b_Mo_kept 13 = .ok (.iload_n 1, 1) := by decide +kernel
theorem d_Mo_kept_14 : decode b_Mo_kept 14 = .ok (.goto 4, 3) := by decide +kernel
theorem d_Mo_kept_17 : decode b_Mo_kept 17 = .ok (.iload_n 0, 1) := by decide +kernel
theorem d_Mo_kept_18 : decode b_Mo_kept 18 = .ok (.ireturn, 1) := by decide +kernel
theorem d_Mo_passOne_0 : decode b_Mo_passOne 0 = .ok (.aload_n 0, 1) := by decide +kernel
theorem d_Mo_passOne_1 : decode b_Mo_passOne 1 = .ok (.aload_n 0, 1) := by decide +kernel
theorem d_Mo_passOne_2 : decode b_Mo_passOne 2 = .ok (.getfield 7, 3) := by decide +kernel
theorem d_Mo_passOne_5 : decode b_Mo_passOne 5 = .ok (.bipush 26, 2) := by decide +kernel
theorem d_Mo_passOne_7 : decode b_Mo_passOne 7 = .ok (.iaload, 1) := by decide +kernel
theorem d_Mo_passOne_8 : decode b_Mo_passOne 8 = .ok (.aload_n 0, 1) := by decide +kernel
theorem d_Mo_passOne_9 : decode b_Mo_passOne 9 = .ok (.aload_n 0, 1) := by decide +kernel
theorem d_Mo_passOne_10 : decode b_Mo_passOne 10 = .ok (.getfield 7, 3) := by decide +kernel
theorem d_Mo_passOne_13 : decode b_Mo_passOne 13 = .ok (.bipush 25, 2) := by decide +kernel
theorem d_Mo_passOne_15 : decode b_Mo_passOne 15 = .ok (.iaload, 1) := by decide +kernel
theorem d_Mo_passOne_16 : decode b_Mo_passOne 16 = .ok (.invokevirtual 109, 3) := by decide +kernel
theorem d_Mo_passOne_19 : decode b_Mo_passOne 19 = .ok (.aload_n 0, 1) := by decide +kernel
theorem d_Mo_passOne_20 : decode b_Mo_passOne 20 = .ok (.getfield 7, 3) := by decide +kernel
theorem d_Mo_passOne_23 : decode b_Mo_passOne 23 = .ok (.bipush 13, 2) := by decide +kernel
theorem d_Mo_passOne_25 : decode b_Mo_passOne 25 = .ok (.iaload, 1) := by decide +kernel
theorem d_Mo_passOne_26 : decode b_Mo_passOne 26 = .ok (.invokevirtual 112, 3) := by decide +kernel
theorem d_Mo_passOne_29 : decode b_Mo_passOne 29 = .ok (.istore_n 1, 1) := by decide +kernel
theorem d_Mo_passOne_30 : decode b_Mo_passOne 30 = .ok (.aload_n 0, 1) := by decide +kernel
theorem d_Mo_passOne_31 : decode b_Mo_passOne 31 = .ok (.getfield 7, 3) := by decide +kernel
theorem d_Mo_passOne_34 : decode b_Mo_passOne 34 = .ok (.bipush 27, 2) := by decide +kernel
theorem d_Mo_passOne_36 : decode b_Mo_passOne 36 = .ok (.dup2, 1) := by decide +kernel
theorem d_Mo_passOne_37 : decode b_Mo_passOne 37 = .ok (.iaload, 1) := by decide +kernel
theorem d_Mo_passOne_38 : decode b_Mo_passOne 38 = .ok (.iload_n 1, 1) := by decide +kernel
theorem d_Mo_passOne_39 : decode b_Mo_passOne 39 = .ok (.ifCond .ge 7, 3) := by decide +kernel
theorem d_Mo_passOne_42 : decode b_Mo_passOne 42 = .ok (.iconst 1, 1) := by decide +kernel
theorem d_Mo_passOne_43 : decode b_Mo_passOne 43 = .ok (.goto 4, 3) := by decide +kernel
theorem d_Mo_passOne_46 : decode b_Mo_passOne 46 = .ok (.iconst 0, 1) := by decide +kernel
theorem d_Mo_passOne_47 : decode b_Mo_passOne 47 = .ok (.iadd, 1) := by decide +kernel
theorem d_Mo_passOne_48 : decode b_Mo_passOne 48 = .ok (.iastore, 1) := by decide +kernel
theorem d_Mo_passOne_49 : decode b_Mo_passOne 49 = .ok (.aload_n 0, 1) := by decide +kernel
theorem d_Mo_passOne_50 : decode b_Mo_passOne 50 = .ok (.getfield 7, 3) := by decide +kernel
theorem d_Mo_passOne_53 : decode b_Mo_passOne 53 = .ok (.bipush 28, 2) := by decide +kernel
theorem d_Mo_passOne_55 : decode b_Mo_passOne 55 = .ok (.dup2, 1) := by decide +kernel
theorem d_Mo_passOne_56 : decode b_Mo_passOne 56 = .ok (.iaload, 1) := by decide +kernel
theorem d_Mo_passOne_57 : decode b_Mo_passOne 57 = .ok (.iload_n 1, 1) := by decide +kernel
theorem d_Mo_passOne_58 : decode b_Mo_passOne 58 = .ok (.ifCond .ge 8, 3) := by decide +kernel
theorem d_Mo_passOne_61 : decode b_Mo_passOne 61 = .ok (.iload_n 1, 1) := by decide +kernel
theorem d_Mo_passOne_62 : decode b_Mo_passOne 62 = .ok (.ineg, 1) := by decide +kernel
theorem d_Mo_passOne_63 : decode b_Mo_passOne 63 = .ok (.goto 4, 3) := by decide +kernel
theorem d_Mo_passOne_66 : decode b_Mo_passOne 66 = .ok (.iconst 0, 1) := by decide +kernel
theorem d_Mo_passOne_67 : decode b_Mo_passOne 67 = .ok (.iadd, 1) := by decide +kernel
theorem d_Mo_passOne_68 : decode b_Mo_passOne 68 = .ok (.iastore, 1) := by decide +kernel
theorem d_Mo_passOne_69 : decode b_Mo_passOne 69 = .ok (.aload_n 0, 1) := by decide +kernel
theorem d_Mo_passOne_70 : decode b_Mo_passOne 70 = .ok (.getfield 7, 3) := by decide +kernel
theorem d_Mo_passOne_73 : decode b_Mo_passOne 73 = .ok (.bipush 29, 2) := by decide +kernel
theorem d_Mo_passOne_75 : decode b_Mo_passOne 75 = .ok (.dup2, 1) := by decide +kernel
theorem d_Mo_passOne_76 : decode b_Mo_passOne 76 = .ok (.iaload, 1) := by decide +kernel
theorem d_Mo_passOne_77 : decode b_Mo_passOne 77 = .ok (.iload_n 1, 1) := by decide +kernel
theorem d_Mo_passOne_78 : decode b_Mo_passOne 78 = .ok (.aload_n 0, 1) := by decide +kernel
theorem d_Mo_passOne_79 : decode b_Mo_passOne 79 = .ok (.getfield 7, 3) := by decide +kernel
theorem d_Mo_passOne_82 : decode b_Mo_passOne 82 = .ok (.bipush 14, 2) := by decide +kernel
theorem d_Mo_passOne_84 : decode b_Mo_passOne 84 = .ok (.iaload, 1) := by decide +kernel
theorem d_Mo_passOne_85 : decode b_Mo_passOne 85 = .ok (.if_icmp .le 15, 3) := by decide +kernel
theorem d_Mo_passOne_88 : decode b_Mo_passOne 88 = .ok (.iload_n 1, 1) := by decide +kernel
theorem d_Mo_passOne_89 : decode b_Mo_passOne 89 = .ok (.aload_n 0, 1) := by decide +kernel
theorem d_Mo_passOne_90 : decode b_Mo_passOne 90 = .ok (.getfield 7, 3) := by decide +kernel
theorem d_Mo_passOne_93 : decode b_Mo_passOne 93 = .ok (.bipush 14, 2) := by decide +kernel
theorem d_Mo_passOne_95 : decode b_Mo_passOne 95 = .ok (.iaload, 1) := by decide +kernel
theorem d_Mo_passOne_96 : decode b_Mo_passOne 96 = .ok (.isub, 1) := by decide +kernel
theorem d_Mo_passOne_97 : decode b_Mo_passOne 97 = .ok (.goto 4, 3) := by decide +kernel
theorem d_Mo_passOne_100 : decode b_Mo_passOne 100 = .ok (.iconst 0, 1) := by decide +kernel
theorem d_Mo_passOne_101 : decode b_Mo_passOne 101 = .ok (.iadd, 1) := by decide +kernel
theorem d_Mo_passOne_102 : decode b_Mo_passOne 102 = .ok (.iastore, 1) := by decide +kernel
theorem d_Mo_passOne_103 : decode b_Mo_passOne 103 = .ok (.aload_n 0, 1) := by decide +kernel
theorem d_Mo_passOne_104 : decode b_Mo_passOne 104 = .ok (.getfield 7, 3) := by decide +kernel
theorem d_Mo_passOne_107 : decode b_Mo_passOne 107 = .ok (.bipush 26, 2) := by decide +kernel
theorem d_Mo_passOne_109 : decode b_Mo_passOne 109 = .ok (.iload_n 1, 1) := by decide +kernel
theorem d_Mo_passOne_110 : decode b_Mo_passOne 110 = .ok (.aload_n 0, 1) := by decide +kernel
theorem d_Mo_passOne_111 : decode b_Mo_passOne 111 = .ok (.getfield 7, 3) := by decide +kernel
theorem d_Mo_passOne_114 : decode b_Mo_passOne 114 = .ok (.bipush 14, 2) := by decide +kernel
theorem d_Mo_passOne_116 : decode b_Mo_passOne 116 = .ok (.iaload, 1) := by decide +kernel
theorem d_Mo_passOne_117 : decode b_Mo_passOne 117 = .ok (.invokestatic 116, 3) := by decide +kernel
theorem d_Mo_passOne_120 : decode b_Mo_passOne 120 = .ok (.iastore, 1) := by decide +kernel
theorem d_Mo_passOne_121 : decode b_Mo_passOne 121 = .ok (.aload_n 0, 1) := by decide +kernel
theorem d_Mo_passOne_122 : decode b_Mo_passOne 122 = .ok (.getfield 7, 3) := by decide +kernel
theorem d_Mo_passOne_125 : decode b_Mo_passOne 125 = .ok (.bipush 25, 2) := by decide +kernel
theorem d_Mo_passOne_127 : decode b_Mo_passOne 127 = .ok (.dup2, 1) := by decide +kernel
theorem d_Mo_passOne_128 : decode b_Mo_passOne 128 = .ok (.iaload, 1) := by decide +kernel
theorem d_Mo_passOne_129 : decode b_Mo_passOne 129 = .ok (.iconst 1, 1) := by decide +kernel
theorem d_Mo_passOne_130 : decode b_Mo_passOne 130 = .ok (.iadd, 1) := by decide +kernel
theorem d_Mo_passOne_131 : decode b_Mo_passOne 131 = .ok (.iastore, 1) := by decide +kernel
theorem d_Mo_passOne_132 : decode b_Mo_passOne 132 = .ok (.iload_n 1, 1) := by decide +kernel
theorem d_Mo_passOne_133 : decode b_Mo_passOne 133 = .ok (.ifCond .ge 7, 3) := by decide +kernel
theorem d_Mo_passOne_136 : decode b_Mo_passOne 136 = .ok (.iconst 1, 1) := by decide +kernel
theorem d_Mo_passOne_137 : decode b_Mo_passOne 137 = .ok (.goto 4, 3) := by decide +kernel
theorem d_Mo_passOne_140 : decode b_Mo_passOne 140 = .ok (.iconst 0, 1) := by decide +kernel
theorem d_Mo_passOne_141 : decode b_Mo_passOne 141 = .ok (.ireturn, 1) := by decide +kernel
theorem d_Mo_passes_0 : decode b_Mo_passes 0 = .ok (.iload_n 1, 1) := by decide +kernel
theorem d_Mo_passes_1 : decode b_Mo_passes 1 = .ok (.iconst 1, 1) := by decide +kernel
theorem d_Mo_passes_2 : decode b_Mo_passes 2 = .ok (.bipush 99, 2) := by decide +kernel
theorem d_Mo_passes_4 : decode b_Mo_passes 4 = .ok (.invokestatic 67, 3) := by decide +kernel
theorem d_Mo_passes_7 : decode b_Mo_passes 7 = .ok (.ifCond .ne 5, 3) := by decide +kernel
theorem d_Mo_passes_10 : decode b_Mo_passes 10 = .ok (.iconst (-1), 1) := by decide +kernel
theorem d_Mo_passes_11 : decode b_Mo_passes 11 = .ok (.ireturn, 1) := by decide +kernel
theorem d_Mo_passes_12 : decode b_Mo_passes 12 = .ok (.aload_n 0, 1) := by decide +kernel
theorem d_Mo_passes_13 : decode b_Mo_passes 13 = .ok (.getfield 7, 3) := by decide +kernel
theorem d_Mo_passes_16 : decode b_Mo_passes 16 = .ok (.bipush 25, 2) := by decide +kernel
theorem d_Mo_passes_18 : decode b_Mo_passes 18 = .ok (.iaload, 1) := by decide +kernel
theorem d_Mo_passes_19 : decode b_Mo_passes 19 = .ok (.iload_n 1, 1) := by decide +kernel
theorem d_Mo_passes_20 : decode b_Mo_passes 20 = .ok (.iadd, 1) := by decide +kernel
theorem d_Mo_passes_21 : decode b_Mo_passes 21 = .ok (.sipush 999, 3) := by decide +kernel
theorem d_Mo_passes_24 : decode b_Mo_passes 24 = .ok (.if_icmp .le 6, 3) := by decide +kernel
theorem d_Mo_passes_27 : decode b_Mo_passes 27 = .ok (.bipush (-2), 2) := by decide +kernel
theorem d_Mo_passes_29 : decode b_Mo_passes 29 = .ok (.ireturn, 1) := by decide +kernel
theorem d_Mo_passes_30 : decode b_Mo_passes 30 = .ok (.aload_n 0, 1) := by decide +kernel
theorem d_Mo_passes_31 : decode b_Mo_passes 31 = .ok (.invokevirtual 99, 3) := by decide +kernel
theorem d_Mo_passes_34 : decode b_Mo_passes 34 = .ok (.iconst 0, 1) := by decide +kernel
theorem d_Mo_passes_35 : decode b_Mo_passes 35 = .ok (.istore_n 2, 1) := by decide +kernel
theorem d_Mo_passes_36 : decode b_Mo_passes 36 = .ok (.iconst 0, 1) := by decide +kernel
theorem d_Mo_passes_37 : decode b_Mo_passes 37 = .ok (.istore_n 3, 1) := by decide +kernel
theorem d_Mo_passes_38 : decode b_Mo_passes 38 = .ok (.iload_n 3, 1) := by decide +kernel
theorem d_Mo_passes_39 : decode b_Mo_passes 39 = .ok (.iload_n 1, 1) := by decide +kernel
theorem d_Mo_passes_40 : decode b_Mo_passes 40 = .ok (.if_icmp .ge 16, 3) := by decide +kernel
theorem d_Mo_passes_43 : decode b_Mo_passes 43 = .ok (.iload_n 2, 1) := by decide +kernel
theorem d_Mo_passes_44 : decode b_Mo_passes 44 = .ok (.aload_n 0, 1) := by decide +kernel
theorem d_Mo_passes_45 : decode b_Mo_passes 45 = .ok (.invokevirtual 120, 3) := by decide +kernel
theorem d_Mo_passes_48 : decode b_Mo_passes 48 = .ok (.iadd, 1) := by decide +kernel
theorem d_Mo_passes_49 : decode b_Mo_passes 49 = .ok (.istore_n 2, 1) := by decide +kernel
theorem d_Mo_passes_50 : decode b_Mo_passes 50 = .ok (.iinc 3 1, 3) := by decide +kernel
theorem d_Mo_passes_53 : decode b_Mo_passes 53 = .ok (.goto (-15), 3) := by decide +kernel
theorem d_Mo_passes_56 : decode b_Mo_passes 56 = .ok (.iload_n 2, 1) := by decide +kernel
theorem d_Mo_passes_57 : decode b_Mo_passes 57 = .ok (.ireturn, 1) := by decide +kernel
theorem d_Mo_drafts_0 : decode b_Mo_drafts 0 = .ok (.iload_n 1, 1) := by decide +kernel
theorem d_Mo_drafts_1 : decode b_Mo_drafts 1 = .ok (.iconst 0, 1) := by decide +kernel
theorem d_Mo_drafts_2 : decode b_Mo_drafts 2 = .ok (.bipush 99, 2) := by decide +kernel
theorem d_Mo_drafts_4 : decode b_Mo_drafts 4 = .ok (.invokestatic 67, 3) := by decide +kernel
theorem d_Mo_drafts_7 : decode b_Mo_drafts 7 = .ok (.ifCond .ne 5, 3) := by decide +kernel
theorem d_Mo_drafts_10 : decode b_Mo_drafts 10 = .ok (.iconst (-1), 1) := by decide +kernel
theorem d_Mo_drafts_11 : decode b_Mo_drafts 11 = .ok (.ireturn, 1) := by decide +kernel
theorem d_Mo_drafts_12 : decode b_Mo_drafts 12 = .ok (.aload_n 0, 1) := by decide +kernel
theorem d_Mo_drafts_13 : decode b_Mo_drafts 13 = .ok (.getfield 7, 3) := by decide +kernel
theorem d_Mo_drafts_16 : decode b_Mo_drafts 16 = .ok (.bipush 13, 2) := by decide +kernel
theorem d_Mo_drafts_18 : decode b_Mo_drafts 18 = .ok (.iaload, 1) := by decide +kernel
theorem d_Mo_drafts_19 : decode b_Mo_drafts 19 = .ok (.istore_n 2, 1) := by decide +kernel
theorem d_Mo_drafts_20 : decode b_Mo_drafts 20 = .ok (.iload_n 2, 1) := by decide +kernel
theorem d_Mo_drafts_21 : decode b_Mo_drafts 21 = .ok (.iload_n 1, 1) := by decide +kernel
theorem d_Mo_drafts_22 : decode b_Mo_drafts 22 = .ok (.if_icmp .ne 6, 3) := by decide +kernel
theorem d_Mo_drafts_25 : decode b_Mo_drafts 25 = .ok (.bipush (-2), 2) := by decide +kernel
theorem d_Mo_drafts_27 : decode b_Mo_drafts 27 = .ok (.ireturn, 1) := by decide +kernel
theorem d_Mo_drafts_28 : decode b_Mo_drafts 28 = .ok (.aload_n 0, 1) := by decide +kernel
theorem d_Mo_drafts_29 : decode b_Mo_drafts 29 = .ok (.invokevirtual 99, 3) := by decide +kernel
theorem d_Mo_drafts_32 : decode b_Mo_drafts 32 = .ok (.aload_n 0, 1) := by decide +kernel
theorem d_Mo_drafts_33 : decode b_Mo_drafts 33 = .ok (.getfield 7, 3) := by decide +kernel
theorem d_Mo_drafts_36 : decode b_Mo_drafts 36 = .ok (.bipush 13, 2) := by decide +kernel
theorem d_Mo_drafts_38 : decode b_Mo_drafts 38 = .ok (.iload_n 1, 1) := by decide +kernel
theorem d_Mo_drafts_39 : decode b_Mo_drafts 39 = .ok (.iastore, 1) := by decide +kernel
theorem d_Mo_drafts_40 : decode b_Mo_drafts 40 = .ok (.iload_n 2, 1) := by decide +kernel
theorem d_Mo_drafts_41 : decode b_Mo_drafts 41 = .ok (.ireturn, 1) := by decide +kernel
