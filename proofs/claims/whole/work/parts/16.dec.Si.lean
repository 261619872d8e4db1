theorem d_Si_init_0 : decode b_Si_init 0 = .ok (.aload_n 0, 1) := by decide +kernel
theorem d_Si_init_1 : decode b_Si_init 1 = .ok (.invokespecial 3, 3) := by decide +kernel
theorem d_Si_init_4 : decode b_Si_init 4 = .ok (.aload_n 0, 1) := by decide +kernel
theorem d_Si_init_5 : decode b_Si_init 5 = .ok (.bipush 6, 2) := by decide +kernel
theorem d_Si_init_7 : decode b_Si_init 7 = .ok (.newarray .int, 2) := by decide +kernel
theorem d_Si_init_9 : decode b_Si_init 9 = .ok (.putfield 9, 3) := by decide +kernel
theorem d_Si_init_12 : decode b_Si_init 12 = .ok (.aload_n 0, 1) := by decide +kernel
theorem d_Si_init_13 : decode b_Si_init 13 = .ok (.bipush 6, 2) := by decide +kernel
theorem d_Si_init_15 : decode b_Si_init 15 = .ok (.newarray .int, 2) := by decide +kernel
theorem d_Si_init_17 : decode b_Si_init 17 = .ok (.putfield 15, 3) := by decide +kernel
theorem d_Si_init_20 : decode b_Si_init 20 = .ok (.aload_n 0, 1) := by decide +kernel
theorem d_Si_init_21 : decode b_Si_init 21 = .ok (.bipush 100, 2) := by decide +kernel
theorem d_Si_init_23 : decode b_Si_init 23 = .ok (.newarray .int, 2) := by decide +kernel
theorem d_Si_init_25 : decode b_Si_init 25 = .ok (.putfield 18, 3) := by decide +kernel
theorem d_Si_init_28 : decode b_Si_init 28 = .ok (.aload_n 0, 1) := by decide +kernel
theorem d_Si_init_29 : decode b_Si_init 29 = .ok (.bipush 100, 2) := by decide +kernel
theorem d_Si_init_31 : decode b_Si_init 31 = .ok (.newarray .int, 2) := by decide +kernel
theorem d_Si_init_33 : decode b_Si_init 33 = .ok (.putfield 21, 3) := by decide +kernel
theorem d_Si_init_36 : decode b_Si_init 36 = .ok (.aload_n 0, 1) := by decide +kernel
theorem d_Si_init_37 : decode b_Si_init 37 = .ok (.sipush 1000, 3) := by decide +kernel
theorem d_Si_init_40 : decode b_Si_init 40 = .ok (.newarray .int, 2) := by decide +kernel
theorem d_Si_init_42 : decode b_Si_init 42 = .ok (.putfield 24, 3) := by decide +kernel
theorem d_Si_init_45 : decode b_Si_init 45 = .ok (.return_, 1) := by decide +kernel
theorem d_Si_append_0 : decode b_Si_append 0 = .ok (.aload_n 0, 1) := by decide +kernel
theorem d_Si_append_1 : decode b_Si_append 1 = .ok (.getfield 27, 3) := by decide +kernel
theorem d_Si_append_4 : decode b_Si_append 4 = .ok (.bipush 6, 2) := by decide +kernel
theorem d_Si_append_6 : decode b_Si_append 6 = .ok (.if_icmp .lt 5, 3) := by decide +kernel
theorem d_Si_append_9 : decode b_Si_append 9 = .ok (.iconst 0, 1) := by decide +kernel
theorem d_Si_append_10 : decode b_Si_append 10 = .ok (.ireturn, 1) := by decide +kernel
theorem d_Si_append_11 : decode b_Si_append 11 = .ok (.aload_n 0, 1) := by decide +kernel
theorem d_Si_append_12 : decode b_Si_append 12 = .ok (.getfield 9, 3) := by decide +kernel
theorem d_Si_append_15 : decode b_Si_append 15 = .ok (.aload_n 0, 1) := by decide +kernel
theorem d_Si_append_16 : decode b_Si_append 16 = .ok (.getfield 27, 3) := by decide +kernel
theorem d_Si_append_19 : decode b_Si_append 19 = .ok (.iload_n 1, 1) := by decide +kernel
theorem d_Si_append_20 : decode b_Si_append 20 = .ok (.iastore, 1) := by decide +kernel
theorem d_Si_append_21 : decode b_Si_append 21 = .ok (.aload_n 0, 1) := by decide +kernel
theorem d_Si_append_22 : decode b_Si_append 22 = .ok (.getfield 15, 3) := by decide +kernel
theorem d_Si_append_25 : decode b_Si_append 25 = .ok (.aload_n 0, 1) := by decide +kernel
theorem d_Si_append_26 : decode b_Si_append 26 = .ok (.getfield 27, 3) := by decide +kernel
theorem d_Si_append_29 : decode b_Si_append 29 = .ok (.iload_n 2, 1) := by decide +kernel
theorem d_Si_append_30 : decode b_Si_append 30 = .ok (.iastore, 1) := by decide +kernel
theorem d_Si_append_31 : decode b_Si_append 31 = .ok (.aload_n 0, 1) := by decide +kernel
theorem d_Si_append_32 : decode b_Si_append 32 = .ok (.dup, 1) := by decide +kernel
theorem d_Si_append_33 : decode b_Si_append 33 = .ok (.getfield 27, 3) := by decide +kernel
theorem d_Si_append_36 : decode b_Si_append 36 = .ok (.iconst 1, 1) := by decide +kernel
theorem d_Si_append_37 : decode b_Si_append 37 = .ok (.iadd, 1) := by decide +kernel
theorem d_Si_append_38 : decode b_Si_append 38 = .ok (.putfield 27, 3) := by decide +kernel
theorem d_Si_append_41 : decode b_Si_append 41 = .ok (.iconst 1, 1) := by decide +kernel
theorem d_Si_append_42 : decode b_Si_append 42 = .ok (.ireturn, 1) := by decide +kernel
theorem d_Si_empty_0 : decode b_Si_empty 0 = .ok (.aload_n 0, 1) := by decide +kernel
theorem d_Si_empty_1 : decode b_Si_empty 1 = .ok (.getfield 27, 3) := by decide +kernel
theorem d_Si_empty_4 : decode b_Si_empty 4 = .ok (.istore_n 1, 1) := by decide +kernel
theorem d_Si_empty_5 : decode b_Si_empty 5 = .ok (.aload_n 0, 1) := by decide +kernel
theorem d_Si_empty_6 : decode b_Si_empty 6 = .ok (.iconst 0, 1) := by decide +kernel
theorem d_Si_empty_7 : decode b_Si_empty 7 = .ok (.putfield 27, 3) := by decide +kernel
theorem d_Si_empty_10 : decode b_Si_empty 10 = .ok (.iload_n 1, 1) := by decide +kernel
theorem d_Si_empty_11 : decode b_Si_empty 11 = .ok (.ireturn, 1) := by decide +kernel
theorem d_Si_findDrafts_0 : decode b_Si_findDrafts 0 = .ok (.aload_n 0, 1) := by decide +kernel
theorem d_Si_findDrafts_1 : decode b_Si_findDrafts 1 = .ok (.iconst 0, 1) := by decide +kernel
theorem d_Si_findDrafts_2 : decode b_Si_findDrafts 2 = .ok (.putfield 31, 3) := by decide +kernel
theorem d_Si_findDrafts_5 : decode b_Si_findDrafts 5 = .ok (.aload_n 0, 1) := by decide +kernel
theorem d_Si_findDrafts_6 : decode b_Si_findDrafts 6 = .ok (.invokevirtual 34, 3) := by decide +kernel
theorem d_Si_findDrafts_9 : decode b_Si_findDrafts 9 = .ok (.istore_n 2, 1) := by decide +kernel
theorem d_Si_findDrafts_10 : decode b_Si_findDrafts 10 = .ok (.iconst 0, 1) := by decide +kernel
theorem d_Si_findDrafts_11 : decode b_Si_findDrafts 11 = .ok (.istore_n 3, 1) := by decide +kernel
theorem d_Si_findDrafts_12 : decode b_Si_findDrafts 12 = .ok (.iload_n 3, 1) := by decide +kernel
theorem d_Si_findDrafts_13 : decode b_Si_findDrafts 13 = .ok (.bipush 99, 2) := by decide +kernel
theorem d_Si_findDrafts_15 : decode b_Si_findDrafts 15 = .ok (.if_icmp .gt 39, 3) := by decide +kernel
theorem d_Si_findDrafts_18 : decode b_Si_findDrafts 18 = .ok (.aload_n 0, 1) := by decide +kernel
theorem d_Si_findDrafts_19 : decode b_Si_findDrafts 19 = .ok (.aload_n 1, 1) := by decide +kernel
theorem d_Si_findDrafts_20 : decode b_Si_findDrafts 20 = .ok (.iload_n 3, 1) := by decide +kernel
theorem d_Si_findDrafts_21 : decode b_Si_findDrafts 21 = .ok (.iload_n 2, 1) := by decide +kernel
theorem d_Si_findDrafts_22 : decode b_Si_findDrafts 22 = .ok (.invokevirtual 38, 3) := by decide +kernel
theorem d_Si_findDrafts_25 : decode b_Si_findDrafts 25 = .ok (.ifCond .eq 23, 3) := by decide +kernel
theorem d_Si_findDrafts_28 : decode b_Si_findDrafts 28 = .ok (.aload_n 0, 1) := by decide +kernel
theorem d_Si_findDrafts_29 : decode b_Si_findDrafts 29 = .ok (.getfield 18, 3) := by decide +kernel
theorem d_Si_findDrafts_32 : decode b_Si_findDrafts 32 = .ok (.aload_n 0, 1) := by decide +kernel
theorem d_Si_findDrafts_33 : decode b_Si_findDrafts 33 = .ok (.getfield 31, 3) := by decide +kernel
theorem d_Si_findDrafts_36 : decode b_Si_findDrafts 36 = .ok (.iload_n 3, 1) := by decide +kernel
theorem d_Si_findDrafts_37 : decode b_Si_findDrafts 37 = .ok (.iastore, 1) := by decide +kernel
theorem d_Si_findDrafts_38 : decode b_Si_findDrafts 38 = .ok (.aload_n 0, 1) := by decide +kernel
theorem d_Si_findDrafts_39 : decode b_Si_findDrafts 39 = .ok (.dup, 1) := by decide +kernel
theorem d_Si_findDrafts_40 : decode b_Si_findDrafts 40 = .ok (.getfield 31, 3) := by decide +kernel
theorem d_Si_findDrafts_43 : decode b_Si_findDrafts 43 = .ok (.iconst 1, 1) := by decide +kernel
theorem d_Si_findDrafts_44 : decode b_Si_findDrafts 44 = .ok (.iadd, 1) := by decide +kernel
theorem d_Si_findDrafts_45 : decode b_Si_findDrafts 45 = .ok (.putfield 31, 3) := by decide +kernel
theorem d_Si_findDrafts_48 : decode b_Si_findDrafts 48 = .ok (.iinc 3 1, 3) := by decide +kernel
theorem d_Si_findDrafts_51 : decode b_Si_findDrafts 51 = .ok (.goto (-39), 3) := by decide +kernel
theorem d_Si_findDrafts_54 : decode b_Si_findDrafts 54 = .ok (.aload_n 0, 1) := by decide +kernel
theorem d_Si_findDrafts_55 : decode b_Si_findDrafts 55 = .ok (.getfield 31, 3) := by decide +kernel
theorem d_Si_findDrafts_58 : decode b_Si_findDrafts 58 = .ok (.ireturn, 1) := by decide +kernel
theorem d_Si_firstDraft_0 : decode b_Si_firstDraft 0 = .ok (.aload_n 0, 1) := by decide +kernel
theorem d_Si_firstDraft_1 : decode b_Si_firstDraft 1 = .ok (.getfield 18, 3) := by decide +kernel
theorem d_Si_firstDraft_4 : decode b_Si_firstDraft 4 = .ok (.iconst 0, 1) := by decide +kernel
theorem d_Si_firstDraft_5 : decode b_Si_firstDraft 5 = .ok (.iaload, 1) := by decide +kernel
theorem d_Si_firstDraft_6 : decode b_Si_firstDraft 6 = .ok (.ireturn, 1) := by decide +kernel
theorem d_Si_periodsToCheck_0 : decode b_Si_periodsToCheck 0 = .ok (.iconst 0, 1) := by decide +kernel
theorem d_Si_periodsToCheck_1 : decode b_Si_periodsToCheck 1 = .ok (.istore_n 1, 1) := by decide +kernel
theorem d_Si_periodsToCheck_2 : decode b_Si_periodsToCheck 2 = .ok (.iconst 0, 1) := by decide +kernel
theorem d_Si_periodsToCheck_3 : decode b_Si_periodsToCheck 3 = .ok (.istore_n 2, 1) := by decide +kernel
theorem d_Si_periodsToCheck_4 : decode b_Si_periodsToCheck 4 = .ok (.iload_n 2, 1) := by decide +kernel
theorem d_Si_periodsToCheck_5 : decode b_Si_periodsToCheck 5 = .ok (.aload_n 0, 1) := by decide +kernel
theorem d_Si_periodsToCheck_6 : decode b_Si_periodsToCheck 6 = .ok (.getfield 27, 3) := by decide +kernel
theorem d_Si_periodsToCheck_9 : decode b_Si_periodsToCheck 9 = .ok (.if_icmp .ge 22, 3) := by decide +kernel
theorem d_Si_periodsToCheck_12 : decode b_Si_periodsToCheck 12 = .ok (.iload_n 1, 1) := by decide +kernel
theorem d_Si_periodsToCheck_13 : decode b_Si_periodsToCheck 13 = .ok (.aload_n 0, 1) := by decide +kernel
theorem d_Si_periodsToCheck_14 : decode b_Si_periodsToCheck 14 = .ok (.getfield 9, 3) := by decide +kernel
theorem d_Si_periodsToCheck_17 : decode b_Si_periodsToCheck 17 = .ok (.iload_n 2, 1) := by decide +kernel
theorem d_Si_periodsToCheck_18 : decode b_Si_periodsToCheck 18 = .ok (.iaload, 1) := by decide +kernel
theorem d_Si_periodsToCheck_19 : decode b_Si_periodsToCheck 19 = .ok (.iconst 1, 1) := by decide +kernel
theorem d_Si_periodsToCheck_20 : decode b_Si_periodsToCheck 20 = .ok (.iadd, 1) := by decide +kernel
theorem d_Si_periodsToCheck_21 : decode b_Si_periodsToCheck 21 = .ok (.invokestatic 42, 3) := by decide +kernel
theorem d_Si_periodsToCheck_24 : decode b_Si_periodsToCheck 24 = .ok (.istore_n 1, 1) := by decide +kernel
theorem d_Si_periodsToCheck_25 : decode b_Si_periodsToCheck 25 = .ok (.iinc 2 1, 3) := by decide +kernel
theorem d_Si_periodsToCheck_28 : decode b_Si_periodsToCheck 28 = .ok (.goto (-24), 3) := by decide +kernel
theorem d_Si_periodsToCheck_31 : decode b_Si_periodsToCheck 31 = .ok (.iload_n 1, 1) := by decide +kernel
theorem d_Si_periodsToCheck_32 : decode b_Si_periodsToCheck 32 = .ok (.ireturn, 1) := by decide +kernel
theorem d_Si_isFitting_0 : decode b_Si_isFitting 0 = .ok (.aload_n 1, 1) := by decide +kernel
theorem d_Si_isFitting_1 : decode b_Si_isFitting 1 = .ok (.getfield 48, 3) := by decide +kernel
theorem d_Si_isFitting_4 : decode b_Si_isFitting 4 = .ok (.istore 4, 2) := by decide +kernel
theorem d_Si_isFitting_6 : decode b_Si_isFitting 6 = .ok (.iconst 0, 1) := by decide +kernel
theorem d_Si_isFitting_7 : decode b_Si_isFitting 7 = .ok (.istore 5, 2) := by decide +kernel
theorem d_Si_isFitting_9 : decode b_Si_isFitting 9 = .ok (.iload 5, 2) := by decide +kernel
theorem d_Si_isFitting_11 : decode b_Si_isFitting 11 = .ok (.iload_n 3, 1) := by decide +kernel
theorem d_Si_isFitting_12 : decode b_Si_isFitting 12 = .ok (.if_icmp .ge 40, 3) := by decide +kernel
theorem d_Si_isFitting_15 : decode b_Si_isFitting 15 = .ok (.aload_n 1, 1) := by decide +kernel
theorem d_Si_isFitting_16 : decode b_Si_isFitting 16 = .ok (.iload 5, 2) := by decide +kernel
theorem d_Si_isFitting_18 : decode b_Si_isFitting 18 = .ok (.iload 4, 2) := by decide +kernel
theorem d_Si_isFitting_20 : decode b_Si_isFitting 20 = .ok (.iload_n 2, 1) := by decide +kernel
theorem d_Si_isFitting_21 : decode b_Si_isFitting 21 = .ok (.invokevirtual 53, 3) := by decide +kernel
theorem d_Si_isFitting_24 : decode b_Si_isFitting 24 = .ok (.aload_n 1, 1) := by decide +kernel
theorem d_Si_isFitting_25 : decode b_Si_isFitting 25 = .ok (.getfield 48, 3) := by decide +kernel
theorem d_Si_isFitting_28 : decode b_Si_isFitting 28 = .ok (.invokestatic 57, 3) := by decide +kernel
theorem d_Si_isFitting_31 : decode b_Si_isFitting 31 = .ok (.istore 4, 2) := by decide +kernel
theorem d_Si_isFitting_33 : decode b_Si_isFitting 33 = .ok (.aload_n 0, 1) := by decide +kernel
theorem d_Si_isFitting_34 : decode b_Si_isFitting 34 = .ok (.iload 5, 2) := by decide +kernel
theorem d_Si_isFitting_36 : decode b_Si_isFitting 36 = .ok (.iload 4, 2) := by decide +kernel
theorem d_Si_isFitting_38 : decode b_Si_isFitting 38 = .ok (.invokevirtual 60, 3) := by decide +kernel
theorem d_Si_isFitting_41 : decode b_Si_isFitting 41 = .ok (.ifCond .eq 5, 3) := by decide +kernel
theorem d_Si_isFitting_44 : decode b_Si_isFitting 44 = .ok (.iconst 0, 1) := by decide +kernel
theorem d_Si_isFitting_45 : decode b_Si_isFitting 45 = .ok (.ireturn, 1) := by decide +kernel
theorem d_Si_isFitting_46 : decode b_Si_isFitting 46 = .ok (.iinc 5 1, 3) := by decide +kernel
theorem d_Si_isFitting_49 : decode b_Si_isFitting 49 = .ok (.goto (-40), 3) := by decide +kernel
theorem d_Si_isFitting_52 : decode b_Si_isFitting 52 = .ok (.iconst 1, 1) := by decide +kernel
theorem d_Si_isFitting_53 : decode b_Si_isFitting 53 = .ok (.ireturn, 1) := by decide +kernel
theorem d_Si_contradicts_0 : decode b_Si_contradicts 0 = .ok (.iconst 0, 1) := by decide +kernel
theorem d_Si_contradicts_1 : decode b_Si_contradicts 1 = .ok (.istore_n 3, 1) := by decide +kernel
theorem d_Si_contradicts_2 : decode b_Si_contradicts 2 = .ok (.iload_n 3, 1) := by decide +kernel
theorem d_Si_contradicts_3 : decode b_Si_contradicts 3 = .ok (.aload_n 0, 1) := by decide +kernel
theorem d_Si_contradicts_4 : decode b_Si_contradicts 4 = .ok (.getfield 27, 3) := by decide +kernel
theorem d_Si_contradicts_7 : decode b_Si_contradicts 7 = .ok (.if_icmp .ge 31, 3) := by decide +kernel
theorem d_Si_contradicts_10 : decode b_Si_contradicts 10 = .ok (.aload_n 0, 1) := by decide +kernel
theorem d_Si_contradicts_11 : decode b_Si_contradicts 11 = .ok (.getfield 9, 3) := by decide +kernel
theorem d_Si_contradicts_14 : decode b_Si_contradicts 14 = .ok (.iload_n 3, 1) := by decide +kernel
theorem d_Si_contradicts_15 : decode b_Si_contradicts 15 = .ok (.iaload, 1) := by decide +kernel
theorem d_Si_contradicts_16 : decode b_Si_contradicts 16 = .ok (.iload_n 1, 1) := by decide +kernel
theorem d_Si_contradicts_17 : decode b_Si_contradicts 17 = .ok (.if_icmp .ne 15, 3) := by decide +kernel
theorem d_Si_contradicts_20 : decode b_Si_contradicts 20 = .ok (.aload_n 0, 1) := by decide +kernel
theorem d_Si_contradicts_21 : decode b_Si_contradicts 21 = .ok (.getfield 15, 3) := by decide +kernel
theorem d_Si_contradicts_24 : decode b_Si_contradicts 24 = .ok (.iload_n 3, 1) := by decide +kernel
theorem d_Si_contradicts_25 : decode b_Si_contradicts 25 = .ok (.iaload, 1) := by decide +kernel
theorem d_Si_contradicts_26 : decode b_Si_contradicts 26 = .ok (.iload_n 2, 1) := by decide +kernel
theorem d_Si_contradicts_27 : decode b_Si_contradicts 27 = .ok (.if_icmp .eq 5, 3) := by decide +kernel
theorem d_Si_contradicts_30 : decode b_Si_contradicts 30 = .ok (.iconst 1, 1) := by decide +kernel
theorem d_Si_contradicts_31 : decode b_Si_contradicts 31 = .ok (.ireturn, 1) := by decide +kernel
theorem d_Si_contradicts_32 : decode b_Si_contradicts 32 = .ok (.iinc 3 1, 3) := by decide +kernel
theorem d_Si_contradicts_35 : decode b_Si_contradicts 35 = .ok (.goto (-33), 3) := by decide +kernel
theorem d_Si_contradicts_38 : decode b_Si_contradicts 38 = .ok (.iconst 0, 1) := by decide +kernel
theorem d_Si_contradicts_39 : decode b_Si_contradicts 39 = .ok (.ireturn, 1) := by decide +kernel
theorem d_Si_tellingPeriod_0 : decode b_Si_tellingPeriod 0 = .ok (.iconst 0, 1) := by decide +kernel
theorem d_Si_tellingPeriod_1 : decode b_Si_tellingPeriod 1 = .ok (.istore_n 2, 1) := by decide +kernel
theorem d_Si_tellingPeriod_2 : decode b_Si_tellingPeriod 2 = .ok (.iload_n 2, 1) := by decide +kernel
theorem d_Si_tellingPeriod_3 : decode b_Si_tellingPeriod 3 = .ok (.aload_n 0, 1) := by decide +kernel
theorem d_Si_tellingPeriod_4 : decode b_Si_tellingPeriod 4 = .ok (.getfield 31, 3) := by decide +kernel
theorem d_Si_tellingPeriod_7 : decode b_Si_tellingPeriod 7 = .ok (.if_icmp .ge 19, 3) := by decide +kernel
theorem d_Si_tellingPeriod_10 : decode b_Si_tellingPeriod 10 = .ok (.aload_n 0, 1) := by decide +kernel
theorem d_Si_tellingPeriod_11 : decode b_Si_tellingPeriod 11 = .ok (.getfield 21, 3) := by decide +kernel
theorem d_Si_tellingPeriod_14 : decode b_Si_tellingPeriod 14 = .ok (.iload_n 2, 1) := by decide +kernel
theorem d_Si_tellingPeriod_15 : decode b_Si_tellingPeriod 15 = .ok (.aload_n 1, 1) := by decide +kernel
theorem d_Si_tellingPeriod_16 : decode b_Si_tellingPeriod 16 = .ok (.getfield 48, 3) := by decide +kernel
theorem d_Si_tellingPeriod_19 : decode b_Si_tellingPeriod 19 = .ok (.iastore, 1) := by decide +kernel
theorem d_Si_tellingPeriod_20 : decode b_Si_tellingPeriod 20 = .ok (.iinc 2 1, 3) := by decide +kernel
theorem d_Si_tellingPeriod_23 : decode b_Si_tellingPeriod 23 = .ok (.goto (-21), 3) := by decide +kernel
theorem d_Si_tellingPeriod_26 : decode b_Si_tellingPeriod 26 = .ok (.bipush (-9), 2) := by decide +kernel
theorem d_Si_tellingPeriod_28 : decode b_Si_tellingPeriod 28 = .ok (.istore_n 2, 1) := by decide +kernel
theorem d_Si_tellingPeriod_29 : decode b_Si_tellingPeriod 29 = .ok (.aload_n 0, 1) := by decide +kernel
theorem d_Si_tellingPeriod_30 : decode b_Si_tellingPeriod 30 = .ok (.getfield 31, 3) := by decide +kernel
theorem d_Si_tellingPeriod_33 : decode b_Si_tellingPeriod 33 = .ok (.iconst 1, 1) := by decide +kernel
theorem d_Si_tellingPeriod_34 : decode b_Si_tellingPeriod 34 = .ok (.iadd, 1) := by decide +kernel
theorem d_Si_tellingPeriod_35 : decode b_Si_tellingPeriod 35 = .ok (.istore_n 3, 1) := by decide +kernel
theorem d_Si_tellingPeriod_36 : decode b_Si_tellingPeriod 36 = .ok (.iconst 0, 1) := by decide +kernel
theorem d_Si_tellingPeriod_37 : decode b_Si_tellingPeriod 37 = .ok (.istore 4, 2) := by decide +kernel
theorem d_Si_tellingPeriod_39 : decode b_Si_tellingPeriod 39 = .ok (.iload 4, 2) := by decide +kernel
theorem d_Si_tellingPeriod_41 : decode b_Si_tellingPeriod 41 = .ok (.bipush 40, 2) := by decide +kernel
theorem d_Si_tellingPeriod_43 : decode b_Si_tellingPeriod 43 = .ok (.if_icmp .ge 34, 3) := by decide +kernel
theorem d_Si_tellingPeriod_46 : decode b_Si_tellingPeriod 46 = .ok (.aload_n 0, 1) := by decide +kernel
theorem d_Si_tellingPeriod_47 : decode b_Si_tellingPeriod 47 = .ok (.aload_n 1, 1) := by decide +kernel
theorem d_Si_tellingPeriod_48 : decode b_Si_tellingPeriod 48 = .ok (.iload 4, 2) := by decide +kernel
theorem d_Si_tellingPeriod_50 : decode b_Si_tellingPeriod 50 = .ok (.invokevirtual 64, 3) := by decide +kernel
theorem d_Si_tellingPeriod_53 : decode b_Si_tellingPeriod 53 = .ok (.aload_n 0, 1) := by decide +kernel
theorem d_Si_tellingPeriod_54 : decode b_Si_tellingPeriod 54 = .ok (.invokevirtual 68, 3) := by decide +kernel
theorem d_Si_tellingPeriod_57 : decode b_Si_tellingPeriod 57 = .ok (.istore 5, 2) := by decide +kernel
theorem d_Si_tellingPeriod_59 : decode b_Si_tellingPeriod 59 = .ok (.iload 5, 2) := by decide +kernel
theorem d_Si_tellingPeriod_61 : decode b_Si_tellingPeriod 61 = .ok (.iload_n 3, 1) := by decide +kernel
theorem d_Si_tellingPeriod_62 : decode b_Si_tellingPeriod 62 = .ok (.if_icmp .ge 9, 3) := by decide +kernel
theorem d_Si_tellingPeriod_65 : decode b_Si_tellingPeriod 65 = .ok (.iload 5, 2) := by decide +kernel
theorem d_Si_tellingPeriod_67 : decode b_Si_tellingPeriod 67 = .ok (.istore_n 3, 1) := by decide +kernel
theorem d_Si_tellingPeriod_68 : decode b_Si_tellingPeriod 68 = .ok (.iload 4, 2) := by decide +kernel
theorem d_Si_tellingPeriod_70 : decode b_Si_tellingPeriod 70 = .ok (.istore_n 2, 1) := by decide +kernel
theorem d_Si_tellingPeriod_71 : decode b_Si_tellingPeriod 71 = .ok (.iinc 4 1, 3) := by decide +kernel
theorem d_Si_tellingPeriod_74 : decode b_Si_tellingPeriod 74 = .ok (.goto (-35), 3) := by decide +kernel
theorem d_Si_tellingPeriod_77 : decode b_Si_tellingPeriod 77 = .ok (.iload_n 2, 1) := by decide +kernel
theorem d_Si_tellingPeriod_78 : decode b_Si_tellingPeriod 78 = .ok (.ireturn, 1) := by decide +kernel
theorem d_Si_passAll_0 : decode b_Si_passAll 0 = .ok (.iconst 0, 1) := by decide +kernel
theorem d_Si_passAll_1 : decode b_Si_passAll 1 = .ok (.istore_n 3, 1) := by decide +kernel
theorem d_Si_passAll_2 : decode b_Si_passAll 2 = .ok (.iload_n 3, 1) := by decide +kernel
theorem d_Si_passAll_3 : decode b_Si_passAll 3 = .ok (.aload_n 0, 1) := by decide +kernel
theorem d_Si_passAll_4 : decode b_Si_passAll 4 = .ok (.getfield 31, 3) := by decide +kernel
theorem d_Si_passAll_7 : decode b_Si_passAll 7 = .ok (.if_icmp .ge 39, 3) := by decide +kernel
theorem d_Si_passAll_10 : decode b_Si_passAll 10 = .ok (.aload_n 0, 1) := by decide +kernel
theorem d_Si_passAll_11 : decode b_Si_passAll 11 = .ok (.getfield 21, 3) := by decide +kernel
theorem d_Si_passAll_14 : decode b_Si_passAll 14 = .ok (.iload_n 3, 1) := by decide +kernel
theorem d_Si_passAll_15 : decode b_Si_passAll 15 = .ok (.aload_n 1, 1) := by decide +kernel
theorem d_Si_passAll_16 : decode b_Si_passAll 16 = .ok (.iload_n 2, 1) := by decide +kernel
theorem d_Si_passAll_17 : decode b_Si_passAll 17 = .ok (.aload_n 0, 1) := by decide +kernel
theorem d_Si_passAll_18 : decode b_Si_passAll 18 = .ok (.getfield 21, 3) := by decide +kernel
theorem d_Si_passAll_21 : decode b_Si_passAll 21 = .ok (.iload_n 3, 1) := by decide +kernel
theorem d_Si_passAll_22 : decode b_Si_passAll 22 = .ok (.iaload, 1) := by decide +kernel
theorem d_Si_passAll_23 : decode b_Si_passAll 23 = .ok (.aload_n 0, 1) := by decide +kernel
theorem d_Si_passAll_24 : decode b_Si_passAll 24 = .ok (.getfield 18, 3) := by decide +kernel
theorem d_Si_passAll_27 : decode b_Si_passAll 27 = .ok (.iload_n 3, 1) := by decide +kernel
theorem d_Si_passAll_28 : decode b_Si_passAll 28 = .ok (.iaload, 1) := by decide +kernel
theorem d_Si_passAll_29 : decode b_Si_passAll 29 = .ok (.invokevirtual 53, 3) := by decide +kernel
theorem d_Si_passAll_32 : decode b_Si_passAll 32 = .ok (.aload_n 1, 1) := by decide +kernel
theorem d_Si_passAll_33 : decode b_Si_passAll 33 = .ok (.getfield 48, 3) := by decide +kernel
theorem d_Si_passAll_36 : decode b_Si_passAll 36 = .ok (.invokestatic 57, 3) := by decide +kernel
theorem d_Si_passAll_39 : decode b_Si_passAll 39 = .ok (.iastore, 1) := by decide +kernel
theorem d_Si_passAll_40 : decode b_Si_passAll 40 = .ok (.iinc 3 1, 3) := by decide +kernel
theorem d_Si_passAll_43 : decode b_Si_passAll 43 = .ok (.goto (-41), 3) := by decide +kernel
theorem d_Si_passAll_46 : decode b_Si_passAll 46 = .ok (.return_, 1) := by decide +kernel
theorem d_Si_greatestGroup_0 : decode b_Si_greatestGroup 0 = .ok (.iconst 0, 1) := by decide +kernel
theorem d_Si_greatestGroup_1 : decode b_Si_greatestGroup 1 = .ok (.istore_n 1, 1) := by decide +kernel
theorem d_Si_greatestGroup_2 : decode b_Si_greatestGroup 2 = .ok (.iload_n 1, 1) := by decide +kernel
theorem d_Si_greatestGroup_3 : decode b_Si_greatestGroup 3 = .ok (.aload_n 0, 1) := by decide +kernel
theorem d_Si_greatestGroup_4 : decode b_Si_greatestGroup 4 = .ok (.getfield 31, 3) := by decide +kernel
theorem d_Si_greatestGroup_7 : decode b_Si_greatestGroup 7 = .ok (.if_icmp .ge 20, 3) := by decide +kernel
theorem d_Si_greatestGroup_10 : decode b_Si_greatestGroup 10 = .ok (.aload_n 0, 1) := by decide +kernel
theorem d_Si_greatestGroup_11 : decode b_Si_greatestGroup 11 = .ok (.aload_n 0, 1) := by decide +kernel
theorem d_Si_greatestGroup_12 : decode b_Si_greatestGroup 12 = .ok (.getfield 21, 3) := by decide +kernel
theorem d_Si_greatestGroup_15 : decode b_Si_greatestGroup 15 = .ok (.iload_n 1, 1) := by decide +kernel
theorem d_Si_greatestGroup_16 : decode b_Si_greatestGroup 16 = .ok (.iaload, 1) := by decide +kernel
theorem d_Si_greatestGroup_17 : decode b_Si_greatestGroup 17 = .ok (.iconst 0, 1) := by decide +kernel
theorem d_Si_greatestGroup_18 : decode b_Si_greatestGroup 18 = .ok (.invokevirtual 71, 3) := by decide +kernel
theorem d_Si_greatestGroup_21 : decode b_Si_greatestGroup 21 = .ok (.iinc 1 1, 3) := by decide +kernel
theorem d_Si_greatestGroup_24 : decode b_Si_greatestGroup 24 = .ok (.goto (-22), 3) := by decide +kernel
theorem d_Si_greatestGroup_27 : decode b_Si_greatestGroup 27 = .ok (.iconst 0, 1) := by decide +kernel
theorem d_Si_greatestGroup_28 : decode b_Si_greatestGroup 28 = .ok (.istore_n 1, 1) := by decide +kernel
theorem d_Si_greatestGroup_29 : decode b_Si_greatestGroup 29 = .ok (.iconst 0, 1) := by decide +kernel
theorem d_Si_greatestGroup_30 : decode b_Si_greatestGroup 30 = .ok (.istore_n 2, 1) := by decide +kernel
theorem d_Si_greatestGroup_31 : decode b_Si_greatestGroup 31 = .ok (.iload_n 2, 1) := by decide +kernel
theorem d_Si_greatestGroup_32 : decode b_Si_greatestGroup 32 = .ok (.aload_n 0, 1) := by decide +kernel
theorem d_Si_greatestGroup_33 : decode b_Si_greatestGroup 33 = .ok (.getfield 31, 3) := by decide +kernel
theorem d_Si_greatestGroup_36 : decode b_Si_greatestGroup 36 = .ok (.if_icmp .ge 39, 3) := by decide +kernel
theorem d_Si_greatestGroup_39 : decode b_Si_greatestGroup 39 = .ok (.aload_n 0, 1) := by decide +kernel
theorem d_Si_greatestGroup_40 : decode b_Si_greatestGroup 40 = .ok (.aload_n 0, 1) := by decide +kernel
theorem d_Si_greatestGroup_41 : decode b_Si_greatestGroup 41 = .ok (.getfield 21, 3) := by decide +kernel
theorem d_Si_greatestGroup_44 : decode b_Si_greatestGroup 44 = .ok (.iload_n 2, 1) := by decide +kernel
theorem d_Si_greatestGroup_45 : decode b_Si_greatestGroup 45 = .ok (.iaload, 1) := by decide +kernel
theorem d_Si_greatestGroup_46 : decode b_Si_greatestGroup 46 = .ok (.invokevirtual 75, 3) := by decide +kernel
theorem d_Si_greatestGroup_49 : decode b_Si_greatestGroup 49 = .ok (.iconst 1, 1) := by decide +kernel
theorem d_Si_greatestGroup_50 : decode b_Si_greatestGroup 50 = .ok (.iadd, 1) := by decide +kernel
theorem d_Si_greatestGroup_51 : decode b_Si_greatestGroup 51 = .ok (.istore_n 3, 1) := by decide +kernel
theorem d_Si_greatestGroup_52 : decode b_Si_greatestGroup 52 = .ok (.aload_n 0, 1) := by decide +kernel
theorem d_Si_greatestGroup_53 : decode b_Si_greatestGroup 53 = .ok (.aload_n 0, 1) := by decide +kernel
theorem d_Si_greatestGroup_54 : decode b_Si_greatestGroup 54 = .ok (.getfield 21, 3) := by decide +kernel
theorem d_Si_greatestGroup_57 : decode b_Si_greatestGroup 57 = .ok (.iload_n 2, 1) := by decide +kernel
theorem d_Si_greatestGroup_58 : decode b_Si_greatestGroup 58 = .ok (.iaload, 1) := by decide +kernel
theorem d_Si_greatestGroup_59 : decode b_Si_greatestGroup 59 = .ok (.iload_n 3, 1) := by decide +kernel
theorem d_Si_greatestGroup_60 : decode b_Si_greatestGroup 60 = .ok (.invokevirtual 71, 3) := by decide +kernel
theorem d_Si_greatestGroup_63 : decode b_Si_greatestGroup 63 = .ok (.iload_n 1, 1) := by decide +kernel
theorem d_Si_greatestGroup_64 : decode b_Si_greatestGroup 64 = .ok (.iload_n 3, 1) := by decide +kernel
theorem d_Si_greatestGroup_65 : decode b_Si_greatestGroup 65 = .ok (.invokestatic 42, 3) := by decide +kernel
theorem d_Si_greatestGroup_68 : decode b_Si_greatestGroup 68 = .ok (.istore_n 1, 1) := by decide +kernel
theorem d_Si_greatestGroup_69 : decode b_Si_greatestGroup 69 = .ok (.iinc 2 1, 3) := by decide +kernel
theorem d_Si_greatestGroup_72 : decode b_Si_greatestGroup 72 = .ok (.goto (-41), 3) := by decide +kernel
theorem d_Si_greatestGroup_75 : decode b_Si_greatestGroup 75 = .ok (.iload_n 1, 1) := by decide +kernel
theorem d_Si_greatestGroup_76 : decode b_Si_greatestGroup 76 = .ok (.ireturn, 1) := by decide +kernel
theorem d_Si_draftsAt_0 : decode b_Si_draftsAt 0 = .ok (.iload_n 1, 1) := by decide +kernel
theorem d_Si_draftsAt_1 : decode b_Si_draftsAt 1 = .ok (.iconst 0, 1) := by decide +kernel
theorem d_Si_draftsAt_2 : decode b_Si_draftsAt 2 = .ok (.sipush 999, 3) := by decide +kernel
theorem d_Si_draftsAt_5 : decode b_Si_draftsAt 5 = .ok (.invokestatic 79, 3) := by decide +kernel
theorem d_Si_draftsAt_8 : decode b_Si_draftsAt 8 = .ok (.ifCond .eq 7, 3) := by decide +kernel
theorem d_Si_draftsAt_11 : decode b_Si_draftsAt 11 = .ok (.iconst 0, 1) := by decide +kernel
theorem d_Si_draftsAt_12 : decode b_Si_draftsAt 12 = .ok (.goto 9, 3) := by decide +kernel
theorem d_Si_draftsAt_15 : decode b_Si_draftsAt 15 = .ok (.aload_n 0, 1) := by decide +kernel
theorem d_Si_draftsAt_16 : decode b_Si_draftsAt 16 = .ok (.getfield 24, 3) := by decide +kernel
theorem d_Si_draftsAt_19 : decode b_Si_draftsAt 19 = .ok (.iload_n 1, 1) := by decide +kernel
theorem d_Si_draftsAt_20 : decode b_Si_draftsAt 20 = .ok (.iaload, 1) := by decide +kernel
theorem d_Si_draftsAt_21 : decode b_Si_draftsAt 21 = .ok (.ireturn, 1) := by decide +kernel
theorem d_Si_setDraftsAt_0 : decode b_Si_setDraftsAt 0 = .ok (.iload_n 1, 1) := by decide +kernel
theorem d_Si_setDraftsAt_1 : decode b_Si_setDraftsAt 1 = .ok (.iconst 0, 1) := by decide +kernel
theorem d_Si_setDraftsAt_2 : decode b_Si_setDraftsAt 2 = .ok (.sipush 999, 3) := by decide +kernel
theorem d_Si_setDraftsAt_5 : decode b_Si_setDraftsAt 5 = .ok (.invokestatic 79, 3) := by decide +kernel
theorem d_Si_setDraftsAt_8 : decode b_Si_setDraftsAt 8 = .ok (.ifCond .ne 10, 3) := by decide +kernel
theorem d_Si_setDraftsAt_11 : decode b_Si_setDraftsAt 11 = .ok (.aload_n 0, 1) := by decide +kernel
theorem d_Si_setDraftsAt_12 : decode b_Si_setDraftsAt 12 = .ok (.getfield 24, 3) := by decide +kernel
theorem d_Si_setDraftsAt_15 : decode b_Si_setDraftsAt 15 = .ok (.iload_n 1, 1) := by decide +kernel
theorem d_Si_setDraftsAt_16 : decode b_Si_setDraftsAt 16 = .ok (.iload_n 2, 1) := by decide +kernel
theorem d_Si_setDraftsAt_17 : decode b_Si_setDraftsAt 17 = .ok (.iastore, 1) := by decide +kernel
theorem d_Si_setDraftsAt_18 : decode b_Si_setDraftsAt 18 = .ok (.return_, 1) := by decide +kernel
