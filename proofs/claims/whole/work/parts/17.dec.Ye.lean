theorem d_Ye_init_0 : decode b_Ye_init 0 = .ok (.aload_n 0, 1) := by decide +kernel
theorem d_Ye_init_1 : decode b_Ye_init 1 = .ok (.invokespecial 1, 3) := by decide +kernel
theorem d_Ye_init_4 : decode b_Ye_init 4 = .ok (.aload_n 0, 1) := by decide +kernel
theorem d_Ye_init_5 : decode b_Ye_init 5 = .ok (.new 7, 3) := by decide +kernel
theorem d_Ye_init_8 : decode b_Ye_init 8 = .ok (.dup, 1) := by decide +kernel
theorem d_Ye_init_9 : decode b_Ye_init 9 = .ok (.invokespecial 9, 3) := by decide +kernel
theorem d_Ye_init_12 : decode b_Ye_init 12 = .ok (.putfield 10, 3) := by decide +kernel
theorem d_Ye_init_15 : decode b_Ye_init 15 = .ok (.aload_n 0, 1) := by decide +kernel
theorem d_Ye_init_16 : decode b_Ye_init 16 = .ok (.new 7, 3) := by decide +kernel
theorem d_Ye_init_19 : decode b_Ye_init 19 = .ok (.dup, 1) := by decide +kernel
theorem d_Ye_init_20 : decode b_Ye_init 20 = .ok (.invokespecial 9, 3) := by decide +kernel
theorem d_Ye_init_23 : decode b_Ye_init 23 = .ok (.putfield 16, 3) := by decide +kernel
theorem d_Ye_init_26 : decode b_Ye_init 26 = .ok (.aload_n 0, 1) := by decide +kernel
theorem d_Ye_init_27 : decode b_Ye_init 27 = .ok (.new 19, 3) := by decide +kernel
theorem d_Ye_init_30 : decode b_Ye_init 30 = .ok (.dup, 1) := by decide +kernel
theorem d_Ye_init_31 : decode b_Ye_init 31 = .ok (.invokespecial 21, 3) := by decide +kernel
theorem d_Ye_init_34 : decode b_Ye_init 34 = .ok (.putfield 22, 3) := by decide +kernel
theorem d_Ye_init_37 : decode b_Ye_init 37 = .ok (.aload_n 0, 1) := by decide +kernel
theorem d_Ye_init_38 : decode b_Ye_init 38 = .ok (.new 26, 3) := by decide +kernel
theorem d_Ye_init_41 : decode b_Ye_init 41 = .ok (.dup, 1) := by decide +kernel
theorem d_Ye_init_42 : decode b_Ye_init 42 = .ok (.invokespecial 28, 3) := by decide +kernel
theorem d_Ye_init_45 : decode b_Ye_init 45 = .ok (.putfield 29, 3) := by decide +kernel
theorem d_Ye_init_48 : decode b_Ye_init 48 = .ok (.aload_n 0, 1) := by decide +kernel
theorem d_Ye_init_49 : decode b_Ye_init 49 = .ok (.new 33, 3) := by decide +kernel
theorem d_Ye_init_52 : decode b_Ye_init 52 = .ok (.dup, 1) := by decide +kernel
theorem d_Ye_init_53 : decode b_Ye_init 53 = .ok (.invokespecial 35, 3) := by decide +kernel
theorem d_Ye_init_56 : decode b_Ye_init 56 = .ok (.putfield 36, 3) := by decide +kernel
theorem d_Ye_init_59 : decode b_Ye_init 59 = .ok (.aload_n 0, 1) := by decide +kernel
theorem d_Ye_init_60 : decode b_Ye_init 60 = .ok (.new 40, 3) := by decide +kernel
theorem d_Ye_init_63 : decode b_Ye_init 63 = .ok (.dup, 1) := by decide +kernel
theorem d_Ye_init_64 : decode b_Ye_init 64 = .ok (.invokespecial 42, 3) := by decide +kernel
theorem d_Ye_init_67 : decode b_Ye_init 67 = .ok (.putfield 43, 3) := by decide +kernel
theorem d_Ye_init_70 : decode b_Ye_init 70 = .ok (.aload_n 0, 1) := by decide +kernel
theorem d_Ye_init_71 : decode b_Ye_init 71 = .ok (.new 47, 3) := by decide +kernel
theorem d_Ye_init_74 : decode b_Ye_init 74 = .ok (.dup, 1) := by decide +kernel
theorem d_Ye_init_75 : decode b_Ye_init 75 = .ok (.invokespecial 49, 3) := by decide +kernel
theorem d_Ye_init_78 : decode b_Ye_init 78 = .ok (.putfield 50, 3) := by decide +kernel
theorem d_Ye_init_81 : decode b_Ye_init 81 = .ok (.aload_n 0, 1) := by decide +kernel
theorem d_Ye_init_82 : decode b_Ye_init 82 = .ok (.new 54, 3) := by decide +kernel
theorem d_Ye_init_85 : decode b_Ye_init 85 = .ok (.dup, 1) := by decide +kernel
theorem d_Ye_init_86 : decode b_Ye_init 86 = .ok (.invokespecial 56, 3) := by decide +kernel
theorem d_Ye_init_89 : decode b_Ye_init 89 = .ok (.putfield 57, 3) := by decide +kernel
theorem d_Ye_init_92 : decode b_Ye_init 92 = .ok (.aload_n 0, 1) := by decide +kernel
theorem d_Ye_init_93 : decode b_Ye_init 93 = .ok (.iconst 2, 1) := by decide +kernel
theorem d_Ye_init_94 : decode b_Ye_init 94 = .ok (.anewarray 7, 3) := by decide +kernel
theorem d_Ye_init_97 : decode b_Ye_init 97 = .ok (.putfield 61, 3) := by decide +kernel
theorem d_Ye_init_100 : decode b_Ye_init 100 = .ok (.return_, 1) := by decide +kernel
theorem d_Ye_type_0 : decode b_Ye_type 0 = .ok (.iload_n 1, 1) := by decide +kernel
theorem d_Ye_type_1 : decode b_Ye_type 1 = .ok (.iconst 0, 1) := by decide +kernel
theorem d_Ye_type_2 : decode b_Ye_type 2 = .ok (.sipush 255, 3) := by decide +kernel
theorem d_Ye_type_5 : decode b_Ye_type 5 = .ok (.invokestatic 65, 3) := by decide +kernel
theorem d_Ye_type_8 : decode b_Ye_type 8 = .ok (.ifCond .eq 5, 3) := by decide +kernel
theorem d_Ye_type_11 : decode b_Ye_type 11 = .ok (.iconst (-1), 1) := by decide +kernel
theorem d_Ye_type_12 : decode b_Ye_type 12 = .ok (.ireturn, 1) := by decide +kernel
theorem d_Ye_type_13 : decode b_Ye_type 13 = .ok (.aload_n 0, 1) := by decide +kernel
theorem d_Ye_type_14 : decode b_Ye_type 14 = .ok (.getfield 22, 3) := by decide +kernel
theorem d_Ye_type_17 : decode b_Ye_type 17 = .ok (.iload_n 1, 1) := by decide +kernel
theorem d_Ye_type_18 : decode b_Ye_type 18 = .ok (.invokevirtual 69, 3) := by decide +kernel
theorem d_Ye_type_21 : decode b_Ye_type 21 = .ok (.ifCond .eq 13, 3) := by decide +kernel
theorem d_Ye_type_24 : decode b_Ye_type 24 = .ok (.aload_n 0, 1) := by decide +kernel
theorem d_Ye_type_25 : decode b_Ye_type 25 = .ok (.getfield 22, 3) := by decide +kernel
theorem d_Ye_type_28 : decode b_Ye_type 28 = .ok (.getfield 73, 3) := by decide +kernel
theorem d_Ye_type_31 : decode b_Ye_type 31 = .ok (.goto 5, 3) := by decide +kernel
theorem d_Ye_type_34 : decode b_Ye_type 34 = .ok (.bipush (-3), 2) := by decide +kernel
theorem d_Ye_type_36 : decode b_Ye_type 36 = .ok (.ireturn, 1) := by decide +kernel
theorem d_Ye_clear_0 : decode b_Ye_clear 0 = .ok (.aload_n 0, 1) := by decide +kernel
theorem d_Ye_clear_1 : decode b_Ye_clear 1 = .ok (.getfield 22, 3) := by decide +kernel
theorem d_Ye_clear_4 : decode b_Ye_clear 4 = .ok (.invokevirtual 77, 3) := by decide +kernel
theorem d_Ye_clear_7 : decode b_Ye_clear 7 = .ok (.ireturn, 1) := by decide +kernel
theorem d_Ye_tells_0 : decode b_Ye_tells 0 = .ok (.aload_n 0, 1) := by decide +kernel
theorem d_Ye_tells_1 : decode b_Ye_tells 1 = .ok (.getfield 22, 3) := by decide +kernel
theorem d_Ye_tells_4 : decode b_Ye_tells 4 = .ok (.aload_n 0, 1) := by decide +kernel
theorem d_Ye_tells_5 : decode b_Ye_tells 5 = .ok (.getfield 16, 3) := by decide +kernel
theorem d_Ye_tells_8 : decode b_Ye_tells 8 = .ok (.invokevirtual 81, 3) := by decide +kernel
theorem d_Ye_tells_11 : decode b_Ye_tells 11 = .ok (.istore_n 1, 1) := by decide +kernel
theorem d_Ye_tells_12 : decode b_Ye_tells 12 = .ok (.iload_n 1, 1) := by decide +kernel
theorem d_Ye_tells_13 : decode b_Ye_tells 13 = .ok (.ifCond .ge 5, 3) := by decide +kernel
theorem d_Ye_tells_16 : decode b_Ye_tells 16 = .ok (.iload_n 1, 1) := by decide +kernel
theorem d_Ye_tells_17 : decode b_Ye_tells 17 = .ok (.ireturn, 1) := by decide +kernel
theorem d_Ye_tells_18 : decode b_Ye_tells 18 = .ok (.aload_n 0, 1) := by decide +kernel
theorem d_Ye_tells_19 : decode b_Ye_tells 19 = .ok (.getfield 29, 3) := by decide +kernel
theorem d_Ye_tells_22 : decode b_Ye_tells 22 = .ok (.aload_n 0, 1) := by decide +kernel
theorem d_Ye_tells_23 : decode b_Ye_tells 23 = .ok (.getfield 10, 3) := by decide +kernel
theorem d_Ye_tells_26 : decode b_Ye_tells 26 = .ok (.invokevirtual 85, 3) := by decide +kernel
theorem d_Ye_tells_29 : decode b_Ye_tells 29 = .ok (.aload_n 0, 1) := by decide +kernel
theorem d_Ye_tells_30 : decode b_Ye_tells 30 = .ok (.getfield 10, 3) := by decide +kernel
theorem d_Ye_tells_33 : decode b_Ye_tells 33 = .ok (.aload_n 0, 1) := by decide +kernel
theorem d_Ye_tells_34 : decode b_Ye_tells 34 = .ok (.getfield 16, 3) := by decide +kernel
theorem d_Ye_tells_37 : decode b_Ye_tells 37 = .ok (.invokevirtual 89, 3) := by decide +kernel
theorem d_Ye_tells_40 : decode b_Ye_tells 40 = .ok (.aload_n 0, 1) := by decide +kernel
theorem d_Ye_tells_41 : decode b_Ye_tells 41 = .ok (.getfield 22, 3) := by decide +kernel
theorem d_Ye_tells_44 : decode b_Ye_tells 44 = .ok (.invokevirtual 77, 3) := by decide +kernel
theorem d_Ye_tells_47 : decode b_Ye_tells 47 = .ok (.pop, 1) := by decide +kernel
theorem d_Ye_tells_48 : decode b_Ye_tells 48 = .ok (.iload_n 1, 1) := by decide +kernel
theorem d_Ye_tells_49 : decode b_Ye_tells 49 = .ok (.ireturn, 1) := by decide +kernel
theorem d_Ye_passes_0 : decode b_Ye_passes 0 = .ok (.iload_n 1, 1) := by decide +kernel
theorem d_Ye_passes_1 : decode b_Ye_passes 1 = .ok (.iconst 1, 1) := by decide +kernel
theorem d_Ye_passes_2 : decode b_Ye_passes 2 = .ok (.bipush 99, 2) := by decide +kernel
theorem d_Ye_passes_4 : decode b_Ye_passes 4 = .ok (.invokestatic 65, 3) := by decide +kernel
theorem d_Ye_passes_7 : decode b_Ye_passes 7 = .ok (.ifCond .eq 5, 3) := by decide +kernel
theorem d_Ye_passes_10 : decode b_Ye_passes 10 = .ok (.iconst (-1), 1) := by decide +kernel
theorem d_Ye_passes_11 : decode b_Ye_passes 11 = .ok (.ireturn, 1) := by decide +kernel
theorem d_Ye_passes_12 : decode b_Ye_passes 12 = .ok (.aload_n 0, 1) := by decide +kernel
theorem d_Ye_passes_13 : decode b_Ye_passes 13 = .ok (.getfield 10, 3) := by decide +kernel
theorem d_Ye_passes_16 : decode b_Ye_passes 16 = .ok (.getfield 92, 3) := by decide +kernel
theorem d_Ye_passes_19 : decode b_Ye_passes 19 = .ok (.iload_n 1, 1) := by decide +kernel
theorem d_Ye_passes_20 : decode b_Ye_passes 20 = .ok (.iadd, 1) := by decide +kernel
theorem d_Ye_passes_21 : decode b_Ye_passes 21 = .ok (.sipush 999, 3) := by decide +kernel
theorem d_Ye_passes_24 : decode b_Ye_passes 24 = .ok (.if_icmp .le 6, 3) := by decide +kernel
theorem d_Ye_passes_27 : decode b_Ye_passes 27 = .ok (.bipush (-2), 2) := by decide +kernel
theorem d_Ye_passes_29 : decode b_Ye_passes 29 = .ok (.ireturn, 1) := by decide +kernel
theorem d_Ye_passes_30 : decode b_Ye_passes 30 = .ok (.aload_n 0, 1) := by decide +kernel
theorem d_Ye_passes_31 : decode b_Ye_passes 31 = .ok (.getfield 29, 3) := by decide +kernel
theorem d_Ye_passes_34 : decode b_Ye_passes 34 = .ok (.aload_n 0, 1) := by decide +kernel
theorem d_Ye_passes_35 : decode b_Ye_passes 35 = .ok (.getfield 10, 3) := by decide +kernel
theorem d_Ye_passes_38 : decode b_Ye_passes 38 = .ok (.invokevirtual 85, 3) := by decide +kernel
theorem d_Ye_passes_41 : decode b_Ye_passes 41 = .ok (.aload_n 0, 1) := by decide +kernel
theorem d_Ye_passes_42 : decode b_Ye_passes 42 = .ok (.getfield 10, 3) := by decide +kernel
theorem d_Ye_passes_45 : decode b_Ye_passes 45 = .ok (.getfield 95, 3) := by decide +kernel
theorem d_Ye_passes_48 : decode b_Ye_passes 48 = .ok (.istore_n 2, 1) := by decide +kernel
theorem d_Ye_passes_49 : decode b_Ye_passes 49 = .ok (.iconst 0, 1) := by decide +kernel
theorem d_Ye_passes_50 : decode b_Ye_passes 50 = .ok (.istore_n 3, 1) := by decide +kernel
theorem d_Ye_passes_51 : decode b_Ye_passes 51 = .ok (.iload_n 3, 1) := by decide +kernel
theorem d_Ye_passes_52 : decode b_Ye_passes 52 = .ok (.iload_n 1, 1) := by decide +kernel
theorem d_Ye_passes_53 : decode b_Ye_passes 53 = .ok (.if_icmp .ge 16, 3) := by decide +kernel
theorem d_Ye_passes_56 : decode b_Ye_passes 56 = .ok (.aload_n 0, 1) := by decide +kernel
theorem d_Ye_passes_57 : decode b_Ye_passes 57 = .ok (.getfield 10, 3) := by decide +kernel
theorem d_Ye_passes_60 : decode b_Ye_passes 60 = .ok (.invokevirtual 98, 3) := by decide +kernel
theorem d_Ye_passes_63 : decode b_Ye_passes 63 = .ok (.iinc 3 1, 3) := by decide +kernel
theorem d_Ye_passes_66 : decode b_Ye_passes 66 = .ok (.goto (-15), 3) := by decide +kernel
theorem d_Ye_passes_69 : decode b_Ye_passes 69 = .ok (.aload_n 0, 1) := by decide +kernel
theorem d_Ye_passes_70 : decode b_Ye_passes 70 = .ok (.getfield 10, 3) := by decide +kernel
theorem d_Ye_passes_73 : decode b_Ye_passes 73 = .ok (.getfield 95, 3) := by decide +kernel
theorem d_Ye_passes_76 : decode b_Ye_passes 76 = .ok (.iload_n 2, 1) := by decide +kernel
theorem d_Ye_passes_77 : decode b_Ye_passes 77 = .ok (.isub, 1) := by decide +kernel
theorem d_Ye_passes_78 : decode b_Ye_passes 78 = .ok (.ireturn, 1) := by decide +kernel
theorem d_Ye_drafts_0 : decode b_Ye_drafts 0 = .ok (.iload_n 1, 1) := by decide +kernel
theorem d_Ye_drafts_1 : decode b_Ye_drafts 1 = .ok (.iconst 0, 1) := by decide +kernel
theorem d_Ye_drafts_2 : decode b_Ye_drafts 2 = .ok (.bipush 99, 2) := by decide +kernel
theorem d_Ye_drafts_4 : decode b_Ye_drafts 4 = .ok (.invokestatic 65, 3) := by decide +kernel
theorem d_Ye_drafts_7 : decode b_Ye_drafts 7 = .ok (.ifCond .eq 5, 3) := by decide +kernel
theorem d_Ye_drafts_10 : decode b_Ye_drafts 10 = .ok (.iconst (-1), 1) := by decide +kernel
theorem d_Ye_drafts_11 : decode b_Ye_drafts 11 = .ok (.ireturn, 1) := by decide +kernel
theorem d_Ye_drafts_12 : decode b_Ye_drafts 12 = .ok (.aload_n 0, 1) := by decide +kernel
theorem d_Ye_drafts_13 : decode b_Ye_drafts 13 = .ok (.getfield 10, 3) := by decide +kernel
theorem d_Ye_drafts_16 : decode b_Ye_drafts 16 = .ok (.getfield 101, 3) := by decide +kernel
theorem d_Ye_drafts_19 : decode b_Ye_drafts 19 = .ok (.istore_n 2, 1) := by decide +kernel
theorem d_Ye_drafts_20 : decode b_Ye_drafts 20 = .ok (.iload_n 2, 1) := by decide +kernel
theorem d_Ye_drafts_21 : decode b_Ye_drafts 21 = .ok (.iload_n 1, 1) := by decide +kernel
theorem d_Ye_drafts_22 : decode b_Ye_drafts 22 = .ok (.if_icmp .ne 6, 3) := by decide +kernel
theorem d_Ye_drafts_25 : decode b_Ye_drafts 25 = .ok (.bipush (-2), 2) := by decide +kernel
theorem d_Ye_drafts_27 : decode b_Ye_drafts 27 = .ok (.ireturn, 1) := by decide +kernel
theorem d_Ye_drafts_28 : decode b_Ye_drafts 28 = .ok (.aload_n 0, 1) := by decide +kernel
theorem d_Ye_drafts_29 : decode b_Ye_drafts 29 = .ok (.getfield 29, 3) := by decide +kernel
theorem d_Ye_drafts_32 : decode b_Ye_drafts 32 = .ok (.aload_n 0, 1) := by decide +kernel
theorem d_Ye_drafts_33 : decode b_Ye_drafts 33 = .ok (.getfield 10, 3) := by decide +kernel
theorem d_Ye_drafts_36 : decode b_Ye_drafts 36 = .ok (.invokevirtual 85, 3) := by decide +kernel
theorem d_Ye_drafts_39 : decode b_Ye_drafts 39 = .ok (.aload_n 0, 1) := by decide +kernel
theorem d_Ye_drafts_40 : decode b_Ye_drafts 40 = .ok (.getfield 10, 3) := by decide +kernel
theorem d_Ye_drafts_43 : decode b_Ye_drafts 43 = .ok (.iload_n 1, 1) := by decide +kernel
theorem d_Ye_drafts_44 : decode b_Ye_drafts 44 = .ok (.putfield 101, 3) := by decide +kernel
theorem d_Ye_drafts_47 : decode b_Ye_drafts 47 = .ok (.iload_n 2, 1) := by decide +kernel
theorem d_Ye_drafts_48 : decode b_Ye_drafts 48 = .ok (.ireturn, 1) := by decide +kernel
theorem d_Ye_caps_0 : decode b_Ye_caps 0 = .ok (.iload_n 1, 1) := by decide +kernel
theorem d_Ye_caps_1 : decode b_Ye_caps 1 = .ok (.iconst 0, 1) := by decide +kernel
theorem d_Ye_caps_2 : decode b_Ye_caps 2 = .ok (.sipush 999, 3) := by decide +kernel
theorem d_Ye_caps_5 : decode b_Ye_caps 5 = .ok (.invokestatic 65, 3) := by decide +kernel
theorem d_Ye_caps_8 : decode b_Ye_caps 8 = .ok (.ifCond .eq 5, 3) := by decide +kernel
theorem d_Ye_caps_11 : decode b_Ye_caps 11 = .ok (.iconst (-1), 1) := by decide +kernel
theorem d_Ye_caps_12 : decode b_Ye_caps 12 = .ok (.ireturn, 1) := by decide +kernel
theorem d_Ye_caps_13 : decode b_Ye_caps 13 = .ok (.aload_n 0, 1) := by decide +kernel
theorem d_Ye_caps_14 : decode b_Ye_caps 14 = .ok (.getfield 10, 3) := by decide +kernel
theorem d_Ye_caps_17 : decode b_Ye_caps 17 = .ok (.getfield 104, 3) := by decide +kernel
theorem d_Ye_caps_20 : decode b_Ye_caps 20 = .ok (.istore_n 2, 1) := by decide +kernel
theorem d_Ye_caps_21 : decode b_Ye_caps 21 = .ok (.iload_n 2, 1) := by decide +kernel
theorem d_Ye_caps_22 : decode b_Ye_caps 22 = .ok (.iload_n 1, 1) := by decide +kernel
theorem d_Ye_caps_23 : decode b_Ye_caps 23 = .ok (.if_icmp .ne 6, 3) := by decide +kernel
theorem d_Ye_caps_26 : decode b_Ye_caps 26 = .ok (.bipush (-2), 2) := by decide +kernel
theorem d_Ye_caps_28 : decode b_Ye_caps 28 = .ok (.ireturn, 1) := by decide +kernel
theorem d_Ye_caps_29 : decode b_Ye_caps 29 = .ok (.aload_n 0, 1) := by decide +kernel
theorem d_Ye_caps_30 : decode b_Ye_caps 30 = .ok (.getfield 29, 3) := by decide +kernel
theorem d_Ye_caps_33 : decode b_Ye_caps 33 = .ok (.aload_n 0, 1) := by decide +kernel
theorem d_Ye_caps_34 : decode b_Ye_caps 34 = .ok (.getfield 10, 3) := by decide +kernel
theorem d_Ye_caps_37 : decode b_Ye_caps 37 = .ok (.invokevirtual 85, 3) := by decide +kernel
theorem d_Ye_caps_40 : decode b_Ye_caps 40 = .ok (.aload_n 0, 1) := by decide +kernel
theorem d_Ye_caps_41 : decode b_Ye_caps 41 = .ok (.getfield 10, 3) := by decide +kernel
theorem d_Ye_caps_44 : decode b_Ye_caps 44 = .ok (.iload_n 1, 1) := by decide +kernel
theorem d_Ye_caps_45 : decode b_Ye_caps 45 = .ok (.invokevirtual 107, 3) := by decide +kernel
theorem d_Ye_caps_48 : decode b_Ye_caps 48 = .ok (.iload_n 2, 1) := by decide +kernel
theorem d_Ye_caps_49 : decode b_Ye_caps 49 = .ok (.ireturn, 1) := by decide +kernel
theorem d_Ye_flows_0 : decode b_Ye_flows 0 = .ok (.aload_n 0, 1) := by decide +kernel
theorem d_Ye_flows_1 : decode b_Ye_flows 1 = .ok (.getfield 10, 3) := by decide +kernel
theorem d_Ye_flows_4 : decode b_Ye_flows 4 = .ok (.iload_n 1, 1) := by decide +kernel
theorem d_Ye_flows_5 : decode b_Ye_flows 5 = .ok (.invokevirtual 111, 3) := by decide +kernel
theorem d_Ye_flows_8 : decode b_Ye_flows 8 = .ok (.ifCond .ne 13, 3) := by decide +kernel
theorem d_Ye_flows_11 : decode b_Ye_flows 11 = .ok (.iload_n 2, 1) := by decide +kernel
theorem d_Ye_flows_12 : decode b_Ye_flows 12 = .ok (.iconst 0, 1) := by decide +kernel
theorem d_Ye_flows_13 : decode b_Ye_flows 13 = .ok (.bipush 99, 2) := by decide +kernel
theorem d_Ye_flows_15 : decode b_Ye_flows 15 = .ok (.invokestatic 65, 3) := by decide +kernel
theorem d_Ye_flows_18 : decode b_Ye_flows 18 = .ok (.ifCond .eq 5, 3) := by decide +kernel
theorem d_Ye_flows_21 : decode b_Ye_flows 21 = .ok (.iconst (-1), 1) := by decide +kernel
theorem d_Ye_flows_22 : decode b_Ye_flows 22 = .ok (.ireturn, 1) := by decide +kernel
theorem d_Ye_flows_23 : decode b_Ye_flows 23 = .ok (.aload_n 0, 1) := by decide +kernel
theorem d_Ye_flows_24 : decode b_Ye_flows 24 = .ok (.getfield 10, 3) := by decide +kernel
theorem d_Ye_flows_27 : decode b_Ye_flows 27 = .ok (.iload_n 1, 1) := by decide +kernel
theorem d_Ye_flows_28 : decode b_Ye_flows 28 = .ok (.invokevirtual 114, 3) := by decide +kernel
theorem d_Ye_flows_31 : decode b_Ye_flows 31 = .ok (.istore_n 3, 1) := by decide +kernel
theorem d_Ye_flows_32 : decode b_Ye_flows 32 = .ok (.iload_n 3, 1) := by decide +kernel
theorem d_Ye_flows_33 : decode b_Ye_flows 33 = .ok (.iload_n 2, 1) := by decide +kernel
theorem d_Ye_flows_34 : decode b_Ye_flows 34 = .ok (.if_icmp .ne 6, 3) := by decide +kernel
theorem d_Ye_flows_37 : decode b_Ye_flows 37 = .ok (.bipush (-2), 2) := by decide +kernel
theorem d_Ye_flows_39 : decode b_Ye_flows 39 = .ok (.ireturn, 1) := by decide +kernel
theorem d_Ye_flows_40 : decode b_Ye_flows 40 = .ok (.aload_n 0, 1) := by decide +kernel
theorem d_Ye_flows_41 : decode b_Ye_flows 41 = .ok (.getfield 29, 3) := by decide +kernel
theorem d_Ye_flows_44 : decode b_Ye_flows 44 = .ok (.aload_n 0, 1) := by decide +kernel
theorem d_Ye_flows_45 : decode b_Ye_flows 45 = .ok (.getfield 10, 3) := by decide +kernel
theorem d_Ye_flows_48 : decode b_Ye_flows 48 = .ok (.invokevirtual 85, 3) := by decide +kernel
theorem d_Ye_flows_51 : decode b_Ye_flows 51 = .ok (.aload_n 0, 1) := by decide +kernel
theorem d_Ye_flows_52 : decode b_Ye_flows 52 = .ok (.getfield 10, 3) := by decide +kernel
theorem d_Ye_flows_55 : decode b_Ye_flows 55 = .ok (.iload_n 1, 1) := by decide +kernel
theorem d_Ye_flows_56 : decode b_Ye_flows 56 = .ok (.iload_n 2, 1) := by decide +kernel
theorem d_Ye_flows_57 : decode b_Ye_flows 57 = .ok (.invokevirtual 118, 3) := by decide +kernel
theorem d_Ye_flows_60 : decode b_Ye_flows 60 = .ok (.iload_n 3, 1) := by decide +kernel
theorem d_Ye_flows_61 : decode b_Ye_flows 61 = .ok (.ireturn, 1) := by decide +kernel
theorem d_Ye_undo_0 : decode b_Ye_undo 0 = .ok (.aload_n 0, 1) := by decide +kernel
theorem d_Ye_undo_1 : decode b_Ye_undo 1 = .ok (.getfield 29, 3) := by decide +kernel
theorem d_Ye_undo_4 : decode b_Ye_undo 4 = .ok (.aload_n 0, 1) := by decide +kernel
theorem d_Ye_undo_5 : decode b_Ye_undo 5 = .ok (.getfield 10, 3) := by decide +kernel
theorem d_Ye_undo_8 : decode b_Ye_undo 8 = .ok (.invokevirtual 122, 3) := by decide +kernel
theorem d_Ye_undo_11 : decode b_Ye_undo 11 = .ok (.ifCond .eq 13, 3) := by decide +kernel
theorem d_Ye_undo_14 : decode b_Ye_undo 14 = .ok (.aload_n 0, 1) := by decide +kernel
theorem d_Ye_undo_15 : decode b_Ye_undo 15 = .ok (.getfield 29, 3) := by decide +kernel
theorem d_Ye_undo_18 : decode b_Ye_undo 18 = .ok (.getfield 126, 3) := by decide +kernel
theorem d_Ye_undo_21 : decode b_Ye_undo 21 = .ok (.goto 5, 3) := by decide +kernel
theorem d_Ye_undo_24 : decode b_Ye_undo 24 = .ok (.bipush (-2), 2) := by decide +kernel
theorem d_Ye_undo_26 : decode b_Ye_undo 26 = .ok (.ireturn, 1) := by decide +kernel
theorem d_Ye_inflow_0 : decode b_Ye_inflow 0 = .ok (.aload_n 0, 1) := by decide +kernel
theorem d_Ye_inflow_1 : decode b_Ye_inflow 1 = .ok (.getfield 10, 3) := by decide +kernel
theorem d_Ye_inflow_4 : decode b_Ye_inflow 4 = .ok (.iload_n 1, 1) := by decide +kernel
theorem d_Ye_inflow_5 : decode b_Ye_inflow 5 = .ok (.invokevirtual 111, 3) := by decide +kernel
theorem d_Ye_inflow_8 : decode b_Ye_inflow 8 = .ok (.ifCond .eq 7, 3) := by decide +kernel
theorem d_Ye_inflow_11 : decode b_Ye_inflow 11 = .ok (.iconst (-1), 1) := by decide +kernel
theorem d_Ye_inflow_12 : decode b_Ye_inflow 12 = .ok (.goto 11, 3) := by decide +kernel
theorem d_Ye_inflow_15 : decode b_Ye_inflow 15 = .ok (.aload_n 0, 1) := by decide +kernel
theorem d_Ye_inflow_16 : decode b_Ye_inflow 16 = .ok (.getfield 10, 3) := by decide +kernel
theorem d_Ye_inflow_19 : decode b_Ye_inflow 19 = .ok (.iload_n 1, 1) := by decide +kernel
theorem d_Ye_inflow_20 : decode b_Ye_inflow 20 = .ok (.invokevirtual 114, 3) := by decide +kernel
theorem d_Ye_inflow_23 : decode b_Ye_inflow 23 = .ok (.ireturn, 1) := by decide +kernel
theorem d_Ye_loss_0 : decode b_Ye_loss 0 = .ok (.iload_n 1, 1) := by decide +kernel
theorem d_Ye_loss_1 : decode b_Ye_loss 1 = .ok (.iconst 0, 1) := by decide +kernel
theorem d_Ye_loss_2 : decode b_Ye_loss 2 = .ok (.sipush 999, 3) := by decide +kernel
theorem d_Ye_loss_5 : decode b_Ye_loss 5 = .ok (.invokestatic 65, 3) := by decide +kernel
theorem d_Ye_loss_8 : decode b_Ye_loss 8 = .ok (.ifCond .eq 7, 3) := by decide +kernel
theorem d_Ye_loss_11 : decode b_Ye_loss 11 = .ok (.iconst (-1), 1) := by decide +kernel
theorem d_Ye_loss_12 : decode b_Ye_loss 12 = .ok (.goto 11, 3) := by decide +kernel
theorem d_Ye_loss_15 : decode b_Ye_loss 15 = .ok (.aload_n 0, 1) := by decide +kernel
theorem d_Ye_loss_16 : decode b_Ye_loss 16 = .ok (.getfield 10, 3) := by decide +kernel
theorem d_Ye_loss_19 : decode b_Ye_loss 19 = .ok (.iload_n 1, 1) := by decide +kernel
theorem d_Ye_loss_20 : decode b_Ye_loss 20 = .ok (.invokevirtual 129, 3) := by decide +kernel
theorem d_Ye_loss_23 : decode b_Ye_loss 23 = .ok (.ireturn, 1) := by decide +kernel
theorem d_Ye_lowest_0 : decode b_Ye_lowest 0 = .ok (.iload_n 1, 1) := by decide +kernel
theorem d_Ye_lowest_1 : decode b_Ye_lowest 1 = .ok (.iconst 0, 1) := by decide +kernel
theorem d_Ye_lowest_2 : decode b_Ye_lowest 2 = .ok (.aload_n 0, 1) := by decide +kernel
theorem d_Ye_lowest_3 : decode b_Ye_lowest 3 = .ok (.getfield 10, 3) := by decide +kernel
theorem d_Ye_lowest_6 : decode b_Ye_lowest 6 = .ok (.getfield 132, 3) := by decide +kernel
theorem d_Ye_lowest_9 : decode b_Ye_lowest 9 = .ok (.invokestatic 65, 3) := by decide +kernel
theorem d_Ye_lowest_12 : decode b_Ye_lowest 12 = .ok (.ifCond .eq 5, 3) := by decide +kernel
theorem d_Ye_lowest_15 : decode b_Ye_lowest 15 = .ok (.iconst (-1), 1) := by decide +kernel
theorem d_Ye_lowest_16 : decode b_Ye_lowest 16 = .ok (.ireturn, 1) := by decide +kernel
theorem d_Ye_lowest_17 : decode b_Ye_lowest 17 = .ok (.aload_n 0, 1) := by decide +kernel
theorem d_Ye_lowest_18 : decode b_Ye_lowest 18 = .ok (.getfield 36, 3) := by decide +kernel
theorem d_Ye_lowest_21 : decode b_Ye_lowest 21 = .ok (.aload_n 0, 1) := by decide +kernel
theorem d_Ye_lowest_22 : decode b_Ye_lowest 22 = .ok (.getfield 10, 3) := by decide +kernel
theorem d_Ye_lowest_25 : decode b_Ye_lowest 25 = .ok (.invokevirtual 135, 3) := by decide +kernel
theorem d_Ye_lowest_28 : decode b_Ye_lowest 28 = .ok (.aload_n 0, 1) := by decide +kernel
theorem d_Ye_lowest_29 : decode b_Ye_lowest 29 = .ok (.getfield 36, 3) := by decide +kernel
theorem d_Ye_lowest_32 : decode b_Ye_lowest 32 = .ok (.iload_n 1, 1) := by decide +kernel
theorem d_Ye_lowest_33 : decode b_Ye_lowest 33 = .ok (.invokevirtual 138, 3) := by decide +kernel
theorem d_Ye_lowest_36 : decode b_Ye_lowest 36 = .ok (.ireturn, 1) := by decide +kernel
theorem d_Ye_need_0 : decode b_Ye_need 0 = .ok (.iload_n 1, 1) := by decide +kernel
theorem d_Ye_need_1 : decode b_Ye_need 1 = .ok (.iconst 0, 1) := by decide +kernel
theorem d_Ye_need_2 : decode b_Ye_need 2 = .ok (.bipush 99, 2) := by decide +kernel
theorem d_Ye_need_4 : decode b_Ye_need 4 = .ok (.invokestatic 65, 3) := by decide +kernel
theorem d_Ye_need_7 : decode b_Ye_need 7 = .ok (.ifCond .eq 5, 3) := by decide +kernel
theorem d_Ye_need_10 : decode b_Ye_need 10 = .ok (.iconst (-1), 1) := by decide +kernel
theorem d_Ye_need_11 : decode b_Ye_need 11 = .ok (.ireturn, 1) := by decide +kernel
theorem d_Ye_need_12 : decode b_Ye_need 12 = .ok (.aload_n 0, 1) := by decide +kernel
theorem d_Ye_need_13 : decode b_Ye_need 13 = .ok (.getfield 36, 3) := by decide +kernel
theorem d_Ye_need_16 : decode b_Ye_need 16 = .ok (.aload_n 0, 1) := by decide +kernel
theorem d_Ye_need_17 : decode b_Ye_need 17 = .ok (.getfield 10, 3) := by decide +kernel
theorem d_Ye_need_20 : decode b_Ye_need 20 = .ok (.invokevirtual 135, 3) := by decide +kernel
theorem d_Ye_need_23 : decode b_Ye_need 23 = .ok (.aload_n 0, 1) := by decide +kernel
theorem d_Ye_need_24 : decode b_Ye_need 24 = .ok (.getfield 36, 3) := by decide +kernel
theorem d_Ye_need_27 : decode b_Ye_need 27 = .ok (.iload_n 1, 1) := by decide +kernel
theorem d_Ye_need_28 : decode b_Ye_need 28 = .ok (.invokevirtual 141, 3) := by decide +kernel
theorem d_Ye_need_31 : decode b_Ye_need 31 = .ok (.ifCond .eq 8, 3) := by decide +kernel
theorem d_Ye_need_34 : decode b_Ye_need 34 = .ok (.bipush (-9), 2) := by decide +kernel
theorem d_Ye_need_36 : decode b_Ye_need 36 = .ok (.goto 11, 3) := by decide +kernel
theorem d_Ye_need_39 : decode b_Ye_need 39 = .ok (.aload_n 0, 1) := by decide +kernel
theorem d_Ye_need_40 : decode b_Ye_need 40 = .ok (.getfield 36, 3) := by decide +kernel
theorem d_Ye_need_43 : decode b_Ye_need 43 = .ok (.iload_n 1, 1) := by decide +kernel
theorem d_Ye_need_44 : decode b_Ye_need 44 = .ok (.invokevirtual 144, 3) := by decide +kernel
theorem d_Ye_need_47 : decode b_Ye_need 47 = .ok (.ireturn, 1) := by decide +kernel
theorem d_Ye_sure_0 : decode b_Ye_sure 0 = .ok (.iload_n 1, 1) := by decide +kernel
theorem d_Ye_sure_1 : decode b_Ye_sure 1 = .ok (.iconst 0, 1) := by decide +kernel
theorem d_Ye_sure_2 : decode b_Ye_sure 2 = .ok (.sipush 999, 3) := by decide +kernel
theorem d_Ye_sure_5 : decode b_Ye_sure 5 = .ok (.invokestatic 65, 3) := by decide +kernel
theorem d_Ye_sure_8 : decode b_Ye_sure 8 = .ok (.ifCond .ne 12, 3) := by decide +kernel
theorem d_Ye_sure_11 : decode b_Ye_sure 11 = .ok (.iload_n 2, 1) := by decide +kernel
theorem d_Ye_sure_12 : decode b_Ye_sure 12 = .ok (.iconst 0, 1) := by decide +kernel
theorem d_Ye_sure_13 : decode b_Ye_sure 13 = .ok (.iconst 1, 1) := by decide +kernel
theorem d_Ye_sure_14 : decode b_Ye_sure 14 = .ok (.invokestatic 65, 3) := by decide +kernel
theorem d_Ye_sure_17 : decode b_Ye_sure 17 = .ok (.ifCond .eq 5, 3) := by decide +kernel
theorem d_Ye_sure_20 : decode b_Ye_sure 20 = .ok (.iconst (-1), 1) := by decide +kernel
theorem d_Ye_sure_21 : decode b_Ye_sure 21 = .ok (.ireturn, 1) := by decide +kernel
theorem d_Ye_sure_22 : decode b_Ye_sure 22 = .ok (.aload_n 0, 1) := by decide +kernel
theorem d_Ye_sure_23 : decode b_Ye_sure 23 = .ok (.getfield 36, 3) := by decide +kernel
theorem d_Ye_sure_26 : decode b_Ye_sure 26 = .ok (.aload_n 0, 1) := by decide +kernel
theorem d_Ye_sure_27 : decode b_Ye_sure 27 = .ok (.getfield 10, 3) := by decide +kernel
theorem d_Ye_sure_30 : decode b_Ye_sure 30 = .ok (.invokevirtual 135, 3) := by decide +kernel
theorem d_Ye_sure_33 : decode b_Ye_sure 33 = .ok (.aload_n 0, 1) := by decide +kernel
theorem d_Ye_sure_34 : decode b_Ye_sure 34 = .ok (.getfield 36, 3) := by decide +kernel
theorem d_Ye_sure_37 : decode b_Ye_sure 37 = .ok (.iload_n 1, 1) := by decide +kernel
theorem d_Ye_sure_38 : decode b_Ye_sure 38 = .ok (.invokevirtual 147, 3) := by decide +kernel
theorem d_Ye_sure_41 : decode b_Ye_sure 41 = .ok (.aload_n 0, 1) := by decide +kernel
theorem d_Ye_sure_42 : decode b_Ye_sure 42 = .ok (.getfield 36, 3) := by decide +kernel
theorem d_Ye_sure_45 : decode b_Ye_sure 45 = .ok (.getfield 150, 3) := by decide +kernel
theorem d_Ye_sure_48 : decode b_Ye_sure 48 = .ok (.iload_n 2, 1) := by decide +kernel
theorem d_Ye_sure_49 : decode b_Ye_sure 49 = .ok (.invokevirtual 153, 3) := by decide +kernel
theorem d_Ye_sure_52 : decode b_Ye_sure 52 = .ok (.ireturn, 1) := by decide +kernel
theorem d_Ye_piece_0 : decode b_Ye_piece 0 = .ok (.iload_n 1, 1) := by decide +kernel
theorem d_Ye_piece_1 : decode b_Ye_piece 1 = .ok (.iconst (-1), 1) := by decide +kernel
theorem d_Ye_piece_2 : decode b_Ye_piece 2 = .ok (.if_icmp .ne 7, 3) := by decide +kernel
theorem d_Ye_piece_5 : decode b_Ye_piece 5 = .ok (.iconst 1, 1) := by decide +kernel
theorem d_Ye_piece_6 : decode b_Ye_piece 6 = .ok (.goto 4, 3) := by decide +kernel
theorem d_Ye_piece_9 : decode b_Ye_piece 9 = .ok (.iconst 0, 1) := by decide +kernel
theorem d_Ye_piece_10 : decode b_Ye_piece 10 = .ok (.istore_n 3, 1) := by decide +kernel
theorem d_Ye_piece_11 : decode b_Ye_piece 11 = .ok (.iload_n 1, 1) := by decide +kernel
theorem d_Ye_piece_12 : decode b_Ye_piece 12 = .ok (.iconst (-1), 1) := by decide +kernel
theorem d_Ye_piece_13 : decode b_Ye_piece 13 = .ok (.if_icmp .lt 20, 3) := by decide +kernel
theorem d_Ye_piece_16 : decode b_Ye_piece 16 = .ok (.iload_n 2, 1) := by decide +kernel
theorem d_Ye_piece_17 : decode b_Ye_piece 17 = .ok (.iconst 0, 1) := by decide +kernel
theorem d_Ye_piece_18 : decode b_Ye_piece 18 = .ok (.iload_n 3, 1) := by decide +kernel
theorem d_Ye_piece_19 : decode b_Ye_piece 19 = .ok (.ifCond .eq 7, 3) := by decide +kernel
theorem d_Ye_piece_22 : decode b_Ye_piece 22 = .ok (.iconst 0, 1) := by decide +kernel
theorem d_Ye_piece_23 : decode b_Ye_piece 23 = .ok (.goto 4, 3) := by decide +kernel
theorem d_Ye_piece_26 : decode b_Ye_piece 26 = .ok (.iconst 2, 1) := by decide +kernel
theorem d_Ye_piece_27 : decode b_Ye_piece 27 = .ok (.invokestatic 65, 3) := by decide +kernel
theorem d_Ye_piece_30 : decode b_Ye_piece 30 = .ok (.ifCond .eq 5, 3) := by decide +kernel
theorem d_Ye_piece_33 : decode b_Ye_piece 33 = .ok (.iconst (-1), 1) := by decide +kernel
theorem d_Ye_piece_34 : decode b_Ye_piece 34 = .ok (.ireturn, 1) := by decide +kernel
theorem d_Ye_piece_35 : decode b_Ye_piece 35 = .ok (.aload_n 0, 1) := by decide +kernel
theorem d_Ye_piece_36 : decode b_Ye_piece 36 = .ok (.getfield 36, 3) := by decide +kernel
theorem d_Ye_piece_39 : decode b_Ye_piece 39 = .ok (.aload_n 0, 1) := by decide +kernel
theorem d_Ye_piece_40 : decode b_Ye_piece 40 = .ok (.getfield 10, 3) := by decide +kernel
theorem d_Ye_piece_43 : decode b_Ye_piece 43 = .ok (.invokevirtual 135, 3) := by decide +kernel
theorem d_Ye_piece_46 : decode b_Ye_piece 46 = .ok (.iload_n 3, 1) := by decide +kernel
theorem d_Ye_piece_47 : decode b_Ye_piece 47 = .ok (.ifCond .eq 11, 3) := by decide +kernel
theorem d_Ye_piece_50 : decode b_Ye_piece 50 = .ok (.aload_n 0, 1) := by decide +kernel
theorem d_Ye_piece_51 : decode b_Ye_piece 51 = .ok (.getfield 36, 3) := by decide +kernel
theorem d_Ye_piece_54 : decode b_Ye_piece 54 = .ok (.invokevirtual 156, 3) := by decide +kernel
theorem d_Ye_piece_57 : decode b_Ye_piece 57 = .ok (.ireturn, 1) := by decide +kernel
theorem d_Ye_piece_58 : decode b_Ye_piece 58 = .ok (.aload_n 0, 1) := by decide +kernel
theorem d_Ye_piece_59 : decode b_Ye_piece 59 = .ok (.getfield 36, 3) := by decide +kernel
theorem d_Ye_piece_62 : decode b_Ye_piece 62 = .ok (.iload_n 1, 1) := by decide +kernel
theorem d_Ye_piece_63 : decode b_Ye_piece 63 = .ok (.invokevirtual 159, 3) := by decide +kernel
theorem d_Ye_piece_66 : decode b_Ye_piece 66 = .ok (.istore 4, 2) := by decide +kernel
theorem d_Ye_piece_68 : decode b_Ye_piece 68 = .ok (.iload 4, 2) := by decide +kernel
theorem d_Ye_piece_70 : decode b_Ye_piece 70 = .ok (.bipush (-9), 2) := by decide +kernel
theorem d_Ye_piece_72 : decode b_Ye_piece 72 = .ok (.if_icmp .eq 7, 3) := by decide +kernel
theorem d_Ye_piece_75 : decode b_Ye_piece 75 = .ok (.iload_n 2, 1) := by decide +kernel
theorem d_Ye_piece_76 : decode b_Ye_piece 76 = .ok (.ifCond .ne 6, 3) := by decide +kernel
theorem d_Ye_piece_79 : decode b_Ye_piece 79 = .ok (.iload 4, 2) := by decide +kernel
theorem d_Ye_piece_81 : decode b_Ye_piece 81 = .ok (.ireturn, 1) := by decide +kernel
theorem d_Ye_piece_82 : decode b_Ye_piece 82 = .ok (.aload_n 0, 1) := by decide +kernel
theorem d_Ye_piece_83 : decode b_Ye_piece 83 = .ok (.getfield 36, 3) := by decide +kernel
theorem d_Ye_piece_86 : decode b_Ye_piece 86 = .ok (.getfield 162, 3) := by decide +kernel
theorem d_Ye_piece_89 : decode b_Ye_piece 89 = .ok (.iload_n 2, 1) := by decide +kernel
theorem d_Ye_piece_90 : decode b_Ye_piece 90 = .ok (.iconst 1, 1) := by decide +kernel
theorem d_Ye_piece_91 : decode b_Ye_piece 91 = .ok (.isub, 1) := by decide +kernel
theorem d_Ye_piece_92 : decode b_Ye_piece 92 = .ok (.invokevirtual 153, 3) := by decide +kernel
theorem d_Ye_piece_95 : decode b_Ye_piece 95 = .ok (.ireturn, 1) := by decide +kernel
theorem d_Ye_least_0 : decode b_Ye_least 0 = .ok (.iload_n 1, 1) := by decide +kernel
theorem d_Ye_least_1 : decode b_Ye_least 1 = .ok (.iconst 1, 1) := by decide +kernel
theorem d_Ye_least_2 : decode b_Ye_least 2 = .ok (.bipush 120, 2) := by decide +kernel
theorem d_Ye_least_4 : decode b_Ye_least 4 = .ok (.invokestatic 65, 3) := by decide +kernel
theorem d_Ye_least_7 : decode b_Ye_least 7 = .ok (.ifCond .eq 7, 3) := by decide +kernel
theorem d_Ye_least_10 : decode b_Ye_least 10 = .ok (.iconst (-1), 1) := by decide +kernel
theorem d_Ye_least_11 : decode b_Ye_least 11 = .ok (.goto 15, 3) := by decide +kernel
theorem d_Ye_least_14 : decode b_Ye_least 14 = .ok (.aload_n 0, 1) := by decide +kernel
theorem d_Ye_least_15 : decode b_Ye_least 15 = .ok (.getfield 43, 3) := by decide +kernel
theorem d_Ye_least_18 : decode b_Ye_least 18 = .ok (.aload_n 0, 1) := by decide +kernel
theorem d_Ye_least_19 : decode b_Ye_least 19 = .ok (.getfield 10, 3) := by decide +kernel
theorem d_Ye_least_22 : decode b_Ye_least 22 = .ok (.iload_n 1, 1) := by decide +kernel
theorem d_Ye_least_23 : decode b_Ye_least 23 = .ok (.invokevirtual 165, 3) := by decide +kernel
theorem d_Ye_least_26 : decode b_Ye_least 26 = .ok (.ireturn, 1) := by decide +kernel
theorem d_Ye_round_0 : decode b_Ye_round 0 = .ok (.iload_n 1, 1) := by decide +kernel
theorem d_Ye_round_1 : decode b_Ye_round 1 = .ok (.iconst 0, 1) := by decide +kernel
theorem d_Ye_round_2 : decode b_Ye_round 2 = .ok (.iconst 2, 1) := by decide +kernel
theorem d_Ye_round_3 : decode b_Ye_round 3 = .ok (.invokestatic 65, 3) := by decide +kernel
theorem d_Ye_round_6 : decode b_Ye_round 6 = .ok (.ifCond .eq 5, 3) := by decide +kernel
theorem d_Ye_round_9 : decode b_Ye_round 9 = .ok (.iconst (-1), 1) := by decide +kernel
theorem d_Ye_round_10 : decode b_Ye_round 10 = .ok (.ireturn, 1) := by decide +kernel
theorem d_Ye_round_11 : decode b_Ye_round 11 = .ok (.aload_n 0, 1) := by decide +kernel
theorem d_Ye_round_12 : decode b_Ye_round 12 = .ok (.getfield 43, 3) := by decide +kernel
theorem d_Ye_round_15 : decode b_Ye_round 15 = .ok (.aload_n 0, 1) := by decide +kernel
theorem d_Ye_round_16 : decode b_Ye_round 16 = .ok (.getfield 10, 3) := by decide +kernel
theorem d_Ye_round_19 : decode b_Ye_round 19 = .ok (.invokevirtual 169, 3) := by decide +kernel
theorem d_Ye_round_22 : decode b_Ye_round 22 = .ok (.iload_n 1, 1) := by decide +kernel
theorem d_Ye_round_23 : decode b_Ye_round 23 = .ok (.ifCond .ne 11, 3) := by decide +kernel
theorem d_Ye_round_26 : decode b_Ye_round 26 = .ok (.aload_n 0, 1) := by decide +kernel
theorem d_Ye_round_27 : decode b_Ye_round 27 = .ok (.getfield 43, 3) := by decide +kernel
theorem d_Ye_round_30 : decode b_Ye_round 30 = .ok (.getfield 172, 3) := by decide +kernel
theorem d_Ye_round_33 : decode b_Ye_round 33 = .ok (.ireturn, 1) := by decide +kernel
theorem d_Ye_round_34 : decode b_Ye_round 34 = .ok (.iload_n 1, 1) := by decide +kernel
theorem d_Ye_round_35 : decode b_Ye_round 35 = .ok (.iconst 1, 1) := by decide +kernel
theorem d_Ye_round_36 : decode b_Ye_round 36 = .ok (.if_icmp .ne 13, 3) := by decide +kernel
theorem d_Ye_round_39 : decode b_Ye_round 39 = .ok (.aload_n 0, 1) := by decide +kernel
theorem d_Ye_round_40 : decode b_Ye_round 40 = .ok (.getfield 43, 3) := by decide +kernel
theorem d_Ye_round_43 : decode b_Ye_round 43 = .ok (.getfield 175, 3) := by decide +kernel
theorem d_Ye_round_46 : decode b_Ye_round 46 = .ok (.goto 10, 3) := by decide +kernel
theorem d_Ye_round_49 : decode b_Ye_round 49 = .ok (.aload_n 0, 1) := by decide +kernel
theorem d_Ye_round_50 : decode b_Ye_round 50 = .ok (.getfield 43, 3) := by decide +kernel
theorem d_Ye_round_53 : decode b_Ye_round 53 = .ok (.getfield 178, 3) := by decide +kernel
theorem d_Ye_round_56 : decode b_Ye_round 56 = .ok (.ireturn, 1) := by decide +kernel
theorem d_Ye_run_0 : decode b_Ye_run 0 = .ok (.iload_n 1, 1) := by decide +kernel
theorem d_Ye_run_1 : decode b_Ye_run 1 = .ok (.iconst 0, 1) := by decide +kernel
theorem d_Ye_run_2 : decode b_Ye_run 2 = .ok (.sipush 999, 3) := by decide +kernel
theorem d_Ye_run_5 : decode b_Ye_run 5 = .ok (.invokestatic 65, 3) := by decide +kernel
theorem d_Ye_run_8 : decode b_Ye_run 8 = .ok (.ifCond .eq 7, 3) := by decide +kernel
theorem d_Ye_run_11 : decode b_Ye_run 11 = .ok (.iconst (-1), 1) := by decide +kernel
theorem d_Ye_run_12 : decode b_Ye_run 12 = .ok (.goto 15, 3) := by decide +kernel
theorem d_Ye_run_15 : decode b_Ye_run 15 = .ok (.aload_n 0, 1) := by decide +kernel
theorem d_Ye_run_16 : decode b_Ye_run 16 = .ok (.getfield 43, 3) := by decide +kernel
theorem d_Ye_run_19 : decode b_Ye_run 19 = .ok (.aload_n 0, 1) := by decide +kernel
theorem d_Ye_run_20 : decode b_Ye_run 20 = .ok (.getfield 10, 3) := by decide +kernel
theorem d_Ye_run_23 : decode b_Ye_run 23 = .ok (.iload_n 1, 1) := by decide +kernel
theorem d_Ye_run_24 : decode b_Ye_run 24 = .ok (.invokevirtual 181, 3) := by decide +kernel
theorem d_Ye_run_27 : decode b_Ye_run 27 = .ok (.ireturn, 1) := by decide +kernel
theorem d_Ye_odds_0 : decode b_Ye_odds 0 = .ok (.iload_n 1, 1) := by decide +kernel
theorem d_Ye_odds_1 : decode b_Ye_odds 1 = .ok (.iconst 0, 1) := by decide +kernel
theorem d_Ye_odds_2 : decode b_Ye_odds 2 = .ok (.bipush 8, 2) := by decide +kernel
theorem d_Ye_odds_4 : decode b_Ye_odds 4 = .ok (.invokestatic 65, 3) := by decide +kernel
theorem d_Ye_odds_7 : decode b_Ye_odds 7 = .ok (.ifCond .ne 22, 3) := by decide +kernel
theorem d_Ye_odds_10 : decode b_Ye_odds 10 = .ok (.iload_n 2, 1) := by decide +kernel
theorem d_Ye_odds_11 : decode b_Ye_odds 11 = .ok (.iconst 0, 1) := by decide +kernel
theorem d_Ye_odds_12 : decode b_Ye_odds 12 = .ok (.bipush 10, 2) := by decide +kernel
theorem d_Ye_odds_14 : decode b_Ye_odds 14 = .ok (.invokestatic 65, 3) := by decide +kernel
theorem d_Ye_odds_17 : decode b_Ye_odds 17 = .ok (.ifCond .ne 12, 3) := by decide +kernel
theorem d_Ye_odds_20 : decode b_Ye_odds 20 = .ok (.iload_n 3, 1) := by decide +kernel
theorem d_Ye_odds_21 : decode b_Ye_odds 21 = .ok (.iconst 0, 1) := by decide +kernel
theorem d_Ye_odds_22 : decode b_Ye_odds 22 = .ok (.iconst 1, 1) := by decide +kernel
theorem d_Ye_odds_23 : decode b_Ye_odds 23 = .ok (.invokestatic 65, 3) := by decide +kernel
theorem d_Ye_odds_26 : decode b_Ye_odds 26 = .ok (.ifCond .eq 5, 3) := by decide +kernel
theorem d_Ye_odds_29 : decode b_Ye_odds 29 = .ok (.iconst (-1), 1) := by decide +kernel
theorem d_Ye_odds_30 : decode b_Ye_odds 30 = .ok (.ireturn, 1) := by decide +kernel
theorem d_Ye_odds_31 : decode b_Ye_odds 31 = .ok (.iconst 1, 1) := by decide +kernel
theorem d_Ye_odds_32 : decode b_Ye_odds 32 = .ok (.istore 4, 2) := by decide +kernel
theorem d_Ye_odds_34 : decode b_Ye_odds 34 = .ok (.iconst 0, 1) := by decide +kernel
theorem d_Ye_odds_35 : decode b_Ye_odds 35 = .ok (.istore 5, 2) := by decide +kernel
theorem d_Ye_odds_37 : decode b_Ye_odds 37 = .ok (.iload 5, 2) := by decide +kernel
theorem d_Ye_odds_39 : decode b_Ye_odds 39 = .ok (.iload_n 1, 1) := by decide +kernel
theorem d_Ye_odds_40 : decode b_Ye_odds 40 = .ok (.if_icmp .ge 16, 3) := by decide +kernel
theorem d_Ye_odds_43 : decode b_Ye_odds 43 = .ok (.iload 4, 2) := by decide +kernel
theorem d_Ye_odds_45 : decode b_Ye_odds 45 = .ok (.bipush 10, 2) := by decide +kernel
theorem d_Ye_odds_47 : decode b_Ye_odds 47 = .ok (.imul, 1) := by decide +kernel
theorem d_Ye_odds_48 : decode b_Ye_odds 48 = .ok (.istore 4, 2) := by decide +kernel
theorem d_Ye_odds_50 : decode b_Ye_odds 50 = .ok (.iinc 5 1, 3) := by decide +kernel
theorem d_Ye_odds_53 : decode b_Ye_odds 53 = .ok (.goto (-16), 3) := by decide +kernel
theorem d_Ye_odds_56 : decode b_Ye_odds 56 = .ok (.aload_n 0, 1) := by decide +kernel
theorem d_Ye_odds_57 : decode b_Ye_odds 57 = .ok (.getfield 57, 3) := by decide +kernel
theorem d_Ye_odds_60 : decode b_Ye_odds 60 = .ok (.aload_n 0, 1) := by decide +kernel
theorem d_Ye_odds_61 : decode b_Ye_odds 61 = .ok (.getfield 10, 3) := by decide +kernel
theorem d_Ye_odds_64 : decode b_Ye_odds 64 = .ok (.aload_n 0, 1) := by decide +kernel
theorem d_Ye_odds_65 : decode b_Ye_odds 65 = .ok (.getfield 10, 3) := by decide +kernel
theorem d_Ye_odds_68 : decode b_Ye_odds 68 = .ok (.getfield 92, 3) := by decide +kernel
theorem d_Ye_odds_71 : decode b_Ye_odds 71 = .ok (.aload_n 0, 1) := by decide +kernel
theorem d_Ye_odds_72 : decode b_Ye_odds 72 = .ok (.getfield 10, 3) := by decide +kernel
theorem d_Ye_odds_75 : decode b_Ye_odds 75 = .ok (.getfield 184, 3) := by decide +kernel
theorem d_Ye_odds_78 : decode b_Ye_odds 78 = .ok (.iload_n 1, 1) := by decide +kernel
theorem d_Ye_odds_79 : decode b_Ye_odds 79 = .ok (.iload_n 2, 1) := by decide +kernel
theorem d_Ye_odds_80 : decode b_Ye_odds 80 = .ok (.invokestatic 187, 3) := by decide +kernel
theorem d_Ye_odds_83 : decode b_Ye_odds 83 = .ok (.iload 4, 2) := by decide +kernel
theorem d_Ye_odds_85 : decode b_Ye_odds 85 = .ok (.invokevirtual 191, 3) := by decide +kernel
theorem d_Ye_odds_88 : decode b_Ye_odds 88 = .ok (.aload_n 0, 1) := by decide +kernel
theorem d_Ye_odds_89 : decode b_Ye_odds 89 = .ok (.getfield 57, 3) := by decide +kernel
theorem d_Ye_odds_92 : decode b_Ye_odds 92 = .ok (.iload_n 3, 1) := by decide +kernel
theorem d_Ye_odds_93 : decode b_Ye_odds 93 = .ok (.invokevirtual 153, 3) := by decide +kernel
theorem d_Ye_odds_96 : decode b_Ye_odds 96 = .ok (.ireturn, 1) := by decide +kernel
theorem d_Ye_sees_0 : decode b_Ye_sees 0 = .ok (.iload_n 1, 1) := by decide +kernel
theorem d_Ye_sees_1 : decode b_Ye_sees 1 = .ok (.iconst 0, 1) := by decide +kernel
theorem d_Ye_sees_2 : decode b_Ye_sees 2 = .ok (.bipush 39, 2) := by decide +kernel
theorem d_Ye_sees_4 : decode b_Ye_sees 4 = .ok (.invokestatic 65, 3) := by decide +kernel
theorem d_Ye_sees_7 : decode b_Ye_sees 7 = .ok (.ifCond .ne 14, 3) := by decide +kernel
theorem d_Ye_sees_10 : decode b_Ye_sees 10 = .ok (.iload_n 2, 1) := by decide +kernel
theorem d_Ye_sees_11 : decode b_Ye_sees 11 = .ok (.iconst 0, 1) := by decide +kernel
theorem d_Ye_sees_12 : decode b_Ye_sees 12 = .ok (.sipush 999, 3) := by decide +kernel
theorem d_Ye_sees_15 : decode b_Ye_sees 15 = .ok (.invokestatic 65, 3) := by decide +kernel
theorem d_Ye_sees_18 : decode b_Ye_sees 18 = .ok (.ifCond .eq 5, 3) := by decide +kernel
theorem d_Ye_sees_21 : decode b_Ye_sees 21 = .ok (.iconst (-1), 1) := by decide +kernel
theorem d_Ye_sees_22 : decode b_Ye_sees 22 = .ok (.ireturn, 1) := by decide +kernel
theorem d_Ye_sees_23 : decode b_Ye_sees 23 = .ok (.aload_n 0, 1) := by decide +kernel
theorem d_Ye_sees_24 : decode b_Ye_sees 24 = .ok (.getfield 50, 3) := by decide +kernel
theorem d_Ye_sees_27 : decode b_Ye_sees 27 = .ok (.iload_n 1, 1) := by decide +kernel
theorem d_Ye_sees_28 : decode b_Ye_sees 28 = .ok (.iload_n 2, 1) := by decide +kernel
theorem d_Ye_sees_29 : decode b_Ye_sees 29 = .ok (.invokevirtual 194, 3) := by decide +kernel
theorem d_Ye_sees_32 : decode b_Ye_sees 32 = .ok (.ifCond .eq 13, 3) := by decide +kernel
theorem d_Ye_sees_35 : decode b_Ye_sees 35 = .ok (.aload_n 0, 1) := by decide +kernel
theorem d_Ye_sees_36 : decode b_Ye_sees 36 = .ok (.getfield 50, 3) := by decide +kernel
theorem d_Ye_sees_39 : decode b_Ye_sees 39 = .ok (.getfield 197, 3) := by decide +kernel
theorem d_Ye_sees_42 : decode b_Ye_sees 42 = .ok (.goto 5, 3) := by decide +kernel
theorem d_Ye_sees_45 : decode b_Ye_sees 45 = .ok (.bipush (-3), 2) := by decide +kernel
theorem d_Ye_sees_47 : decode b_Ye_sees 47 = .ok (.ireturn, 1) := by decide +kernel
theorem d_Ye_forget_0 : decode b_Ye_forget 0 = .ok (.aload_n 0, 1) := by decide +kernel
theorem d_Ye_forget_1 : decode b_Ye_forget 1 = .ok (.getfield 50, 3) := by decide +kernel
theorem d_Ye_forget_4 : decode b_Ye_forget 4 = .ok (.invokevirtual 200, 3) := by decide +kernel
theorem d_Ye_forget_7 : decode b_Ye_forget 7 = .ok (.ireturn, 1) := by decide +kernel
theorem d_Ye_fits_0 : decode b_Ye_fits 0 = .ok (.iload_n 1, 1) := by decide +kernel
theorem d_Ye_fits_1 : decode b_Ye_fits 1 = .ok (.iconst 0, 1) := by decide +kernel
theorem d_Ye_fits_2 : decode b_Ye_fits 2 = .ok (.iconst 1, 1) := by decide +kernel
theorem d_Ye_fits_3 : decode b_Ye_fits 3 = .ok (.invokestatic 65, 3) := by decide +kernel
theorem d_Ye_fits_6 : decode b_Ye_fits 6 = .ok (.ifCond .eq 5, 3) := by decide +kernel
theorem d_Ye_fits_9 : decode b_Ye_fits 9 = .ok (.iconst (-1), 1) := by decide +kernel
theorem d_Ye_fits_10 : decode b_Ye_fits 10 = .ok (.ireturn, 1) := by decide +kernel
theorem d_Ye_fits_11 : decode b_Ye_fits 11 = .ok (.aload_n 0, 1) := by decide +kernel
theorem d_Ye_fits_12 : decode b_Ye_fits 12 = .ok (.getfield 50, 3) := by decide +kernel
theorem d_Ye_fits_15 : decode b_Ye_fits 15 = .ok (.aload_n 0, 1) := by decide +kernel
theorem d_Ye_fits_16 : decode b_Ye_fits 16 = .ok (.getfield 10, 3) := by decide +kernel
theorem d_Ye_fits_19 : decode b_Ye_fits 19 = .ok (.invokevirtual 201, 3) := by decide +kernel
theorem d_Ye_fits_22 : decode b_Ye_fits 22 = .ok (.istore_n 2, 1) := by decide +kernel
theorem d_Ye_fits_23 : decode b_Ye_fits 23 = .ok (.iload_n 1, 1) := by decide +kernel
theorem d_Ye_fits_24 : decode b_Ye_fits 24 = .ok (.ifCond .ne 5, 3) := by decide +kernel
theorem d_Ye_fits_27 : decode b_Ye_fits 27 = .ok (.iload_n 2, 1) := by decide +kernel
theorem d_Ye_fits_28 : decode b_Ye_fits 28 = .ok (.ireturn, 1) := by decide +kernel
theorem d_Ye_fits_29 : decode b_Ye_fits 29 = .ok (.iload_n 2, 1) := by decide +kernel
theorem d_Ye_fits_30 : decode b_Ye_fits 30 = .ok (.ifCond .ne 8, 3) := by decide +kernel
theorem d_Ye_fits_33 : decode b_Ye_fits 33 = .ok (.bipush (-9), 2) := by decide +kernel
theorem d_Ye_fits_35 : decode b_Ye_fits 35 = .ok (.goto 10, 3) := by decide +kernel
theorem d_Ye_fits_38 : decode b_Ye_fits 38 = .ok (.aload_n 0, 1) := by decide +kernel
theorem d_Ye_fits_39 : decode b_Ye_fits 39 = .ok (.getfield 50, 3) := by decide +kernel
theorem d_Ye_fits_42 : decode b_Ye_fits 42 = .ok (.invokevirtual 204, 3) := by decide +kernel
theorem d_Ye_fits_45 : decode b_Ye_fits 45 = .ok (.ireturn, 1) := by decide +kernel
theorem d_Ye_look_0 : decode b_Ye_look 0 = .ok (.aload_n 0, 1) := by decide +kernel
theorem d_Ye_look_1 : decode b_Ye_look 1 = .ok (.getfield 50, 3) := by decide +kernel
theorem d_Ye_look_4 : decode b_Ye_look 4 = .ok (.aload_n 0, 1) := by decide +kernel
theorem d_Ye_look_5 : decode b_Ye_look 5 = .ok (.getfield 10, 3) := by decide +kernel
theorem d_Ye_look_8 : decode b_Ye_look 8 = .ok (.invokevirtual 201, 3) := by decide +kernel
theorem d_Ye_look_11 : decode b_Ye_look 11 = .ok (.iconst 1, 1) := by decide +kernel
theorem d_Ye_look_12 : decode b_Ye_look 12 = .ok (.if_icmp .le 17, 3) := by decide +kernel
theorem d_Ye_look_15 : decode b_Ye_look 15 = .ok (.aload_n 0, 1) := by decide +kernel
theorem d_Ye_look_16 : decode b_Ye_look 16 = .ok (.getfield 50, 3) := by decide +kernel
theorem d_Ye_look_19 : decode b_Ye_look 19 = .ok (.aload_n 0, 1) := by decide +kernel
theorem d_Ye_look_20 : decode b_Ye_look 20 = .ok (.getfield 10, 3) := by decide +kernel
theorem d_Ye_look_23 : decode b_Ye_look 23 = .ok (.invokevirtual 207, 3) := by decide +kernel
theorem d_Ye_look_26 : decode b_Ye_look 26 = .ok (.goto 5, 3) := by decide +kernel
theorem d_Ye_look_29 : decode b_Ye_look 29 = .ok (.bipush (-9), 2) := by decide +kernel
theorem d_Ye_look_31 : decode b_Ye_look 31 = .ok (.ireturn, 1) := by decide +kernel
theorem d_Ye_keep_0 : decode b_Ye_keep 0 = .ok (.iload_n 1, 1) := by decide +kernel
theorem d_Ye_keep_1 : decode b_Ye_keep 1 = .ok (.iconst 0, 1) := by decide +kernel
theorem d_Ye_keep_2 : decode b_Ye_keep 2 = .ok (.iconst 1, 1) := by decide +kernel
theorem d_Ye_keep_3 : decode b_Ye_keep 3 = .ok (.invokestatic 65, 3) := by decide +kernel
theorem d_Ye_keep_6 : decode b_Ye_keep 6 = .ok (.ifCond .eq 5, 3) := by decide +kernel
theorem d_Ye_keep_9 : decode b_Ye_keep 9 = .ok (.iconst (-1), 1) := by decide +kernel
theorem d_Ye_keep_10 : decode b_Ye_keep 10 = .ok (.ireturn, 1) := by decide +kernel
theorem d_Ye_keep_11 : decode b_Ye_keep 11 = .ok (.aload_n 0, 1) := by decide +kernel
theorem d_Ye_keep_12 : decode b_Ye_keep 12 = .ok (.getfield 61, 3) := by decide +kernel
theorem d_Ye_keep_15 : decode b_Ye_keep 15 = .ok (.iload_n 1, 1) := by decide +kernel
theorem d_Ye_keep_16 : decode b_Ye_keep 16 = .ok (.aaload, 1) := by decide +kernel
theorem d_Ye_keep_17 : decode b_Ye_keep 17 = .ok (.ifnonnull 16, 3) := by decide +kernel
theorem d_Ye_keep_20 : decode b_Ye_keep 20 = .ok (.aload_n 0, 1) := by decide +kernel
theorem d_Ye_keep_21 : decode b_Ye_keep 21 = .ok (.getfield 61, 3) := by decide +kernel
theorem d_Ye_keep_24 : decode b_Ye_keep 24 = .ok (.iload_n 1, 1) := by decide +kernel
theorem d_Ye_keep_25 : decode b_Ye_keep 25 = .ok (.new 7, 3) := by decide +kernel
theorem d_Ye_keep_28 : decode b_Ye_keep 28 = .ok (.dup, 1) := by decide +kernel
theorem d_Ye_keep_29 : decode b_Ye_keep 29 = .ok (.invokespecial 9, 3) := by decide +kernel
theorem d_Ye_keep_32 : decode b_Ye_keep 32 = .ok (.aastore, 1) := by decide +kernel
theorem d_Ye_keep_33 : decode b_Ye_keep 33 = .ok (.aload_n 0, 1) := by decide +kernel
theorem d_Ye_keep_34 : decode b_Ye_keep 34 = .ok (.getfield 61, 3) := by decide +kernel
theorem d_Ye_keep_37 : decode b_Ye_keep 37 = .ok (.iload_n 1, 1) := by decide +kernel
theorem d_Ye_keep_38 : decode b_Ye_keep 38 = .ok (.aaload, 1) := by decide +kernel
theorem d_Ye_keep_39 : decode b_Ye_keep 39 = .ok (.aload_n 0, 1) := by decide +kernel
theorem d_Ye_keep_40 : decode b_Ye_keep 40 = .ok (.getfield 10, 3) := by decide +kernel
theorem d_Ye_keep_43 : decode b_Ye_keep 43 = .ok (.invokevirtual 89, 3) := by decide +kernel
theorem d_Ye_keep_46 : decode b_Ye_keep 46 = .ok (.aload_n 0, 1) := by decide +kernel
theorem d_Ye_keep_47 : decode b_Ye_keep 47 = .ok (.getfield 10, 3) := by decide +kernel
theorem d_Ye_keep_50 : decode b_Ye_keep 50 = .ok (.getfield 92, 3) := by decide +kernel
theorem d_Ye_keep_53 : decode b_Ye_keep 53 = .ok (.ireturn, 1) := by decide +kernel
theorem d_Ye_back_0 : decode b_Ye_back 0 = .ok (.iload_n 1, 1) := by decide +kernel
theorem d_Ye_back_1 : decode b_Ye_back 1 = .ok (.iconst 0, 1) := by decide +kernel
theorem d_Ye_back_2 : decode b_Ye_back 2 = .ok (.iconst 1, 1) := by decide +kernel
theorem d_Ye_back_3 : decode b_Ye_back 3 = .ok (.invokestatic 65, 3) := by decide +kernel
theorem d_Ye_back_6 : decode b_Ye_back 6 = .ok (.ifCond .eq 5, 3) := by decide +kernel
theorem d_Ye_back_9 : decode b_Ye_back 9 = .ok (.iconst (-1), 1) := by decide +kernel
theorem d_Ye_back_10 : decode b_Ye_back 10 = .ok (.ireturn, 1) := by decide +kernel
theorem d_Ye_back_11 : decode b_Ye_back 11 = .ok (.aload_n 0, 1) := by decide +kernel
theorem d_Ye_back_12 : decode b_Ye_back 12 = .ok (.getfield 61, 3) := by decide +kernel
theorem d_Ye_back_15 : decode b_Ye_back 15 = .ok (.iload_n 1, 1) := by decide +kernel
theorem d_Ye_back_16 : decode b_Ye_back 16 = .ok (.aaload, 1) := by decide +kernel
theorem d_Ye_back_17 : decode b_Ye_back 17 = .ok (.ifnonnull 6, 3) := by decide +kernel
theorem d_Ye_back_20 : decode b_Ye_back 20 = .ok (.bipush (-2), 2) := by decide +kernel
theorem d_Ye_back_22 : decode b_Ye_back 22 = .ok (.ireturn, 1) := by decide +kernel
theorem d_Ye_back_23 : decode b_Ye_back 23 = .ok (.aload_n 0, 1) := by decide +kernel
theorem d_Ye_back_24 : decode b_Ye_back 24 = .ok (.getfield 10, 3) := by decide +kernel
theorem d_Ye_back_27 : decode b_Ye_back 27 = .ok (.aload_n 0, 1) := by decide +kernel
theorem d_Ye_back_28 : decode b_Ye_back 28 = .ok (.getfield 61, 3) := by decide +kernel
theorem d_Ye_back_31 : decode b_Ye_back 31 = .ok (.iload_n 1, 1) := by decide +kernel
theorem d_Ye_back_32 : decode b_Ye_back 32 = .ok (.aaload, 1) := by decide +kernel
theorem d_Ye_back_33 : decode b_Ye_back 33 = .ok (.invokevirtual 89, 3) := by decide +kernel
theorem d_Ye_back_36 : decode b_Ye_back 36 = .ok (.aload_n 0, 1) := by decide +kernel
theorem d_Ye_back_37 : decode b_Ye_back 37 = .ok (.getfield 29, 3) := by decide +kernel
theorem d_Ye_back_40 : decode b_Ye_back 40 = .ok (.invokevirtual 210, 3) := by decide +kernel
theorem d_Ye_back_43 : decode b_Ye_back 43 = .ok (.aload_n 0, 1) := by decide +kernel
theorem d_Ye_back_44 : decode b_Ye_back 44 = .ok (.getfield 10, 3) := by decide +kernel
theorem d_Ye_back_47 : decode b_Ye_back 47 = .ok (.getfield 92, 3) := by decide +kernel
theorem d_Ye_back_50 : decode b_Ye_back 50 = .ok (.ireturn, 1) := by decide +kernel
theorem d_Ye_count_0 : decode b_Ye_count 0 = .ok (.iload_n 1, 1) := by decide +kernel
theorem d_Ye_count_1 : decode b_Ye_count 1 = .ok (.tableswitch 159 0 11 #[63, 71, 79, 87, 95, 103, 111, 119, 127, 135, 143, 151], 63) := by decide +kernel
theorem d_Ye_count_64 : decode b_Ye_count 64 = .ok (.aload_n 0, 1) := by decide +kernel
theorem d_Ye_count_65 : decode b_Ye_count 65 = .ok (.getfield 10, 3) := by decide +kernel
theorem d_Ye_count_68 : decode b_Ye_count 68 = .ok (.getfield 132, 3) := by decide +kernel
theorem d_Ye_count_71 : decode b_Ye_count 71 = .ok (.ireturn, 1) := by decide +kernel
theorem d_Ye_count_72 : decode b_Ye_count 72 = .ok (.aload_n 0, 1) := by decide +kernel
theorem d_Ye_count_73 : decode b_Ye_count 73 = .ok (.getfield 10, 3) := by decide +kernel
theorem d_Ye_count_76 : decode b_Ye_count 76 = .ok (.getfield 101, 3) := by decide +kernel
theorem d_Ye_count_79 : decode b_Ye_count 79 = .ok (.ireturn, 1) := by decide +kernel
theorem d_Ye_count_80 : decode b_Ye_count 80 = .ok (.aload_n 0, 1) := by decide +kernel
theorem d_Ye_count_81 : decode b_Ye_count 81 = .ok (.getfield 10, 3) := by decide +kernel
theorem d_Ye_count_84 : decode b_Ye_count 84 = .ok (.getfield 104, 3) := by decide +kernel
theorem d_Ye_count_87 : decode b_Ye_count 87 = .ok (.ireturn, 1) := by decide +kernel
theorem d_Ye_count_88 : decode b_Ye_count 88 = .ok (.aload_n 0, 1) := by decide +kernel
theorem d_Ye_count_89 : decode b_Ye_count 89 = .ok (.getfield 10, 3) := by decide +kernel
theorem d_Ye_count_92 : decode b_Ye_count 92 = .ok (.getfield 92, 3) := by decide +kernel
theorem d_Ye_count_95 : decode b_Ye_count 95 = .ok (.ireturn, 1) := by decide +kernel
theorem d_Ye_count_96 : decode b_Ye_count 96 = .ok (.aload_n 0, 1) := by decide +kernel
theorem d_Ye_count_97 : decode b_Ye_count 97 = .ok (.getfield 10, 3) := by decide +kernel
theorem d_Ye_count_100 : decode b_Ye_count 100 = .ok (.getfield 184, 3) := by decide +kernel
theorem d_Ye_count_103 : decode b_Ye_count 103 = .ok (.ireturn, 1) := by decide +kernel
theorem d_Ye_count_104 : decode b_Ye_count 104 = .ok (.aload_n 0, 1) := by decide +kernel
theorem d_Ye_count_105 : decode b_Ye_count 105 = .ok (.getfield 10, 3) := by decide +kernel
theorem d_Ye_count_108 : decode b_Ye_count 108 = .ok (.getfield 95, 3) := by decide +kernel
theorem d_Ye_count_111 : decode b_Ye_count 111 = .ok (.ireturn, 1) := by decide +kernel
theorem d_Ye_count_112 : decode b_Ye_count 112 = .ok (.aload_n 0, 1) := by decide +kernel
theorem d_Ye_count_113 : decode b_Ye_count 113 = .ok (.getfield 10, 3) := by decide +kernel
theorem d_Ye_count_116 : decode b_Ye_count 116 = .ok (.getfield 212, 3) := by decide +kernel
theorem d_Ye_count_119 : decode b_Ye_count 119 = .ok (.ireturn, 1) := by decide +kernel
theorem d_Ye_count_120 : decode b_Ye_count 120 = .ok (.aload_n 0, 1) := by decide +kernel
theorem d_Ye_count_121 : decode b_Ye_count 121 = .ok (.getfield 10, 3) := by decide +kernel
theorem d_Ye_count_124 : decode b_Ye_count 124 = .ok (.getfield 215, 3) := by decide +kernel
theorem d_Ye_count_127 : decode b_Ye_count 127 = .ok (.ireturn, 1) := by decide +kernel
theorem d_Ye_count_128 : decode b_Ye_count 128 = .ok (.aload_n 0, 1) := by decide +kernel
theorem d_Ye_count_129 : decode b_Ye_count 129 = .ok (.getfield 10, 3) := by decide +kernel
theorem d_Ye_count_132 : decode b_Ye_count 132 = .ok (.invokevirtual 218, 3) := by decide +kernel
theorem d_Ye_count_135 : decode b_Ye_count 135 = .ok (.ireturn, 1) := by decide +kernel
theorem d_Ye_count_136 : decode b_Ye_count 136 = .ok (.aload_n 0, 1) := by decide +kernel
theorem d_Ye_count_137 : decode b_Ye_count 137 = .ok (.getfield 50, 3) := by decide +kernel
theorem d_Ye_count_140 : decode b_Ye_count 140 = .ok (.getfield 197, 3) := by decide +kernel
theorem d_Ye_count_143 : decode b_Ye_count 143 = .ok (.ireturn, 1) := by decide +kernel
theorem d_Ye_count_144 : decode b_Ye_count 144 = .ok (.aload_n 0, 1) := by decide +kernel
theorem d_Ye_count_145 : decode b_Ye_count 145 = .ok (.getfield 22, 3) := by decide +kernel
theorem d_Ye_count_148 : decode b_Ye_count 148 = .ok (.getfield 73, 3) := by decide +kernel
theorem d_Ye_count_151 : decode b_Ye_count 151 = .ok (.ireturn, 1) := by decide +kernel
theorem d_Ye_count_152 : decode b_Ye_count 152 = .ok (.aload_n 0, 1) := by decide +kernel
theorem d_Ye_count_153 : decode b_Ye_count 153 = .ok (.getfield 29, 3) := by decide +kernel
theorem d_Ye_count_156 : decode b_Ye_count 156 = .ok (.getfield 126, 3) := by decide +kernel
theorem d_Ye_count_159 : decode b_Ye_count 159 = .ok (.ireturn, 1) := by decide +kernel
theorem d_Ye_count_160 : decode b_Ye_count 160 = .ok (.iconst (-1), 1) := by decide +kernel
theorem d_Ye_count_161 : decode b_Ye_count 161 = .ok (.ireturn, 1) := by decide +kernel
theorem d_Ye_isOutside_0 : decode b_Ye_isOutside 0 = .ok (.iload_n 0, 1) := by decide +kernel
theorem d_Ye_isOutside_1 : decode b_Ye_isOutside 1 = .ok (.iload_n 1, 1) := by decide +kernel
theorem d_Ye_isOutside_2 : decode b_Ye_isOutside 2 = .ok (.if_icmp .lt 8, 3) := by decide +kernel
theorem d_Ye_isOutside_5 : decode b_Ye_isOutside 5 = .ok (.iload_n 0, 1) := by decide +kernel
theorem d_Ye_isOutside_6 : decode b_Ye_isOutside 6 = .ok (.iload_n 2, 1) := by decide +kernel
theorem d_Ye_isOutside_7 : decode b_Ye_isOutside 7 = .ok (.if_icmp .le 7, 3) := by decide +kernel
theorem d_Ye_isOutside_10 : decode b_Ye_isOutside 10 = .ok (.iconst 1, 1) := by decide +kernel
theorem d_Ye_isOutside_11 : decode b_Ye_isOutside 11 = .ok (.goto 4, 3) := by decide +kernel
theorem d_Ye_isOutside_14 : decode b_Ye_isOutside 14 = .ok (.iconst 0, 1) := by decide +kernel
theorem d_Ye_isOutside_15 : decode b_Ye_isOutside 15 = .ok (.ireturn, 1) := by decide +kernel
theorem d_Ye_weightWithoutFail_0 : decode b_Ye_weightWithoutFail 0 = .ok (.iload_n 3, 1) := by decide +kernel
theorem d_Ye_weightWithoutFail_1 : decode b_Ye_weightWithoutFail 1 = .ok (.iconst 1, 1) := by decide +kernel
theorem d_Ye_weightWithoutFail_2 : decode b_Ye_weightWithoutFail 2 = .ok (.bipush 8, 2) := by decide +kernel
theorem d_Ye_weightWithoutFail_4 : decode b_Ye_weightWithoutFail 4 = .ok (.invokestatic 65, 3) := by decide +kernel
theorem d_Ye_weightWithoutFail_7 : decode b_Ye_weightWithoutFail 7 = .ok (.ifCond .eq 5, 3) := by decide +kernel
theorem d_Ye_weightWithoutFail_10 : decode b_Ye_weightWithoutFail 10 = .ok (.iconst 1, 1) := by decide +kernel
theorem d_Ye_weightWithoutFail_11 : decode b_Ye_weightWithoutFail 11 = .ok (.ireturn, 1) := by decide +kernel
theorem d_Ye_weightWithoutFail_12 : decode b_Ye_weightWithoutFail 12 = .ok (.aload_n 0, 1) := by decide +kernel
theorem d_Ye_weightWithoutFail_13 : decode b_Ye_weightWithoutFail 13 = .ok (.iload_n 1, 1) := by decide +kernel
theorem d_Ye_weightWithoutFail_14 : decode b_Ye_weightWithoutFail 14 = .ok (.invokevirtual 114, 3) := by decide +kernel
theorem d_Ye_weightWithoutFail_17 : decode b_Ye_weightWithoutFail 17 = .ok (.istore 5, 2) := by decide +kernel
theorem d_Ye_weightWithoutFail_19 : decode b_Ye_weightWithoutFail 19 = .ok (.iconst 0, 1) := by decide +kernel
theorem d_Ye_weightWithoutFail_20 : decode b_Ye_weightWithoutFail 20 = .ok (.istore 6, 2) := by decide +kernel
theorem d_Ye_weightWithoutFail_22 : decode b_Ye_weightWithoutFail 22 = .ok (.aload_n 0, 1) := by decide +kernel
theorem d_Ye_weightWithoutFail_23 : decode b_Ye_weightWithoutFail 23 = .ok (.iload 5, 2) := by decide +kernel
theorem d_Ye_weightWithoutFail_25 : decode b_Ye_weightWithoutFail 25 = .ok (.iload_n 2, 1) := by decide +kernel
theorem d_Ye_weightWithoutFail_26 : decode b_Ye_weightWithoutFail 26 = .ok (.aload_n 0, 1) := by decide +kernel
theorem d_Ye_weightWithoutFail_27 : decode b_Ye_weightWithoutFail 27 = .ok (.getfield 101, 3) := by decide +kernel
theorem d_Ye_weightWithoutFail_30 : decode b_Ye_weightWithoutFail 30 = .ok (.invokevirtual 221, 3) := by decide +kernel
theorem d_Ye_weightWithoutFail_33 : decode b_Ye_weightWithoutFail 33 = .ok (.istore 7, 2) := by decide +kernel
theorem d_Ye_weightWithoutFail_35 : decode b_Ye_weightWithoutFail 35 = .ok (.iload 7, 2) := by decide +kernel
theorem d_Ye_weightWithoutFail_37 : decode b_Ye_weightWithoutFail 37 = .ok (.ifCond .lt 39, 3) := by decide +kernel
theorem d_Ye_weightWithoutFail_40 : decode b_Ye_weightWithoutFail 40 = .ok (.iload 7, 2) := by decide +kernel
theorem d_Ye_weightWithoutFail_42 : decode b_Ye_weightWithoutFail 42 = .ok (.aload_n 0, 1) := by decide +kernel
theorem d_Ye_weightWithoutFail_43 : decode b_Ye_weightWithoutFail 43 = .ok (.getfield 104, 3) := by decide +kernel
theorem d_Ye_weightWithoutFail_46 : decode b_Ye_weightWithoutFail 46 = .ok (.invokestatic 225, 3) := by decide +kernel
theorem d_Ye_weightWithoutFail_49 : decode b_Ye_weightWithoutFail 49 = .ok (.istore 8, 2) := by decide +kernel
theorem d_Ye_weightWithoutFail_51 : decode b_Ye_weightWithoutFail 51 = .ok (.iload 6, 2) := by decide +kernel
theorem d_Ye_weightWithoutFail_53 : decode b_Ye_weightWithoutFail 53 = .ok (.bipush 10, 2) := by decide +kernel
theorem d_Ye_weightWithoutFail_55 : decode b_Ye_weightWithoutFail 55 = .ok (.iload 4, 2) := by decide +kernel
theorem d_Ye_weightWithoutFail_57 : decode b_Ye_weightWithoutFail 57 = .ok (.isub, 1) := by decide +kernel
theorem d_Ye_weightWithoutFail_58 : decode b_Ye_weightWithoutFail 58 = .ok (.aload_n 0, 1) := by decide +kernel
theorem d_Ye_weightWithoutFail_59 : decode b_Ye_weightWithoutFail 59 = .ok (.iload_n 1, 1) := by decide +kernel
theorem d_Ye_weightWithoutFail_60 : decode b_Ye_weightWithoutFail 60 = .ok (.iconst 1, 1) := by decide +kernel
theorem d_Ye_weightWithoutFail_61 : decode b_Ye_weightWithoutFail 61 = .ok (.iadd, 1) := by decide +kernel
theorem d_Ye_weightWithoutFail_62 : decode b_Ye_weightWithoutFail 62 = .ok (.iload 8, 2) := by decide +kernel
theorem d_Ye_weightWithoutFail_64 : decode b_Ye_weightWithoutFail 64 = .ok (.iload_n 3, 1) := by decide +kernel
theorem d_Ye_weightWithoutFail_65 : decode b_Ye_weightWithoutFail 65 = .ok (.iconst 1, 1) := by decide +kernel
theorem d_Ye_weightWithoutFail_66 : decode b_Ye_weightWithoutFail 66 = .ok (.isub, 1) := by decide +kernel
theorem d_Ye_weightWithoutFail_67 : decode b_Ye_weightWithoutFail 67 = .ok (.iload 4, 2) := by decide +kernel
theorem d_Ye_weightWithoutFail_69 : decode b_Ye_weightWithoutFail 69 = .ok (.invokestatic 187, 3) := by decide +kernel
theorem d_Ye_weightWithoutFail_72 : decode b_Ye_weightWithoutFail 72 = .ok (.imul, 1) := by decide +kernel
theorem d_Ye_weightWithoutFail_73 : decode b_Ye_weightWithoutFail 73 = .ok (.iadd, 1) := by decide +kernel
theorem d_Ye_weightWithoutFail_74 : decode b_Ye_weightWithoutFail 74 = .ok (.istore 6, 2) := by decide +kernel
theorem d_Ye_weightWithoutFail_76 : decode b_Ye_weightWithoutFail 76 = .ok (.aload_n 0, 1) := by decide +kernel
theorem d_Ye_weightWithoutFail_77 : decode b_Ye_weightWithoutFail 77 = .ok (.iload 5, 2) := by decide +kernel
theorem d_Ye_weightWithoutFail_79 : decode b_Ye_weightWithoutFail 79 = .ok (.iconst 2, 1) := by decide +kernel
theorem d_Ye_weightWithoutFail_80 : decode b_Ye_weightWithoutFail 80 = .ok (.idiv, 1) := by decide +kernel
theorem d_Ye_weightWithoutFail_81 : decode b_Ye_weightWithoutFail 81 = .ok (.iload_n 2, 1) := by decide +kernel
theorem d_Ye_weightWithoutFail_82 : decode b_Ye_weightWithoutFail 82 = .ok (.aload_n 0, 1) := by decide +kernel
theorem d_Ye_weightWithoutFail_83 : decode b_Ye_weightWithoutFail 83 = .ok (.getfield 101, 3) := by decide +kernel
theorem d_Ye_weightWithoutFail_86 : decode b_Ye_weightWithoutFail 86 = .ok (.invokevirtual 221, 3) := by decide +kernel
theorem d_Ye_weightWithoutFail_89 : decode b_Ye_weightWithoutFail 89 = .ok (.istore 8, 2) := by decide +kernel
theorem d_Ye_weightWithoutFail_91 : decode b_Ye_weightWithoutFail 91 = .ok (.iload 8, 2) := by decide +kernel
theorem d_Ye_weightWithoutFail_93 : decode b_Ye_weightWithoutFail 93 = .ok (.ifCond .lt 36, 3) := by decide +kernel
theorem d_Ye_weightWithoutFail_96 : decode b_Ye_weightWithoutFail 96 = .ok (.iload 8, 2) := by decide +kernel
theorem d_Ye_weightWithoutFail_98 : decode b_Ye_weightWithoutFail 98 = .ok (.aload_n 0, 1) := by decide +kernel
theorem d_Ye_weightWithoutFail_99 : decode b_Ye_weightWithoutFail 99 = .ok (.getfield 104, 3) := by decide +kernel
theorem d_Ye_weightWithoutFail_102 : decode b_Ye_weightWithoutFail 102 = .ok (.invokestatic 225, 3) := by decide +kernel
theorem d_Ye_weightWithoutFail_105 : decode b_Ye_weightWithoutFail 105 = .ok (.istore 9, 2) := by decide +kernel
theorem d_Ye_weightWithoutFail_107 : decode b_Ye_weightWithoutFail 107 = .ok (.iload 6, 2) := by decide +kernel
theorem d_Ye_weightWithoutFail_109 : decode b_Ye_weightWithoutFail 109 = .ok (.iload 4, 2) := by decide +kernel
theorem d_Ye_weightWithoutFail_111 : decode b_Ye_weightWithoutFail 111 = .ok (.aload_n 0, 1) := by decide +kernel
theorem d_Ye_weightWithoutFail_112 : decode b_Ye_weightWithoutFail 112 = .ok (.iload_n 1, 1) := by decide +kernel
theorem d_Ye_weightWithoutFail_113 : decode b_Ye_weightWithoutFail 113 = .ok (.iconst 1, 1) := by decide +kernel
theorem d_Ye_weightWithoutFail_114 : decode b_Ye_weightWithoutFail 114 = .ok (.iadd, 1) := by decide +kernel
theorem d_Ye_weightWithoutFail_115 : decode b_Ye_weightWithoutFail 115 = .ok (.iload 9, 2) := by decide +kernel
theorem d_Ye_weightWithoutFail_117 : decode b_Ye_weightWithoutFail 117 = .ok (.iload_n 3, 1) := by decide +kernel
theorem d_Ye_weightWithoutFail_118 : decode b_Ye_weightWithoutFail 118 = .ok (.iconst 1, 1) := by decide +kernel
theorem d_Ye_weightWithoutFail_119 : decode b_Ye_weightWithoutFail 119 = .ok (.isub, 1) := by decide +kernel
theorem d_Ye_weightWithoutFail_120 : decode b_Ye_weightWithoutFail 120 = .ok (.iload 4, 2) := by decide +kernel
theorem d_Ye_weightWithoutFail_122 : decode b_Ye_weightWithoutFail 122 = .ok (.invokestatic 187, 3) := by decide +kernel
theorem d_Ye_weightWithoutFail_125 : decode b_Ye_weightWithoutFail 125 = .ok (.imul, 1) := by decide +kernel
theorem d_Ye_weightWithoutFail_126 : decode b_Ye_weightWithoutFail 126 = .ok (.iadd, 1) := by decide +kernel
theorem d_Ye_weightWithoutFail_127 : decode b_Ye_weightWithoutFail 127 = .ok (.istore 6, 2) := by decide +kernel
theorem d_Ye_weightWithoutFail_129 : decode b_Ye_weightWithoutFail 129 = .ok (.iload 6, 2) := by decide +kernel
theorem d_Ye_weightWithoutFail_131 : decode b_Ye_weightWithoutFail 131 = .ok (.ireturn, 1) := by decide +kernel
