theorem d_Mo_caps_0 : decode b_Mo_caps 0 = .ok (.iload_n 1, 1) := by decide +kernel
theorem d_Mo_caps_1 : decode b_Mo_caps 1 = .ok (.iconst 0, 1) := by decide +kernel
theorem d_Mo_caps_2 : decode b_Mo_caps 2 = .ok (.sipush 999, 3) := by decide +kernel
theorem d_Mo_caps_5 : decode b_Mo_caps 5 = .ok (.invokestatic 67, 3) := by decide +kernel
theorem d_Mo_caps_8 : decode b_Mo_caps 8 = .ok (.ifCond .ne 5, 3) := by decide +kernel
theorem d_Mo_caps_11 : decode b_Mo_caps 11 = .ok (.iconst (-1), 1) := by decide +kernel
theorem d_Mo_caps_12 : decode b_Mo_caps 12 = .ok (.ireturn, 1) := by decide +kernel
theorem d_Mo_caps_13 : decode b_Mo_caps 13 = .ok (.aload_n 0, 1) := by decide +kernel
theorem d_Mo_caps_14 : decode b_Mo_caps 14 = .ok (.getfield 7, 3) := by decide +kernel
theorem d_Mo_caps_17 : decode b_Mo_caps 17 = .ok (.bipush 14, 2) := by decide +kernel
theorem d_Mo_caps_19 : decode b_Mo_caps 19 = .ok (.iaload, 1) := by decide +kernel
theorem d_Mo_caps_20 : decode b_Mo_caps 20 = .ok (.istore_n 2, 1) := by decide +kernel
theorem d_Mo_caps_21 : decode b_Mo_caps 21 = .ok (.iload_n 2, 1) := by decide +kernel
theorem d_Mo_caps_22 : decode b_Mo_caps 22 = .ok (.iload_n 1, 1) := by decide +kernel
theorem d_Mo_caps_23 : decode b_Mo_caps 23 = .ok (.if_icmp .ne 6, 3) := by decide +kernel
theorem d_Mo_caps_26 : decode b_Mo_caps 26 = .ok (.bipush (-2), 2) := by decide +kernel
theorem d_Mo_caps_28 : decode b_Mo_caps 28 = .ok (.ireturn, 1) := by decide +kernel
theorem d_Mo_caps_29 : decode b_Mo_caps 29 = .ok (.aload_n 0, 1) := by decide +kernel
theorem d_Mo_caps_30 : decode b_Mo_caps 30 = .ok (.invokevirtual 99, 3) := by decide +kernel
theorem d_Mo_caps_33 : decode b_Mo_caps 33 = .ok (.aload_n 0, 1) := by decide +kernel
theorem d_Mo_caps_34 : decode b_Mo_caps 34 = .ok (.getfield 7, 3) := by decide +kernel
theorem d_Mo_caps_37 : decode b_Mo_caps 37 = .ok (.bipush 14, 2) := by decide +kernel
theorem d_Mo_caps_39 : decode b_Mo_caps 39 = .ok (.iload_n 1, 1) := by decide +kernel
theorem d_Mo_caps_40 : decode b_Mo_caps 40 = .ok (.iastore, 1) := by decide +kernel
theorem d_Mo_caps_41 : decode b_Mo_caps 41 = .ok (.aload_n 0, 1) := by decide +kernel
theorem d_Mo_caps_42 : decode b_Mo_caps 42 = .ok (.getfield 7, 3) := by decide +kernel
theorem d_Mo_caps_45 : decode b_Mo_caps 45 = .ok (.bipush 26, 2) := by decide +kernel
theorem d_Mo_caps_47 : decode b_Mo_caps 47 = .ok (.iaload, 1) := by decide +kernel
theorem d_Mo_caps_48 : decode b_Mo_caps 48 = .ok (.iload_n 1, 1) := by decide +kernel
theorem d_Mo_caps_49 : decode b_Mo_caps 49 = .ok (.if_icmp .le 30, 3) := by decide +kernel
theorem d_Mo_caps_52 : decode b_Mo_caps 52 = .ok (.aload_n 0, 1) := by decide +kernel
theorem d_Mo_caps_53 : decode b_Mo_caps 53 = .ok (.getfield 7, 3) := by decide +kernel
theorem d_Mo_caps_56 : decode b_Mo_caps 56 = .ok (.bipush 29, 2) := by decide +kernel
theorem d_Mo_caps_58 : decode b_Mo_caps 58 = .ok (.dup2, 1) := by decide +kernel
theorem d_Mo_caps_59 : decode b_Mo_caps 59 = .ok (.iaload, 1) := by decide +kernel
theorem d_Mo_caps_60 : decode b_Mo_caps 60 = .ok (.aload_n 0, 1) := by decide +kernel
theorem d_Mo_caps_61 : decode b_Mo_caps 61 = .ok (.getfield 7, 3) := by decide +kernel
theorem d_Mo_caps_64 : decode b_Mo_caps 64 = .ok (.bipush 26, 2) := by decide +kernel
theorem d_Mo_caps_66 : decode b_Mo_caps 66 = .ok (.iaload, 1) := by decide +kernel
theorem d_Mo_caps_67 : decode b_Mo_caps 67 = .ok (.iload_n 1, 1) := by decide +kernel
theorem d_Mo_caps_68 : decode b_Mo_caps 68 = .ok (.isub, 1) := by decide +kernel
theorem d_Mo_caps_69 : decode b_Mo_caps 69 = .ok (.iadd, 1) := by decide +kernel
theorem d_Mo_caps_70 : decode b_Mo_caps 70 = .ok (.iastore, 1) := by decide +kernel
theorem d_Mo_caps_71 : decode b_Mo_caps 71 = .ok (.aload_n 0, 1) := by decide +kernel
theorem d_Mo_caps_72 : decode b_Mo_caps 72 = .ok (.getfield 7, 3) := by decide +kernel
theorem d_Mo_caps_75 : decode b_Mo_caps 75 = .ok (.bipush 26, 2) := by decide +kernel
theorem d_Mo_caps_77 : decode b_Mo_caps 77 = .ok (.iload_n 1, 1) := by decide +kernel
theorem d_Mo_caps_78 : decode b_Mo_caps 78 = .ok (.iastore, 1) := by decide +kernel
theorem d_Mo_caps_79 : decode b_Mo_caps 79 = .ok (.iload_n 2, 1) := by decide +kernel
theorem d_Mo_caps_80 : decode b_Mo_caps 80 = .ok (.ireturn, 1) := by decide +kernel
theorem d_Mo_isPeriod_0 : decode b_Mo_isPeriod 0 = .ok (.iload_n 1, 1) := by decide +kernel
theorem d_Mo_isPeriod_1 : decode b_Mo_isPeriod 1 = .ok (.iconst 0, 1) := by decide +kernel
theorem d_Mo_isPeriod_2 : decode b_Mo_isPeriod 2 = .ok (.aload_n 0, 1) := by decide +kernel
theorem d_Mo_isPeriod_3 : decode b_Mo_isPeriod 3 = .ok (.getfield 7, 3) := by decide +kernel
theorem d_Mo_isPeriod_6 : decode b_Mo_isPeriod 6 = .ok (.iconst 0, 1) := by decide +kernel
theorem d_Mo_isPeriod_7 : decode b_Mo_isPeriod 7 = .ok (.iaload, 1) := by decide +kernel
theorem d_Mo_isPeriod_8 : decode b_Mo_isPeriod 8 = .ok (.iconst 1, 1) := by decide +kernel
theorem d_Mo_isPeriod_9 : decode b_Mo_isPeriod 9 = .ok (.isub, 1) := by decide +kernel
theorem d_Mo_isPeriod_10 : decode b_Mo_isPeriod 10 = .ok (.invokestatic 67, 3) := by decide +kernel
theorem d_Mo_isPeriod_13 : decode b_Mo_isPeriod 13 = .ok (.ireturn, 1) := by decide +kernel
theorem d_Mo_flows_0 : decode b_Mo_flows 0 = .ok (.aload_n 0, 1) := by decide +kernel
theorem d_Mo_flows_1 : decode b_Mo_flows 1 = .ok (.iload_n 1, 1) := by decide +kernel
theorem d_Mo_flows_2 : decode b_Mo_flows 2 = .ok (.invokevirtual 123, 3) := by decide +kernel
theorem d_Mo_flows_5 : decode b_Mo_flows 5 = .ok (.ifCond .eq 13, 3) := by decide +kernel
theorem d_Mo_flows_8 : decode b_Mo_flows 8 = .ok (.iload_n 2, 1) := by decide +kernel
theorem d_Mo_flows_9 : decode b_Mo_flows 9 = .ok (.iconst 0, 1) := by decide +kernel
theorem d_Mo_flows_10 : decode b_Mo_flows 10 = .ok (.bipush 99, 2) := by decide +kernel
theorem d_Mo_flows_12 : decode b_Mo_flows 12 = .ok (.invokestatic 67, 3) := by decide +kernel
theorem d_Mo_flows_15 : decode b_Mo_flows 15 = .ok (.ifCond .ne 5, 3) := by decide +kernel
theorem d_Mo_flows_18 : decode b_Mo_flows 18 = .ok (.iconst (-1), 1) := by decide +kernel
theorem d_Mo_flows_19 : decode b_Mo_flows 19 = .ok (.ireturn, 1) := by decide +kernel
theorem d_Mo_flows_20 : decode b_Mo_flows 20 = .ok (.aload_n 0, 1) := by decide +kernel
theorem d_Mo_flows_21 : decode b_Mo_flows 21 = .ok (.getfield 7, 3) := by decide +kernel
theorem d_Mo_flows_24 : decode b_Mo_flows 24 = .ok (.iconst 1, 1) := by decide +kernel
theorem d_Mo_flows_25 : decode b_Mo_flows 25 = .ok (.iload_n 1, 1) := by decide +kernel
theorem d_Mo_flows_26 : decode b_Mo_flows 26 = .ok (.iadd, 1) := by decide +kernel
theorem d_Mo_flows_27 : decode b_Mo_flows 27 = .ok (.iaload, 1) := by decide +kernel
theorem d_Mo_flows_28 : decode b_Mo_flows 28 = .ok (.istore_n 3, 1) := by decide +kernel
theorem d_Mo_flows_29 : decode b_Mo_flows 29 = .ok (.iload_n 3, 1) := by decide +kernel
theorem d_Mo_flows_30 : decode b_Mo_flows 30 = .ok (.iload_n 2, 1) := by decide +kernel
theorem d_Mo_flows_31 : decode b_Mo_flows 31 = .ok (.if_icmp .ne 6, 3) := by decide +kernel
theorem d_Mo_flows_34 : decode b_Mo_flows 34 = .ok (.bipush (-2), 2) := by decide +kernel
theorem d_Mo_flows_36 : decode b_Mo_flows 36 = .ok (.ireturn, 1) := by decide +kernel
theorem d_Mo_flows_37 : decode b_Mo_flows 37 = .ok (.aload_n 0, 1) := by decide +kernel
theorem d_Mo_flows_38 : decode b_Mo_flows 38 = .ok (.invokevirtual 99, 3) := by decide +kernel
theorem d_Mo_flows_41 : decode b_Mo_flows 41 = .ok (.aload_n 0, 1) := by decide +kernel
theorem d_Mo_flows_42 : decode b_Mo_flows 42 = .ok (.getfield 7, 3) := by decide +kernel
theorem d_Mo_flows_45 : decode b_Mo_flows 45 = .ok (.iconst 1, 1) := by decide +kernel
theorem d_Mo_flows_46 : decode b_Mo_flows 46 = .ok (.iload_n 1, 1) := by decide +kernel
theorem d_Mo_flows_47 : decode b_Mo_flows 47 = .ok (.iadd, 1) := by decide +kernel
theorem d_Mo_flows_48 : decode b_Mo_flows 48 = .ok (.iload_n 2, 1) := by decide +kernel
theorem d_Mo_flows_49 : decode b_Mo_flows 49 = .ok (.iastore, 1) := by decide +kernel
theorem d_Mo_flows_50 : decode b_Mo_flows 50 = .ok (.iload_n 3, 1) := by decide +kernel
theorem d_Mo_flows_51 : decode b_Mo_flows 51 = .ok (.ireturn, 1) := by decide +kernel
theorem d_Mo_inflow_0 : decode b_Mo_inflow 0 = .ok (.aload_n 0, 1) := by decide +kernel
theorem d_Mo_inflow_1 : decode b_Mo_inflow 1 = .ok (.iload_n 1, 1) := by decide +kernel
theorem d_Mo_inflow_2 : decode b_Mo_inflow 2 = .ok (.invokevirtual 123, 3) := by decide +kernel
theorem d_Mo_inflow_5 : decode b_Mo_inflow 5 = .ok (.ifCond .eq 14, 3) := by decide +kernel
theorem d_Mo_inflow_8 : decode b_Mo_inflow 8 = .ok (.aload_n 0, 1) := by decide +kernel
theorem d_Mo_inflow_9 : decode b_Mo_inflow 9 = .ok (.getfield 7, 3) := by decide +kernel
theorem d_Mo_inflow_12 : decode b_Mo_inflow 12 = .ok (.iconst 1, 1) := by decide +kernel
theorem d_Mo_inflow_13 : decode b_Mo_inflow 13 = .ok (.iload_n 1, 1) := by decide +kernel
theorem d_Mo_inflow_14 : decode b_Mo_inflow 14 = .ok (.iadd, 1) := by decide +kernel
theorem d_Mo_inflow_15 : decode b_Mo_inflow 15 = .ok (.iaload, 1) := by decide +kernel
theorem d_Mo_inflow_16 : decode b_Mo_inflow 16 = .ok (.goto 4, 3) := by decide +kernel
theorem d_Mo_inflow_19 : decode b_Mo_inflow 19 = .ok (.iconst (-1), 1) := by decide +kernel
theorem d_Mo_inflow_20 : decode b_Mo_inflow 20 = .ok (.ireturn, 1) := by decide +kernel
theorem d_Mo_loss_0 : decode b_Mo_loss 0 = .ok (.iload_n 1, 1) := by decide +kernel
theorem d_Mo_loss_1 : decode b_Mo_loss 1 = .ok (.iconst 0, 1) := by decide +kernel
theorem d_Mo_loss_2 : decode b_Mo_loss 2 = .ok (.sipush 999, 3) := by decide +kernel
theorem d_Mo_loss_5 : decode b_Mo_loss 5 = .ok (.invokestatic 67, 3) := by decide +kernel
theorem d_Mo_loss_8 : decode b_Mo_loss 8 = .ok (.ifCond .eq 11, 3) := by decide +kernel
theorem d_Mo_loss_11 : decode b_Mo_loss 11 = .ok (.aload_n 0, 1) := by decide +kernel
theorem d_Mo_loss_12 : decode b_Mo_loss 12 = .ok (.iload_n 1, 1) := by decide +kernel
theorem d_Mo_loss_13 : decode b_Mo_loss 13 = .ok (.invokevirtual 105, 3) := by decide +kernel
theorem d_Mo_loss_16 : decode b_Mo_loss 16 = .ok (.goto 4, 3) := by decide +kernel
theorem d_Mo_loss_19 : decode b_Mo_loss 19 = .ok (.iconst (-1), 1) := by decide +kernel
theorem d_Mo_loss_20 : decode b_Mo_loss 20 = .ok (.ireturn, 1) := by decide +kernel
theorem d_Mo_total_0 : decode b_Mo_total 0 = .ok (.iconst 0, 1) := by decide +kernel
theorem d_Mo_total_1 : decode b_Mo_total 1 = .ok (.istore_n 1, 1) := by decide +kernel
theorem d_Mo_total_2 : decode b_Mo_total 2 = .ok (.iconst 0, 1) := by decide +kernel
theorem d_Mo_total_3 : decode b_Mo_total 3 = .ok (.istore_n 2, 1) := by decide +kernel
theorem d_Mo_total_4 : decode b_Mo_total 4 = .ok (.iload_n 2, 1) := by decide +kernel
theorem d_Mo_total_5 : decode b_Mo_total 5 = .ok (.aload_n 0, 1) := by decide +kernel
theorem d_Mo_total_6 : decode b_Mo_total 6 = .ok (.getfield 7, 3) := by decide +kernel
theorem d_Mo_total_9 : decode b_Mo_total 9 = .ok (.iconst 0, 1) := by decide +kernel
theorem d_Mo_total_10 : decode b_Mo_total 10 = .ok (.iaload, 1) := by decide +kernel
theorem d_Mo_total_11 : decode b_Mo_total 11 = .ok (.if_icmp .ge 20, 3) := by decide +kernel
theorem d_Mo_total_14 : decode b_Mo_total 14 = .ok (.iload_n 1, 1) := by decide +kernel
theorem d_Mo_total_15 : decode b_Mo_total 15 = .ok (.aload_n 0, 1) := by decide +kernel
theorem d_Mo_total_16 : decode b_Mo_total 16 = .ok (.getfield 7, 3) := by decide +kernel
theorem d_Mo_total_19 : decode b_Mo_total 19 = .ok (.iconst 1, 1) := by decide +kernel
theorem d_Mo_total_20 : decode b_Mo_total 20 = .ok (.iload_n 2, 1) := by decide +kernel
theorem d_Mo_total_21 : decode b_Mo_total 21 = .ok (.iadd, 1) := by decide +kernel
theorem d_Mo_total_22 : decode b_Mo_total 22 = .ok (.iaload, 1) := by decide +kernel
theorem d_Mo_total_23 : decode b_Mo_total 23 = .ok (.iadd, 1) := by decide +kernel
theorem d_Mo_total_24 : decode b_Mo_total 24 = .ok (.istore_n 1, 1) := by decide +kernel
theorem d_Mo_total_25 : decode b_Mo_total 25 = .ok (.iinc 2 1, 3) := by decide +kernel
theorem d_Mo_total_28 : decode b_Mo_total 28 = .ok (.goto (-24), 3) := by decide +kernel
theorem d_Mo_total_31 : decode b_Mo_total 31 = .ok (.iload_n 1, 1) := by decide +kernel
theorem d_Mo_total_32 : decode b_Mo_total 32 = .ok (.ireturn, 1) := by decide +kernel
theorem d_Mo_lowestOf_0 : decode b_Mo_lowestOf 0 = .ok (.bipush (-9), 2) := by decide +kernel
theorem d_Mo_lowestOf_2 : decode b_Mo_lowestOf 2 = .ok (.istore_n 2, 1) := by decide +kernel
theorem d_Mo_lowestOf_3 : decode b_Mo_lowestOf 3 = .ok (.iconst 0, 1) := by decide +kernel
theorem d_Mo_lowestOf_4 : decode b_Mo_lowestOf 4 = .ok (.istore_n 3, 1) := by decide +kernel
theorem d_Mo_lowestOf_5 : decode b_Mo_lowestOf 5 = .ok (.iload_n 3, 1) := by decide +kernel
theorem d_Mo_lowestOf_6 : decode b_Mo_lowestOf 6 = .ok (.aload_n 0, 1) := by decide +kernel
theorem d_Mo_lowestOf_7 : decode b_Mo_lowestOf 7 = .ok (.getfield 7, 3) := by decide +kernel
theorem d_Mo_lowestOf_10 : decode b_Mo_lowestOf 10 = .ok (.iconst 0, 1) := by decide +kernel
theorem d_Mo_lowestOf_11 : decode b_Mo_lowestOf 11 = .ok (.iaload, 1) := by decide +kernel
theorem d_Mo_lowestOf_12 : decode b_Mo_lowestOf 12 = .ok (.if_icmp .ge 57, 3) := by decide +kernel
theorem d_Mo_lowestOf_15 : decode b_Mo_lowestOf 15 = .ok (.iconst 0, 1) := by decide +kernel
theorem d_Mo_lowestOf_16 : decode b_Mo_lowestOf 16 = .ok (.istore 4, 2) := by decide +kernel
theorem d_Mo_lowestOf_18 : decode b_Mo_lowestOf 18 = .ok (.iload_n 3, 1) := by decide +kernel
theorem d_Mo_lowestOf_19 : decode b_Mo_lowestOf 19 = .ok (.istore 5, 2) := by decide +kernel
theorem d_Mo_lowestOf_21 : decode b_Mo_lowestOf 21 = .ok (.iload 5, 2) := by decide +kernel
theorem d_Mo_lowestOf_23 : decode b_Mo_lowestOf 23 = .ok (.iload_n 3, 1) := by decide +kernel
theorem d_Mo_lowestOf_24 : decode b_Mo_lowestOf 24 = .ok (.iload_n 1, 1) := by decide +kernel
theorem d_Mo_lowestOf_25 : decode b_Mo_lowestOf 25 = .ok (.iadd, 1) := by decide +kernel
theorem d_Mo_lowestOf_26 : decode b_Mo_lowestOf 26 = .ok (.if_icmp .ge 20, 3) := by decide +kernel
theorem d_Mo_lowestOf_29 : decode b_Mo_lowestOf 29 = .ok (.iload 4, 2) := by decide +kernel
theorem d_Mo_lowestOf_31 : decode b_Mo_lowestOf 31 = .ok (.aload_n 0, 1) := by decide +kernel
theorem d_Mo_lowestOf_32 : decode b_Mo_lowestOf 32 = .ok (.iload 5, 2) := by decide +kernel
theorem d_Mo_lowestOf_34 : decode b_Mo_lowestOf 34 = .ok (.invokevirtual 109, 3) := by decide +kernel
theorem d_Mo_lowestOf_37 : decode b_Mo_lowestOf 37 = .ok (.iadd, 1) := by decide +kernel
theorem d_Mo_lowestOf_38 : decode b_Mo_lowestOf 38 = .ok (.istore 4, 2) := by decide +kernel
theorem d_Mo_lowestOf_40 : decode b_Mo_lowestOf 40 = .ok (.iinc 5 1, 3) := by decide +kernel
theorem d_Mo_lowestOf_43 : decode b_Mo_lowestOf 43 = .ok (.goto (-22), 3) := by decide +kernel
theorem d_Mo_lowestOf_46 : decode b_Mo_lowestOf 46 = .ok (.iload_n 3, 1) := by decide +kernel
theorem d_Mo_lowestOf_47 : decode b_Mo_lowestOf 47 = .ok (.ifCond .eq 9, 3) := by decide +kernel
theorem d_Mo_lowestOf_50 : decode b_Mo_lowestOf 50 = .ok (.iload 4, 2) := by decide +kernel
theorem d_Mo_lowestOf_52 : decode b_Mo_lowestOf 52 = .ok (.iload_n 2, 1) := by decide +kernel
theorem d_Mo_lowestOf_53 : decode b_Mo_lowestOf 53 = .ok (.if_icmp .ge 8, 3) := by decide +kernel
theorem d_Mo_lowestOf_56 : decode b_Mo_lowestOf 56 = .ok (.iload 4, 2) := by decide +kernel
theorem d_Mo_lowestOf_58 : decode b_Mo_lowestOf 58 = .ok (.goto 4, 3) := by decide +kernel
theorem d_Mo_lowestOf_61 : decode b_Mo_lowestOf 61 = .ok (.iload_n 2, 1) := by decide +kernel
theorem d_Mo_lowestOf_62 : decode b_Mo_lowestOf 62 = .ok (.istore_n 2, 1) := by decide +kernel
theorem d_Mo_lowestOf_63 : decode b_Mo_lowestOf 63 = .ok (.iinc 3 1, 3) := by decide +kernel
theorem d_Mo_lowestOf_66 : decode b_Mo_lowestOf 66 = .ok (.goto (-61), 3) := by decide +kernel
theorem d_Mo_lowestOf_69 : decode b_Mo_lowestOf 69 = .ok (.iload_n 2, 1) := by decide +kernel
theorem d_Mo_lowestOf_70 : decode b_Mo_lowestOf 70 = .ok (.ireturn, 1) := by decide +kernel
theorem d_Mo_lowest_0 : decode b_Mo_lowest 0 = .ok (.iload_n 1, 1) := by decide +kernel
theorem d_Mo_lowest_1 : decode b_Mo_lowest 1 = .ok (.iconst 0, 1) := by decide +kernel
theorem d_Mo_lowest_2 : decode b_Mo_lowest 2 = .ok (.aload_n 0, 1) := by decide +kernel
theorem d_Mo_lowest_3 : decode b_Mo_lowest 3 = .ok (.getfield 7, 3) := by decide +kernel
theorem d_Mo_lowest_6 : decode b_Mo_lowest 6 = .ok (.iconst 0, 1) := by decide +kernel
theorem d_Mo_lowest_7 : decode b_Mo_lowest 7 = .ok (.iaload, 1) := by decide +kernel
theorem d_Mo_lowest_8 : decode b_Mo_lowest 8 = .ok (.invokestatic 67, 3) := by decide +kernel
theorem d_Mo_lowest_11 : decode b_Mo_lowest 11 = .ok (.ifCond .eq 11, 3) := by decide +kernel
theorem d_Mo_lowest_14 : decode b_Mo_lowest 14 = .ok (.aload_n 0, 1) := by decide +kernel
theorem d_Mo_lowest_15 : decode b_Mo_lowest 15 = .ok (.iload_n 1, 1) := by decide +kernel
theorem d_Mo_lowest_16 : decode b_Mo_lowest 16 = .ok (.invokevirtual 126, 3) := by decide +kernel
theorem d_Mo_lowest_19 : decode b_Mo_lowest 19 = .ok (.goto 4, 3) := by decide +kernel
theorem d_Mo_lowest_22 : decode b_Mo_lowest 22 = .ok (.iconst (-1), 1) := by decide +kernel
theorem d_Mo_lowest_23 : decode b_Mo_lowest 23 = .ok (.ireturn, 1) := by decide +kernel
theorem d_Mo_need_0 : decode b_Mo_need 0 = .ok (.iload_n 1, 1) := by decide +kernel
theorem d_Mo_need_1 : decode b_Mo_need 1 = .ok (.iconst 0, 1) := by decide +kernel
theorem d_Mo_need_2 : decode b_Mo_need 2 = .ok (.bipush 99, 2) := by decide +kernel
theorem d_Mo_need_4 : decode b_Mo_need 4 = .ok (.invokestatic 67, 3) := by decide +kernel
theorem d_Mo_need_7 : decode b_Mo_need 7 = .ok (.ifCond .ne 5, 3) := by decide +kernel
theorem d_Mo_need_10 : decode b_Mo_need 10 = .ok (.iconst (-1), 1) := by decide +kernel
theorem d_Mo_need_11 : decode b_Mo_need 11 = .ok (.ireturn, 1) := by decide +kernel
theorem d_Mo_need_12 : decode b_Mo_need 12 = .ok (.iload_n 1, 1) := by decide +kernel
theorem d_Mo_need_13 : decode b_Mo_need 13 = .ok (.aload_n 0, 1) := by decide +kernel
theorem d_Mo_need_14 : decode b_Mo_need 14 = .ok (.getfield 7, 3) := by decide +kernel
theorem d_Mo_need_17 : decode b_Mo_need 17 = .ok (.iconst 0, 1) := by decide +kernel
theorem d_Mo_need_18 : decode b_Mo_need 18 = .ok (.iaload, 1) := by decide +kernel
theorem d_Mo_need_19 : decode b_Mo_need 19 = .ok (.imul, 1) := by decide +kernel
theorem d_Mo_need_20 : decode b_Mo_need 20 = .ok (.aload_n 0, 1) := by decide +kernel
theorem d_Mo_need_21 : decode b_Mo_need 21 = .ok (.invokevirtual 129, 3) := by decide +kernel
theorem d_Mo_need_24 : decode b_Mo_need 24 = .ok (.if_icmp .le 6, 3) := by decide +kernel
theorem d_Mo_need_27 : decode b_Mo_need 27 = .ok (.bipush (-9), 2) := by decide +kernel
theorem d_Mo_need_29 : decode b_Mo_need 29 = .ok (.ireturn, 1) := by decide +kernel
theorem d_Mo_need_30 : decode b_Mo_need 30 = .ok (.iconst 0, 1) := by decide +kernel
theorem d_Mo_need_31 : decode b_Mo_need 31 = .ok (.istore_n 2, 1) := by decide +kernel
theorem d_Mo_need_32 : decode b_Mo_need 32 = .ok (.iconst 1, 1) := by decide +kernel
theorem d_Mo_need_33 : decode b_Mo_need 33 = .ok (.istore_n 3, 1) := by decide +kernel
theorem d_Mo_need_34 : decode b_Mo_need 34 = .ok (.iload_n 3, 1) := by decide +kernel
theorem d_Mo_need_35 : decode b_Mo_need 35 = .ok (.aload_n 0, 1) := by decide +kernel
theorem d_Mo_need_36 : decode b_Mo_need 36 = .ok (.getfield 7, 3) := by decide +kernel
theorem d_Mo_need_39 : decode b_Mo_need 39 = .ok (.iconst 0, 1) := by decide +kernel
theorem d_Mo_need_40 : decode b_Mo_need 40 = .ok (.iaload, 1) := by decide +kernel
theorem d_Mo_need_41 : decode b_Mo_need 41 = .ok (.if_icmp .gt 33, 3) := by decide +kernel
theorem d_Mo_need_44 : decode b_Mo_need 44 = .ok (.iload_n 3, 1) := by decide +kernel
theorem d_Mo_need_45 : decode b_Mo_need 45 = .ok (.iload_n 1, 1) := by decide +kernel
theorem d_Mo_need_46 : decode b_Mo_need 46 = .ok (.imul, 1) := by decide +kernel
theorem d_Mo_need_47 : decode b_Mo_need 47 = .ok (.aload_n 0, 1) := by decide +kernel
theorem d_Mo_need_48 : decode b_Mo_need 48 = .ok (.iload_n 3, 1) := by decide +kernel
theorem d_Mo_need_49 : decode b_Mo_need 49 = .ok (.invokevirtual 126, 3) := by decide +kernel
theorem d_Mo_need_52 : decode b_Mo_need 52 = .ok (.isub, 1) := by decide +kernel
theorem d_Mo_need_53 : decode b_Mo_need 53 = .ok (.istore 4, 2) := by decide +kernel
theorem d_Mo_need_55 : decode b_Mo_need 55 = .ok (.iload 4, 2) := by decide +kernel
theorem d_Mo_need_57 : decode b_Mo_need 57 = .ok (.iload_n 2, 1) := by decide +kernel
theorem d_Mo_need_58 : decode b_Mo_need 58 = .ok (.if_icmp .le 8, 3) := by decide +kernel
theorem d_Mo_need_61 : decode b_Mo_need 61 = .ok (.iload 4, 2) := by decide +kernel
theorem d_Mo_need_63 : decode b_Mo_need 63 = .ok (.goto 4, 3) := by decide +kernel
theorem d_Mo_need_66 : decode b_Mo_need 66 = .ok (.iload_n 2, 1) := by decide +kernel
theorem d_Mo_need_67 : decode b_Mo_need 67 = .ok (.istore_n 2, 1) := by decide +kernel
theorem d_Mo_need_68 : decode b_Mo_need 68 = .ok (.iinc 3 1, 3) := by decide +kernel
theorem d_Mo_need_71 : decode b_Mo_need 71 = .ok (.goto (-37), 3) := by decide +kernel
theorem d_Mo_need_74 : decode b_Mo_need 74 = .ok (.iload_n 2, 1) := by decide +kernel
theorem d_Mo_need_75 : decode b_Mo_need 75 = .ok (.ireturn, 1) := by decide +kernel
theorem d_Mo_common_0 : decode b_Mo_common 0 = .ok (.lload_n 0, 1) := by decide +kernel
theorem d_Mo_common_1 : decode b_Mo_common 1 = .ok (.lstore 4, 2) := by decide +kernel
theorem d_Mo_common_3 : decode b_Mo_common 3 = .ok (.lload_n 2, 1) := by decide +kernel
theorem d_Mo_common_4 : decode b_Mo_common 4 = .ok (.lstore 6, 2) := by decide +kernel
theorem d_Mo_common_6 : decode b_Mo_common 6 = .ok (.lload 6, 2) := by decide +kernel
theorem d_Mo_common_8 : decode b_Mo_common 8 = .ok (.lconst 0, 1) := by decide +kernel
theorem d_Mo_common_9 : decode b_Mo_common 9 = .ok (.lcmp, 1) := by decide +kernel
theorem d_Mo_common_10 : decode b_Mo_common 10 = .ok (.ifCond .eq 21, 3) := by decide +kernel
theorem d_Mo_common_13 : decode b_Mo_common 13 = .ok (.lload 4, 2) := by decide +kernel
theorem d_Mo_common_15 : decode b_Mo_common 15 = .ok (.lload 6, 2) := by decide +kernel
theorem d_Mo_common_17 : decode b_Mo_common 17 = .ok (.lrem, 1) := by decide +kernel
theorem d_Mo_common_18 : decode b_Mo_common 18 = .ok (.lstore 8, 2) := by decide +kernel
theorem d_Mo_common_20 : decode b_Mo_common 20 = .ok (.lload 6, 2) := by decide +kernel
theorem d_Mo_common_22 : decode b_Mo_common 22 = .ok (.lstore 4, 2) := by decide +kernel
theorem d_Mo_common_24 : decode b_Mo_common 24 = .ok (.lload 8, 2) := by decide +kernel
theorem d_Mo_common_26 : decode b_Mo_common 26 = .ok (.lstore 6, 2) := by decide +kernel
theorem d_Mo_common_28 : decode b_Mo_common 28 = .ok (.goto (-22), 3) := by decide +kernel
theorem d_Mo_common_31 : decode b_Mo_common 31 = .ok (.lload 4, 2) := by decide +kernel
theorem d_Mo_common_33 : decode b_Mo_common 33 = .ok (.lreturn, 1) := by decide +kernel
theorem d_Mo_part_0 : decode b_Mo_part 0 = .ok (.lload_n 0, 1) := by decide +kernel
theorem d_Mo_part_1 : decode b_Mo_part 1 = .ok (.lload_n 2, 1) := by decide +kernel
theorem d_Mo_part_2 : decode b_Mo_part 2 = .ok (.invokestatic 132, 3) := by decide +kernel
theorem d_Mo_part_5 : decode b_Mo_part 5 = .ok (.lstore 5, 2) := by decide +kernel
theorem d_Mo_part_7 : decode b_Mo_part 7 = .ok (.iload 4, 2) := by decide +kernel
theorem d_Mo_part_9 : decode b_Mo_part 9 = .ok (.ifCond .eq 10, 3) := by decide +kernel
theorem d_Mo_part_12 : decode b_Mo_part 12 = .ok (.lload_n 0, 1) := by decide +kernel
theorem d_Mo_part_13 : decode b_Mo_part 13 = .ok (.lload 5, 2) := by decide +kernel
theorem d_Mo_part_15 : decode b_Mo_part 15 = .ok (.ldiv, 1) := by decide +kernel
theorem d_Mo_part_16 : decode b_Mo_part 16 = .ok (.goto 7, 3) := by decide +kernel
theorem d_Mo_part_19 : decode b_Mo_part 19 = .ok (.lload_n 2, 1) := by decide +kernel
theorem d_Mo_part_20 : decode b_Mo_part 20 = .ok (.lload 5, 2) := by decide +kernel
theorem d_Mo_part_22 : decode b_Mo_part 22 = .ok (.ldiv, 1) := by decide +kernel
theorem d_Mo_part_23 : decode b_Mo_part 23 = .ok (.l2i, 1) := by decide +kernel
theorem d_Mo_part_24 : decode b_Mo_part 24 = .ok (.ireturn, 1) := by decide +kernel
theorem d_Mo_sure_0 : decode b_Mo_sure 0 = .ok (.iload_n 1, 1) := by decide +kernel
theorem d_Mo_sure_1 : decode b_Mo_sure 1 = .ok (.iconst 0, 1) := by decide +kernel
theorem d_Mo_sure_2 : decode b_Mo_sure 2 = .ok (.sipush 999, 3) := by decide +kernel
theorem d_Mo_sure_5 : decode b_Mo_sure 5 = .ok (.invokestatic 67, 3) := by decide +kernel
theorem d_Mo_sure_8 : decode b_Mo_sure 8 = .ok (.ifCond .eq 12, 3) := by decide +kernel
theorem d_Mo_sure_11 : decode b_Mo_sure 11 = .ok (.iload_n 2, 1) := by decide +kernel
theorem d_Mo_sure_12 : decode b_Mo_sure 12 = .ok (.iconst 0, 1) := by decide +kernel
theorem d_Mo_sure_13 : decode b_Mo_sure 13 = .ok (.iconst 1, 1) := by decide +kernel
theorem d_Mo_sure_14 : decode b_Mo_sure 14 = .ok (.invokestatic 67, 3) := by decide +kernel
theorem d_Mo_sure_17 : decode b_Mo_sure 17 = .ok (.ifCond .ne 5, 3) := by decide +kernel
theorem d_Mo_sure_20 : decode b_Mo_sure 20 = .ok (.iconst (-1), 1) := by decide +kernel
theorem d_Mo_sure_21 : decode b_Mo_sure 21 = .ok (.ireturn, 1) := by decide +kernel
theorem d_Mo_sure_22 : decode b_Mo_sure 22 = .ok (.aload_n 0, 1) := by decide +kernel
theorem d_Mo_sure_23 : decode b_Mo_sure 23 = .ok (.invokevirtual 129, 3) := by decide +kernel
theorem d_Mo_sure_26 : decode b_Mo_sure 26 = .ok (.i2l, 1) := by decide +kernel
theorem d_Mo_sure_27 : decode b_Mo_sure 27 = .ok (.lstore_n 3, 1) := by decide +kernel
theorem d_Mo_sure_28 : decode b_Mo_sure 28 = .ok (.aload_n 0, 1) := by decide +kernel
theorem d_Mo_sure_29 : decode b_Mo_sure 29 = .ok (.getfield 7, 3) := by decide +kernel
theorem d_Mo_sure_32 : decode b_Mo_sure 32 = .ok (.iconst 0, 1) := by decide +kernel
theorem d_Mo_sure_33 : decode b_Mo_sure 33 = .ok (.iaload, 1) := by decide +kernel
theorem d_Mo_sure_34 : decode b_Mo_sure 34 = .ok (.i2l, 1) := by decide +kernel
theorem d_Mo_sure_35 : decode b_Mo_sure 35 = .ok (.lstore 5, 2) := by decide +kernel
theorem d_Mo_sure_37 : decode b_Mo_sure 37 = .ok (.iconst 1, 1) := by decide +kernel
theorem d_Mo_sure_38 : decode b_Mo_sure 38 = .ok (.istore 7, 2) := by decide +kernel
theorem d_Mo_sure_40 : decode b_Mo_sure 40 = .ok (.iload 7, 2) := by decide +kernel
theorem d_Mo_sure_42 : decode b_Mo_sure 42 = .ok (.aload_n 0, 1) := by decide +kernel
theorem d_Mo_sure_43 : decode b_Mo_sure 43 = .ok (.getfield 7, 3) := by decide +kernel
theorem d_Mo_sure_46 : decode b_Mo_sure 46 = .ok (.iconst 0, 1) := by decide +kernel
theorem d_Mo_sure_47 : decode b_Mo_sure 47 = .ok (.iaload, 1) := by decide +kernel
theorem d_Mo_sure_48 : decode b_Mo_sure 48 = .ok (.if_icmp .gt 68, 3) := by decide +kernel
theorem d_Mo_sure_51 : decode b_Mo_sure 51 = .ok (.iload_n 1, 1) := by decide +kernel
theorem d_Mo_sure_52 : decode b_Mo_sure 52 = .ok (.aload_n 0, 1) := by decide +kernel
theorem d_Mo_sure_53 : decode b_Mo_sure 53 = .ok (.iload 7, 2) := by decide +kernel
theorem d_Mo_sure_55 : decode b_Mo_sure 55 = .ok (.invokevirtual 126, 3) := by decide +kernel
theorem d_Mo_sure_58 : decode b_Mo_sure 58 = .ok (.iadd, 1) := by decide +kernel
theorem d_Mo_sure_59 : decode b_Mo_sure 59 = .ok (.i2l, 1) := by decide +kernel
theorem d_Mo_sure_60 : decode b_Mo_sure 60 = .ok (.lstore 8, 2) := by decide +kernel
theorem d_Mo_sure_62 : decode b_Mo_sure 62 = .ok (.lload 8, 2) := by decide +kernel
theorem d_Mo_sure_64 : decode b_Mo_sure 64 = .ok (.lload 5, 2) := by decide +kernel
theorem d_Mo_sure_66 : decode b_Mo_sure 66 = .ok (.lmul, 1) := by decide +kernel
theorem d_Mo_sure_67 : decode b_Mo_sure 67 = .ok (.lload_n 3, 1) := by decide +kernel
theorem d_Mo_sure_68 : decode b_Mo_sure 68 = .ok (.iload 7, 2) := by decide +kernel
theorem d_Mo_sure_70 : decode b_Mo_sure 70 = .ok (.i2l, 1) := by decide +kernel
theorem d_Mo_sure_71 : decode b_Mo_sure 71 = .ok (.lmul, 1) := by decide +kernel
theorem d_Mo_sure_72 : decode b_Mo_sure 72 = .ok (.lcmp, 1) := by decide +kernel
theorem d_Mo_sure_73 : decode b_Mo_sure 73 = .ok (.ifCond .ge 7, 3) := by decide +kernel
theorem d_Mo_sure_76 : decode b_Mo_sure 76 = .ok (.iconst 1, 1) := by decide +kernel
theorem d_Mo_sure_77 : decode b_Mo_sure 77 = .ok (.goto 4, 3) := by decide +kernel
theorem d_Mo_sure_80 : decode b_Mo_sure 80 = .ok (.iconst 0, 1) := by decide +kernel
theorem d_Mo_sure_81 : decode b_Mo_sure 81 = .ok (.istore 10, 2) := by decide +kernel
theorem d_Mo_sure_83 : decode b_Mo_sure 83 = .ok (.iload 10, 2) := by decide +kernel
theorem d_Mo_sure_85 : decode b_Mo_sure 85 = .ok (.ifCond .eq 8, 3) := by decide +kernel
theorem d_Mo_sure_88 : decode b_Mo_sure 88 = .ok (.lload 8, 2) := by decide +kernel
theorem d_Mo_sure_90 : decode b_Mo_sure 90 = .ok (.goto 4, 3) := by decide +kernel
theorem d_Mo_sure_93 : decode b_Mo_sure 93 = .ok (.lload_n 3, 1) := by decide +kernel
theorem d_Mo_sure_94 : decode b_Mo_sure 94 = .ok (.lstore_n 3, 1) := by decide +kernel
theorem d_Mo_sure_95 : decode b_Mo_sure 95 = .ok (.iload 10, 2) := by decide +kernel
theorem d_Mo_sure_97 : decode b_Mo_sure 97 = .ok (.ifCond .eq 9, 3) := by decide +kernel
theorem d_Mo_sure_100 : decode b_Mo_sure 100 = .ok (.iload 7, 2) := by decide +kernel
theorem d_Mo_sure_102 : decode b_Mo_sure 102 = .ok (.i2l, 1) := by decide +kernel
theorem d_Mo_sure_103 : decode b_Mo_sure 103 = .ok (.goto 5, 3) := by decide +kernel
theorem d_Mo_sure_106 : decode b_Mo_sure 106 = .ok (.lload 5, 2) := by decide +kernel
theorem d_Mo_sure_108 : decode b_Mo_sure 108 = .ok (.lstore 5, 2) := by decide +kernel
theorem d_Mo_sure_110 : decode b_Mo_sure 110 = .ok (.iinc 7 1, 3) := by decide +kernel
theorem d_Mo_sure_113 : decode b_Mo_sure 113 = .ok (.goto (-73), 3) := by decide +kernel
theorem d_Mo_sure_116 : decode b_Mo_sure 116 = .ok (.lload_n 3, 1) := by decide +kernel
theorem d_Mo_sure_117 : decode b_Mo_sure 117 = .ok (.lload 5, 2) := by decide +kernel
theorem d_Mo_sure_119 : decode b_Mo_sure 119 = .ok (.iload_n 2, 1) := by decide +kernel
theorem d_Mo_sure_120 : decode b_Mo_sure 120 = .ok (.ifCond .ne 7, 3) := by decide +kernel
theorem d_Mo_sure_123 : decode b_Mo_sure 123 = .ok (.iconst 1, 1) := by decide +kernel
theorem d_Mo_sure_124 : decode b_Mo_sure 124 = .ok (.goto 4, 3) := by decide +kernel
theorem d_Mo_sure_127 : decode b_Mo_sure 127 = .ok (.iconst 0, 1) := by decide +kernel
theorem d_Mo_sure_128 : decode b_Mo_sure 128 = .ok (.invokestatic 136, 3) := by decide +kernel
theorem d_Mo_sure_131 : decode b_Mo_sure 131 = .ok (.ireturn, 1) := by decide +kernel
theorem d_Mo_isPiece_0 : decode b_Mo_isPiece 0 = .ok (.aload_n 0, 1) := by decide +kernel
theorem d_Mo_isPiece_1 : decode b_Mo_isPiece 1 = .ok (.lconst 0, 1) := by decide +kernel
theorem d_Mo_isPiece_2 : decode b_Mo_isPiece 2 = .ok (.putfield 140, 3) := by decide +kernel
theorem d_Mo_isPiece_5 : decode b_Mo_isPiece 5 = .ok (.aload_n 0, 1) := by decide +kernel
theorem d_Mo_isPiece_6 : decode b_Mo_isPiece 6 = .ok (.lconst 1, 1) := by decide +kernel
theorem d_Mo_isPiece_7 : decode b_Mo_isPiece 7 = .ok (.putfield 144, 3) := by decide +kernel
theorem d_Mo_isPiece_10 : decode b_Mo_isPiece 10 = .ok (.aload_n 0, 1) := by decide +kernel
theorem d_Mo_isPiece_11 : decode b_Mo_isPiece 11 = .ok (.aload_n 0, 1) := by decide +kernel
theorem d_Mo_isPiece_12 : decode b_Mo_isPiece 12 = .ok (.invokevirtual 129, 3) := by decide +kernel
theorem d_Mo_isPiece_15 : decode b_Mo_isPiece 15 = .ok (.i2l, 1) := by decide +kernel
theorem d_Mo_isPiece_16 : decode b_Mo_isPiece 16 = .ok (.putfield 147, 3) := by decide +kernel
theorem d_Mo_isPiece_19 : decode b_Mo_isPiece 19 = .ok (.aload_n 0, 1) := by decide +kernel
theorem d_Mo_isPiece_20 : decode b_Mo_isPiece 20 = .ok (.aload_n 0, 1) := by decide +kernel
theorem d_Mo_isPiece_21 : decode b_Mo_isPiece 21 = .ok (.getfield 7, 3) := by decide +kernel
theorem d_Mo_isPiece_24 : decode b_Mo_isPiece 24 = .ok (.iconst 0, 1) := by decide +kernel
theorem d_Mo_isPiece_25 : decode b_Mo_isPiece 25 = .ok (.iaload, 1) := by decide +kernel
theorem d_Mo_isPiece_26 : decode b_Mo_isPiece 26 = .ok (.i2l, 1) := by decide +kernel
theorem d_Mo_isPiece_27 : decode b_Mo_isPiece 27 = .ok (.putfield 150, 3) := by decide +kernel
theorem d_Mo_isPiece_30 : decode b_Mo_isPiece 30 = .ok (.iconst 0, 1) := by decide +kernel
theorem d_Mo_isPiece_31 : decode b_Mo_isPiece 31 = .ok (.istore_n 2, 1) := by decide +kernel
theorem d_Mo_isPiece_32 : decode b_Mo_isPiece 32 = .ok (.iload_n 2, 1) := by decide +kernel
theorem d_Mo_isPiece_33 : decode b_Mo_isPiece 33 = .ok (.aload_n 0, 1) := by decide +kernel
theorem d_Mo_isPiece_34 : decode b_Mo_isPiece 34 = .ok (.getfield 7, 3) := by decide +kernel
theorem d_Mo_isPiece_37 : decode b_Mo_isPiece 37 = .ok (.iconst 0, 1) := by decide +kernel
theorem d_Mo_isPiece_38 : decode b_Mo_isPiece 38 = .ok (.iaload, 1) := by decide +kernel
theorem d_Mo_isPiece_39 : decode b_Mo_isPiece 39 = .ok (.if_icmp .gt 126, 3) := by decide +kernel
theorem d_Mo_isPiece_42 : decode b_Mo_isPiece 42 = .ok (.iload_n 2, 1) := by decide +kernel
theorem d_Mo_isPiece_43 : decode b_Mo_isPiece 43 = .ok (.iload_n 1, 1) := by decide +kernel
theorem d_Mo_isPiece_44 : decode b_Mo_isPiece 44 = .ok (.if_icmp .ge 18, 3) := by decide +kernel
theorem d_Mo_isPiece_47 : decode b_Mo_isPiece 47 = .ok (.aload_n 0, 1) := by decide +kernel
theorem d_Mo_isPiece_48 : decode b_Mo_isPiece 48 = .ok (.iload_n 1, 1) := by decide +kernel
theorem d_Mo_isPiece_49 : decode b_Mo_isPiece 49 = .ok (.invokevirtual 126, 3) := by decide +kernel
theorem d_Mo_isPiece_52 : decode b_Mo_isPiece 52 = .ok (.aload_n 0, 1) := by decide +kernel
theorem d_Mo_isPiece_53 : decode b_Mo_isPiece 53 = .ok (.iload_n 2, 1) := by decide +kernel
theorem d_Mo_isPiece_54 : decode b_Mo_isPiece 54 = .ok (.invokevirtual 126, 3) := by decide +kernel
theorem d_Mo_isPiece_57 : decode b_Mo_isPiece 57 = .ok (.isub, 1) := by decide +kernel
theorem d_Mo_isPiece_58 : decode b_Mo_isPiece 58 = .ok (.i2l, 1) := by decide +kernel
theorem d_Mo_isPiece_59 : decode b_Mo_isPiece 59 = .ok (.goto 15, 3) := by decide +kernel
theorem d_Mo_isPiece_62 : decode b_Mo_isPiece 62 = .ok (.aload_n 0, 1) := by decide +kernel
theorem d_Mo_isPiece_63 : decode b_Mo_isPiece 63 = .ok (.iload_n 2, 1) := by decide +kernel
theorem d_Mo_isPiece_64 : decode b_Mo_isPiece 64 = .ok (.invokevirtual 126, 3) := by decide +kernel
theorem d_Mo_isPiece_67 : decode b_Mo_isPiece 67 = .ok (.aload_n 0, 1) := by decide +kernel
theorem d_Mo_isPiece_68 : decode b_Mo_isPiece 68 = .ok (.iload_n 1, 1) := by decide +kernel
theorem d_Mo_isPiece_69 : decode b_Mo_isPiece 69 = .ok (.invokevirtual 126, 3) := by decide +kernel
theorem d_Mo_isPiece_72 : decode b_Mo_isPiece 72 = .ok (.isub, 1) := by decide +kernel
theorem d_Mo_isPiece_73 : decode b_Mo_isPiece 73 = .ok (.i2l, 1) := by decide +kernel
theorem d_Mo_isPiece_74 : decode b_Mo_isPiece 74 = .ok (.lstore_n 3, 1) := by decide +kernel
theorem d_Mo_isPiece_75 : decode b_Mo_isPiece 75 = .ok (.iload_n 2, 1) := by decide +kernel
theorem d_Mo_isPiece_76 : decode b_Mo_isPiece 76 = .ok (.iload_n 1, 1) := by decide +kernel
theorem d_Mo_isPiece_77 : decode b_Mo_isPiece 77 = .ok (.if_icmp .ge 10, 3) := by decide +kernel
theorem d_Mo_isPiece_80 : decode b_Mo_isPiece 80 = .ok (.iload_n 1, 1) := by decide +kernel
theorem d_Mo_isPiece_81 : decode b_Mo_isPiece 81 = .ok (.iload_n 2, 1) := by decide +kernel
theorem d_Mo_isPiece_82 : decode b_Mo_isPiece 82 = .ok (.isub, 1) := by decide +kernel
theorem d_Mo_isPiece_83 : decode b_Mo_isPiece 83 = .ok (.i2l, 1) := by decide +kernel
theorem d_Mo_isPiece_84 : decode b_Mo_isPiece 84 = .ok (.goto 7, 3) := by decide +kernel
theorem d_Mo_isPiece_87 : decode b_Mo_isPiece 87 = .ok (.iload_n 2, 1) := by decide +kernel
theorem d_Mo_isPiece_88 : decode b_Mo_isPiece 88 = .ok (.iload_n 1, 1) := by decide +kernel
theorem d_Mo_isPiece_89 : decode b_Mo_isPiece 89 = .ok (.isub, 1) := by decide +kernel
theorem d_Mo_isPiece_90 : decode b_Mo_isPiece 90 = .ok (.i2l, 1) := by decide +kernel
theorem d_Mo_isPiece_91 : decode b_Mo_isPiece 91 = .ok (.lstore 5, 2) := by decide +kernel
theorem d_Mo_isPiece_93 : decode b_Mo_isPiece 93 = .ok (.iload_n 2, 1) := by decide +kernel
theorem d_Mo_isPiece_94 : decode b_Mo_isPiece 94 = .ok (.iload_n 1, 1) := by decide +kernel
theorem d_Mo_isPiece_95 : decode b_Mo_isPiece 95 = .ok (.if_icmp .ge 31, 3) := by decide +kernel
theorem d_Mo_isPiece_98 : decode b_Mo_isPiece 98 = .ok (.lload_n 3, 1) := by decide +kernel
theorem d_Mo_isPiece_99 : decode b_Mo_isPiece 99 = .ok (.aload_n 0, 1) := by decide +kernel
theorem d_Mo_isPiece_100 : decode b_Mo_isPiece 100 = .ok (.getfield 144, 3) := by decide +kernel
theorem d_Mo_isPiece_103 : decode b_Mo_isPiece 103 = .ok (.lmul, 1) := by decide +kernel
theorem d_Mo_isPiece_104 : decode b_Mo_isPiece 104 = .ok (.aload_n 0, 1) := by decide +kernel
theorem d_Mo_isPiece_105 : decode b_Mo_isPiece 105 = .ok (.getfield 140, 3) := by decide +kernel
theorem d_Mo_isPiece_108 : decode b_Mo_isPiece 108 = .ok (.lload 5, 2) := by decide +kernel
theorem d_Mo_isPiece_110 : decode b_Mo_isPiece 110 = .ok (.lmul, 1) := by decide +kernel
theorem d_Mo_isPiece_111 : decode b_Mo_isPiece 111 = .ok (.lcmp, 1) := by decide +kernel
theorem d_Mo_isPiece_112 : decode b_Mo_isPiece 112 = .ok (.ifCond .le 14, 3) := by decide +kernel
theorem d_Mo_isPiece_115 : decode b_Mo_isPiece 115 = .ok (.aload_n 0, 1) := by decide +kernel
theorem d_Mo_isPiece_116 : decode b_Mo_isPiece 116 = .ok (.lload_n 3, 1) := by decide +kernel
theorem d_Mo_isPiece_117 : decode b_Mo_isPiece 117 = .ok (.putfield 140, 3) := by decide +kernel
theorem d_Mo_isPiece_120 : decode b_Mo_isPiece 120 = .ok (.aload_n 0, 1) := by decide +kernel
theorem d_Mo_isPiece_121 : decode b_Mo_isPiece 121 = .ok (.lload 5, 2) := by decide +kernel
theorem d_Mo_isPiece_123 : decode b_Mo_isPiece 123 = .ok (.putfield 144, 3) := by decide +kernel
theorem d_Mo_isPiece_126 : decode b_Mo_isPiece 126 = .ok (.iload_n 2, 1) := by decide +kernel
theorem d_Mo_isPiece_127 : decode b_Mo_isPiece 127 = .ok (.iload_n 1, 1) := by decide +kernel
theorem d_Mo_isPiece_128 : decode b_Mo_isPiece 128 = .ok (.if_icmp .le 31, 3) := by decide +kernel
theorem d_Mo_isPiece_131 : decode b_Mo_isPiece 131 = .ok (.lload_n 3, 1) := by decide +kernel
theorem d_Mo_isPiece_132 : decode b_Mo_isPiece 132 = .ok (.aload_n 0, 1) := by decide +kernel
theorem d_Mo_isPiece_133 : decode b_Mo_isPiece 133 = .ok (.getfield 150, 3) := by decide +kernel
theorem d_Mo_isPiece_136 : decode b_Mo_isPiece 136 = .ok (.lmul, 1) := by decide +kernel
theorem d_Mo_isPiece_137 : decode b_Mo_isPiece 137 = .ok (.aload_n 0, 1) := by decide +kernel
theorem d_Mo_isPiece_138 : decode b_Mo_isPiece 138 = .ok (.getfield 147, 3) := by decide +kernel
theorem d_Mo_isPiece_141 : decode b_Mo_isPiece 141 = .ok (.lload 5, 2) := by decide +kernel
theorem d_Mo_isPiece_143 : decode b_Mo_isPiece 143 = .ok (.lmul, 1) := by decide +kernel
theorem d_Mo_isPiece_144 : decode b_Mo_isPiece 144 = .ok (.lcmp, 1) := by decide +kernel
theorem d_Mo_isPiece_145 : decode b_Mo_isPiece 145 = .ok (.ifCond .ge 14, 3) := by decide +kernel
theorem d_Mo_isPiece_148 : decode b_Mo_isPiece 148 = .ok (.aload_n 0, 1) := by decide +kernel
theorem d_Mo_isPiece_149 : decode b_Mo_isPiece 149 = .ok (.lload_n 3, 1) := by decide +kernel
theorem d_Mo_isPiece_150 : decode b_Mo_isPiece 150 = .ok (.putfield 147, 3) := by decide +kernel
theorem d_Mo_isPiece_153 : decode b_Mo_isPiece 153 = .ok (.aload_n 0, 1) := by decide +kernel
theorem d_Mo_isPiece_154 : decode b_Mo_isPiece 154 = .ok (.lload 5, 2) := by decide +kernel
theorem d_Mo_isPiece_156 : decode b_Mo_isPiece 156 = .ok (.putfield 150, 3) := by decide +kernel
theorem d_Mo_isPiece_159 : decode b_Mo_isPiece 159 = .ok (.iinc 2 1, 3) := by decide +kernel
theorem d_Mo_isPiece_162 : decode b_Mo_isPiece 162 = .ok (.goto (-130), 3) := by decide +kernel
theorem d_Mo_isPiece_165 : decode b_Mo_isPiece 165 = .ok (.aload_n 0, 1) := by decide +kernel
theorem d_Mo_isPiece_166 : decode b_Mo_isPiece 166 = .ok (.getfield 140, 3) := by decide +kernel
theorem d_Mo_isPiece_169 : decode b_Mo_isPiece 169 = .ok (.aload_n 0, 1) := by decide +kernel
theorem d_Mo_isPiece_170 : decode b_Mo_isPiece 170 = .ok (.getfield 150, 3) := by decide +kernel
theorem d_Mo_isPiece_173 : decode b_Mo_isPiece 173 = .ok (.lmul, 1) := by decide +kernel
theorem d_Mo_isPiece_174 : decode b_Mo_isPiece 174 = .ok (.aload_n 0, 1) := by decide +kernel
theorem d_Mo_isPiece_175 : decode b_Mo_isPiece 175 = .ok (.getfield 147, 3) := by decide +kernel
theorem d_Mo_isPiece_178 : decode b_Mo_isPiece 178 = .ok (.aload_n 0, 1) := by decide +kernel
theorem d_Mo_isPiece_179 : decode b_Mo_isPiece 179 = .ok (.getfield 144, 3) := by decide +kernel
theorem d_Mo_isPiece_182 : decode b_Mo_isPiece 182 = .ok (.lmul, 1) := by decide +kernel
theorem d_Mo_isPiece_183 : decode b_Mo_isPiece 183 = .ok (.lcmp, 1) := by decide +kernel
theorem d_Mo_isPiece_184 : decode b_Mo_isPiece 184 = .ok (.ifCond .ge 7, 3) := by decide +kernel
theorem d_Mo_isPiece_187 : decode b_Mo_isPiece 187 = .ok (.iconst 1, 1) := by decide +kernel
theorem d_Mo_isPiece_188 : decode b_Mo_isPiece 188 = .ok (.goto 4, 3) := by decide +kernel
theorem d_Mo_isPiece_191 : decode b_Mo_isPiece 191 = .ok (.iconst 0, 1) := by decide +kernel
theorem d_Mo_isPiece_192 : decode b_Mo_isPiece 192 = .ok (.ireturn, 1) := by decide +kernel
