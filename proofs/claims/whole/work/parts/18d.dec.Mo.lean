theorem d_Mo_piece_0 : decode b_Mo_piece 0 = .ok (.iload_n 1, 1) := by decide +kernel
theorem d_Mo_piece_1 : decode b_Mo_piece 1 = .ok (.iconst (-1), 1) := by decide +kernel
theorem d_Mo_piece_2 : decode b_Mo_piece 2 = .ok (.if_icmp .lt 21, 3) := by decide +kernel
theorem d_Mo_piece_5 : decode b_Mo_piece 5 = .ok (.iload_n 2, 1) := by decide +kernel
theorem d_Mo_piece_6 : decode b_Mo_piece 6 = .ok (.iconst 0, 1) := by decide +kernel
theorem d_Mo_piece_7 : decode b_Mo_piece 7 = .ok (.iload_n 1, 1) := by decide +kernel
theorem d_Mo_piece_8 : decode b_Mo_piece 8 = .ok (.iconst (-1), 1) := by decide +kernel
theorem d_Mo_piece_9 : decode b_Mo_piece 9 = .ok (.if_icmp .ne 7, 3) := by decide +kernel
theorem d_Mo_piece_12 : decode b_Mo_piece 12 = .ok (.iconst 0, 1) := by decide +kernel
theorem d_Mo_piece_13 : decode b_Mo_piece 13 = .ok (.goto 4, 3) := by decide +kernel
theorem d_Mo_piece_16 : decode b_Mo_piece 16 = .ok (.iconst 2, 1) := by decide +kernel
theorem d_Mo_piece_17 : decode b_Mo_piece 17 = .ok (.invokestatic 67, 3) := by decide +kernel
theorem d_Mo_piece_20 : decode b_Mo_piece 20 = .ok (.ifCond .ne 5, 3) := by decide +kernel
theorem d_Mo_piece_23 : decode b_Mo_piece 23 = .ok (.iconst (-1), 1) := by decide +kernel
theorem d_Mo_piece_24 : decode b_Mo_piece 24 = .ok (.ireturn, 1) := by decide +kernel
theorem d_Mo_piece_25 : decode b_Mo_piece 25 = .ok (.iconst 0, 1) := by decide +kernel
theorem d_Mo_piece_26 : decode b_Mo_piece 26 = .ok (.istore_n 3, 1) := by decide +kernel
theorem d_Mo_piece_27 : decode b_Mo_piece 27 = .ok (.iconst 0, 1) := by decide +kernel
theorem d_Mo_piece_28 : decode b_Mo_piece 28 = .ok (.istore 4, 2) := by decide +kernel
theorem d_Mo_piece_30 : decode b_Mo_piece 30 = .ok (.iload 4, 2) := by decide +kernel
theorem d_Mo_piece_32 : decode b_Mo_piece 32 = .ok (.aload_n 0, 1) := by decide +kernel
theorem d_Mo_piece_33 : decode b_Mo_piece 33 = .ok (.getfield 7, 3) := by decide +kernel
theorem d_Mo_piece_36 : decode b_Mo_piece 36 = .ok (.iconst 0, 1) := by decide +kernel
theorem d_Mo_piece_37 : decode b_Mo_piece 37 = .ok (.iaload, 1) := by decide +kernel
theorem d_Mo_piece_38 : decode b_Mo_piece 38 = .ok (.if_icmp .gt 57, 3) := by decide +kernel
theorem d_Mo_piece_41 : decode b_Mo_piece 41 = .ok (.aload_n 0, 1) := by decide +kernel
theorem d_Mo_piece_42 : decode b_Mo_piece 42 = .ok (.iload 4, 2) := by decide +kernel
theorem d_Mo_piece_44 : decode b_Mo_piece 44 = .ok (.invokevirtual 153, 3) := by decide +kernel
theorem d_Mo_piece_47 : decode b_Mo_piece 47 = .ok (.ifCond .eq 42, 3) := by decide +kernel
theorem d_Mo_piece_50 : decode b_Mo_piece 50 = .ok (.iload_n 3, 1) := by decide +kernel
theorem d_Mo_piece_51 : decode b_Mo_piece 51 = .ok (.iload_n 1, 1) := by decide +kernel
theorem d_Mo_piece_52 : decode b_Mo_piece 52 = .ok (.if_icmp .ne 34, 3) := by decide +kernel
theorem d_Mo_piece_55 : decode b_Mo_piece 55 = .ok (.iload_n 2, 1) := by decide +kernel
theorem d_Mo_piece_56 : decode b_Mo_piece 56 = .ok (.ifCond .ne 8, 3) := by decide +kernel
theorem d_Mo_piece_59 : decode b_Mo_piece 59 = .ok (.iload 4, 2) := by decide +kernel
theorem d_Mo_piece_61 : decode b_Mo_piece 61 = .ok (.goto 24, 3) := by decide +kernel
theorem d_Mo_piece_64 : decode b_Mo_piece 64 = .ok (.aload_n 0, 1) := by decide +kernel
theorem d_Mo_piece_65 : decode b_Mo_piece 65 = .ok (.getfield 140, 3) := by decide +kernel
theorem d_Mo_piece_68 : decode b_Mo_piece 68 = .ok (.aload_n 0, 1) := by decide +kernel
theorem d_Mo_piece_69 : decode b_Mo_piece 69 = .ok (.getfield 144, 3) := by decide +kernel
theorem d_Mo_piece_72 : decode b_Mo_piece 72 = .ok (.iload_n 2, 1) := by decide +kernel
theorem d_Mo_piece_73 : decode b_Mo_piece 73 = .ok (.iconst 1, 1) := by decide +kernel
theorem d_Mo_piece_74 : decode b_Mo_piece 74 = .ok (.if_icmp .ne 7, 3) := by decide +kernel
theorem d_Mo_piece_77 : decode b_Mo_piece 77 = .ok (.iconst 1, 1) := by decide +kernel
theorem d_Mo_piece_78 : decode b_Mo_piece 78 = .ok (.goto 4, 3) := by decide +kernel
theorem d_Mo_piece_81 : decode b_Mo_piece 81 = .ok (.iconst 0, 1) := by decide +kernel
theorem d_Mo_piece_82 : decode b_Mo_piece 82 = .ok (.invokestatic 136, 3) := by decide +kernel
theorem d_Mo_piece_85 : decode b_Mo_piece 85 = .ok (.ireturn, 1) := by decide +kernel
theorem d_Mo_piece_86 : decode b_Mo_piece 86 = .ok (.iinc 3 1, 3) := by decide +kernel
theorem d_Mo_piece_89 : decode b_Mo_piece 89 = .ok (.iinc 4 1, 3) := by decide +kernel
theorem d_Mo_piece_92 : decode b_Mo_piece 92 = .ok (.goto (-62), 3) := by decide +kernel
theorem d_Mo_piece_95 : decode b_Mo_piece 95 = .ok (.iload_n 1, 1) := by decide +kernel
theorem d_Mo_piece_96 : decode b_Mo_piece 96 = .ok (.iconst (-1), 1) := by decide +kernel
theorem d_Mo_piece_97 : decode b_Mo_piece 97 = .ok (.if_icmp .ne 7, 3) := by decide +kernel
theorem d_Mo_piece_100 : decode b_Mo_piece 100 = .ok (.iload_n 3, 1) := by decide +kernel
theorem d_Mo_piece_101 : decode b_Mo_piece 101 = .ok (.goto 5, 3) := by decide +kernel
theorem d_Mo_piece_104 : decode b_Mo_piece 104 = .ok (.bipush (-9), 2) := by decide +kernel
theorem d_Mo_piece_106 : decode b_Mo_piece 106 = .ok (.ireturn, 1) := by decide +kernel
theorem d_Mo_isEnough_0 : decode b_Mo_isEnough 0 = .ok (.iload_n 1, 1) := by decide +kernel
theorem d_Mo_isEnough_1 : decode b_Mo_isEnough 1 = .ok (.istore_n 3, 1) := by decide +kernel
theorem d_Mo_isEnough_2 : decode b_Mo_isEnough 2 = .ok (.iconst 1, 1) := by decide +kernel
theorem d_Mo_isEnough_3 : decode b_Mo_isEnough 3 = .ok (.istore 4, 2) := by decide +kernel
theorem d_Mo_isEnough_5 : decode b_Mo_isEnough 5 = .ok (.iconst 0, 1) := by decide +kernel
theorem d_Mo_isEnough_6 : decode b_Mo_isEnough 6 = .ok (.istore 5, 2) := by decide +kernel
theorem d_Mo_isEnough_8 : decode b_Mo_isEnough 8 = .ok (.iload 5, 2) := by decide +kernel
theorem d_Mo_isEnough_10 : decode b_Mo_isEnough 10 = .ok (.iload_n 2, 1) := by decide +kernel
theorem d_Mo_isEnough_11 : decode b_Mo_isEnough 11 = .ok (.if_icmp .ge 53, 3) := by decide +kernel
theorem d_Mo_isEnough_14 : decode b_Mo_isEnough 14 = .ok (.iload 4, 2) := by decide +kernel
theorem d_Mo_isEnough_16 : decode b_Mo_isEnough 16 = .ok (.ifCond .eq 48, 3) := by decide +kernel
theorem d_Mo_isEnough_19 : decode b_Mo_isEnough 19 = .ok (.aload_n 0, 1) := by decide +kernel
theorem d_Mo_isEnough_20 : decode b_Mo_isEnough 20 = .ok (.iload_n 3, 1) := by decide +kernel
theorem d_Mo_isEnough_21 : decode b_Mo_isEnough 21 = .ok (.aload_n 0, 1) := by decide +kernel
theorem d_Mo_isEnough_22 : decode b_Mo_isEnough 22 = .ok (.iload 5, 2) := by decide +kernel
theorem d_Mo_isEnough_24 : decode b_Mo_isEnough 24 = .ok (.invokevirtual 109, 3) := by decide +kernel
theorem d_Mo_isEnough_27 : decode b_Mo_isEnough 27 = .ok (.aload_n 0, 1) := by decide +kernel
theorem d_Mo_isEnough_28 : decode b_Mo_isEnough 28 = .ok (.getfield 7, 3) := by decide +kernel
theorem d_Mo_isEnough_31 : decode b_Mo_isEnough 31 = .ok (.bipush 13, 2) := by decide +kernel
theorem d_Mo_isEnough_33 : decode b_Mo_isEnough 33 = .ok (.iaload, 1) := by decide +kernel
theorem d_Mo_isEnough_34 : decode b_Mo_isEnough 34 = .ok (.invokevirtual 112, 3) := by decide +kernel
theorem d_Mo_isEnough_37 : decode b_Mo_isEnough 37 = .ok (.istore 6, 2) := by decide +kernel
theorem d_Mo_isEnough_39 : decode b_Mo_isEnough 39 = .ok (.iload 6, 2) := by decide +kernel
theorem d_Mo_isEnough_41 : decode b_Mo_isEnough 41 = .ok (.ifCond .lt 7, 3) := by decide +kernel
theorem d_Mo_isEnough_44 : decode b_Mo_isEnough 44 = .ok (.iconst 1, 1) := by decide +kernel
theorem d_Mo_isEnough_45 : decode b_Mo_isEnough 45 = .ok (.goto 4, 3) := by decide +kernel
theorem d_Mo_isEnough_48 : decode b_Mo_isEnough 48 = .ok (.iconst 0, 1) := by decide +kernel
theorem d_Mo_isEnough_49 : decode b_Mo_isEnough 49 = .ok (.istore 4, 2) := by decide +kernel
theorem d_Mo_isEnough_51 : decode b_Mo_isEnough 51 = .ok (.iload 6, 2) := by decide +kernel
theorem d_Mo_isEnough_53 : decode b_Mo_isEnough 53 = .ok (.iload_n 1, 1) := by decide +kernel
theorem d_Mo_isEnough_54 : decode b_Mo_isEnough 54 = .ok (.invokestatic 116, 3) := by decide +kernel
theorem d_Mo_isEnough_57 : decode b_Mo_isEnough 57 = .ok (.istore_n 3, 1) := by decide +kernel
theorem d_Mo_isEnough_58 : decode b_Mo_isEnough 58 = .ok (.iinc 5 1, 3) := by decide +kernel
theorem d_Mo_isEnough_61 : decode b_Mo_isEnough 61 = .ok (.goto (-53), 3) := by decide +kernel
theorem d_Mo_isEnough_64 : decode b_Mo_isEnough 64 = .ok (.iload 4, 2) := by decide +kernel
theorem d_Mo_isEnough_66 : decode b_Mo_isEnough 66 = .ok (.ireturn, 1) := by decide +kernel
theorem d_Mo_least_0 : decode b_Mo_least 0 = .ok (.iload_n 1, 1) := by decide +kernel
theorem d_Mo_least_1 : decode b_Mo_least 1 = .ok (.iconst 1, 1) := by decide +kernel
theorem d_Mo_least_2 : decode b_Mo_least 2 = .ok (.bipush 120, 2) := by decide +kernel
theorem d_Mo_least_4 : decode b_Mo_least 4 = .ok (.invokestatic 67, 3) := by decide +kernel
theorem d_Mo_least_7 : decode b_Mo_least 7 = .ok (.ifCond .ne 5, 3) := by decide +kernel
theorem d_Mo_least_10 : decode b_Mo_least 10 = .ok (.iconst (-1), 1) := by decide +kernel
theorem d_Mo_least_11 : decode b_Mo_least 11 = .ok (.ireturn, 1) := by decide +kernel
theorem d_Mo_least_12 : decode b_Mo_least 12 = .ok (.iconst 0, 1) := by decide +kernel
theorem d_Mo_least_13 : decode b_Mo_least 13 = .ok (.istore_n 2, 1) := by decide +kernel
theorem d_Mo_least_14 : decode b_Mo_least 14 = .ok (.iload_n 2, 1) := by decide +kernel
theorem d_Mo_least_15 : decode b_Mo_least 15 = .ok (.sipush 999, 3) := by decide +kernel
theorem d_Mo_least_18 : decode b_Mo_least 18 = .ok (.if_icmp .gt 20, 3) := by decide +kernel
theorem d_Mo_least_21 : decode b_Mo_least 21 = .ok (.aload_n 0, 1) := by decide +kernel
theorem d_Mo_least_22 : decode b_Mo_least 22 = .ok (.iload_n 2, 1) := by decide +kernel
theorem d_Mo_least_23 : decode b_Mo_least 23 = .ok (.iload_n 1, 1) := by decide +kernel
theorem d_Mo_least_24 : decode b_Mo_least 24 = .ok (.invokevirtual 156, 3) := by decide +kernel
theorem d_Mo_least_27 : decode b_Mo_least 27 = .ok (.ifCond .eq 5, 3) := by decide +kernel
theorem d_Mo_least_30 : decode b_Mo_least 30 = .ok (.iload_n 2, 1) := by decide +kernel
theorem d_Mo_least_31 : decode b_Mo_least 31 = .ok (.ireturn, 1) := by decide +kernel
theorem d_Mo_least_32 : decode b_Mo_least 32 = .ok (.iinc 2 1, 3) := by decide +kernel
theorem d_Mo_least_35 : decode b_Mo_least 35 = .ok (.goto (-21), 3) := by decide +kernel
theorem d_Mo_least_38 : decode b_Mo_least 38 = .ok (.bipush (-9), 2) := by decide +kernel
theorem d_Mo_least_40 : decode b_Mo_least 40 = .ok (.ireturn, 1) := by decide +kernel
theorem d_Mo_round_0 : decode b_Mo_round 0 = .ok (.iload_n 1, 1) := by decide +kernel
theorem d_Mo_round_1 : decode b_Mo_round 1 = .ok (.iconst 0, 1) := by decide +kernel
theorem d_Mo_round_2 : decode b_Mo_round 2 = .ok (.iconst 2, 1) := by decide +kernel
theorem d_Mo_round_3 : decode b_Mo_round 3 = .ok (.invokestatic 67, 3) := by decide +kernel
theorem d_Mo_round_6 : decode b_Mo_round 6 = .ok (.ifCond .ne 5, 3) := by decide +kernel
theorem d_Mo_round_9 : decode b_Mo_round 9 = .ok (.iconst (-1), 1) := by decide +kernel
theorem d_Mo_round_10 : decode b_Mo_round 10 = .ok (.ireturn, 1) := by decide +kernel
theorem d_Mo_round_11 : decode b_Mo_round 11 = .ok (.iconst 0, 1) := by decide +kernel
theorem d_Mo_round_12 : decode b_Mo_round 12 = .ok (.istore_n 2, 1) := by decide +kernel
theorem d_Mo_round_13 : decode b_Mo_round 13 = .ok (.iload_n 2, 1) := by decide +kernel
theorem d_Mo_round_14 : decode b_Mo_round 14 = .ok (.sipush 999, 3) := by decide +kernel
theorem d_Mo_round_17 : decode b_Mo_round 17 = .ok (.if_icmp .gt 17, 3) := by decide +kernel
theorem d_Mo_round_20 : decode b_Mo_round 20 = .ok (.aload_n 0, 1) := by decide +kernel
theorem d_Mo_round_21 : decode b_Mo_round 21 = .ok (.getfield 35, 3) := by decide +kernel
theorem d_Mo_round_24 : decode b_Mo_round 24 = .ok (.iload_n 2, 1) := by decide +kernel
theorem d_Mo_round_25 : decode b_Mo_round 25 = .ok (.bipush (-9), 2) := by decide +kernel
theorem d_Mo_round_27 : decode b_Mo_round 27 = .ok (.iastore, 1) := by decide +kernel
theorem d_Mo_round_28 : decode b_Mo_round 28 = .ok (.iinc 2 1, 3) := by decide +kernel
theorem d_Mo_round_31 : decode b_Mo_round 31 = .ok (.goto (-18), 3) := by decide +kernel
theorem d_Mo_round_34 : decode b_Mo_round 34 = .ok (.aload_n 0, 1) := by decide +kernel
theorem d_Mo_round_35 : decode b_Mo_round 35 = .ok (.getfield 7, 3) := by decide +kernel
theorem d_Mo_round_38 : decode b_Mo_round 38 = .ok (.bipush 14, 2) := by decide +kernel
theorem d_Mo_round_40 : decode b_Mo_round 40 = .ok (.iaload, 1) := by decide +kernel
theorem d_Mo_round_41 : decode b_Mo_round 41 = .ok (.istore_n 2, 1) := by decide +kernel
theorem d_Mo_round_42 : decode b_Mo_round 42 = .ok (.iconst 0, 1) := by decide +kernel
theorem d_Mo_round_43 : decode b_Mo_round 43 = .ok (.istore_n 3, 1) := by decide +kernel
theorem d_Mo_round_44 : decode b_Mo_round 44 = .ok (.iconst 0, 1) := by decide +kernel
theorem d_Mo_round_45 : decode b_Mo_round 45 = .ok (.istore 4, 2) := by decide +kernel
theorem d_Mo_round_47 : decode b_Mo_round 47 = .ok (.aload_n 0, 1) := by decide +kernel
theorem d_Mo_round_48 : decode b_Mo_round 48 = .ok (.getfield 35, 3) := by decide +kernel
theorem d_Mo_round_51 : decode b_Mo_round 51 = .ok (.iload_n 2, 1) := by decide +kernel
theorem d_Mo_round_52 : decode b_Mo_round 52 = .ok (.iaload, 1) := by decide +kernel
theorem d_Mo_round_53 : decode b_Mo_round 53 = .ok (.bipush (-9), 2) := by decide +kernel
theorem d_Mo_round_55 : decode b_Mo_round 55 = .ok (.if_icmp .ne 93, 3) := by decide +kernel
theorem d_Mo_round_58 : decode b_Mo_round 58 = .ok (.aload_n 0, 1) := by decide +kernel
theorem d_Mo_round_59 : decode b_Mo_round 59 = .ok (.getfield 35, 3) := by decide +kernel
theorem d_Mo_round_62 : decode b_Mo_round 62 = .ok (.iload_n 2, 1) := by decide +kernel
theorem d_Mo_round_63 : decode b_Mo_round 63 = .ok (.iload 4, 2) := by decide +kernel
theorem d_Mo_round_65 : decode b_Mo_round 65 = .ok (.iastore, 1) := by decide +kernel
theorem d_Mo_round_66 : decode b_Mo_round 66 = .ok (.aload_n 0, 1) := by decide +kernel
theorem d_Mo_round_67 : decode b_Mo_round 67 = .ok (.getfield 38, 3) := by decide +kernel
theorem d_Mo_round_70 : decode b_Mo_round 70 = .ok (.iload_n 2, 1) := by decide +kernel
theorem d_Mo_round_71 : decode b_Mo_round 71 = .ok (.iload_n 3, 1) := by decide +kernel
theorem d_Mo_round_72 : decode b_Mo_round 72 = .ok (.iastore, 1) := by decide +kernel
theorem d_Mo_round_73 : decode b_Mo_round 73 = .ok (.iconst 0, 1) := by decide +kernel
theorem d_Mo_round_74 : decode b_Mo_round 74 = .ok (.istore 5, 2) := by decide +kernel
theorem d_Mo_round_76 : decode b_Mo_round 76 = .ok (.iload 5, 2) := by decide +kernel
theorem d_Mo_round_78 : decode b_Mo_round 78 = .ok (.aload_n 0, 1) := by decide +kernel
theorem d_Mo_round_79 : decode b_Mo_round 79 = .ok (.getfield 7, 3) := by decide +kernel
theorem d_Mo_round_82 : decode b_Mo_round 82 = .ok (.iconst 0, 1) := by decide +kernel
theorem d_Mo_round_83 : decode b_Mo_round 83 = .ok (.iaload, 1) := by decide +kernel
theorem d_Mo_round_84 : decode b_Mo_round 84 = .ok (.if_icmp .ge 58, 3) := by decide +kernel
theorem d_Mo_round_87 : decode b_Mo_round 87 = .ok (.aload_n 0, 1) := by decide +kernel
theorem d_Mo_round_88 : decode b_Mo_round 88 = .ok (.iload_n 2, 1) := by decide +kernel
theorem d_Mo_round_89 : decode b_Mo_round 89 = .ok (.aload_n 0, 1) := by decide +kernel
theorem d_Mo_round_90 : decode b_Mo_round 90 = .ok (.getfield 7, 3) := by decide +kernel
theorem d_Mo_round_93 : decode b_Mo_round 93 = .ok (.iconst 1, 1) := by decide +kernel
theorem d_Mo_round_94 : decode b_Mo_round 94 = .ok (.iload 5, 2) := by decide +kernel
theorem d_Mo_round_96 : decode b_Mo_round 96 = .ok (.iadd, 1) := by decide +kernel
theorem d_Mo_round_97 : decode b_Mo_round 97 = .ok (.iaload, 1) := by decide +kernel
theorem d_Mo_round_98 : decode b_Mo_round 98 = .ok (.aload_n 0, 1) := by decide +kernel
theorem d_Mo_round_99 : decode b_Mo_round 99 = .ok (.getfield 7, 3) := by decide +kernel
theorem d_Mo_round_102 : decode b_Mo_round 102 = .ok (.bipush 13, 2) := by decide +kernel
theorem d_Mo_round_104 : decode b_Mo_round 104 = .ok (.iaload, 1) := by decide +kernel
theorem d_Mo_round_105 : decode b_Mo_round 105 = .ok (.invokevirtual 112, 3) := by decide +kernel
theorem d_Mo_round_108 : decode b_Mo_round 108 = .ok (.istore 6, 2) := by decide +kernel
theorem d_Mo_round_110 : decode b_Mo_round 110 = .ok (.iload_n 3, 1) := by decide +kernel
theorem d_Mo_round_111 : decode b_Mo_round 111 = .ok (.iload 6, 2) := by decide +kernel
theorem d_Mo_round_113 : decode b_Mo_round 113 = .ok (.ifCond .ge 7, 3) := by decide +kernel
theorem d_Mo_round_116 : decode b_Mo_round 116 = .ok (.iconst 1, 1) := by decide +kernel
theorem d_Mo_round_117 : decode b_Mo_round 117 = .ok (.goto 4, 3) := by decide +kernel
theorem d_Mo_round_120 : decode b_Mo_round 120 = .ok (.iconst 0, 1) := by decide +kernel
theorem d_Mo_round_121 : decode b_Mo_round 121 = .ok (.iadd, 1) := by decide +kernel
theorem d_Mo_round_122 : decode b_Mo_round 122 = .ok (.istore_n 3, 1) := by decide +kernel
theorem d_Mo_round_123 : decode b_Mo_round 123 = .ok (.iload 6, 2) := by decide +kernel
theorem d_Mo_round_125 : decode b_Mo_round 125 = .ok (.aload_n 0, 1) := by decide +kernel
theorem d_Mo_round_126 : decode b_Mo_round 126 = .ok (.getfield 7, 3) := by decide +kernel
theorem d_Mo_round_129 : decode b_Mo_round 129 = .ok (.bipush 14, 2) := by decide +kernel
theorem d_Mo_round_131 : decode b_Mo_round 131 = .ok (.iaload, 1) := by decide +kernel
theorem d_Mo_round_132 : decode b_Mo_round 132 = .ok (.invokestatic 116, 3) := by decide +kernel
theorem d_Mo_round_135 : decode b_Mo_round 135 = .ok (.istore_n 2, 1) := by decide +kernel
theorem d_Mo_round_136 : decode b_Mo_round 136 = .ok (.iinc 5 1, 3) := by decide +kernel
theorem d_Mo_round_139 : decode b_Mo_round 139 = .ok (.goto (-63), 3) := by decide +kernel
theorem d_Mo_round_142 : decode b_Mo_round 142 = .ok (.iinc 4 1, 3) := by decide +kernel
theorem d_Mo_round_145 : decode b_Mo_round 145 = .ok (.goto (-98), 3) := by decide +kernel
theorem d_Mo_round_148 : decode b_Mo_round 148 = .ok (.iload_n 1, 1) := by decide +kernel
theorem d_Mo_round_149 : decode b_Mo_round 149 = .ok (.ifCond .ne 12, 3) := by decide +kernel
theorem d_Mo_round_152 : decode b_Mo_round 152 = .ok (.aload_n 0, 1) := by decide +kernel
theorem d_Mo_round_153 : decode b_Mo_round 153 = .ok (.getfield 35, 3) := by decide +kernel
theorem d_Mo_round_156 : decode b_Mo_round 156 = .ok (.iload_n 2, 1) := by decide +kernel
theorem d_Mo_round_157 : decode b_Mo_round 157 = .ok (.iaload, 1) := by decide +kernel
theorem d_Mo_round_158 : decode b_Mo_round 158 = .ok (.goto 28, 3) := by decide +kernel
theorem d_Mo_round_161 : decode b_Mo_round 161 = .ok (.iload_n 1, 1) := by decide +kernel
theorem d_Mo_round_162 : decode b_Mo_round 162 = .ok (.iconst 1, 1) := by decide +kernel
theorem d_Mo_round_163 : decode b_Mo_round 163 = .ok (.if_icmp .ne 15, 3) := by decide +kernel
theorem d_Mo_round_166 : decode b_Mo_round 166 = .ok (.iload 4, 2) := by decide +kernel
theorem d_Mo_round_168 : decode b_Mo_round 168 = .ok (.aload_n 0, 1) := by decide +kernel
theorem d_Mo_round_169 : decode b_Mo_round 169 = .ok (.getfield 35, 3) := by decide +kernel
theorem d_Mo_round_172 : decode b_Mo_round 172 = .ok (.iload_n 2, 1) := by decide +kernel
theorem d_Mo_round_173 : decode b_Mo_round 173 = .ok (.iaload, 1) := by decide +kernel
theorem d_Mo_round_174 : decode b_Mo_round 174 = .ok (.isub, 1) := by decide +kernel
theorem d_Mo_round_175 : decode b_Mo_round 175 = .ok (.goto 11, 3) := by decide +kernel
theorem d_Mo_round_178 : decode b_Mo_round 178 = .ok (.iload_n 3, 1) := by decide +kernel
theorem d_Mo_round_179 : decode b_Mo_round 179 = .ok (.aload_n 0, 1) := by decide +kernel
theorem d_Mo_round_180 : decode b_Mo_round 180 = .ok (.getfield 38, 3) := by decide +kernel
theorem d_Mo_round_183 : decode b_Mo_round 183 = .ok (.iload_n 2, 1) := by decide +kernel
theorem d_Mo_round_184 : decode b_Mo_round 184 = .ok (.iaload, 1) := by decide +kernel
theorem d_Mo_round_185 : decode b_Mo_round 185 = .ok (.isub, 1) := by decide +kernel
theorem d_Mo_round_186 : decode b_Mo_round 186 = .ok (.ireturn, 1) := by decide +kernel
theorem d_Mo_run_0 : decode b_Mo_run 0 = .ok (.iload_n 1, 1) := by decide +kernel
theorem d_Mo_run_1 : decode b_Mo_run 1 = .ok (.iconst 0, 1) := by decide +kernel
theorem d_Mo_run_2 : decode b_Mo_run 2 = .ok (.sipush 999, 3) := by decide +kernel
theorem d_Mo_run_5 : decode b_Mo_run 5 = .ok (.invokestatic 67, 3) := by decide +kernel
theorem d_Mo_run_8 : decode b_Mo_run 8 = .ok (.ifCond .ne 5, 3) := by decide +kernel
theorem d_Mo_run_11 : decode b_Mo_run 11 = .ok (.iconst (-1), 1) := by decide +kernel
theorem d_Mo_run_12 : decode b_Mo_run 12 = .ok (.ireturn, 1) := by decide +kernel
theorem d_Mo_run_13 : decode b_Mo_run 13 = .ok (.aload_n 0, 1) := by decide +kernel
theorem d_Mo_run_14 : decode b_Mo_run 14 = .ok (.getfield 7, 3) := by decide +kernel
theorem d_Mo_run_17 : decode b_Mo_run 17 = .ok (.bipush 14, 2) := by decide +kernel
theorem d_Mo_run_19 : decode b_Mo_run 19 = .ok (.iaload, 1) := by decide +kernel
theorem d_Mo_run_20 : decode b_Mo_run 20 = .ok (.istore_n 2, 1) := by decide +kernel
theorem d_Mo_run_21 : decode b_Mo_run 21 = .ok (.iconst 0, 1) := by decide +kernel
theorem d_Mo_run_22 : decode b_Mo_run 22 = .ok (.istore_n 3, 1) := by decide +kernel
theorem d_Mo_run_23 : decode b_Mo_run 23 = .ok (.iload_n 3, 1) := by decide +kernel
theorem d_Mo_run_24 : decode b_Mo_run 24 = .ok (.iload_n 1, 1) := by decide +kernel
theorem d_Mo_run_25 : decode b_Mo_run 25 = .ok (.if_icmp .gt 37, 3) := by decide +kernel
theorem d_Mo_run_28 : decode b_Mo_run 28 = .ok (.aload_n 0, 1) := by decide +kernel
theorem d_Mo_run_29 : decode b_Mo_run 29 = .ok (.iload_n 2, 1) := by decide +kernel
theorem d_Mo_run_30 : decode b_Mo_run 30 = .ok (.aload_n 0, 1) := by decide +kernel
theorem d_Mo_run_31 : decode b_Mo_run 31 = .ok (.iload_n 3, 1) := by decide +kernel
theorem d_Mo_run_32 : decode b_Mo_run 32 = .ok (.invokevirtual 109, 3) := by decide +kernel
theorem d_Mo_run_35 : decode b_Mo_run 35 = .ok (.aload_n 0, 1) := by decide +kernel
theorem d_Mo_run_36 : decode b_Mo_run 36 = .ok (.getfield 7, 3) := by decide +kernel
theorem d_Mo_run_39 : decode b_Mo_run 39 = .ok (.bipush 13, 2) := by decide +kernel
theorem d_Mo_run_41 : decode b_Mo_run 41 = .ok (.iaload, 1) := by decide +kernel
theorem d_Mo_run_42 : decode b_Mo_run 42 = .ok (.invokevirtual 112, 3) := by decide +kernel
theorem d_Mo_run_45 : decode b_Mo_run 45 = .ok (.aload_n 0, 1) := by decide +kernel
theorem d_Mo_run_46 : decode b_Mo_run 46 = .ok (.getfield 7, 3) := by decide +kernel
theorem d_Mo_run_49 : decode b_Mo_run 49 = .ok (.bipush 14, 2) := by decide +kernel
theorem d_Mo_run_51 : decode b_Mo_run 51 = .ok (.iaload, 1) := by decide +kernel
theorem d_Mo_run_52 : decode b_Mo_run 52 = .ok (.invokestatic 116, 3) := by decide +kernel
theorem d_Mo_run_55 : decode b_Mo_run 55 = .ok (.istore_n 2, 1) := by decide +kernel
theorem d_Mo_run_56 : decode b_Mo_run 56 = .ok (.iinc 3 1, 3) := by decide +kernel
theorem d_Mo_run_59 : decode b_Mo_run 59 = .ok (.goto (-36), 3) := by decide +kernel
theorem d_Mo_run_62 : decode b_Mo_run 62 = .ok (.iload_n 2, 1) := by decide +kernel
theorem d_Mo_run_63 : decode b_Mo_run 63 = .ok (.ireturn, 1) := by decide +kernel
theorem d_Mo_weightOf_0 : decode b_Mo_weightOf 0 = .ok (.aload_n 0, 1) := by decide +kernel
theorem d_Mo_weightOf_1 : decode b_Mo_weightOf 1 = .ok (.getfield 7, 3) := by decide +kernel
theorem d_Mo_weightOf_4 : decode b_Mo_weightOf 4 = .ok (.bipush 26, 2) := by decide +kernel
theorem d_Mo_weightOf_6 : decode b_Mo_weightOf 6 = .ok (.iaload, 1) := by decide +kernel
theorem d_Mo_weightOf_7 : decode b_Mo_weightOf 7 = .ok (.istore 4, 2) := by decide +kernel
theorem d_Mo_weightOf_9 : decode b_Mo_weightOf 9 = .ok (.lconst 1, 1) := by decide +kernel
theorem d_Mo_weightOf_10 : decode b_Mo_weightOf 10 = .ok (.lstore 5, 2) := by decide +kernel
theorem d_Mo_weightOf_12 : decode b_Mo_weightOf 12 = .ok (.iconst 0, 1) := by decide +kernel
theorem d_Mo_weightOf_13 : decode b_Mo_weightOf 13 = .ok (.istore 7, 2) := by decide +kernel
theorem d_Mo_weightOf_15 : decode b_Mo_weightOf 15 = .ok (.iload 7, 2) := by decide +kernel
theorem d_Mo_weightOf_17 : decode b_Mo_weightOf 17 = .ok (.iload_n 2, 1) := by decide +kernel
theorem d_Mo_weightOf_18 : decode b_Mo_weightOf 18 = .ok (.if_icmp .ge 121, 3) := by decide +kernel
theorem d_Mo_weightOf_21 : decode b_Mo_weightOf 21 = .ok (.lload 5, 2) := by decide +kernel
theorem d_Mo_weightOf_23 : decode b_Mo_weightOf 23 = .ok (.lconst 0, 1) := by decide +kernel
theorem d_Mo_weightOf_24 : decode b_Mo_weightOf 24 = .ok (.lcmp, 1) := by decide +kernel
theorem d_Mo_weightOf_25 : decode b_Mo_weightOf 25 = .ok (.ifCond .le 114, 3) := by decide +kernel
theorem d_Mo_weightOf_28 : decode b_Mo_weightOf 28 = .ok (.aload_n 0, 1) := by decide +kernel
theorem d_Mo_weightOf_29 : decode b_Mo_weightOf 29 = .ok (.aload_n 0, 1) := by decide +kernel
theorem d_Mo_weightOf_30 : decode b_Mo_weightOf 30 = .ok (.getfield 7, 3) := by decide +kernel
theorem d_Mo_weightOf_33 : decode b_Mo_weightOf 33 = .ok (.bipush 25, 2) := by decide +kernel
theorem d_Mo_weightOf_35 : decode b_Mo_weightOf 35 = .ok (.iaload, 1) := by decide +kernel
theorem d_Mo_weightOf_36 : decode b_Mo_weightOf 36 = .ok (.iload 7, 2) := by decide +kernel
theorem d_Mo_weightOf_38 : decode b_Mo_weightOf 38 = .ok (.iadd, 1) := by decide +kernel
theorem d_Mo_weightOf_39 : decode b_Mo_weightOf 39 = .ok (.invokevirtual 109, 3) := by decide +kernel
theorem d_Mo_weightOf_42 : decode b_Mo_weightOf 42 = .ok (.istore 8, 2) := by decide +kernel
theorem d_Mo_weightOf_44 : decode b_Mo_weightOf 44 = .ok (.iload_n 1, 1) := by decide +kernel
theorem d_Mo_weightOf_45 : decode b_Mo_weightOf 45 = .ok (.iload 7, 2) := by decide +kernel
theorem d_Mo_weightOf_47 : decode b_Mo_weightOf 47 = .ok (.ishr, 1) := by decide +kernel
theorem d_Mo_weightOf_48 : decode b_Mo_weightOf 48 = .ok (.iconst 1, 1) := by decide +kernel
theorem d_Mo_weightOf_49 : decode b_Mo_weightOf 49 = .ok (.iand, 1) := by decide +kernel
theorem d_Mo_weightOf_50 : decode b_Mo_weightOf 50 = .ok (.iconst 1, 1) := by decide +kernel
theorem d_Mo_weightOf_51 : decode b_Mo_weightOf 51 = .ok (.if_icmp .ne 7, 3) := by decide +kernel
theorem d_Mo_weightOf_54 : decode b_Mo_weightOf 54 = .ok (.iconst 1, 1) := by decide +kernel
theorem d_Mo_weightOf_55 : decode b_Mo_weightOf 55 = .ok (.goto 4, 3) := by decide +kernel
theorem d_Mo_weightOf_58 : decode b_Mo_weightOf 58 = .ok (.iconst 0, 1) := by decide +kernel
theorem d_Mo_weightOf_59 : decode b_Mo_weightOf 59 = .ok (.istore 9, 2) := by decide +kernel
theorem d_Mo_weightOf_61 : decode b_Mo_weightOf 61 = .ok (.aload_n 0, 1) := by decide +kernel
theorem d_Mo_weightOf_62 : decode b_Mo_weightOf 62 = .ok (.iload 4, 2) := by decide +kernel
theorem d_Mo_weightOf_64 : decode b_Mo_weightOf 64 = .ok (.iload 9, 2) := by decide +kernel
theorem d_Mo_weightOf_66 : decode b_Mo_weightOf 66 = .ok (.ifCond .eq 10, 3) := by decide +kernel
theorem d_Mo_weightOf_69 : decode b_Mo_weightOf 69 = .ok (.iload 8, 2) := by decide +kernel
theorem d_Mo_weightOf_71 : decode b_Mo_weightOf 71 = .ok (.iconst 2, 1) := by decide +kernel
theorem d_Mo_weightOf_72 : decode b_Mo_weightOf 72 = .ok (.idiv, 1) := by decide +kernel
theorem d_Mo_weightOf_73 : decode b_Mo_weightOf 73 = .ok (.goto 5, 3) := by decide +kernel
theorem d_Mo_weightOf_76 : decode b_Mo_weightOf 76 = .ok (.iload 8, 2) := by decide +kernel
theorem d_Mo_weightOf_78 : decode b_Mo_weightOf 78 = .ok (.aload_n 0, 1) := by decide +kernel
theorem d_Mo_weightOf_79 : decode b_Mo_weightOf 79 = .ok (.getfield 7, 3) := by decide +kernel
theorem d_Mo_weightOf_82 : decode b_Mo_weightOf 82 = .ok (.bipush 13, 2) := by decide +kernel
theorem d_Mo_weightOf_84 : decode b_Mo_weightOf 84 = .ok (.iaload, 1) := by decide +kernel
theorem d_Mo_weightOf_85 : decode b_Mo_weightOf 85 = .ok (.invokevirtual 112, 3) := by decide +kernel
theorem d_Mo_weightOf_88 : decode b_Mo_weightOf 88 = .ok (.istore 10, 2) := by decide +kernel
theorem d_Mo_weightOf_90 : decode b_Mo_weightOf 90 = .ok (.lload 5, 2) := by decide +kernel
theorem d_Mo_weightOf_92 : decode b_Mo_weightOf 92 = .ok (.iload 10, 2) := by decide +kernel
theorem d_Mo_weightOf_94 : decode b_Mo_weightOf 94 = .ok (.ifCond .ge 7, 3) := by decide +kernel
theorem d_Mo_weightOf_97 : decode b_Mo_weightOf 97 = .ok (.lconst 0, 1) := by decide +kernel
theorem d_Mo_weightOf_98 : decode b_Mo_weightOf 98 = .ok (.goto 18, 3) := by decide +kernel
theorem d_Mo_weightOf_101 : decode b_Mo_weightOf 101 = .ok (.iload 9, 2) := by decide +kernel
theorem d_Mo_weightOf_103 : decode b_Mo_weightOf 103 = .ok (.ifCond .eq 8, 3) := by decide +kernel
theorem d_Mo_weightOf_106 : decode b_Mo_weightOf 106 = .ok (.iload_n 3, 1) := by decide +kernel
theorem d_Mo_weightOf_107 : decode b_Mo_weightOf 107 = .ok (.i2l, 1) := by decide +kernel
theorem d_Mo_weightOf_108 : decode b_Mo_weightOf 108 = .ok (.goto 8, 3) := by decide +kernel
theorem d_Mo_weightOf_111 : decode b_Mo_weightOf 111 = .ok (.bipush 10, 2) := by decide +kernel
theorem d_Mo_weightOf_113 : decode b_Mo_weightOf 113 = .ok (.iload_n 3, 1) := by decide +kernel
theorem d_Mo_weightOf_114 : decode b_Mo_weightOf 114 = .ok (.isub, 1) := by decide +kernel
theorem d_Mo_weightOf_115 : decode b_Mo_weightOf 115 = .ok (.i2l, 1) := by decide +kernel
theorem d_Mo_weightOf_116 : decode b_Mo_weightOf 116 = .ok (.lmul, 1) := by decide +kernel
theorem d_Mo_weightOf_117 : decode b_Mo_weightOf 117 = .ok (.lstore 5, 2) := by decide +kernel
theorem d_Mo_weightOf_119 : decode b_Mo_weightOf 119 = .ok (.iload 10, 2) := by decide +kernel
theorem d_Mo_weightOf_121 : decode b_Mo_weightOf 121 = .ok (.aload_n 0, 1) := by decide +kernel
theorem d_Mo_weightOf_122 : decode b_Mo_weightOf 122 = .ok (.getfield 7, 3) := by decide +kernel
theorem d_Mo_weightOf_125 : decode b_Mo_weightOf 125 = .ok (.bipush 14, 2) := by decide +kernel
theorem d_Mo_weightOf_127 : decode b_Mo_weightOf 127 = .ok (.iaload, 1) := by decide +kernel
theorem d_Mo_weightOf_128 : decode b_Mo_weightOf 128 = .ok (.invokestatic 116, 3) := by decide +kernel
theorem d_Mo_weightOf_131 : decode b_Mo_weightOf 131 = .ok (.istore 4, 2) := by decide +kernel
theorem d_Mo_weightOf_133 : decode b_Mo_weightOf 133 = .ok (.iinc 7 1, 3) := by decide +kernel
theorem d_Mo_weightOf_136 : decode b_Mo_weightOf 136 = .ok (.goto (-121), 3) := by decide +kernel
theorem d_Mo_weightOf_139 : decode b_Mo_weightOf 139 = .ok (.lload 5, 2) := by decide +kernel
theorem d_Mo_weightOf_141 : decode b_Mo_weightOf 141 = .ok (.lreturn, 1) := by decide +kernel
theorem d_Mo_odds_0 : decode b_Mo_odds 0 = .ok (.iload_n 1, 1) := by decide +kernel
theorem d_Mo_odds_1 : decode b_Mo_odds 1 = .ok (.iconst 0, 1) := by decide +kernel
theorem d_Mo_odds_2 : decode b_Mo_odds 2 = .ok (.bipush 8, 2) := by decide +kernel
theorem d_Mo_odds_4 : decode b_Mo_odds 4 = .ok (.invokestatic 67, 3) := by decide +kernel
theorem d_Mo_odds_7 : decode b_Mo_odds 7 = .ok (.ifCond .eq 22, 3) := by decide +kernel
theorem d_Mo_odds_10 : decode b_Mo_odds 10 = .ok (.iload_n 2, 1) := by decide +kernel
theorem d_Mo_odds_11 : decode b_Mo_odds 11 = .ok (.iconst 0, 1) := by decide +kernel
theorem d_Mo_odds_12 : decode b_Mo_odds 12 = .ok (.bipush 10, 2) := by decide +kernel
theorem d_Mo_odds_14 : decode b_Mo_odds 14 = .ok (.invokestatic 67, 3) := by decide +kernel
theorem d_Mo_odds_17 : decode b_Mo_odds 17 = .ok (.ifCond .eq 12, 3) := by decide +kernel
theorem d_Mo_odds_20 : decode b_Mo_odds 20 = .ok (.iload_n 3, 1) := by decide +kernel
theorem d_Mo_odds_21 : decode b_Mo_odds 21 = .ok (.iconst 0, 1) := by decide +kernel
theorem d_Mo_odds_22 : decode b_Mo_odds 22 = .ok (.iconst 1, 1) := by decide +kernel
theorem d_Mo_odds_23 : decode b_Mo_odds 23 = .ok (.invokestatic 67, 3) := by decide +kernel
theorem d_Mo_odds_26 : decode b_Mo_odds 26 = .ok (.ifCond .ne 5, 3) := by decide +kernel
theorem d_Mo_odds_29 : decode b_Mo_odds 29 = .ok (.iconst (-1), 1) := by decide +kernel
theorem d_Mo_odds_30 : decode b_Mo_odds 30 = .ok (.ireturn, 1) := by decide +kernel
theorem d_Mo_odds_31 : decode b_Mo_odds 31 = .ok (.lconst 0, 1) := by decide +kernel
theorem d_Mo_odds_32 : decode b_Mo_odds 32 = .ok (.lstore 4, 2) := by decide +kernel
theorem d_Mo_odds_34 : decode b_Mo_odds 34 = .ok (.iconst 0, 1) := by decide +kernel
theorem d_Mo_odds_35 : decode b_Mo_odds 35 = .ok (.istore 6, 2) := by decide +kernel
theorem d_Mo_odds_37 : decode b_Mo_odds 37 = .ok (.iload 6, 2) := by decide +kernel
theorem d_Mo_odds_39 : decode b_Mo_odds 39 = .ok (.iconst 1, 1) := by decide +kernel
theorem d_Mo_odds_40 : decode b_Mo_odds 40 = .ok (.iload_n 1, 1) := by decide +kernel
theorem d_Mo_odds_41 : decode b_Mo_odds 41 = .ok (.ishl, 1) := by decide +kernel
theorem d_Mo_odds_42 : decode b_Mo_odds 42 = .ok (.if_icmp .ge 22, 3) := by decide +kernel
theorem d_Mo_odds_45 : decode b_Mo_odds 45 = .ok (.lload 4, 2) := by decide +kernel
theorem d_Mo_odds_47 : decode b_Mo_odds 47 = .ok (.aload_n 0, 1) := by decide +kernel
theorem d_Mo_odds_48 : decode b_Mo_odds 48 = .ok (.iload 6, 2) := by decide +kernel
theorem d_Mo_odds_50 : decode b_Mo_odds 50 = .ok (.iload_n 1, 1) := by decide +kernel
theorem d_Mo_odds_51 : decode b_Mo_odds 51 = .ok (.iload_n 2, 1) := by decide +kernel
theorem d_Mo_odds_52 : decode b_Mo_odds 52 = .ok (.invokevirtual 160, 3) := by decide +kernel
theorem d_Mo_odds_55 : decode b_Mo_odds 55 = .ok (.ladd, 1) := by decide +kernel
theorem d_Mo_odds_56 : decode b_Mo_odds 56 = .ok (.lstore 4, 2) := by decide +kernel
theorem d_Mo_odds_58 : decode b_Mo_odds 58 = .ok (.iinc 6 1, 3) := by decide +kernel
theorem d_Mo_odds_61 : decode b_Mo_odds 61 = .ok (.goto (-24), 3) := by decide +kernel
theorem d_Mo_odds_64 : decode b_Mo_odds 64 = .ok (.lconst 1, 1) := by decide +kernel
theorem d_Mo_odds_65 : decode b_Mo_odds 65 = .ok (.lstore 6, 2) := by decide +kernel
theorem d_Mo_odds_67 : decode b_Mo_odds 67 = .ok (.iconst 0, 1) := by decide +kernel
theorem d_Mo_odds_68 : decode b_Mo_odds 68 = .ok (.istore 8, 2) := by decide +kernel
theorem d_Mo_odds_70 : decode b_Mo_odds 70 = .ok (.iload 8, 2) := by decide +kernel
theorem d_Mo_odds_72 : decode b_Mo_odds 72 = .ok (.iload_n 1, 1) := by decide +kernel
theorem d_Mo_odds_73 : decode b_Mo_odds 73 = .ok (.if_icmp .ge 17, 3) := by decide +kernel
theorem d_Mo_odds_76 : decode b_Mo_odds 76 = .ok (.lload 6, 2) := by decide +kernel
theorem d_Mo_odds_78 : decode b_Mo_odds 78 = .ok (.ldc2_w 164, 3) := by decide +kernel
theorem d_Mo_odds_81 : decode b_Mo_odds 81 = .ok (.lmul, 1) := by decide +kernel
theorem d_Mo_odds_82 : decode b_Mo_odds 82 = .ok (.lstore 6, 2) := by decide +kernel
theorem d_Mo_odds_84 : decode b_Mo_odds 84 = .ok (.iinc 8 1, 3) := by decide +kernel
theorem d_Mo_odds_87 : decode b_Mo_odds 87 = .ok (.goto (-17), 3) := by decide +kernel
theorem d_Mo_odds_90 : decode b_Mo_odds 90 = .ok (.lload 4, 2) := by decide +kernel
theorem d_Mo_odds_92 : decode b_Mo_odds 92 = .ok (.lload 6, 2) := by decide +kernel
theorem d_Mo_odds_94 : decode b_Mo_odds 94 = .ok (.iload_n 3, 1) := by decide +kernel
theorem d_Mo_odds_95 : decode b_Mo_odds 95 = .ok (.ifCond .ne 7, 3) := by decide +kernel
theorem d_Mo_odds_98 : decode b_Mo_odds 98 = .ok (.iconst 1, 1) := by decide +kernel
theorem d_Mo_odds_99 : decode b_Mo_odds 99 = .ok (.goto 4, 3) := by decide +kernel
theorem d_Mo_odds_102 : decode b_Mo_odds 102 = .ok (.iconst 0, 1) := by decide +kernel
theorem d_Mo_odds_103 : decode b_Mo_odds 103 = .ok (.invokestatic 136, 3) := by decide +kernel
theorem d_Mo_odds_106 : decode b_Mo_odds 106 = .ok (.ireturn, 1) := by decide +kernel
