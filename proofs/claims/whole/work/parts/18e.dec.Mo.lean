theorem d_Mo_layDrafts_0 : decode b_Mo_layDrafts 0 = .ok (.iconst 0, 1) := by decide +kernel
theorem d_Mo_layDrafts_1 : decode b_Mo_layDrafts 1 = .ok (.istore_n 1, 1) := by decide +kernel
theorem d_Mo_layDrafts_2 : decode b_Mo_layDrafts 2 = .ok (.iconst 0, 1) := by decide +kernel
theorem d_Mo_layDrafts_3 : decode b_Mo_layDrafts 3 = .ok (.istore_n 2, 1) := by decide +kernel
theorem d_Mo_layDrafts_4 : decode b_Mo_layDrafts 4 = .ok (.iload_n 2, 1) := by decide +kernel
theorem d_Mo_layDrafts_5 : decode b_Mo_layDrafts 5 = .ok (.bipush 100, 2) := by decide +kernel
theorem d_Mo_layDrafts_7 : decode b_Mo_layDrafts 7 = .ok (.if_icmp .ge 158, 3) := by decide +kernel
theorem d_Mo_layDrafts_10 : decode b_Mo_layDrafts 10 = .ok (.aload_n 0, 1) := by decide +kernel
theorem d_Mo_layDrafts_11 : decode b_Mo_layDrafts 11 = .ok (.getfield 7, 3) := by decide +kernel
theorem d_Mo_layDrafts_14 : decode b_Mo_layDrafts 14 = .ok (.bipush 14, 2) := by decide +kernel
theorem d_Mo_layDrafts_16 : decode b_Mo_layDrafts 16 = .ok (.iaload, 1) := by decide +kernel
theorem d_Mo_layDrafts_17 : decode b_Mo_layDrafts 17 = .ok (.istore_n 3, 1) := by decide +kernel
theorem d_Mo_layDrafts_18 : decode b_Mo_layDrafts 18 = .ok (.iconst 0, 1) := by decide +kernel
theorem d_Mo_layDrafts_19 : decode b_Mo_layDrafts 19 = .ok (.istore 4, 2) := by decide +kernel
theorem d_Mo_layDrafts_21 : decode b_Mo_layDrafts 21 = .ok (.iload 4, 2) := by decide +kernel
theorem d_Mo_layDrafts_23 : decode b_Mo_layDrafts 23 = .ok (.bipush 40, 2) := by decide +kernel
theorem d_Mo_layDrafts_25 : decode b_Mo_layDrafts 25 = .ok (.if_icmp .ge 45, 3) := by decide +kernel
theorem d_Mo_layDrafts_28 : decode b_Mo_layDrafts 28 = .ok (.aload_n 0, 1) := by decide +kernel
theorem d_Mo_layDrafts_29 : decode b_Mo_layDrafts 29 = .ok (.iload_n 3, 1) := by decide +kernel
theorem d_Mo_layDrafts_30 : decode b_Mo_layDrafts 30 = .ok (.aload_n 0, 1) := by decide +kernel
theorem d_Mo_layDrafts_31 : decode b_Mo_layDrafts 31 = .ok (.iload 4, 2) := by decide +kernel
theorem d_Mo_layDrafts_33 : decode b_Mo_layDrafts 33 = .ok (.invokevirtual 109, 3) := by decide +kernel
theorem d_Mo_layDrafts_36 : decode b_Mo_layDrafts 36 = .ok (.iload_n 2, 1) := by decide +kernel
theorem d_Mo_layDrafts_37 : decode b_Mo_layDrafts 37 = .ok (.invokevirtual 112, 3) := by decide +kernel
theorem d_Mo_layDrafts_40 : decode b_Mo_layDrafts 40 = .ok (.aload_n 0, 1) := by decide +kernel
theorem d_Mo_layDrafts_41 : decode b_Mo_layDrafts 41 = .ok (.getfield 7, 3) := by decide +kernel
theorem d_Mo_layDrafts_44 : decode b_Mo_layDrafts 44 = .ok (.bipush 14, 2) := by decide +kernel
theorem d_Mo_layDrafts_46 : decode b_Mo_layDrafts 46 = .ok (.iaload, 1) := by decide +kernel
theorem d_Mo_layDrafts_47 : decode b_Mo_layDrafts 47 = .ok (.invokestatic 116, 3) := by decide +kernel
theorem d_Mo_layDrafts_50 : decode b_Mo_layDrafts 50 = .ok (.istore_n 3, 1) := by decide +kernel
theorem d_Mo_layDrafts_51 : decode b_Mo_layDrafts 51 = .ok (.aload_n 0, 1) := by decide +kernel
theorem d_Mo_layDrafts_52 : decode b_Mo_layDrafts 52 = .ok (.getfield 41, 3) := by decide +kernel
theorem d_Mo_layDrafts_55 : decode b_Mo_layDrafts 55 = .ok (.bipush 40, 2) := by decide +kernel
theorem d_Mo_layDrafts_57 : decode b_Mo_layDrafts 57 = .ok (.iload_n 2, 1) := by decide +kernel
theorem d_Mo_layDrafts_58 : decode b_Mo_layDrafts 58 = .ok (.imul, 1) := by decide +kernel
theorem d_Mo_layDrafts_59 : decode b_Mo_layDrafts 59 = .ok (.iload 4, 2) := by decide +kernel
theorem d_Mo_layDrafts_61 : decode b_Mo_layDrafts 61 = .ok (.iadd, 1) := by decide +kernel
theorem d_Mo_layDrafts_62 : decode b_Mo_layDrafts 62 = .ok (.iload_n 3, 1) := by decide +kernel
theorem d_Mo_layDrafts_63 : decode b_Mo_layDrafts 63 = .ok (.iastore, 1) := by decide +kernel
theorem d_Mo_layDrafts_64 : decode b_Mo_layDrafts 64 = .ok (.iinc 4 1, 3) := by decide +kernel
theorem d_Mo_layDrafts_67 : decode b_Mo_layDrafts 67 = .ok (.goto (-46), 3) := by decide +kernel
theorem d_Mo_layDrafts_70 : decode b_Mo_layDrafts 70 = .ok (.aload_n 0, 1) := by decide +kernel
theorem d_Mo_layDrafts_71 : decode b_Mo_layDrafts 71 = .ok (.getfield 44, 3) := by decide +kernel
theorem d_Mo_layDrafts_74 : decode b_Mo_layDrafts 74 = .ok (.iload_n 2, 1) := by decide +kernel
theorem d_Mo_layDrafts_75 : decode b_Mo_layDrafts 75 = .ok (.iconst 1, 1) := by decide +kernel
theorem d_Mo_layDrafts_76 : decode b_Mo_layDrafts 76 = .ok (.bastore, 1) := by decide +kernel
theorem d_Mo_layDrafts_77 : decode b_Mo_layDrafts 77 = .ok (.iconst 0, 1) := by decide +kernel
theorem d_Mo_layDrafts_78 : decode b_Mo_layDrafts 78 = .ok (.istore 4, 2) := by decide +kernel
theorem d_Mo_layDrafts_80 : decode b_Mo_layDrafts 80 = .ok (.iload 4, 2) := by decide +kernel
theorem d_Mo_layDrafts_82 : decode b_Mo_layDrafts 82 = .ok (.aload_n 0, 1) := by decide +kernel
theorem d_Mo_layDrafts_83 : decode b_Mo_layDrafts 83 = .ok (.getfield 166, 3) := by decide +kernel
theorem d_Mo_layDrafts_86 : decode b_Mo_layDrafts 86 = .ok (.if_icmp .ge 56, 3) := by decide +kernel
theorem d_Mo_layDrafts_89 : decode b_Mo_layDrafts 89 = .ok (.aload_n 0, 1) := by decide +kernel
theorem d_Mo_layDrafts_90 : decode b_Mo_layDrafts 90 = .ok (.getfield 44, 3) := by decide +kernel
theorem d_Mo_layDrafts_93 : decode b_Mo_layDrafts 93 = .ok (.iload_n 2, 1) := by decide +kernel
theorem d_Mo_layDrafts_94 : decode b_Mo_layDrafts 94 = .ok (.aload_n 0, 1) := by decide +kernel
theorem d_Mo_layDrafts_95 : decode b_Mo_layDrafts 95 = .ok (.getfield 44, 3) := by decide +kernel
theorem d_Mo_layDrafts_98 : decode b_Mo_layDrafts 98 = .ok (.iload_n 2, 1) := by decide +kernel
theorem d_Mo_layDrafts_99 : decode b_Mo_layDrafts 99 = .ok (.baload, 1) := by decide +kernel
theorem d_Mo_layDrafts_100 : decode b_Mo_layDrafts 100 = .ok (.ifCond .eq 34, 3) := by decide +kernel
theorem d_Mo_layDrafts_103 : decode b_Mo_layDrafts 103 = .ok (.aload_n 0, 1) := by decide +kernel
theorem d_Mo_layDrafts_104 : decode b_Mo_layDrafts 104 = .ok (.getfield 41, 3) := by decide +kernel
theorem d_Mo_layDrafts_107 : decode b_Mo_layDrafts 107 = .ok (.bipush 40, 2) := by decide +kernel
theorem d_Mo_layDrafts_109 : decode b_Mo_layDrafts 109 = .ok (.iload_n 2, 1) := by decide +kernel
theorem d_Mo_layDrafts_110 : decode b_Mo_layDrafts 110 = .ok (.imul, 1) := by decide +kernel
theorem d_Mo_layDrafts_111 : decode b_Mo_layDrafts 111 = .ok (.aload_n 0, 1) := by decide +kernel
theorem d_Mo_layDrafts_112 : decode b_Mo_layDrafts 112 = .ok (.getfield 26, 3) := by decide +kernel
theorem d_Mo_layDrafts_115 : decode b_Mo_layDrafts 115 = .ok (.iload 4, 2) := by decide +kernel
theorem d_Mo_layDrafts_117 : decode b_Mo_layDrafts 117 = .ok (.iaload, 1) := by decide +kernel
theorem d_Mo_layDrafts_118 : decode b_Mo_layDrafts 118 = .ok (.iadd, 1) := by decide +kernel
theorem d_Mo_layDrafts_119 : decode b_Mo_layDrafts 119 = .ok (.iaload, 1) := by decide +kernel
theorem d_Mo_layDrafts_120 : decode b_Mo_layDrafts 120 = .ok (.aload_n 0, 1) := by decide +kernel
theorem d_Mo_layDrafts_121 : decode b_Mo_layDrafts 121 = .ok (.getfield 29, 3) := by decide +kernel
theorem d_Mo_layDrafts_124 : decode b_Mo_layDrafts 124 = .ok (.iload 4, 2) := by decide +kernel
theorem d_Mo_layDrafts_126 : decode b_Mo_layDrafts 126 = .ok (.iaload, 1) := by decide +kernel
theorem d_Mo_layDrafts_127 : decode b_Mo_layDrafts 127 = .ok (.if_icmp .ne 7, 3) := by decide +kernel
theorem d_Mo_layDrafts_130 : decode b_Mo_layDrafts 130 = .ok (.iconst 1, 1) := by decide +kernel
theorem d_Mo_layDrafts_131 : decode b_Mo_layDrafts 131 = .ok (.goto 4, 3) := by decide +kernel
theorem d_Mo_layDrafts_134 : decode b_Mo_layDrafts 134 = .ok (.iconst 0, 1) := by decide +kernel
theorem d_Mo_layDrafts_135 : decode b_Mo_layDrafts 135 = .ok (.bastore, 1) := by decide +kernel
theorem d_Mo_layDrafts_136 : decode b_Mo_layDrafts 136 = .ok (.iinc 4 1, 3) := by decide +kernel
theorem d_Mo_layDrafts_139 : decode b_Mo_layDrafts 139 = .ok (.goto (-59), 3) := by decide +kernel
theorem d_Mo_layDrafts_142 : decode b_Mo_layDrafts 142 = .ok (.iload_n 1, 1) := by decide +kernel
theorem d_Mo_layDrafts_143 : decode b_Mo_layDrafts 143 = .ok (.aload_n 0, 1) := by decide +kernel
theorem d_Mo_layDrafts_144 : decode b_Mo_layDrafts 144 = .ok (.getfield 44, 3) := by decide +kernel
theorem d_Mo_layDrafts_147 : decode b_Mo_layDrafts 147 = .ok (.iload_n 2, 1) := by decide +kernel
theorem d_Mo_layDrafts_148 : decode b_Mo_layDrafts 148 = .ok (.baload, 1) := by decide +kernel
theorem d_Mo_layDrafts_149 : decode b_Mo_layDrafts 149 = .ok (.ifCond .eq 7, 3) := by decide +kernel
theorem d_Mo_layDrafts_152 : decode b_Mo_layDrafts 152 = .ok (.iconst 1, 1) := by decide +kernel
theorem d_Mo_layDrafts_153 : decode b_Mo_layDrafts 153 = .ok (.goto 4, 3) := by decide +kernel
theorem d_Mo_layDrafts_156 : decode b_Mo_layDrafts 156 = .ok (.iconst 0, 1) := by decide +kernel
theorem d_Mo_layDrafts_157 : decode b_Mo_layDrafts 157 = .ok (.iadd, 1) := by decide +kernel
theorem d_Mo_layDrafts_158 : decode b_Mo_layDrafts 158 = .ok (.istore_n 1, 1) := by decide +kernel
theorem d_Mo_layDrafts_159 : decode b_Mo_layDrafts 159 = .ok (.iinc 2 1, 3) := by decide +kernel
theorem d_Mo_layDrafts_162 : decode b_Mo_layDrafts 162 = .ok (.goto (-158), 3) := by decide +kernel
theorem d_Mo_layDrafts_165 : decode b_Mo_layDrafts 165 = .ok (.iload_n 1, 1) := by decide +kernel
theorem d_Mo_layDrafts_166 : decode b_Mo_layDrafts 166 = .ok (.ireturn, 1) := by decide +kernel
theorem d_Mo_sees_0 : decode b_Mo_sees 0 = .ok (.iload_n 1, 1) := by decide +kernel
theorem d_Mo_sees_1 : decode b_Mo_sees 1 = .ok (.iconst 0, 1) := by decide +kernel
theorem d_Mo_sees_2 : decode b_Mo_sees 2 = .ok (.bipush 39, 2) := by decide +kernel
theorem d_Mo_sees_4 : decode b_Mo_sees 4 = .ok (.invokestatic 67, 3) := by decide +kernel
theorem d_Mo_sees_7 : decode b_Mo_sees 7 = .ok (.ifCond .eq 14, 3) := by decide +kernel
theorem d_Mo_sees_10 : decode b_Mo_sees 10 = .ok (.iload_n 2, 1) := by decide +kernel
theorem d_Mo_sees_11 : decode b_Mo_sees 11 = .ok (.iconst 0, 1) := by decide +kernel
theorem d_Mo_sees_12 : decode b_Mo_sees 12 = .ok (.sipush 999, 3) := by decide +kernel
theorem d_Mo_sees_15 : decode b_Mo_sees 15 = .ok (.invokestatic 67, 3) := by decide +kernel
theorem d_Mo_sees_18 : decode b_Mo_sees 18 = .ok (.ifCond .ne 5, 3) := by decide +kernel
theorem d_Mo_sees_21 : decode b_Mo_sees 21 = .ok (.iconst (-1), 1) := by decide +kernel
theorem d_Mo_sees_22 : decode b_Mo_sees 22 = .ok (.ireturn, 1) := by decide +kernel
theorem d_Mo_sees_23 : decode b_Mo_sees 23 = .ok (.aload_n 0, 1) := by decide +kernel
theorem d_Mo_sees_24 : decode b_Mo_sees 24 = .ok (.getfield 166, 3) := by decide +kernel
theorem d_Mo_sees_27 : decode b_Mo_sees 27 = .ok (.bipush 6, 2) := by decide +kernel
theorem d_Mo_sees_29 : decode b_Mo_sees 29 = .ok (.if_icmp .ne 6, 3) := by decide +kernel
theorem d_Mo_sees_32 : decode b_Mo_sees 32 = .ok (.bipush (-3), 2) := by decide +kernel
theorem d_Mo_sees_34 : decode b_Mo_sees 34 = .ok (.ireturn, 1) := by decide +kernel
theorem d_Mo_sees_35 : decode b_Mo_sees 35 = .ok (.aload_n 0, 1) := by decide +kernel
theorem d_Mo_sees_36 : decode b_Mo_sees 36 = .ok (.getfield 26, 3) := by decide +kernel
theorem d_Mo_sees_39 : decode b_Mo_sees 39 = .ok (.aload_n 0, 1) := by decide +kernel
theorem d_Mo_sees_40 : decode b_Mo_sees 40 = .ok (.getfield 166, 3) := by decide +kernel
theorem d_Mo_sees_43 : decode b_Mo_sees 43 = .ok (.iload_n 1, 1) := by decide +kernel
theorem d_Mo_sees_44 : decode b_Mo_sees 44 = .ok (.iastore, 1) := by decide +kernel
theorem d_Mo_sees_45 : decode b_Mo_sees 45 = .ok (.aload_n 0, 1) := by decide +kernel
theorem d_Mo_sees_46 : decode b_Mo_sees 46 = .ok (.getfield 29, 3) := by decide +kernel
theorem d_Mo_sees_49 : decode b_Mo_sees 49 = .ok (.aload_n 0, 1) := by decide +kernel
theorem d_Mo_sees_50 : decode b_Mo_sees 50 = .ok (.getfield 166, 3) := by decide +kernel
theorem d_Mo_sees_53 : decode b_Mo_sees 53 = .ok (.iload_n 2, 1) := by decide +kernel
theorem d_Mo_sees_54 : decode b_Mo_sees 54 = .ok (.iastore, 1) := by decide +kernel
theorem d_Mo_sees_55 : decode b_Mo_sees 55 = .ok (.aload_n 0, 1) := by decide +kernel
theorem d_Mo_sees_56 : decode b_Mo_sees 56 = .ok (.dup, 1) := by decide +kernel
theorem d_Mo_sees_57 : decode b_Mo_sees 57 = .ok (.getfield 166, 3) := by decide +kernel
theorem d_Mo_sees_60 : decode b_Mo_sees 60 = .ok (.iconst 1, 1) := by decide +kernel
theorem d_Mo_sees_61 : decode b_Mo_sees 61 = .ok (.iadd, 1) := by decide +kernel
theorem d_Mo_sees_62 : decode b_Mo_sees 62 = .ok (.putfield 166, 3) := by decide +kernel
theorem d_Mo_sees_65 : decode b_Mo_sees 65 = .ok (.aload_n 0, 1) := by decide +kernel
theorem d_Mo_sees_66 : decode b_Mo_sees 66 = .ok (.getfield 166, 3) := by decide +kernel
theorem d_Mo_sees_69 : decode b_Mo_sees 69 = .ok (.ireturn, 1) := by decide +kernel
theorem d_Mo_forget_0 : decode b_Mo_forget 0 = .ok (.aload_n 0, 1) := by decide +kernel
theorem d_Mo_forget_1 : decode b_Mo_forget 1 = .ok (.getfield 166, 3) := by decide +kernel
theorem d_Mo_forget_4 : decode b_Mo_forget 4 = .ok (.istore_n 1, 1) := by decide +kernel
theorem d_Mo_forget_5 : decode b_Mo_forget 5 = .ok (.aload_n 0, 1) := by decide +kernel
theorem d_Mo_forget_6 : decode b_Mo_forget 6 = .ok (.iconst 0, 1) := by decide +kernel
theorem d_Mo_forget_7 : decode b_Mo_forget 7 = .ok (.putfield 166, 3) := by decide +kernel
theorem d_Mo_forget_10 : decode b_Mo_forget 10 = .ok (.iload_n 1, 1) := by decide +kernel
theorem d_Mo_forget_11 : decode b_Mo_forget 11 = .ok (.ireturn, 1) := by decide +kernel
theorem d_Mo_fits_0 : decode b_Mo_fits 0 = .ok (.iload_n 1, 1) := by decide +kernel
theorem d_Mo_fits_1 : decode b_Mo_fits 1 = .ok (.iconst 0, 1) := by decide +kernel
theorem d_Mo_fits_2 : decode b_Mo_fits 2 = .ok (.iconst 1, 1) := by decide +kernel
theorem d_Mo_fits_3 : decode b_Mo_fits 3 = .ok (.invokestatic 67, 3) := by decide +kernel
theorem d_Mo_fits_6 : decode b_Mo_fits 6 = .ok (.ifCond .ne 5, 3) := by decide +kernel
theorem d_Mo_fits_9 : decode b_Mo_fits 9 = .ok (.iconst (-1), 1) := by decide +kernel
theorem d_Mo_fits_10 : decode b_Mo_fits 10 = .ok (.ireturn, 1) := by decide +kernel
theorem d_Mo_fits_11 : decode b_Mo_fits 11 = .ok (.aload_n 0, 1) := by decide +kernel
theorem d_Mo_fits_12 : decode b_Mo_fits 12 = .ok (.invokevirtual 169, 3) := by decide +kernel
theorem d_Mo_fits_15 : decode b_Mo_fits 15 = .ok (.istore_n 2, 1) := by decide +kernel
theorem d_Mo_fits_16 : decode b_Mo_fits 16 = .ok (.bipush (-9), 2) := by decide +kernel
theorem d_Mo_fits_18 : decode b_Mo_fits 18 = .ok (.istore_n 3, 1) := by decide +kernel
theorem d_Mo_fits_19 : decode b_Mo_fits 19 = .ok (.bipush 99, 2) := by decide +kernel
theorem d_Mo_fits_21 : decode b_Mo_fits 21 = .ok (.istore 4, 2) := by decide +kernel
theorem d_Mo_fits_23 : decode b_Mo_fits 23 = .ok (.iload 4, 2) := by decide +kernel
theorem d_Mo_fits_25 : decode b_Mo_fits 25 = .ok (.ifCond .lt 26, 3) := by decide +kernel
theorem d_Mo_fits_28 : decode b_Mo_fits 28 = .ok (.aload_n 0, 1) := by decide +kernel
theorem d_Mo_fits_29 : decode b_Mo_fits 29 = .ok (.getfield 44, 3) := by decide +kernel
theorem d_Mo_fits_32 : decode b_Mo_fits 32 = .ok (.iload 4, 2) := by decide +kernel
theorem d_Mo_fits_34 : decode b_Mo_fits 34 = .ok (.baload, 1) := by decide +kernel
theorem d_Mo_fits_35 : decode b_Mo_fits 35 = .ok (.ifCond .eq 8, 3) := by decide +kernel
theorem d_Mo_fits_38 : decode b_Mo_fits 38 = .ok (.iload 4, 2) := by decide +kernel
theorem d_Mo_fits_40 : decode b_Mo_fits 40 = .ok (.goto 4, 3) := by decide +kernel
theorem d_Mo_fits_43 : decode b_Mo_fits 43 = .ok (.iload_n 3, 1) := by decide +kernel
theorem d_Mo_fits_44 : decode b_Mo_fits 44 = .ok (.istore_n 3, 1) := by decide +kernel
theorem d_Mo_fits_45 : decode b_Mo_fits 45 = .ok (.iinc 4 (-1), 3) := by decide +kernel
theorem d_Mo_fits_48 : decode b_Mo_fits 48 = .ok (.goto (-25), 3) := by decide +kernel
theorem d_Mo_fits_51 : decode b_Mo_fits 51 = .ok (.iload_n 1, 1) := by decide +kernel
theorem d_Mo_fits_52 : decode b_Mo_fits 52 = .ok (.ifCond .ne 7, 3) := by decide +kernel
theorem d_Mo_fits_55 : decode b_Mo_fits 55 = .ok (.iload_n 2, 1) := by decide +kernel
theorem d_Mo_fits_56 : decode b_Mo_fits 56 = .ok (.goto 4, 3) := by decide +kernel
theorem d_Mo_fits_59 : decode b_Mo_fits 59 = .ok (.iload_n 3, 1) := by decide +kernel
theorem d_Mo_fits_60 : decode b_Mo_fits 60 = .ok (.ireturn, 1) := by decide +kernel
theorem d_Mo_mostLike_0 : decode b_Mo_mostLike 0 = .ok (.iconst 0, 1) := by decide +kernel
theorem d_Mo_mostLike_1 : decode b_Mo_mostLike 1 = .ok (.istore_n 2, 1) := by decide +kernel
theorem d_Mo_mostLike_2 : decode b_Mo_mostLike 2 = .ok (.iconst 0, 1) := by decide +kernel
theorem d_Mo_mostLike_3 : decode b_Mo_mostLike 3 = .ok (.istore_n 3, 1) := by decide +kernel
theorem d_Mo_mostLike_4 : decode b_Mo_mostLike 4 = .ok (.iload_n 3, 1) := by decide +kernel
theorem d_Mo_mostLike_5 : decode b_Mo_mostLike 5 = .ok (.bipush 100, 2) := by decide +kernel
theorem d_Mo_mostLike_7 : decode b_Mo_mostLike 7 = .ok (.if_icmp .ge 96, 3) := by decide +kernel
theorem d_Mo_mostLike_10 : decode b_Mo_mostLike 10 = .ok (.iconst 0, 1) := by decide +kernel
theorem d_Mo_mostLike_11 : decode b_Mo_mostLike 11 = .ok (.istore 4, 2) := by decide +kernel
theorem d_Mo_mostLike_13 : decode b_Mo_mostLike 13 = .ok (.iconst 0, 1) := by decide +kernel
theorem d_Mo_mostLike_14 : decode b_Mo_mostLike 14 = .ok (.istore 5, 2) := by decide +kernel
theorem d_Mo_mostLike_16 : decode b_Mo_mostLike 16 = .ok (.iload 5, 2) := by decide +kernel
theorem d_Mo_mostLike_18 : decode b_Mo_mostLike 18 = .ok (.bipush 100, 2) := by decide +kernel
theorem d_Mo_mostLike_20 : decode b_Mo_mostLike 20 = .ok (.if_icmp .ge 64, 3) := by decide +kernel
theorem d_Mo_mostLike_23 : decode b_Mo_mostLike 23 = .ok (.aload_n 0, 1) := by decide +kernel
theorem d_Mo_mostLike_24 : decode b_Mo_mostLike 24 = .ok (.getfield 44, 3) := by decide +kernel
theorem d_Mo_mostLike_27 : decode b_Mo_mostLike 27 = .ok (.iload_n 3, 1) := by decide +kernel
theorem d_Mo_mostLike_28 : decode b_Mo_mostLike 28 = .ok (.baload, 1) := by decide +kernel
theorem d_Mo_mostLike_29 : decode b_Mo_mostLike 29 = .ok (.ifCond .eq 55, 3) := by decide +kernel
theorem d_Mo_mostLike_32 : decode b_Mo_mostLike 32 = .ok (.iload 4, 2) := by decide +kernel
theorem d_Mo_mostLike_34 : decode b_Mo_mostLike 34 = .ok (.aload_n 0, 1) := by decide +kernel
theorem d_Mo_mostLike_35 : decode b_Mo_mostLike 35 = .ok (.getfield 44, 3) := by decide +kernel
theorem d_Mo_mostLike_38 : decode b_Mo_mostLike 38 = .ok (.iload 5, 2) := by decide +kernel
theorem d_Mo_mostLike_40 : decode b_Mo_mostLike 40 = .ok (.baload, 1) := by decide +kernel
theorem d_Mo_mostLike_41 : decode b_Mo_mostLike 41 = .ok (.ifCond .eq 33, 3) := by decide +kernel
theorem d_Mo_mostLike_44 : decode b_Mo_mostLike 44 = .ok (.aload_n 0, 1) := by decide +kernel
theorem d_Mo_mostLike_45 : decode b_Mo_mostLike 45 = .ok (.getfield 41, 3) := by decide +kernel
theorem d_Mo_mostLike_48 : decode b_Mo_mostLike 48 = .ok (.bipush 40, 2) := by decide +kernel
theorem d_Mo_mostLike_50 : decode b_Mo_mostLike 50 = .ok (.iload 5, 2) := by decide +kernel
theorem d_Mo_mostLike_52 : decode b_Mo_mostLike 52 = .ok (.imul, 1) := by decide +kernel
theorem d_Mo_mostLike_53 : decode b_Mo_mostLike 53 = .ok (.iload_n 1, 1) := by decide +kernel
theorem d_Mo_mostLike_54 : decode b_Mo_mostLike 54 = .ok (.iadd, 1) := by decide +kernel
theorem d_Mo_mostLike_55 : decode b_Mo_mostLike 55 = .ok (.iaload, 1) := by decide +kernel
theorem d_Mo_mostLike_56 : decode b_Mo_mostLike 56 = .ok (.aload_n 0, 1) := by decide +kernel
theorem d_Mo_mostLike_57 : decode b_Mo_mostLike 57 = .ok (.getfield 41, 3) := by decide +kernel
theorem d_Mo_mostLike_60 : decode b_Mo_mostLike 60 = .ok (.bipush 40, 2) := by decide +kernel
theorem d_Mo_mostLike_62 : decode b_Mo_mostLike 62 = .ok (.iload_n 3, 1) := by decide +kernel
theorem d_Mo_mostLike_63 : decode b_Mo_mostLike 63 = .ok (.imul, 1) := by decide +kernel
theorem d_Mo_mostLike_64 : decode b_Mo_mostLike 64 = .ok (.iload_n 1, 1) := by decide +kernel
theorem d_Mo_mostLike_65 : decode b_Mo_mostLike 65 = .ok (.iadd, 1) := by decide +kernel
theorem d_Mo_mostLike_66 : decode b_Mo_mostLike 66 = .ok (.iaload, 1) := by decide +kernel
theorem d_Mo_mostLike_67 : decode b_Mo_mostLike 67 = .ok (.if_icmp .ne 7, 3) := by decide +kernel
theorem d_Mo_mostLike_70 : decode b_Mo_mostLike 70 = .ok (.iconst 1, 1) := by decide +kernel
theorem d_Mo_mostLike_71 : decode b_Mo_mostLike 71 = .ok (.goto 4, 3) := by decide +kernel
theorem d_Mo_mostLike_74 : decode b_Mo_mostLike 74 = .ok (.iconst 0, 1) := by decide +kernel
theorem d_Mo_mostLike_75 : decode b_Mo_mostLike 75 = .ok (.iadd, 1) := by decide +kernel
theorem d_Mo_mostLike_76 : decode b_Mo_mostLike 76 = .ok (.istore 4, 2) := by decide +kernel
theorem d_Mo_mostLike_78 : decode b_Mo_mostLike 78 = .ok (.iinc 5 1, 3) := by decide +kernel
theorem d_Mo_mostLike_81 : decode b_Mo_mostLike 81 = .ok (.goto (-65), 3) := by decide +kernel
theorem d_Mo_mostLike_84 : decode b_Mo_mostLike 84 = .ok (.iload 4, 2) := by decide +kernel
theorem d_Mo_mostLike_86 : decode b_Mo_mostLike 86 = .ok (.iload_n 2, 1) := by decide +kernel
theorem d_Mo_mostLike_87 : decode b_Mo_mostLike 87 = .ok (.if_icmp .le 8, 3) := by decide +kernel
theorem d_Mo_mostLike_90 : decode b_Mo_mostLike 90 = .ok (.iload 4, 2) := by decide +kernel
theorem d_Mo_mostLike_92 : decode b_Mo_mostLike 92 = .ok (.goto 4, 3) := by decide +kernel
theorem d_Mo_mostLike_95 : decode b_Mo_mostLike 95 = .ok (.iload_n 2, 1) := by decide +kernel
theorem d_Mo_mostLike_96 : decode b_Mo_mostLike 96 = .ok (.istore_n 2, 1) := by decide +kernel
theorem d_Mo_mostLike_97 : decode b_Mo_mostLike 97 = .ok (.iinc 3 1, 3) := by decide +kernel
theorem d_Mo_mostLike_100 : decode b_Mo_mostLike 100 = .ok (.goto (-96), 3) := by decide +kernel
theorem d_Mo_mostLike_103 : decode b_Mo_mostLike 103 = .ok (.iload_n 2, 1) := by decide +kernel
theorem d_Mo_mostLike_104 : decode b_Mo_mostLike 104 = .ok (.ireturn, 1) := by decide +kernel
theorem d_Mo_look_0 : decode b_Mo_look 0 = .ok (.aload_n 0, 1) := by decide +kernel
theorem d_Mo_look_1 : decode b_Mo_look 1 = .ok (.invokevirtual 169, 3) := by decide +kernel
theorem d_Mo_look_4 : decode b_Mo_look 4 = .ok (.iconst 2, 1) := by decide +kernel
theorem d_Mo_look_5 : decode b_Mo_look 5 = .ok (.if_icmp .ge 6, 3) := by decide +kernel
theorem d_Mo_look_8 : decode b_Mo_look 8 = .ok (.bipush (-9), 2) := by decide +kernel
theorem d_Mo_look_10 : decode b_Mo_look 10 = .ok (.ireturn, 1) := by decide +kernel
theorem d_Mo_look_11 : decode b_Mo_look 11 = .ok (.iconst 0, 1) := by decide +kernel
theorem d_Mo_look_12 : decode b_Mo_look 12 = .ok (.istore_n 1, 1) := by decide +kernel
theorem d_Mo_look_13 : decode b_Mo_look 13 = .ok (.bipush 101, 2) := by decide +kernel
theorem d_Mo_look_15 : decode b_Mo_look 15 = .ok (.istore_n 2, 1) := by decide +kernel
theorem d_Mo_look_16 : decode b_Mo_look 16 = .ok (.iconst 0, 1) := by decide +kernel
theorem d_Mo_look_17 : decode b_Mo_look 17 = .ok (.istore_n 3, 1) := by decide +kernel
theorem d_Mo_look_18 : decode b_Mo_look 18 = .ok (.iload_n 3, 1) := by decide +kernel
theorem d_Mo_look_19 : decode b_Mo_look 19 = .ok (.bipush 40, 2) := by decide +kernel
theorem d_Mo_look_21 : decode b_Mo_look 21 = .ok (.if_icmp .ge 41, 3) := by decide +kernel
theorem d_Mo_look_24 : decode b_Mo_look 24 = .ok (.aload_n 0, 1) := by decide +kernel
theorem d_Mo_look_25 : decode b_Mo_look 25 = .ok (.iload_n 3, 1) := by decide +kernel
theorem d_Mo_look_26 : decode b_Mo_look 26 = .ok (.invokevirtual 172, 3) := by decide +kernel
theorem d_Mo_look_29 : decode b_Mo_look 29 = .ok (.istore 4, 2) := by decide +kernel
theorem d_Mo_look_31 : decode b_Mo_look 31 = .ok (.iload 4, 2) := by decide +kernel
theorem d_Mo_look_33 : decode b_Mo_look 33 = .ok (.iload_n 2, 1) := by decide +kernel
theorem d_Mo_look_34 : decode b_Mo_look 34 = .ok (.if_icmp .ge 7, 3) := by decide +kernel
theorem d_Mo_look_37 : decode b_Mo_look 37 = .ok (.iload_n 3, 1) := by decide +kernel
theorem d_Mo_look_38 : decode b_Mo_look 38 = .ok (.goto 4, 3) := by decide +kernel
theorem d_Mo_look_41 : decode b_Mo_look 41 = .ok (.iload_n 1, 1) := by decide +kernel
theorem d_Mo_look_42 : decode b_Mo_look 42 = .ok (.istore_n 1, 1) := by decide +kernel
theorem d_Mo_look_43 : decode b_Mo_look 43 = .ok (.iload 4, 2) := by decide +kernel
theorem d_Mo_look_45 : decode b_Mo_look 45 = .ok (.iload_n 2, 1) := by decide +kernel
theorem d_Mo_look_46 : decode b_Mo_look 46 = .ok (.if_icmp .ge 8, 3) := by decide +kernel
theorem d_Mo_look_49 : decode b_Mo_look 49 = .ok (.iload 4, 2) := by decide +kernel
theorem d_Mo_look_51 : decode b_Mo_look 51 = .ok (.goto 4, 3) := by decide +kernel
theorem d_Mo_look_54 : decode b_Mo_look 54 = .ok (.iload_n 2, 1) := by decide +kernel
theorem d_Mo_look_55 : decode b_Mo_look 55 = .ok (.istore_n 2, 1) := by decide +kernel
theorem d_Mo_look_56 : decode b_Mo_look 56 = .ok (.iinc 3 1, 3) := by decide +kernel
theorem d_Mo_look_59 : decode b_Mo_look 59 = .ok (.goto (-41), 3) := by decide +kernel
theorem d_Mo_look_62 : decode b_Mo_look 62 = .ok (.iload_n 1, 1) := by decide +kernel
theorem d_Mo_look_63 : decode b_Mo_look 63 = .ok (.ireturn, 1) := by decide +kernel
theorem d_Mo_keep_0 : decode b_Mo_keep 0 = .ok (.iload_n 1, 1) := by decide +kernel
theorem d_Mo_keep_1 : decode b_Mo_keep 1 = .ok (.iconst 0, 1) := by decide +kernel
theorem d_Mo_keep_2 : decode b_Mo_keep 2 = .ok (.iconst 1, 1) := by decide +kernel
theorem d_Mo_keep_3 : decode b_Mo_keep 3 = .ok (.invokestatic 67, 3) := by decide +kernel
theorem d_Mo_keep_6 : decode b_Mo_keep 6 = .ok (.ifCond .ne 5, 3) := by decide +kernel
theorem d_Mo_keep_9 : decode b_Mo_keep 9 = .ok (.iconst (-1), 1) := by decide +kernel
theorem d_Mo_keep_10 : decode b_Mo_keep 10 = .ok (.ireturn, 1) := by decide +kernel
theorem d_Mo_keep_11 : decode b_Mo_keep 11 = .ok (.aload_n 0, 1) := by decide +kernel
theorem d_Mo_keep_12 : decode b_Mo_keep 12 = .ok (.getfield 7, 3) := by decide +kernel
theorem d_Mo_keep_15 : decode b_Mo_keep 15 = .ok (.iconst 0, 1) := by decide +kernel
theorem d_Mo_keep_16 : decode b_Mo_keep 16 = .ok (.aload_n 0, 1) := by decide +kernel
theorem d_Mo_keep_17 : decode b_Mo_keep 17 = .ok (.getfield 19, 3) := by decide +kernel
theorem d_Mo_keep_20 : decode b_Mo_keep 20 = .ok (.bipush 30, 2) := by decide +kernel
theorem d_Mo_keep_22 : decode b_Mo_keep 22 = .ok (.iload_n 1, 1) := by decide +kernel
theorem d_Mo_keep_23 : decode b_Mo_keep 23 = .ok (.imul, 1) := by decide +kernel
theorem d_Mo_keep_24 : decode b_Mo_keep 24 = .ok (.invokestatic 50, 3) := by decide +kernel
theorem d_Mo_keep_27 : decode b_Mo_keep 27 = .ok (.aload_n 0, 1) := by decide +kernel
theorem d_Mo_keep_28 : decode b_Mo_keep 28 = .ok (.getfield 22, 3) := by decide +kernel
theorem d_Mo_keep_31 : decode b_Mo_keep 31 = .ok (.iload_n 1, 1) := by decide +kernel
theorem d_Mo_keep_32 : decode b_Mo_keep 32 = .ok (.iconst 1, 1) := by decide +kernel
theorem d_Mo_keep_33 : decode b_Mo_keep 33 = .ok (.bastore, 1) := by decide +kernel
theorem d_Mo_keep_34 : decode b_Mo_keep 34 = .ok (.aload_n 0, 1) := by decide +kernel
theorem d_Mo_keep_35 : decode b_Mo_keep 35 = .ok (.getfield 7, 3) := by decide +kernel
theorem d_Mo_keep_38 : decode b_Mo_keep 38 = .ok (.bipush 25, 2) := by decide +kernel
theorem d_Mo_keep_40 : decode b_Mo_keep 40 = .ok (.iaload, 1) := by decide +kernel
theorem d_Mo_keep_41 : decode b_Mo_keep 41 = .ok (.ireturn, 1) := by decide +kernel
theorem d_Mo_back_0 : decode b_Mo_back 0 = .ok (.iload_n 1, 1) := by decide +kernel
theorem d_Mo_back_1 : decode b_Mo_back 1 = .ok (.iconst 0, 1) := by decide +kernel
theorem d_Mo_back_2 : decode b_Mo_back 2 = .ok (.iconst 1, 1) := by decide +kernel
theorem d_Mo_back_3 : decode b_Mo_back 3 = .ok (.invokestatic 67, 3) := by decide +kernel
theorem d_Mo_back_6 : decode b_Mo_back 6 = .ok (.ifCond .ne 5, 3) := by decide +kernel
theorem d_Mo_back_9 : decode b_Mo_back 9 = .ok (.iconst (-1), 1) := by decide +kernel
theorem d_Mo_back_10 : decode b_Mo_back 10 = .ok (.ireturn, 1) := by decide +kernel
theorem d_Mo_back_11 : decode b_Mo_back 11 = .ok (.aload_n 0, 1) := by decide +kernel
theorem d_Mo_back_12 : decode b_Mo_back 12 = .ok (.getfield 22, 3) := by decide +kernel
theorem d_Mo_back_15 : decode b_Mo_back 15 = .ok (.iload_n 1, 1) := by decide +kernel
theorem d_Mo_back_16 : decode b_Mo_back 16 = .ok (.baload, 1) := by decide +kernel
theorem d_Mo_back_17 : decode b_Mo_back 17 = .ok (.ifCond .ne 6, 3) := by decide +kernel
theorem d_Mo_back_20 : decode b_Mo_back 20 = .ok (.bipush (-2), 2) := by decide +kernel
theorem d_Mo_back_22 : decode b_Mo_back 22 = .ok (.ireturn, 1) := by decide +kernel
theorem d_Mo_back_23 : decode b_Mo_back 23 = .ok (.aload_n 0, 1) := by decide +kernel
theorem d_Mo_back_24 : decode b_Mo_back 24 = .ok (.getfield 19, 3) := by decide +kernel
theorem d_Mo_back_27 : decode b_Mo_back 27 = .ok (.bipush 30, 2) := by decide +kernel
theorem d_Mo_back_29 : decode b_Mo_back 29 = .ok (.iload_n 1, 1) := by decide +kernel
theorem d_Mo_back_30 : decode b_Mo_back 30 = .ok (.imul, 1) := by decide +kernel
theorem d_Mo_back_31 : decode b_Mo_back 31 = .ok (.aload_n 0, 1) := by decide +kernel
theorem d_Mo_back_32 : decode b_Mo_back 32 = .ok (.getfield 7, 3) := by decide +kernel
theorem d_Mo_back_35 : decode b_Mo_back 35 = .ok (.iconst 0, 1) := by decide +kernel
theorem d_Mo_back_36 : decode b_Mo_back 36 = .ok (.invokestatic 50, 3) := by decide +kernel
theorem d_Mo_back_39 : decode b_Mo_back 39 = .ok (.aload_n 0, 1) := by decide +kernel
theorem d_Mo_back_40 : decode b_Mo_back 40 = .ok (.iconst 0, 1) := by decide +kernel
theorem d_Mo_back_41 : decode b_Mo_back 41 = .ok (.putfield 102, 3) := by decide +kernel
theorem d_Mo_back_44 : decode b_Mo_back 44 = .ok (.aload_n 0, 1) := by decide +kernel
theorem d_Mo_back_45 : decode b_Mo_back 45 = .ok (.getfield 7, 3) := by decide +kernel
theorem d_Mo_back_48 : decode b_Mo_back 48 = .ok (.bipush 25, 2) := by decide +kernel
theorem d_Mo_back_50 : decode b_Mo_back 50 = .ok (.iaload, 1) := by decide +kernel
theorem d_Mo_back_51 : decode b_Mo_back 51 = .ok (.ireturn, 1) := by decide +kernel
theorem d_Mo_count_0 : decode b_Mo_count 0 = .ok (.iload_n 1, 1) := by decide +kernel
theorem d_Mo_count_1 : decode b_Mo_count 1 = .ok (.tableswitch 118 0 11 #[63, 70, 78, 86, 86, 86, 86, 86, 98, 103, 108, 113], 63) := by decide +kernel
theorem d_Mo_count_64 : decode b_Mo_count 64 = .ok (.aload_n 0, 1) := by decide +kernel
theorem d_Mo_count_65 : decode b_Mo_count 65 = .ok (.getfield 7, 3) := by decide +kernel
theorem d_Mo_count_68 : decode b_Mo_count 68 = .ok (.iconst 0, 1) := by decide +kernel
theorem d_Mo_count_69 : decode b_Mo_count 69 = .ok (.iaload, 1) := by decide +kernel
theorem d_Mo_count_70 : decode b_Mo_count 70 = .ok (.ireturn, 1) := by decide +kernel
theorem d_Mo_count_71 : decode b_Mo_count 71 = .ok (.aload_n 0, 1) := by decide +kernel
theorem d_Mo_count_72 : decode b_Mo_count 72 = .ok (.getfield 7, 3) := by decide +kernel
theorem d_Mo_count_75 : decode b_Mo_count 75 = .ok (.bipush 13, 2) := by decide +kernel
theorem d_Mo_count_77 : decode b_Mo_count 77 = .ok (.iaload, 1) := by decide +kernel
theorem d_Mo_count_78 : decode b_Mo_count 78 = .ok (.ireturn, 1) := by decide +kernel
theorem d_Mo_count_79 : decode b_Mo_count 79 = .ok (.aload_n 0, 1) := by decide +kernel
theorem d_Mo_count_80 : decode b_Mo_count 80 = .ok (.getfield 7, 3) := by decide +kernel
theorem d_Mo_count_83 : decode b_Mo_count 83 = .ok (.bipush 14, 2) := by decide +kernel
theorem d_Mo_count_85 : decode b_Mo_count 85 = .ok (.iaload, 1) := by decide +kernel
theorem d_Mo_count_86 : decode b_Mo_count 86 = .ok (.ireturn, 1) := by decide +kernel
theorem d_Mo_count_87 : decode b_Mo_count 87 = .ok (.aload_n 0, 1) := by decide +kernel
theorem d_Mo_count_88 : decode b_Mo_count 88 = .ok (.getfield 7, 3) := by decide +kernel
theorem d_Mo_count_91 : decode b_Mo_count 91 = .ok (.bipush 25, 2) := by decide +kernel
theorem d_Mo_count_93 : decode b_Mo_count 93 = .ok (.iload_n 1, 1) := by decide +kernel
theorem d_Mo_count_94 : decode b_Mo_count 94 = .ok (.iadd, 1) := by decide +kernel
theorem d_Mo_count_95 : decode b_Mo_count 95 = .ok (.iconst 3, 1) := by decide +kernel
theorem d_Mo_count_96 : decode b_Mo_count 96 = .ok (.isub, 1) := by decide +kernel
theorem d_Mo_count_97 : decode b_Mo_count 97 = .ok (.iaload, 1) := by decide +kernel
theorem d_Mo_count_98 : decode b_Mo_count 98 = .ok (.ireturn, 1) := by decide +kernel
theorem d_Mo_count_99 : decode b_Mo_count 99 = .ok (.aload_n 0, 1) := by decide +kernel
theorem d_Mo_count_100 : decode b_Mo_count 100 = .ok (.invokevirtual 129, 3) := by decide +kernel
theorem d_Mo_count_103 : decode b_Mo_count 103 = .ok (.ireturn, 1) := by decide +kernel
theorem d_Mo_count_104 : decode b_Mo_count 104 = .ok (.aload_n 0, 1) := by decide +kernel
theorem d_Mo_count_105 : decode b_Mo_count 105 = .ok (.getfield 166, 3) := by decide +kernel
theorem d_Mo_count_108 : decode b_Mo_count 108 = .ok (.ireturn, 1) := by decide +kernel
theorem d_Mo_count_109 : decode b_Mo_count 109 = .ok (.aload_n 0, 1) := by decide +kernel
theorem d_Mo_count_110 : decode b_Mo_count 110 = .ok (.getfield 58, 3) := by decide +kernel
theorem d_Mo_count_113 : decode b_Mo_count 113 = .ok (.ireturn, 1) := by decide +kernel
theorem d_Mo_count_114 : decode b_Mo_count 114 = .ok (.aload_n 0, 1) := by decide +kernel
theorem d_Mo_count_115 : decode b_Mo_count 115 = .ok (.getfield 102, 3) := by decide +kernel
theorem d_Mo_count_118 : decode b_Mo_count 118 = .ok (.ireturn, 1) := by decide +kernel
theorem d_Mo_count_119 : decode b_Mo_count 119 = .ok (.iconst (-1), 1) := by decide +kernel
theorem d_Mo_count_120 : decode b_Mo_count 120 = .ok (.ireturn, 1) := by decide +kernel
