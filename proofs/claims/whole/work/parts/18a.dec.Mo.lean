theorem d_Mo_init_0 : decode b_Mo_init 0 = .ok (.aload_n 0, 1) := by decide +kernel
theorem d_Mo_init_1 : decode b_Mo_init 1 = .ok (.invokespecial 1, 3) := by decide +kernel
theorem d_Mo_init_4 : decode b_Mo_init 4 = .ok (.aload_n 0, 1) := by decide +kernel
theorem d_Mo_init_5 : decode b_Mo_init 5 = .ok (.bipush 30, 2) := by decide +kernel
theorem d_Mo_init_7 : decode b_Mo_init 7 = .ok (.newarray .int, 2) := by decide +kernel
theorem d_Mo_init_9 : decode b_Mo_init 9 = .ok (.putfield 7, 3) := by decide +kernel
theorem d_Mo_init_12 : decode b_Mo_init 12 = .ok (.aload_n 0, 1) := by decide +kernel
theorem d_Mo_init_13 : decode b_Mo_init 13 = .ok (.bipush 30, 2) := by decide +kernel
theorem d_Mo_init_15 : decode b_Mo_init 15 = .ok (.newarray .int, 2) := by decide +kernel
theorem d_Mo_init_17 : decode b_Mo_init 17 = .ok (.putfield 13, 3) := by decide +kernel
theorem d_Mo_init_20 : decode b_Mo_init 20 = .ok (.aload_n 0, 1) := by decide +kernel
theorem d_Mo_init_21 : decode b_Mo_init 21 = .ok (.sipush 180, 3) := by decide +kernel
theorem d_Mo_init_24 : decode b_Mo_init 24 = .ok (.newarray .int, 2) := by decide +kernel
theorem d_Mo_init_26 : decode b_Mo_init 26 = .ok (.putfield 16, 3) := by decide +kernel
theorem d_Mo_init_29 : decode b_Mo_init 29 = .ok (.aload_n 0, 1) := by decide +kernel
theorem d_Mo_init_30 : decode b_Mo_init 30 = .ok (.bipush 60, 2) := by decide +kernel
theorem d_Mo_init_32 : decode b_Mo_init 32 = .ok (.newarray .int, 2) := by decide +kernel
theorem d_Mo_init_34 : decode b_Mo_init 34 = .ok (.putfield 19, 3) := by decide +kernel
theorem d_Mo_init_37 : decode b_Mo_init 37 = .ok (.aload_n 0, 1) := by decide +kernel
theorem d_Mo_init_38 : decode b_Mo_init 38 = .ok (.iconst 2, 1) := by decide +kernel
theorem d_Mo_init_39 : decode b_Mo_init 39 = .ok (.newarray .boolean, 2) := by decide +kernel
theorem d_Mo_init_41 : decode b_Mo_init 41 = .ok (.putfield 22, 3) := by decide +kernel
theorem d_Mo_init_44 : decode b_Mo_init 44 = .ok (.aload_n 0, 1) := by decide +kernel
theorem d_Mo_init_45 : decode b_Mo_init 45 = .ok (.bipush 6, 2) := by decide +kernel
theorem d_Mo_init_47 : decode b_Mo_init 47 = .ok (.newarray .int, 2) := by decide +kernel
theorem d_Mo_init_49 : decode b_Mo_init 49 = .ok (.putfield 26, 3) := by decide +kernel
theorem d_Mo_init_52 : decode b_Mo_init 52 = .ok (.aload_n 0, 1) := by decide +kernel
theorem d_Mo_init_53 : decode b_Mo_init 53 = .ok (.bipush 6, 2) := by decide +kernel
theorem d_Mo_init_55 : decode b_Mo_init 55 = .ok (.newarray .int, 2) := by decide +kernel
theorem d_Mo_init_57 : decode b_Mo_init 57 = .ok (.putfield 29, 3) := by decide +kernel
theorem d_Mo_init_60 : decode b_Mo_init 60 = .ok (.aload_n 0, 1) := by decide +kernel
theorem d_Mo_init_61 : decode b_Mo_init 61 = .ok (.bipush 120, 2) := by decide +kernel
theorem d_Mo_init_63 : decode b_Mo_init 63 = .ok (.newarray .int, 2) := by decide +kernel
theorem d_Mo_init_65 : decode b_Mo_init 65 = .ok (.putfield 32, 3) := by decide +kernel
theorem d_Mo_init_68 : decode b_Mo_init 68 = .ok (.aload_n 0, 1) := by decide +kernel
theorem d_Mo_init_69 : decode b_Mo_init 69 = .ok (.sipush 1000, 3) := by decide +kernel
theorem d_Mo_init_72 : decode b_Mo_init 72 = .ok (.newarray .int, 2) := by decide +kernel
theorem d_Mo_init_74 : decode b_Mo_init 74 = .ok (.putfield 35, 3) := by decide +kernel
theorem d_Mo_init_77 : decode b_Mo_init 77 = .ok (.aload_n 0, 1) := by decide +kernel
theorem d_Mo_init_78 : decode b_Mo_init 78 = .ok (.sipush 1000, 3) := by decide +kernel
theorem d_Mo_init_81 : decode b_Mo_init 81 = .ok (.newarray .int, 2) := by decide +kernel
theorem d_Mo_init_83 : decode b_Mo_init 83 = .ok (.putfield 38, 3) := by decide +kernel
theorem d_Mo_init_86 : decode b_Mo_init 86 = .ok (.aload_n 0, 1) := by decide +kernel
theorem d_Mo_init_87 : decode b_Mo_init 87 = .ok (.sipush 4000, 3) := by decide +kernel
theorem d_Mo_init_90 : decode b_Mo_init 90 = .ok (.newarray .int, 2) := by decide +kernel
theorem d_Mo_init_92 : decode b_Mo_init 92 = .ok (.putfield 41, 3) := by decide +kernel
theorem d_Mo_init_95 : decode b_Mo_init 95 = .ok (.aload_n 0, 1) := by decide +kernel
theorem d_Mo_init_96 : decode b_Mo_init 96 = .ok (.bipush 100, 2) := by decide +kernel
theorem d_Mo_init_98 : decode b_Mo_init 98 = .ok (.newarray .boolean, 2) := by decide +kernel
theorem d_Mo_init_100 : decode b_Mo_init 100 = .ok (.putfield 44, 3) := by decide +kernel
theorem d_Mo_init_103 : decode b_Mo_init 103 = .ok (.aload_n 0, 1) := by decide +kernel
theorem d_Mo_init_104 : decode b_Mo_init 104 = .ok (.invokevirtual 47, 3) := by decide +kernel
theorem d_Mo_init_107 : decode b_Mo_init 107 = .ok (.aload_n 0, 1) := by decide +kernel
theorem d_Mo_init_108 : decode b_Mo_init 108 = .ok (.getfield 13, 3) := by decide +kernel
theorem d_Mo_init_111 : decode b_Mo_init 111 = .ok (.iconst 0, 1) := by decide +kernel
theorem d_Mo_init_112 : decode b_Mo_init 112 = .ok (.aload_n 0, 1) := by decide +kernel
theorem d_Mo_init_113 : decode b_Mo_init 113 = .ok (.getfield 7, 3) := by decide +kernel
theorem d_Mo_init_116 : decode b_Mo_init 116 = .ok (.iconst 0, 1) := by decide +kernel
theorem d_Mo_init_117 : decode b_Mo_init 117 = .ok (.invokestatic 50, 3) := by decide +kernel
theorem d_Mo_init_120 : decode b_Mo_init 120 = .ok (.return_, 1) := by decide +kernel
theorem d_Mo_in_0 : decode b_Mo_in 0 = .ok (.iload_n 0, 1) := by decide +kernel
theorem d_Mo_in_1 : decode b_Mo_in 1 = .ok (.iload_n 1, 1) := by decide +kernel
theorem d_Mo_in_2 : decode b_Mo_in 2 = .ok (.if_icmp .lt 12, 3) := by decide +kernel
theorem d_Mo_in_5 : decode b_Mo_in 5 = .ok (.iload_n 0, 1) := by decide +kernel
theorem d_Mo_in_6 : decode b_Mo_in 6 = .ok (.iload_n 2, 1) := by decide +kernel
theorem d_Mo_in_7 : decode b_Mo_in 7 = .ok (.if_icmp .gt 7, 3) := by decide +kernel
theorem d_Mo_in_10 : decode b_Mo_in 10 = .ok (.iconst 1, 1) := by decide +kernel
theorem d_Mo_in_11 : decode b_Mo_in 11 = .ok (.goto 4, 3) := by decide +kernel
theorem d_Mo_in_14 : decode b_Mo_in 14 = .ok (.iconst 0, 1) := by decide +kernel
theorem d_Mo_in_15 : decode b_Mo_in 15 = .ok (.ireturn, 1) := by decide +kernel
theorem d_Mo_bring_0 : decode b_Mo_bring 0 = .ok (.iconst 0, 1) := by decide +kernel
theorem d_Mo_bring_1 : decode b_Mo_bring 1 = .ok (.istore 4, 2) := by decide +kernel
theorem d_Mo_bring_3 : decode b_Mo_bring 3 = .ok (.iload 4, 2) := by decide +kernel
theorem d_Mo_bring_5 : decode b_Mo_bring 5 = .ok (.bipush 30, 2) := by decide +kernel
theorem d_Mo_bring_7 : decode b_Mo_bring 7 = .ok (.if_icmp .ge 21, 3) := by decide +kernel
theorem d_Mo_bring_10 : decode b_Mo_bring 10 = .ok (.aload_n 2, 1) := by decide +kernel
theorem d_Mo_bring_11 : decode b_Mo_bring 11 = .ok (.iload_n 3, 1) := by decide +kernel
theorem d_Mo_bring_12 : decode b_Mo_bring 12 = .ok (.iload 4, 2) := by decide +kernel
theorem d_Mo_bring_14 : decode b_Mo_bring 14 = .ok (.iadd, 1) := by decide +kernel
theorem d_Mo_bring_15 : decode b_Mo_bring 15 = .ok (.aload_n 0, 1) := by decide +kernel
theorem d_Mo_bring_16 : decode b_Mo_bring 16 = .ok (.iload_n 1, 1) := by decide +kernel
theorem d_Mo_bring_17 : decode b_Mo_bring 17 = .ok (.iload 4, 2) := by decide +kernel
theorem d_Mo_bring_19 : decode b_Mo_bring 19 = .ok (.iadd, 1) := by decide +kernel
theorem d_Mo_bring_20 : decode b_Mo_bring 20 = .ok (.iaload, 1) := by decide +kernel
theorem d_Mo_bring_21 : decode b_Mo_bring 21 = .ok (.iastore, 1) := by decide +kernel
theorem d_Mo_bring_22 : decode b_Mo_bring 22 = .ok (.iinc 4 1, 3) := by decide +kernel
theorem d_Mo_bring_25 : decode b_Mo_bring 25 = .ok (.goto (-22), 3) := by decide +kernel
theorem d_Mo_bring_28 : decode b_Mo_bring 28 = .ok (.return_, 1) := by decide +kernel
theorem d_Mo_begin_0 : decode b_Mo_begin 0 = .ok (.iconst 0, 1) := by decide +kernel
theorem d_Mo_begin_1 : decode b_Mo_begin 1 = .ok (.istore_n 1, 1) := by decide +kernel
theorem d_Mo_begin_2 : decode b_Mo_begin 2 = .ok (.iload_n 1, 1) := by decide +kernel
theorem d_Mo_begin_3 : decode b_Mo_begin 3 = .ok (.bipush 30, 2) := by decide +kernel
theorem d_Mo_begin_5 : decode b_Mo_begin 5 = .ok (.if_icmp .ge 24, 3) := by decide +kernel
theorem d_Mo_begin_8 : decode b_Mo_begin 8 = .ok (.aload_n 0, 1) := by decide +kernel
theorem d_Mo_begin_9 : decode b_Mo_begin 9 = .ok (.getfield 13, 3) := by decide +kernel
theorem d_Mo_begin_12 : decode b_Mo_begin 12 = .ok (.iload_n 1, 1) := by decide +kernel
theorem d_Mo_begin_13 : decode b_Mo_begin 13 = .ok (.iload_n 1, 1) := by decide +kernel
theorem d_Mo_begin_14 : decode b_Mo_begin 14 = .ok (.ifCond .ne 7, 3) := by decide +kernel
theorem d_Mo_begin_17 : decode b_Mo_begin 17 = .ok (.iconst 1, 1) := by decide +kernel
theorem d_Mo_begin_18 : decode b_Mo_begin 18 = .ok (.goto 4, 3) := by decide +kernel
theorem d_Mo_begin_21 : decode b_Mo_begin 21 = .ok (.iconst 0, 1) := by decide +kernel
theorem d_Mo_begin_22 : decode b_Mo_begin 22 = .ok (.iastore, 1) := by decide +kernel
theorem d_Mo_begin_23 : decode b_Mo_begin 23 = .ok (.iinc 1 1, 3) := by decide +kernel
theorem d_Mo_begin_26 : decode b_Mo_begin 26 = .ok (.goto (-24), 3) := by decide +kernel
theorem d_Mo_begin_29 : decode b_Mo_begin 29 = .ok (.return_, 1) := by decide +kernel
theorem d_Mo_scan_0 : decode b_Mo_scan 0 = .ok (.aload_n 0, 1) := by decide +kernel
theorem d_Mo_scan_1 : decode b_Mo_scan 1 = .ok (.getfield 54, 3) := by decide +kernel
theorem d_Mo_scan_4 : decode b_Mo_scan 4 = .ok (.aload_n 0, 1) := by decide +kernel
theorem d_Mo_scan_5 : decode b_Mo_scan 5 = .ok (.getfield 58, 3) := by decide +kernel
theorem d_Mo_scan_8 : decode b_Mo_scan 8 = .ok (.if_icmp .ge 30, 3) := by decide +kernel
theorem d_Mo_scan_11 : decode b_Mo_scan 11 = .ok (.aload_n 0, 1) := by decide +kernel
theorem d_Mo_scan_12 : decode b_Mo_scan 12 = .ok (.getfield 32, 3) := by decide +kernel
theorem d_Mo_scan_15 : decode b_Mo_scan 15 = .ok (.aload_n 0, 1) := by decide +kernel
theorem d_Mo_scan_16 : decode b_Mo_scan 16 = .ok (.getfield 54, 3) := by decide +kernel
theorem d_Mo_scan_19 : decode b_Mo_scan 19 = .ok (.iaload, 1) := by decide +kernel
theorem d_Mo_scan_20 : decode b_Mo_scan 20 = .ok (.bipush 32, 2) := by decide +kernel
theorem d_Mo_scan_22 : decode b_Mo_scan 22 = .ok (.if_icmp .ne 16, 3) := by decide +kernel
theorem d_Mo_scan_25 : decode b_Mo_scan 25 = .ok (.aload_n 0, 1) := by decide +kernel
theorem d_Mo_scan_26 : decode b_Mo_scan 26 = .ok (.dup, 1) := by decide +kernel
theorem d_Mo_scan_27 : decode b_Mo_scan 27 = .ok (.getfield 54, 3) := by decide +kernel
theorem d_Mo_scan_30 : decode b_Mo_scan 30 = .ok (.iconst 1, 1) := by decide +kernel
theorem d_Mo_scan_31 : decode b_Mo_scan 31 = .ok (.iadd, 1) := by decide +kernel
theorem d_Mo_scan_32 : decode b_Mo_scan 32 = .ok (.putfield 54, 3) := by decide +kernel
theorem d_Mo_scan_35 : decode b_Mo_scan 35 = .ok (.goto (-35), 3) := by decide +kernel
theorem d_Mo_scan_38 : decode b_Mo_scan 38 = .ok (.aload_n 0, 1) := by decide +kernel
theorem d_Mo_scan_39 : decode b_Mo_scan 39 = .ok (.aload_n 0, 1) := by decide +kernel
theorem d_Mo_scan_40 : decode b_Mo_scan 40 = .ok (.getfield 54, 3) := by decide +kernel
theorem d_Mo_scan_43 : decode b_Mo_scan 43 = .ok (.putfield 61, 3) := by decide +kernel
theorem d_Mo_scan_46 : decode b_Mo_scan 46 = .ok (.aload_n 0, 1) := by decide +kernel
theorem d_Mo_scan_47 : decode b_Mo_scan 47 = .ok (.getfield 54, 3) := by decide +kernel
theorem d_Mo_scan_50 : decode b_Mo_scan 50 = .ok (.aload_n 0, 1) := by decide +kernel
theorem d_Mo_scan_51 : decode b_Mo_scan 51 = .ok (.getfield 58, 3) := by decide +kernel
theorem d_Mo_scan_54 : decode b_Mo_scan 54 = .ok (.if_icmp .ge 15, 3) := by decide +kernel
theorem d_Mo_scan_57 : decode b_Mo_scan 57 = .ok (.aload_n 0, 1) := by decide +kernel
theorem d_Mo_scan_58 : decode b_Mo_scan 58 = .ok (.getfield 32, 3) := by decide +kernel
theorem d_Mo_scan_61 : decode b_Mo_scan 61 = .ok (.aload_n 0, 1) := by decide +kernel
theorem d_Mo_scan_62 : decode b_Mo_scan 62 = .ok (.getfield 54, 3) := by decide +kernel
theorem d_Mo_scan_65 : decode b_Mo_scan 65 = .ok (.iaload, 1) := by decide +kernel
theorem d_Mo_scan_66 : decode b_Mo_scan 66 = .ok (.goto 4, 3) := by decide +kernel
theorem d_Mo_scan_69 : decode b_Mo_scan 69 = .ok (.iconst 0, 1) := by decide +kernel
theorem d_Mo_scan_70 : decode b_Mo_scan 70 = .ok (.istore_n 1, 1) := by decide +kernel
theorem d_Mo_scan_71 : decode b_Mo_scan 71 = .ok (.aload_n 0, 1) := by decide +kernel
theorem d_Mo_scan_72 : decode b_Mo_scan 72 = .ok (.getfield 54, 3) := by decide +kernel
theorem d_Mo_scan_75 : decode b_Mo_scan 75 = .ok (.aload_n 0, 1) := by decide +kernel
theorem d_Mo_scan_76 : decode b_Mo_scan 76 = .ok (.getfield 58, 3) := by decide +kernel
theorem d_Mo_scan_79 : decode b_Mo_scan 79 = .ok (.if_icmp .ne 11, 3) := by decide +kernel
theorem d_Mo_scan_82 : decode b_Mo_scan 82 = .ok (.aload_n 0, 1) := by decide +kernel
theorem d_Mo_scan_83 : decode b_Mo_scan 83 = .ok (.iconst 2, 1) := by decide +kernel
theorem d_Mo_scan_84 : decode b_Mo_scan 84 = .ok (.putfield 64, 3) := by decide +kernel
theorem d_Mo_scan_87 : decode b_Mo_scan 87 = .ok (.goto 193, 3) := by decide +kernel
theorem d_Mo_scan_90 : decode b_Mo_scan 90 = .ok (.iload_n 1, 1) := by decide +kernel
theorem d_Mo_scan_91 : decode b_Mo_scan 91 = .ok (.bipush 48, 2) := by decide +kernel
theorem d_Mo_scan_93 : decode b_Mo_scan 93 = .ok (.bipush 57, 2) := by decide +kernel
theorem d_Mo_scan_95 : decode b_Mo_scan 95 = .ok (.invokestatic 67, 3) := by decide +kernel
theorem d_Mo_scan_98 : decode b_Mo_scan 98 = .ok (.ifCond .eq 133, 3) := by decide +kernel
theorem d_Mo_scan_101 : decode b_Mo_scan 101 = .ok (.aload_n 0, 1) := by decide +kernel
theorem d_Mo_scan_102 : decode b_Mo_scan 102 = .ok (.iconst 0, 1) := by decide +kernel
theorem d_Mo_scan_103 : decode b_Mo_scan 103 = .ok (.putfield 71, 3) := by decide +kernel
theorem d_Mo_scan_106 : decode b_Mo_scan 106 = .ok (.aload_n 0, 1) := by decide +kernel
theorem d_Mo_scan_107 : decode b_Mo_scan 107 = .ok (.getfield 54, 3) := by decide +kernel
theorem d_Mo_scan_110 : decode b_Mo_scan 110 = .ok (.aload_n 0, 1) := by decide +kernel
theorem d_Mo_scan_111 : decode b_Mo_scan 111 = .ok (.getfield 58, 3) := by decide +kernel
theorem d_Mo_scan_114 : decode b_Mo_scan 114 = .ok (.if_icmp .ge 76, 3) := by decide +kernel
theorem d_Mo_scan_117 : decode b_Mo_scan 117 = .ok (.aload_n 0, 1) := by decide +kernel
theorem d_Mo_scan_118 : decode b_Mo_scan 118 = .ok (.getfield 32, 3) := by decide +kernel
theorem d_Mo_scan_121 : decode b_Mo_scan 121 = .ok (.aload_n 0, 1) := by decide +kernel
theorem d_Mo_scan_122 : decode b_Mo_scan 122 = .ok (.getfield 54, 3) := by decide +kernel
theorem d_Mo_scan_125 : decode b_Mo_scan 125 = .ok (.iaload, 1) := by decide +kernel
theorem d_Mo_scan_126 : decode b_Mo_scan 126 = .ok (.bipush 48, 2) := by decide +kernel
theorem d_Mo_scan_128 : decode b_Mo_scan 128 = .ok (.bipush 57, 2) := by decide +kernel
theorem d_Mo_scan_130 : decode b_Mo_scan 130 = .ok (.invokestatic 67, 3) := by decide +kernel
theorem d_Mo_scan_133 : decode b_Mo_scan 133 = .ok (.ifCond .eq 57, 3) := by decide +kernel
theorem d_Mo_scan_136 : decode b_Mo_scan 136 = .ok (.aload_n 0, 1) := by decide +kernel
theorem d_Mo_scan_137 : decode b_Mo_scan 137 = .ok (.aload_n 0, 1) := by decide +kernel
theorem d_Mo_scan_138 : decode b_Mo_scan 138 = .ok (.getfield 71, 3) := by decide +kernel
theorem d_Mo_scan_141 : decode b_Mo_scan 141 = .ok (.sipush 999, 3) := by decide +kernel
theorem d_Mo_scan_144 : decode b_Mo_scan 144 = .ok (.if_icmp .le 10, 3) := by decide +kernel
theorem d_Mo_scan_147 : decode b_Mo_scan 147 = .ok (.aload_n 0, 1) := by decide +kernel
theorem d_Mo_scan_148 : decode b_Mo_scan 148 = .ok (.getfield 71, 3) := by decide +kernel
theorem d_Mo_scan_151 : decode b_Mo_scan 151 = .ok (.goto 23, 3) := by decide +kernel
theorem d_Mo_scan_154 : decode b_Mo_scan 154 = .ok (.bipush 10, 2) := by decide +kernel
theorem d_Mo_scan_156 : decode b_Mo_scan 156 = .ok (.aload_n 0, 1) := by decide +kernel
theorem d_Mo_scan_157 : decode b_Mo_scan 157 = .ok (.getfield 71, 3) := by decide +kernel
theorem d_Mo_scan_160 : decode b_Mo_scan 160 = .ok (.imul, 1) := by decide +kernel
theorem d_Mo_scan_161 : decode b_Mo_scan 161 = .ok (.aload_n 0, 1) := by decide +kernel
theorem d_Mo_scan_162 : decode b_Mo_scan 162 = .ok (.getfield 32, 3) := by decide +kernel
theorem d_Mo_scan_165 : decode b_Mo_scan 165 = .ok (.aload_n 0, 1) := by decide +kernel
theorem d_Mo_scan_166 : decode b_Mo_scan 166 = .ok (.getfield 54, 3) := by decide +kernel
theorem d_Mo_scan_169 : decode b_Mo_scan 169 = .ok (.iaload, 1) := by decide +kernel
theorem d_Mo_scan_170 : decode b_Mo_scan 170 = .ok (.iadd, 1) := by decide +kernel
theorem d_Mo_scan_171 : decode b_Mo_scan 171 = .ok (.bipush 48, 2) := by decide +kernel
theorem d_Mo_scan_173 : decode b_Mo_scan 173 = .ok (.isub, 1) := by decide +kernel
theorem d_Mo_scan_174 : decode b_Mo_scan 174 = .ok (.putfield 71, 3) := by decide +kernel
theorem d_Mo_scan_177 : decode b_Mo_scan 177 = .ok (.aload_n 0, 1) := by decide +kernel
theorem d_Mo_scan_178 : decode b_Mo_scan 178 = .ok (.dup, 1) := by decide +kernel
theorem d_Mo_scan_179 : decode b_Mo_scan 179 = .ok (.getfield 54, 3) := by decide +kernel
theorem d_Mo_scan_182 : decode b_Mo_scan 182 = .ok (.iconst 1, 1) := by decide +kernel
theorem d_Mo_scan_183 : decode b_Mo_scan 183 = .ok (.iadd, 1) := by decide +kernel
theorem d_Mo_scan_184 : decode b_Mo_scan 184 = .ok (.putfield 54, 3) := by decide +kernel
theorem d_Mo_scan_187 : decode b_Mo_scan 187 = .ok (.goto (-81), 3) := by decide +kernel
theorem d_Mo_scan_190 : decode b_Mo_scan 190 = .ok (.aload_n 0, 1) := by decide +kernel
theorem d_Mo_scan_191 : decode b_Mo_scan 191 = .ok (.aload_n 0, 1) := by decide +kernel
theorem d_Mo_scan_192 : decode b_Mo_scan 192 = .ok (.getfield 71, 3) := by decide +kernel
theorem d_Mo_scan_195 : decode b_Mo_scan 195 = .ok (.sipush 999, 3) := by decide +kernel
theorem d_Mo_scan_198 : decode b_Mo_scan 198 = .ok (.if_icmp .gt 22, 3) := by decide +kernel
theorem d_Mo_scan_201 : decode b_Mo_scan 201 = .ok (.iload_n 1, 1) := by decide +kernel
theorem d_Mo_scan_202 : decode b_Mo_scan 202 = .ok (.bipush 48, 2) := by decide +kernel
theorem d_Mo_scan_204 : decode b_Mo_scan 204 = .ok (.if_icmp .ne 20, 3) := by decide +kernel
theorem d_Mo_scan_207 : decode b_Mo_scan 207 = .ok (.aload_n 0, 1) := by decide +kernel
theorem d_Mo_scan_208 : decode b_Mo_scan 208 = .ok (.getfield 54, 3) := by decide +kernel
theorem d_Mo_scan_211 : decode b_Mo_scan 211 = .ok (.aload_n 0, 1) := by decide +kernel
theorem d_Mo_scan_212 : decode b_Mo_scan 212 = .ok (.getfield 61, 3) := by decide +kernel
theorem d_Mo_scan_215 : decode b_Mo_scan 215 = .ok (.iconst 1, 1) := by decide +kernel
theorem d_Mo_scan_216 : decode b_Mo_scan 216 = .ok (.iadd, 1) := by decide +kernel
theorem d_Mo_scan_217 : decode b_Mo_scan 217 = .ok (.if_icmp .le 7, 3) := by decide +kernel
theorem d_Mo_scan_220 : decode b_Mo_scan 220 = .ok (.iconst 3, 1) := by decide +kernel
theorem d_Mo_scan_221 : decode b_Mo_scan 221 = .ok (.goto 4, 3) := by decide +kernel
theorem d_Mo_scan_224 : decode b_Mo_scan 224 = .ok (.iconst 1, 1) := by decide +kernel
theorem d_Mo_scan_225 : decode b_Mo_scan 225 = .ok (.putfield 64, 3) := by decide +kernel
theorem d_Mo_scan_228 : decode b_Mo_scan 228 = .ok (.goto 52, 3) := by decide +kernel
theorem d_Mo_scan_231 : decode b_Mo_scan 231 = .ok (.aload_n 0, 1) := by decide +kernel
theorem d_Mo_scan_232 : decode b_Mo_scan 232 = .ok (.iload_n 1, 1) := by decide +kernel
theorem d_Mo_scan_233 : decode b_Mo_scan 233 = .ok (.bipush 105, 2) := by decide +kernel
theorem d_Mo_scan_235 : decode b_Mo_scan 235 = .ok (.if_icmp .eq 27, 3) := by decide +kernel
theorem d_Mo_scan_238 : decode b_Mo_scan 238 = .ok (.iload_n 1, 1) := by decide +kernel
theorem d_Mo_scan_239 : decode b_Mo_scan 239 = .ok (.bipush 100, 2) := by decide +kernel
theorem d_Mo_scan_241 : decode b_Mo_scan 241 = .ok (.if_icmp .eq 21, 3) := by decide +kernel
theorem d_Mo_scan_244 : decode b_Mo_scan 244 = .ok (.iload_n 1, 1) := by decide +kernel
theorem d_Mo_scan_245 : decode b_Mo_scan 245 = .ok (.bipush 99, 2) := by decide +kernel
theorem d_Mo_scan_247 : decode b_Mo_scan 247 = .ok (.if_icmp .eq 15, 3) := by decide +kernel
theorem d_Mo_scan_250 : decode b_Mo_scan 250 = .ok (.iload_n 1, 1) := by decide +kernel
theorem d_Mo_scan_251 : decode b_Mo_scan 251 = .ok (.bipush 101, 2) := by decide +kernel
theorem d_Mo_scan_253 : decode b_Mo_scan 253 = .ok (.if_icmp .eq 9, 3) := by decide +kernel
theorem d_Mo_scan_256 : decode b_Mo_scan 256 = .ok (.iload_n 1, 1) := by decide +kernel
theorem d_Mo_scan_257 : decode b_Mo_scan 257 = .ok (.bipush 59, 2) := by decide +kernel
theorem d_Mo_scan_259 : decode b_Mo_scan 259 = .ok (.if_icmp .ne 7, 3) := by decide +kernel
theorem d_Mo_scan_262 : decode b_Mo_scan 262 = .ok (.iload_n 1, 1) := by decide +kernel
theorem d_Mo_scan_263 : decode b_Mo_scan 263 = .ok (.goto 4, 3) := by decide +kernel
theorem d_Mo_scan_266 : decode b_Mo_scan 266 = .ok (.iconst 3, 1) := by decide +kernel
theorem d_Mo_scan_267 : decode b_Mo_scan 267 = .ok (.putfield 64, 3) := by decide +kernel
theorem d_Mo_scan_270 : decode b_Mo_scan 270 = .ok (.aload_n 0, 1) := by decide +kernel
theorem d_Mo_scan_271 : decode b_Mo_scan 271 = .ok (.dup, 1) := by decide +kernel
theorem d_Mo_scan_272 : decode b_Mo_scan 272 = .ok (.getfield 54, 3) := by decide +kernel
theorem d_Mo_scan_275 : decode b_Mo_scan 275 = .ok (.iconst 1, 1) := by decide +kernel
theorem d_Mo_scan_276 : decode b_Mo_scan 276 = .ok (.iadd, 1) := by decide +kernel
theorem d_Mo_scan_277 : decode b_Mo_scan 277 = .ok (.putfield 54, 3) := by decide +kernel
theorem d_Mo_scan_280 : decode b_Mo_scan 280 = .ok (.return_, 1) := by decide +kernel
theorem d_Mo_isNumber_0 : decode b_Mo_isNumber 0 = .ok (.aload_n 0, 1) := by decide +kernel
theorem d_Mo_isNumber_1 : decode b_Mo_isNumber 1 = .ok (.getfield 64, 3) := by decide +kernel
theorem d_Mo_isNumber_4 : decode b_Mo_isNumber 4 = .ok (.iconst 1, 1) := by decide +kernel
theorem d_Mo_isNumber_5 : decode b_Mo_isNumber 5 = .ok (.if_icmp .ne 15, 3) := by decide +kernel
theorem d_Mo_isNumber_8 : decode b_Mo_isNumber 8 = .ok (.aload_n 0, 1) := by decide +kernel
theorem d_Mo_isNumber_9 : decode b_Mo_isNumber 9 = .ok (.getfield 71, 3) := by decide +kernel
theorem d_Mo_isNumber_12 : decode b_Mo_isNumber 12 = .ok (.iload_n 1, 1) := by decide +kernel
theorem d_Mo_isNumber_13 : decode b_Mo_isNumber 13 = .ok (.if_icmp .gt 7, 3) := by decide +kernel
theorem d_Mo_isNumber_16 : decode b_Mo_isNumber 16 = .ok (.iconst 1, 1) := by decide +kernel
theorem d_Mo_isNumber_17 : decode b_Mo_isNumber 17 = .ok (.goto 4, 3) := by decide +kernel
theorem d_Mo_isNumber_20 : decode b_Mo_isNumber 20 = .ok (.iconst 0, 1) := by decide +kernel
theorem d_Mo_isNumber_21 : decode b_Mo_isNumber 21 = .ok (.ireturn, 1) := by decide +kernel
theorem d_Mo_readNumbers_0 : decode b_Mo_readNumbers 0 = .ok (.iconst 0, 1) := by decide +kernel
theorem d_Mo_readNumbers_1 : decode b_Mo_readNumbers 1 = .ok (.istore 5, 2) := by decide +kernel
theorem d_Mo_readNumbers_3 : decode b_Mo_readNumbers 3 = .ok (.aload_n 0, 1) := by decide +kernel
theorem d_Mo_readNumbers_4 : decode b_Mo_readNumbers 4 = .ok (.invokevirtual 74, 3) := by decide +kernel
theorem d_Mo_readNumbers_7 : decode b_Mo_readNumbers 7 = .ok (.iload 5, 2) := by decide +kernel
theorem d_Mo_readNumbers_9 : decode b_Mo_readNumbers 9 = .ok (.iload_n 3, 1) := by decide +kernel
theorem d_Mo_readNumbers_10 : decode b_Mo_readNumbers 10 = .ok (.if_icmp .ge 45, 3) := by decide +kernel
theorem d_Mo_readNumbers_13 : decode b_Mo_readNumbers 13 = .ok (.aload_n 0, 1) := by decide +kernel
theorem d_Mo_readNumbers_14 : decode b_Mo_readNumbers 14 = .ok (.getfield 64, 3) := by decide +kernel
theorem d_Mo_readNumbers_17 : decode b_Mo_readNumbers 17 = .ok (.iconst 1, 1) := by decide +kernel
theorem d_Mo_readNumbers_18 : decode b_Mo_readNumbers 18 = .ok (.if_icmp .ne 37, 3) := by decide +kernel
theorem d_Mo_readNumbers_21 : decode b_Mo_readNumbers 21 = .ok (.aload_n 0, 1) := by decide +kernel
theorem d_Mo_readNumbers_22 : decode b_Mo_readNumbers 22 = .ok (.iload 4, 2) := by decide +kernel
theorem d_Mo_readNumbers_24 : decode b_Mo_readNumbers 24 = .ok (.invokevirtual 77, 3) := by decide +kernel
theorem d_Mo_readNumbers_27 : decode b_Mo_readNumbers 27 = .ok (.ifCond .ne 5, 3) := by decide +kernel
theorem d_Mo_readNumbers_30 : decode b_Mo_readNumbers 30 = .ok (.iconst 0, 1) := by decide +kernel
theorem d_Mo_readNumbers_31 : decode b_Mo_readNumbers 31 = .ok (.ireturn, 1) := by decide +kernel
theorem d_Mo_readNumbers_32 : decode b_Mo_readNumbers 32 = .ok (.aload_n 0, 1) := by decide +kernel
theorem d_Mo_readNumbers_33 : decode b_Mo_readNumbers 33 = .ok (.getfield 13, 3) := by decide +kernel
theorem d_Mo_readNumbers_36 : decode b_Mo_readNumbers 36 = .ok (.iload_n 1, 1) := by decide +kernel
theorem d_Mo_readNumbers_37 : decode b_Mo_readNumbers 37 = .ok (.iload 5, 2) := by decide +kernel
theorem d_Mo_readNumbers_39 : decode b_Mo_readNumbers 39 = .ok (.iadd, 1) := by decide +kernel
theorem d_Mo_readNumbers_40 : decode b_Mo_readNumbers 40 = .ok (.aload_n 0, 1) := by decide +kernel
theorem d_Mo_readNumbers_41 : decode b_Mo_readNumbers 41 = .ok (.getfield 71, 3) := by decide +kernel
theorem d_Mo_readNumbers_44 : decode b_Mo_readNumbers 44 = .ok (.iastore, 1) := by decide +kernel
theorem d_Mo_readNumbers_45 : decode b_Mo_readNumbers 45 = .ok (.iinc 5 1, 3) := by decide +kernel
theorem d_Mo_readNumbers_48 : decode b_Mo_readNumbers 48 = .ok (.aload_n 0, 1) := by decide +kernel
theorem d_Mo_readNumbers_49 : decode b_Mo_readNumbers 49 = .ok (.invokevirtual 74, 3) := by decide +kernel
theorem d_Mo_readNumbers_52 : decode b_Mo_readNumbers 52 = .ok (.goto (-45), 3) := by decide +kernel
theorem d_Mo_readNumbers_55 : decode b_Mo_readNumbers 55 = .ok (.aload_n 0, 1) := by decide +kernel
theorem d_Mo_readNumbers_56 : decode b_Mo_readNumbers 56 = .ok (.getfield 13, 3) := by decide +kernel
theorem d_Mo_readNumbers_59 : decode b_Mo_readNumbers 59 = .ok (.iconst 0, 1) := by decide +kernel
theorem d_Mo_readNumbers_60 : decode b_Mo_readNumbers 60 = .ok (.iload_n 1, 1) := by decide +kernel
theorem d_Mo_readNumbers_61 : decode b_Mo_readNumbers 61 = .ok (.iconst 1, 1) := by decide +kernel
theorem d_Mo_readNumbers_62 : decode b_Mo_readNumbers 62 = .ok (.if_icmp .ne 8, 3) := by decide +kernel
theorem d_Mo_readNumbers_65 : decode b_Mo_readNumbers 65 = .ok (.iload 5, 2) := by decide +kernel
theorem d_Mo_readNumbers_67 : decode b_Mo_readNumbers 67 = .ok (.goto 9, 3) := by decide +kernel
theorem d_Mo_readNumbers_70 : decode b_Mo_readNumbers 70 = .ok (.aload_n 0, 1) := by decide +kernel
theorem d_Mo_readNumbers_71 : decode b_Mo_readNumbers 71 = .ok (.getfield 13, 3) := by decide +kernel
theorem d_Mo_readNumbers_74 : decode b_Mo_readNumbers 74 = .ok (.iconst 0, 1) := by decide +kernel
theorem d_Mo_readNumbers_75 : decode b_Mo_readNumbers 75 = .ok (.iaload, 1) := by decide +kernel
theorem d_Mo_readNumbers_76 : decode b_Mo_readNumbers 76 = .ok (.iastore, 1) := by decide +kernel
theorem d_Mo_readNumbers_77 : decode b_Mo_readNumbers 77 = .ok (.iload 5, 2) := by decide +kernel
theorem d_Mo_readNumbers_79 : decode b_Mo_readNumbers 79 = .ok (.iload_n 2, 1) := by decide +kernel
theorem d_Mo_readNumbers_80 : decode b_Mo_readNumbers 80 = .ok (.if_icmp .lt 7, 3) := by decide +kernel
theorem d_Mo_readNumbers_83 : decode b_Mo_readNumbers 83 = .ok (.iconst 1, 1) := by decide +kernel
theorem d_Mo_readNumbers_84 : decode b_Mo_readNumbers 84 = .ok (.goto 4, 3) := by decide +kernel
theorem d_Mo_readNumbers_87 : decode b_Mo_readNumbers 87 = .ok (.iconst 0, 1) := by decide +kernel
theorem d_Mo_readNumbers_88 : decode b_Mo_readNumbers 88 = .ok (.ireturn, 1) := by decide +kernel
theorem d_Mo_readItem_0 : decode b_Mo_readItem 0 = .ok (.aload_n 0, 1) := by decide +kernel
theorem d_Mo_readItem_1 : decode b_Mo_readItem 1 = .ok (.getfield 64, 3) := by decide +kernel
theorem d_Mo_readItem_4 : decode b_Mo_readItem 4 = .ok (.bipush 105, 2) := by decide +kernel
theorem d_Mo_readItem_6 : decode b_Mo_readItem 6 = .ok (.if_icmp .ne 7, 3) := by decide +kernel
theorem d_Mo_readItem_9 : decode b_Mo_readItem 9 = .ok (.iconst 1, 1) := by decide +kernel
theorem d_Mo_readItem_10 : decode b_Mo_readItem 10 = .ok (.goto 44, 3) := by decide +kernel
theorem d_Mo_readItem_13 : decode b_Mo_readItem 13 = .ok (.aload_n 0, 1) := by decide +kernel
theorem d_Mo_readItem_14 : decode b_Mo_readItem 14 = .ok (.getfield 64, 3) := by decide +kernel
theorem d_Mo_readItem_17 : decode b_Mo_readItem 17 = .ok (.bipush 100, 2) := by decide +kernel
theorem d_Mo_readItem_19 : decode b_Mo_readItem 19 = .ok (.if_icmp .ne 7, 3) := by decide +kernel
theorem d_Mo_readItem_22 : decode b_Mo_readItem 22 = .ok (.iconst 2, 1) := by decide +kernel
theorem d_Mo_readItem_23 : decode b_Mo_readItem 23 = .ok (.goto 31, 3) := by decide +kernel
theorem d_Mo_readItem_26 : decode b_Mo_readItem 26 = .ok (.aload_n 0, 1) := by decide +kernel
theorem d_Mo_readItem_27 : decode b_Mo_readItem 27 = .ok (.getfield 64, 3) := by decide +kernel
theorem d_Mo_readItem_30 : decode b_Mo_readItem 30 = .ok (.bipush 99, 2) := by decide +kernel
theorem d_Mo_readItem_32 : decode b_Mo_readItem 32 = .ok (.if_icmp .ne 7, 3) := by decide +kernel
theorem d_Mo_readItem_35 : decode b_Mo_readItem 35 = .ok (.iconst 4, 1) := by decide +kernel
theorem d_Mo_readItem_36 : decode b_Mo_readItem 36 = .ok (.goto 18, 3) := by decide +kernel
theorem d_Mo_readItem_39 : decode b_Mo_readItem 39 = .ok (.aload_n 0, 1) := by decide +kernel
theorem d_Mo_readItem_40 : decode b_Mo_readItem 40 = .ok (.getfield 64, 3) := by decide +kernel
theorem d_Mo_readItem_43 : decode b_Mo_readItem 43 = .ok (.bipush 101, 2) := by decide +kernel
theorem d_Mo_readItem_45 : decode b_Mo_readItem 45 = .ok (.if_icmp .ne 8, 3) := by decide +kernel
theorem d_Mo_readItem_48 : decode b_Mo_readItem 48 = .ok (.bipush 8, 2) := by decide +kernel
theorem d_Mo_readItem_50 : decode b_Mo_readItem 50 = .ok (.goto 4, 3) := by decide +kernel
theorem d_Mo_readItem_53 : decode b_Mo_readItem 53 = .ok (.iconst 0, 1) := by decide +kernel
theorem d_Mo_readItem_54 : decode b_Mo_readItem 54 = .ok (.istore_n 1, 1) := by decide +kernel
theorem d_Mo_readItem_55 : decode b_Mo_readItem 55 = .ok (.iload_n 1, 1) := by decide +kernel
theorem d_Mo_readItem_56 : decode b_Mo_readItem 56 = .ok (.ifCond .eq 12, 3) := by decide +kernel
theorem d_Mo_readItem_59 : decode b_Mo_readItem 59 = .ok (.aload_n 0, 1) := by decide +kernel
theorem d_Mo_readItem_60 : decode b_Mo_readItem 60 = .ok (.getfield 81, 3) := by decide +kernel
theorem d_Mo_readItem_63 : decode b_Mo_readItem 63 = .ok (.iload_n 1, 1) := by decide +kernel
theorem d_Mo_readItem_64 : decode b_Mo_readItem 64 = .ok (.iand, 1) := by decide +kernel
theorem d_Mo_readItem_65 : decode b_Mo_readItem 65 = .ok (.ifCond .eq 5, 3) := by decide +kernel
theorem d_Mo_readItem_68 : decode b_Mo_readItem 68 = .ok (.iconst 0, 1) := by decide +kernel
theorem d_Mo_readItem_69 : decode b_Mo_readItem 69 = .ok (.ireturn, 1) := by decide +kernel
theorem d_Mo_readItem_70 : decode b_Mo_readItem 70 = .ok (.aload_n 0, 1) := by decide +kernel
theorem d_Mo_readItem_71 : decode b_Mo_readItem 71 = .ok (.dup, 1) := by decide +kernel
theorem d_Mo_readItem_72 : decode b_Mo_readItem 72 = .ok (.getfield 81, 3) := by decide +kernel
theorem d_Mo_readItem_75 : decode b_Mo_readItem 75 = .ok (.iload_n 1, 1) := by decide +kernel
theorem d_Mo_readItem_76 : decode b_Mo_readItem 76 = .ok (.ior, 1) := by decide +kernel
theorem d_Mo_readItem_77 : decode b_Mo_readItem 77 = .ok (.putfield 81, 3) := by decide +kernel
theorem d_Mo_readItem_80 : decode b_Mo_readItem 80 = .ok (.iload_n 1, 1) := by decide +kernel
theorem d_Mo_readItem_81 : decode b_Mo_readItem 81 = .ok (.iconst 1, 1) := by decide +kernel
theorem d_Mo_readItem_82 : decode b_Mo_readItem 82 = .ok (.if_icmp .ne 16, 3) := by decide +kernel
theorem d_Mo_readItem_85 : decode b_Mo_readItem 85 = .ok (.aload_n 0, 1) := by decide +kernel
theorem d_Mo_readItem_86 : decode b_Mo_readItem 86 = .ok (.iconst 1, 1) := by decide +kernel
theorem d_Mo_readItem_87 : decode b_Mo_readItem 87 = .ok (.iconst 1, 1) := by decide +kernel
theorem d_Mo_readItem_88 : decode b_Mo_readItem 88 = .ok (.bipush 12, 2) := by decide +kernel
theorem d_Mo_readItem_90 : decode b_Mo_readItem 90 = .ok (.bipush 99, 2) := by decide +kernel
theorem d_Mo_readItem_92 : decode b_Mo_readItem 92 = .ok (.invokevirtual 84, 3) := by decide +kernel
theorem d_Mo_readItem_95 : decode b_Mo_readItem 95 = .ok (.goto 52, 3) := by decide +kernel
theorem d_Mo_readItem_98 : decode b_Mo_readItem 98 = .ok (.iload_n 1, 1) := by decide +kernel
theorem d_Mo_readItem_99 : decode b_Mo_readItem 99 = .ok (.iconst 2, 1) := by decide +kernel
theorem d_Mo_readItem_100 : decode b_Mo_readItem 100 = .ok (.if_icmp .ne 16, 3) := by decide +kernel
theorem d_Mo_readItem_103 : decode b_Mo_readItem 103 = .ok (.aload_n 0, 1) := by decide +kernel
theorem d_Mo_readItem_104 : decode b_Mo_readItem 104 = .ok (.bipush 13, 2) := by decide +kernel
theorem d_Mo_readItem_106 : decode b_Mo_readItem 106 = .ok (.iconst 1, 1) := by decide +kernel
theorem d_Mo_readItem_107 : decode b_Mo_readItem 107 = .ok (.iconst 1, 1) := by decide +kernel
theorem d_Mo_readItem_108 : decode b_Mo_readItem 108 = .ok (.bipush 99, 2) := by decide +kernel
theorem d_Mo_readItem_110 : decode b_Mo_readItem 110 = .ok (.invokevirtual 84, 3) := by decide +kernel
theorem d_Mo_readItem_113 : decode b_Mo_readItem 113 = .ok (.goto 34, 3) := by decide +kernel
theorem d_Mo_readItem_116 : decode b_Mo_readItem 116 = .ok (.iload_n 1, 1) := by decide +kernel
theorem d_Mo_readItem_117 : decode b_Mo_readItem 117 = .ok (.iconst 4, 1) := by decide +kernel
theorem d_Mo_readItem_118 : decode b_Mo_readItem 118 = .ok (.if_icmp .ne 17, 3) := by decide +kernel
theorem d_Mo_readItem_121 : decode b_Mo_readItem 121 = .ok (.aload_n 0, 1) := by decide +kernel
theorem d_Mo_readItem_122 : decode b_Mo_readItem 122 = .ok (.bipush 14, 2) := by decide +kernel
theorem d_Mo_readItem_124 : decode b_Mo_readItem 124 = .ok (.iconst 1, 1) := by decide +kernel
theorem d_Mo_readItem_125 : decode b_Mo_readItem 125 = .ok (.iconst 1, 1) := by decide +kernel
theorem d_Mo_readItem_126 : decode b_Mo_readItem 126 = .ok (.sipush 999, 3) := by decide +kernel
theorem d_Mo_readItem_129 : decode b_Mo_readItem 129 = .ok (.invokevirtual 84, 3) := by decide +kernel
theorem d_Mo_readItem_132 : decode b_Mo_readItem 132 = .ok (.goto 15, 3) := by decide +kernel
theorem d_Mo_readItem_135 : decode b_Mo_readItem 135 = .ok (.aload_n 0, 1) := by decide +kernel
theorem d_Mo_readItem_136 : decode b_Mo_readItem 136 = .ok (.bipush 15, 2) := by decide +kernel
theorem d_Mo_readItem_138 : decode b_Mo_readItem 138 = .ok (.bipush 10, 2) := by decide +kernel
theorem d_Mo_readItem_140 : decode b_Mo_readItem 140 = .ok (.bipush 10, 2) := by decide +kernel
theorem d_Mo_readItem_142 : decode b_Mo_readItem 142 = .ok (.bipush 9, 2) := by decide +kernel
theorem d_Mo_readItem_144 : decode b_Mo_readItem 144 = .ok (.invokevirtual 84, 3) := by decide +kernel
theorem d_Mo_readItem_147 : decode b_Mo_readItem 147 = .ok (.istore_n 2, 1) := by decide +kernel
theorem d_Mo_readItem_148 : decode b_Mo_readItem 148 = .ok (.aload_n 0, 1) := by decide +kernel
theorem d_Mo_readItem_149 : decode b_Mo_readItem 149 = .ok (.dup, 1) := by decide +kernel
theorem d_Mo_readItem_150 : decode b_Mo_readItem 150 = .ok (.getfield 88, 3) := by decide +kernel
theorem d_Mo_readItem_153 : decode b_Mo_readItem 153 = .ok (.iconst 1, 1) := by decide +kernel
theorem d_Mo_readItem_154 : decode b_Mo_readItem 154 = .ok (.iadd, 1) := by decide +kernel
theorem d_Mo_readItem_155 : decode b_Mo_readItem 155 = .ok (.putfield 88, 3) := by decide +kernel
theorem d_Mo_readItem_158 : decode b_Mo_readItem 158 = .ok (.iload_n 2, 1) := by decide +kernel
theorem d_Mo_readItem_159 : decode b_Mo_readItem 159 = .ok (.ifCond .eq 16, 3) := by decide +kernel
theorem d_Mo_readItem_162 : decode b_Mo_readItem 162 = .ok (.aload_n 0, 1) := by decide +kernel
theorem d_Mo_readItem_163 : decode b_Mo_readItem 163 = .ok (.getfield 64, 3) := by decide +kernel
theorem d_Mo_readItem_166 : decode b_Mo_readItem 166 = .ok (.bipush 59, 2) := by decide +kernel
theorem d_Mo_readItem_168 : decode b_Mo_readItem 168 = .ok (.if_icmp .ne 7, 3) := by decide +kernel
theorem d_Mo_readItem_171 : decode b_Mo_readItem 171 = .ok (.iconst 1, 1) := by decide +kernel
theorem d_Mo_readItem_172 : decode b_Mo_readItem 172 = .ok (.goto 4, 3) := by decide +kernel
theorem d_Mo_readItem_175 : decode b_Mo_readItem 175 = .ok (.iconst 0, 1) := by decide +kernel
theorem d_Mo_readItem_176 : decode b_Mo_readItem 176 = .ok (.ireturn, 1) := by decide +kernel
