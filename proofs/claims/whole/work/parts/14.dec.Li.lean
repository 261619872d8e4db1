theorem d_Li_init_0 : decode b_Li_init 0 = .ok (.aload_n 0, 1) := by decide +kernel
theorem d_Li_init_1 : decode b_Li_init 1 = .ok (.invokespecial 3, 3) := by decide +kernel
theorem d_Li_init_4 : decode b_Li_init 4 = .ok (.aload_n 0, 1) := by decide +kernel
theorem d_Li_init_5 : decode b_Li_init 5 = .ok (.bipush 13, 2) := by decide +kernel
theorem d_Li_init_7 : decode b_Li_init 7 = .ok (.newarray .int, 2) := by decide +kernel
theorem d_Li_init_9 : decode b_Li_init 9 = .ok (.putfield 9, 3) := by decide +kernel
theorem d_Li_init_12 : decode b_Li_init 12 = .ok (.aload_n 0, 1) := by decide +kernel
theorem d_Li_init_13 : decode b_Li_init 13 = .ok (.new 15, 3) := by decide +kernel
theorem d_Li_init_16 : decode b_Li_init 16 = .ok (.dup, 1) := by decide +kernel
theorem d_Li_init_17 : decode b_Li_init 17 = .ok (.invokespecial 17, 3) := by decide +kernel
theorem d_Li_init_20 : decode b_Li_init 20 = .ok (.putfield 18, 3) := by decide +kernel
theorem d_Li_init_23 : decode b_Li_init 23 = .ok (.aload_n 0, 1) := by decide +kernel
theorem d_Li_init_24 : decode b_Li_init 24 = .ok (.new 15, 3) := by decide +kernel
theorem d_Li_init_27 : decode b_Li_init 27 = .ok (.dup, 1) := by decide +kernel
theorem d_Li_init_28 : decode b_Li_init 28 = .ok (.invokespecial 17, 3) := by decide +kernel
theorem d_Li_init_31 : decode b_Li_init 31 = .ok (.putfield 22, 3) := by decide +kernel
theorem d_Li_init_34 : decode b_Li_init 34 = .ok (.aload_n 0, 1) := by decide +kernel
theorem d_Li_init_35 : decode b_Li_init 35 = .ok (.iconst 1, 1) := by decide +kernel
theorem d_Li_init_36 : decode b_Li_init 36 = .ok (.putfield 25, 3) := by decide +kernel
theorem d_Li_init_39 : decode b_Li_init 39 = .ok (.return_, 1) := by decide +kernel
theorem d_Li_draw_0 : decode b_Li_draw 0 = .ok (.aload_n 0, 1) := by decide +kernel
theorem d_Li_draw_1 : decode b_Li_draw 1 = .ok (.iconst 1, 1) := by decide +kernel
theorem d_Li_draw_2 : decode b_Li_draw 2 = .ok (.aload_n 1, 1) := by decide +kernel
theorem d_Li_draw_3 : decode b_Li_draw 3 = .ok (.getfield 29, 3) := by decide +kernel
theorem d_Li_draw_6 : decode b_Li_draw 6 = .ok (.bipush 12, 2) := by decide +kernel
theorem d_Li_draw_8 : decode b_Li_draw 8 = .ok (.invokestatic 32, 3) := by decide +kernel
theorem d_Li_draw_11 : decode b_Li_draw 11 = .ok (.invokestatic 38, 3) := by decide +kernel
theorem d_Li_draw_14 : decode b_Li_draw 14 = .ok (.putfield 25, 3) := by decide +kernel
theorem d_Li_draw_17 : decode b_Li_draw 17 = .ok (.iconst 0, 1) := by decide +kernel
theorem d_Li_draw_18 : decode b_Li_draw 18 = .ok (.istore_n 2, 1) := by decide +kernel
theorem d_Li_draw_19 : decode b_Li_draw 19 = .ok (.iload_n 2, 1) := by decide +kernel
theorem d_Li_draw_20 : decode b_Li_draw 20 = .ok (.aload_n 0, 1) := by decide +kernel
theorem d_Li_draw_21 : decode b_Li_draw 21 = .ok (.getfield 25, 3) := by decide +kernel
theorem d_Li_draw_24 : decode b_Li_draw 24 = .ok (.if_icmp .ge 68, 3) := by decide +kernel
theorem d_Li_draw_27 : decode b_Li_draw 27 = .ok (.iconst 0, 1) := by decide +kernel
theorem d_Li_draw_28 : decode b_Li_draw 28 = .ok (.istore_n 3, 1) := by decide +kernel
theorem d_Li_draw_29 : decode b_Li_draw 29 = .ok (.iconst 1, 1) := by decide +kernel
theorem d_Li_draw_30 : decode b_Li_draw 30 = .ok (.istore 4, 2) := by decide +kernel
theorem d_Li_draw_32 : decode b_Li_draw 32 = .ok (.iload 4, 2) := by decide +kernel
theorem d_Li_draw_34 : decode b_Li_draw 34 = .ok (.aload_n 0, 1) := by decide +kernel
theorem d_Li_draw_35 : decode b_Li_draw 35 = .ok (.getfield 25, 3) := by decide +kernel
theorem d_Li_draw_38 : decode b_Li_draw 38 = .ok (.if_icmp .gt 48, 3) := by decide +kernel
theorem d_Li_draw_41 : decode b_Li_draw 41 = .ok (.iload_n 3, 1) := by decide +kernel
theorem d_Li_draw_42 : decode b_Li_draw 42 = .ok (.aload_n 1, 1) := by decide +kernel
theorem d_Li_draw_43 : decode b_Li_draw 43 = .ok (.iload_n 2, 1) := by decide +kernel
theorem d_Li_draw_44 : decode b_Li_draw 44 = .ok (.iload 4, 2) := by decide +kernel
theorem d_Li_draw_46 : decode b_Li_draw 46 = .ok (.iadd, 1) := by decide +kernel
theorem d_Li_draw_47 : decode b_Li_draw 47 = .ok (.iconst 1, 1) := by decide +kernel
theorem d_Li_draw_48 : decode b_Li_draw 48 = .ok (.isub, 1) := by decide +kernel
theorem d_Li_draw_49 : decode b_Li_draw 49 = .ok (.invokevirtual 41, 3) := by decide +kernel
theorem d_Li_draw_52 : decode b_Li_draw 52 = .ok (.iadd, 1) := by decide +kernel
theorem d_Li_draw_53 : decode b_Li_draw 53 = .ok (.istore_n 3, 1) := by decide +kernel
theorem d_Li_draw_54 : decode b_Li_draw 54 = .ok (.aload_n 0, 1) := by decide +kernel
theorem d_Li_draw_55 : decode b_Li_draw 55 = .ok (.getfield 9, 3) := by decide +kernel
theorem d_Li_draw_58 : decode b_Li_draw 58 = .ok (.iload 4, 2) := by decide +kernel
theorem d_Li_draw_60 : decode b_Li_draw 60 = .ok (.iload_n 2, 1) := by decide +kernel
theorem d_Li_draw_61 : decode b_Li_draw 61 = .ok (.ifCond .ne 7, 3) := by decide +kernel
theorem d_Li_draw_64 : decode b_Li_draw 64 = .ok (.iload_n 3, 1) := by decide +kernel
theorem d_Li_draw_65 : decode b_Li_draw 65 = .ok (.goto 14, 3) := by decide +kernel
theorem d_Li_draw_68 : decode b_Li_draw 68 = .ok (.iload_n 3, 1) := by decide +kernel
theorem d_Li_draw_69 : decode b_Li_draw 69 = .ok (.aload_n 0, 1) := by decide +kernel
theorem d_Li_draw_70 : decode b_Li_draw 70 = .ok (.getfield 9, 3) := by decide +kernel
theorem d_Li_draw_73 : decode b_Li_draw 73 = .ok (.iload 4, 2) := by decide +kernel
theorem d_Li_draw_75 : decode b_Li_draw 75 = .ok (.iaload, 1) := by decide +kernel
theorem d_Li_draw_76 : decode b_Li_draw 76 = .ok (.invokestatic 32, 3) := by decide +kernel
theorem d_Li_draw_79 : decode b_Li_draw 79 = .ok (.iastore, 1) := by decide +kernel
theorem d_Li_draw_80 : decode b_Li_draw 80 = .ok (.iinc 4 1, 3) := by decide +kernel
theorem d_Li_draw_83 : decode b_Li_draw 83 = .ok (.goto (-51), 3) := by decide +kernel
theorem d_Li_draw_86 : decode b_Li_draw 86 = .ok (.iinc 2 1, 3) := by decide +kernel
theorem d_Li_draw_89 : decode b_Li_draw 89 = .ok (.goto (-70), 3) := by decide +kernel
theorem d_Li_draw_92 : decode b_Li_draw 92 = .ok (.return_, 1) := by decide +kernel
theorem d_Li_leastSum_0 : decode b_Li_leastSum 0 = .ok (.iload_n 1, 1) := by decide +kernel
theorem d_Li_leastSum_1 : decode b_Li_leastSum 1 = .ok (.iconst 0, 1) := by decide +kernel
theorem d_Li_leastSum_2 : decode b_Li_leastSum 2 = .ok (.bipush 12, 2) := by decide +kernel
theorem d_Li_leastSum_4 : decode b_Li_leastSum 4 = .ok (.invokestatic 45, 3) := by decide +kernel
theorem d_Li_leastSum_7 : decode b_Li_leastSum 7 = .ok (.ifCond .eq 7, 3) := by decide +kernel
theorem d_Li_leastSum_10 : decode b_Li_leastSum 10 = .ok (.iconst 0, 1) := by decide +kernel
theorem d_Li_leastSum_11 : decode b_Li_leastSum 11 = .ok (.goto 9, 3) := by decide +kernel
theorem d_Li_leastSum_14 : decode b_Li_leastSum 14 = .ok (.aload_n 0, 1) := by decide +kernel
theorem d_Li_leastSum_15 : decode b_Li_leastSum 15 = .ok (.getfield 9, 3) := by decide +kernel
theorem d_Li_leastSum_18 : decode b_Li_leastSum 18 = .ok (.iload_n 1, 1) := by decide +kernel
theorem d_Li_leastSum_19 : decode b_Li_leastSum 19 = .ok (.iaload, 1) := by decide +kernel
theorem d_Li_leastSum_20 : decode b_Li_leastSum 20 = .ok (.ireturn, 1) := by decide +kernel
theorem d_Li_isAboveMean_0 : decode b_Li_isAboveMean 0 = .ok (.iload_n 1, 1) := by decide +kernel
theorem d_Li_isAboveMean_1 : decode b_Li_isAboveMean 1 = .ok (.aload_n 0, 1) := by decide +kernel
theorem d_Li_isAboveMean_2 : decode b_Li_isAboveMean 2 = .ok (.getfield 25, 3) := by decide +kernel
theorem d_Li_isAboveMean_5 : decode b_Li_isAboveMean 5 = .ok (.imul, 1) := by decide +kernel
theorem d_Li_isAboveMean_6 : decode b_Li_isAboveMean 6 = .ok (.aload_n 0, 1) := by decide +kernel
theorem d_Li_isAboveMean_7 : decode b_Li_isAboveMean 7 = .ok (.aload_n 0, 1) := by decide +kernel
theorem d_Li_isAboveMean_8 : decode b_Li_isAboveMean 8 = .ok (.getfield 25, 3) := by decide +kernel
theorem d_Li_isAboveMean_11 : decode b_Li_isAboveMean 11 = .ok (.invokevirtual 49, 3) := by decide +kernel
theorem d_Li_isAboveMean_14 : decode b_Li_isAboveMean 14 = .ok (.if_icmp .le 7, 3) := by decide +kernel
theorem d_Li_isAboveMean_17 : decode b_Li_isAboveMean 17 = .ok (.iconst 1, 1) := by decide +kernel
theorem d_Li_isAboveMean_18 : decode b_Li_isAboveMean 18 = .ok (.goto 4, 3) := by decide +kernel
theorem d_Li_isAboveMean_21 : decode b_Li_isAboveMean 21 = .ok (.iconst 0, 1) := by decide +kernel
theorem d_Li_isAboveMean_22 : decode b_Li_isAboveMean 22 = .ok (.ireturn, 1) := by decide +kernel
theorem d_Li_heightAt_0 : decode b_Li_heightAt 0 = .ok (.iconst 0, 1) := by decide +kernel
theorem d_Li_heightAt_1 : decode b_Li_heightAt 1 = .ok (.istore_n 2, 1) := by decide +kernel
theorem d_Li_heightAt_2 : decode b_Li_heightAt 2 = .ok (.iconst 1, 1) := by decide +kernel
theorem d_Li_heightAt_3 : decode b_Li_heightAt 3 = .ok (.istore_n 3, 1) := by decide +kernel
theorem d_Li_heightAt_4 : decode b_Li_heightAt 4 = .ok (.iload_n 3, 1) := by decide +kernel
theorem d_Li_heightAt_5 : decode b_Li_heightAt 5 = .ok (.aload_n 0, 1) := by decide +kernel
theorem d_Li_heightAt_6 : decode b_Li_heightAt 6 = .ok (.getfield 25, 3) := by decide +kernel
theorem d_Li_heightAt_9 : decode b_Li_heightAt 9 = .ok (.if_icmp .gt 23, 3) := by decide +kernel
theorem d_Li_heightAt_12 : decode b_Li_heightAt 12 = .ok (.iload_n 2, 1) := by decide +kernel
theorem d_Li_heightAt_13 : decode b_Li_heightAt 13 = .ok (.iload_n 3, 1) := by decide +kernel
theorem d_Li_heightAt_14 : decode b_Li_heightAt 14 = .ok (.iload_n 1, 1) := by decide +kernel
theorem d_Li_heightAt_15 : decode b_Li_heightAt 15 = .ok (.imul, 1) := by decide +kernel
theorem d_Li_heightAt_16 : decode b_Li_heightAt 16 = .ok (.aload_n 0, 1) := by decide +kernel
theorem d_Li_heightAt_17 : decode b_Li_heightAt 17 = .ok (.iload_n 3, 1) := by decide +kernel
theorem d_Li_heightAt_18 : decode b_Li_heightAt 18 = .ok (.invokevirtual 49, 3) := by decide +kernel
theorem d_Li_heightAt_21 : decode b_Li_heightAt 21 = .ok (.isub, 1) := by decide +kernel
theorem d_Li_heightAt_22 : decode b_Li_heightAt 22 = .ok (.invokestatic 38, 3) := by decide +kernel
theorem d_Li_heightAt_25 : decode b_Li_heightAt 25 = .ok (.istore_n 2, 1) := by decide +kernel
theorem d_Li_heightAt_26 : decode b_Li_heightAt 26 = .ok (.iinc 3 1, 3) := by decide +kernel
theorem d_Li_heightAt_29 : decode b_Li_heightAt 29 = .ok (.goto (-25), 3) := by decide +kernel
theorem d_Li_heightAt_32 : decode b_Li_heightAt 32 = .ok (.iload_n 2, 1) := by decide +kernel
theorem d_Li_heightAt_33 : decode b_Li_heightAt 33 = .ok (.ireturn, 1) := by decide +kernel
theorem d_Li_findSure_0 : decode b_Li_findSure 0 = .ok (.aload_n 0, 1) := by decide +kernel
theorem d_Li_findSure_1 : decode b_Li_findSure 1 = .ok (.getfield 22, 3) := by decide +kernel
theorem d_Li_findSure_4 : decode b_Li_findSure 4 = .ok (.aload_n 0, 1) := by decide +kernel
theorem d_Li_findSure_5 : decode b_Li_findSure 5 = .ok (.aload_n 0, 1) := by decide +kernel
theorem d_Li_findSure_6 : decode b_Li_findSure 6 = .ok (.getfield 25, 3) := by decide +kernel
theorem d_Li_findSure_9 : decode b_Li_findSure 9 = .ok (.invokevirtual 49, 3) := by decide +kernel
theorem d_Li_findSure_12 : decode b_Li_findSure 12 = .ok (.aload_n 0, 1) := by decide +kernel
theorem d_Li_findSure_13 : decode b_Li_findSure 13 = .ok (.getfield 25, 3) := by decide +kernel
theorem d_Li_findSure_16 : decode b_Li_findSure 16 = .ok (.invokevirtual 52, 3) := by decide +kernel
theorem d_Li_findSure_19 : decode b_Li_findSure 19 = .ok (.iconst 1, 1) := by decide +kernel
theorem d_Li_findSure_20 : decode b_Li_findSure 20 = .ok (.istore_n 2, 1) := by decide +kernel
theorem d_Li_findSure_21 : decode b_Li_findSure 21 = .ok (.iload_n 2, 1) := by decide +kernel
theorem d_Li_findSure_22 : decode b_Li_findSure 22 = .ok (.aload_n 0, 1) := by decide +kernel
theorem d_Li_findSure_23 : decode b_Li_findSure 23 = .ok (.getfield 25, 3) := by decide +kernel
theorem d_Li_findSure_26 : decode b_Li_findSure 26 = .ok (.if_icmp .gt 24, 3) := by decide +kernel
theorem d_Li_findSure_29 : decode b_Li_findSure 29 = .ok (.aload_n 0, 1) := by decide +kernel
theorem d_Li_findSure_30 : decode b_Li_findSure 30 = .ok (.getfield 22, 3) := by decide +kernel
theorem d_Li_findSure_33 : decode b_Li_findSure 33 = .ok (.iload_n 1, 1) := by decide +kernel
theorem d_Li_findSure_34 : decode b_Li_findSure 34 = .ok (.aload_n 0, 1) := by decide +kernel
theorem d_Li_findSure_35 : decode b_Li_findSure 35 = .ok (.iload_n 2, 1) := by decide +kernel
theorem d_Li_findSure_36 : decode b_Li_findSure 36 = .ok (.invokevirtual 49, 3) := by decide +kernel
theorem d_Li_findSure_39 : decode b_Li_findSure 39 = .ok (.iadd, 1) := by decide +kernel
theorem d_Li_findSure_40 : decode b_Li_findSure 40 = .ok (.iload_n 2, 1) := by decide +kernel
theorem d_Li_findSure_41 : decode b_Li_findSure 41 = .ok (.invokevirtual 56, 3) := by decide +kernel
theorem d_Li_findSure_44 : decode b_Li_findSure 44 = .ok (.iinc 2 1, 3) := by decide +kernel
theorem d_Li_findSure_47 : decode b_Li_findSure 47 = .ok (.goto (-26), 3) := by decide +kernel
theorem d_Li_findSure_50 : decode b_Li_findSure 50 = .ok (.return_, 1) := by decide +kernel
theorem d_Li_pieces_0 : decode b_Li_pieces 0 = .ok (.iconst 0, 1) := by decide +kernel
theorem d_Li_pieces_1 : decode b_Li_pieces 1 = .ok (.istore_n 1, 1) := by decide +kernel
theorem d_Li_pieces_2 : decode b_Li_pieces 2 = .ok (.iconst 0, 1) := by decide +kernel
theorem d_Li_pieces_3 : decode b_Li_pieces 3 = .ok (.istore_n 2, 1) := by decide +kernel
theorem d_Li_pieces_4 : decode b_Li_pieces 4 = .ok (.iload_n 2, 1) := by decide +kernel
theorem d_Li_pieces_5 : decode b_Li_pieces 5 = .ok (.aload_n 0, 1) := by decide +kernel
theorem d_Li_pieces_6 : decode b_Li_pieces 6 = .ok (.getfield 25, 3) := by decide +kernel
theorem d_Li_pieces_9 : decode b_Li_pieces 9 = .ok (.if_icmp .gt 20, 3) := by decide +kernel
theorem d_Li_pieces_12 : decode b_Li_pieces 12 = .ok (.aload_n 0, 1) := by decide +kernel
theorem d_Li_pieces_13 : decode b_Li_pieces 13 = .ok (.iload_n 2, 1) := by decide +kernel
theorem d_Li_pieces_14 : decode b_Li_pieces 14 = .ok (.invokevirtual 59, 3) := by decide +kernel
theorem d_Li_pieces_17 : decode b_Li_pieces 17 = .ok (.ifCond .eq 6, 3) := by decide +kernel
theorem d_Li_pieces_20 : decode b_Li_pieces 20 = .ok (.iinc 1 1, 3) := by decide +kernel
theorem d_Li_pieces_23 : decode b_Li_pieces 23 = .ok (.iinc 2 1, 3) := by decide +kernel
theorem d_Li_pieces_26 : decode b_Li_pieces 26 = .ok (.goto (-22), 3) := by decide +kernel
theorem d_Li_pieces_29 : decode b_Li_pieces 29 = .ok (.iload_n 1, 1) := by decide +kernel
theorem d_Li_pieces_30 : decode b_Li_pieces 30 = .ok (.ireturn, 1) := by decide +kernel
theorem d_Li_pieceAt_0 : decode b_Li_pieceAt 0 = .ok (.iconst 0, 1) := by decide +kernel
theorem d_Li_pieceAt_1 : decode b_Li_pieceAt 1 = .ok (.istore_n 2, 1) := by decide +kernel
theorem d_Li_pieceAt_2 : decode b_Li_pieceAt 2 = .ok (.iconst 0, 1) := by decide +kernel
theorem d_Li_pieceAt_3 : decode b_Li_pieceAt 3 = .ok (.istore_n 3, 1) := by decide +kernel
theorem d_Li_pieceAt_4 : decode b_Li_pieceAt 4 = .ok (.iload_n 3, 1) := by decide +kernel
theorem d_Li_pieceAt_5 : decode b_Li_pieceAt 5 = .ok (.aload_n 0, 1) := by decide +kernel
theorem d_Li_pieceAt_6 : decode b_Li_pieceAt 6 = .ok (.getfield 25, 3) := by decide +kernel
theorem d_Li_pieceAt_9 : decode b_Li_pieceAt 9 = .ok (.if_icmp .gt 27, 3) := by decide +kernel
theorem d_Li_pieceAt_12 : decode b_Li_pieceAt 12 = .ok (.aload_n 0, 1) := by decide +kernel
theorem d_Li_pieceAt_13 : decode b_Li_pieceAt 13 = .ok (.iload_n 3, 1) := by decide +kernel
theorem d_Li_pieceAt_14 : decode b_Li_pieceAt 14 = .ok (.invokevirtual 59, 3) := by decide +kernel
theorem d_Li_pieceAt_17 : decode b_Li_pieceAt 17 = .ok (.ifCond .eq 13, 3) := by decide +kernel
theorem d_Li_pieceAt_20 : decode b_Li_pieceAt 20 = .ok (.iload_n 2, 1) := by decide +kernel
theorem d_Li_pieceAt_21 : decode b_Li_pieceAt 21 = .ok (.iload_n 1, 1) := by decide +kernel
theorem d_Li_pieceAt_22 : decode b_Li_pieceAt 22 = .ok (.if_icmp .ne 5, 3) := by decide +kernel
theorem d_Li_pieceAt_25 : decode b_Li_pieceAt 25 = .ok (.iload_n 3, 1) := by decide +kernel
theorem d_Li_pieceAt_26 : decode b_Li_pieceAt 26 = .ok (.ireturn, 1) := by decide +kernel
theorem d_Li_pieceAt_27 : decode b_Li_pieceAt 27 = .ok (.iinc 2 1, 3) := by decide +kernel
theorem d_Li_pieceAt_30 : decode b_Li_pieceAt 30 = .ok (.iinc 3 1, 3) := by decide +kernel
theorem d_Li_pieceAt_33 : decode b_Li_pieceAt 33 = .ok (.goto (-29), 3) := by decide +kernel
theorem d_Li_pieceAt_36 : decode b_Li_pieceAt 36 = .ok (.bipush (-9), 2) := by decide +kernel
theorem d_Li_pieceAt_38 : decode b_Li_pieceAt 38 = .ok (.ireturn, 1) := by decide +kernel
theorem d_Li_isPiece_0 : decode b_Li_isPiece 0 = .ok (.aload_n 0, 1) := by decide +kernel
theorem d_Li_isPiece_1 : decode b_Li_isPiece 1 = .ok (.getfield 18, 3) := by decide +kernel
theorem d_Li_isPiece_4 : decode b_Li_isPiece 4 = .ok (.iconst 0, 1) := by decide +kernel
theorem d_Li_isPiece_5 : decode b_Li_isPiece 5 = .ok (.iconst 1, 1) := by decide +kernel
theorem d_Li_isPiece_6 : decode b_Li_isPiece 6 = .ok (.invokevirtual 52, 3) := by decide +kernel
theorem d_Li_isPiece_9 : decode b_Li_isPiece 9 = .ok (.aload_n 0, 1) := by decide +kernel
theorem d_Li_isPiece_10 : decode b_Li_isPiece 10 = .ok (.getfield 22, 3) := by decide +kernel
theorem d_Li_isPiece_13 : decode b_Li_isPiece 13 = .ok (.aload_n 0, 1) := by decide +kernel
theorem d_Li_isPiece_14 : decode b_Li_isPiece 14 = .ok (.aload_n 0, 1) := by decide +kernel
theorem d_Li_isPiece_15 : decode b_Li_isPiece 15 = .ok (.getfield 25, 3) := by decide +kernel
theorem d_Li_isPiece_18 : decode b_Li_isPiece 18 = .ok (.invokevirtual 49, 3) := by decide +kernel
theorem d_Li_isPiece_21 : decode b_Li_isPiece 21 = .ok (.aload_n 0, 1) := by decide +kernel
theorem d_Li_isPiece_22 : decode b_Li_isPiece 22 = .ok (.getfield 25, 3) := by decide +kernel
theorem d_Li_isPiece_25 : decode b_Li_isPiece 25 = .ok (.invokevirtual 52, 3) := by decide +kernel
theorem d_Li_isPiece_28 : decode b_Li_isPiece 28 = .ok (.iconst 0, 1) := by decide +kernel
theorem d_Li_isPiece_29 : decode b_Li_isPiece 29 = .ok (.istore_n 2, 1) := by decide +kernel
theorem d_Li_isPiece_30 : decode b_Li_isPiece 30 = .ok (.iload_n 2, 1) := by decide +kernel
theorem d_Li_isPiece_31 : decode b_Li_isPiece 31 = .ok (.iload_n 1, 1) := by decide +kernel
theorem d_Li_isPiece_32 : decode b_Li_isPiece 32 = .ok (.if_icmp .ge 30, 3) := by decide +kernel
theorem d_Li_isPiece_35 : decode b_Li_isPiece 35 = .ok (.aload_n 0, 1) := by decide +kernel
theorem d_Li_isPiece_36 : decode b_Li_isPiece 36 = .ok (.getfield 18, 3) := by decide +kernel
theorem d_Li_isPiece_39 : decode b_Li_isPiece 39 = .ok (.aload_n 0, 1) := by decide +kernel
theorem d_Li_isPiece_40 : decode b_Li_isPiece 40 = .ok (.iload_n 1, 1) := by decide +kernel
theorem d_Li_isPiece_41 : decode b_Li_isPiece 41 = .ok (.invokevirtual 49, 3) := by decide +kernel
theorem d_Li_isPiece_44 : decode b_Li_isPiece 44 = .ok (.aload_n 0, 1) := by decide +kernel
theorem d_Li_isPiece_45 : decode b_Li_isPiece 45 = .ok (.iload_n 2, 1) := by decide +kernel
theorem d_Li_isPiece_46 : decode b_Li_isPiece 46 = .ok (.invokevirtual 49, 3) := by decide +kernel
theorem d_Li_isPiece_49 : decode b_Li_isPiece 49 = .ok (.isub, 1) := by decide +kernel
theorem d_Li_isPiece_50 : decode b_Li_isPiece 50 = .ok (.iload_n 1, 1) := by decide +kernel
theorem d_Li_isPiece_51 : decode b_Li_isPiece 51 = .ok (.iload_n 2, 1) := by decide +kernel
theorem d_Li_isPiece_52 : decode b_Li_isPiece 52 = .ok (.isub, 1) := by decide +kernel
theorem d_Li_isPiece_53 : decode b_Li_isPiece 53 = .ok (.invokevirtual 63, 3) := by decide +kernel
theorem d_Li_isPiece_56 : decode b_Li_isPiece 56 = .ok (.iinc 2 1, 3) := by decide +kernel
theorem d_Li_isPiece_59 : decode b_Li_isPiece 59 = .ok (.goto (-29), 3) := by decide +kernel
theorem d_Li_isPiece_62 : decode b_Li_isPiece 62 = .ok (.iload_n 1, 1) := by decide +kernel
theorem d_Li_isPiece_63 : decode b_Li_isPiece 63 = .ok (.iconst 1, 1) := by decide +kernel
theorem d_Li_isPiece_64 : decode b_Li_isPiece 64 = .ok (.iadd, 1) := by decide +kernel
theorem d_Li_isPiece_65 : decode b_Li_isPiece 65 = .ok (.istore_n 2, 1) := by decide +kernel
theorem d_Li_isPiece_66 : decode b_Li_isPiece 66 = .ok (.iload_n 2, 1) := by decide +kernel
theorem d_Li_isPiece_67 : decode b_Li_isPiece 67 = .ok (.aload_n 0, 1) := by decide +kernel
theorem d_Li_isPiece_68 : decode b_Li_isPiece 68 = .ok (.getfield 25, 3) := by decide +kernel
theorem d_Li_isPiece_71 : decode b_Li_isPiece 71 = .ok (.if_icmp .gt 30, 3) := by decide +kernel
theorem d_Li_isPiece_74 : decode b_Li_isPiece 74 = .ok (.aload_n 0, 1) := by decide +kernel
theorem d_Li_isPiece_75 : decode b_Li_isPiece 75 = .ok (.getfield 22, 3) := by decide +kernel
theorem d_Li_isPiece_78 : decode b_Li_isPiece 78 = .ok (.aload_n 0, 1) := by decide +kernel
theorem d_Li_isPiece_79 : decode b_Li_isPiece 79 = .ok (.iload_n 2, 1) := by decide +kernel
theorem d_Li_isPiece_80 : decode b_Li_isPiece 80 = .ok (.invokevirtual 49, 3) := by decide +kernel
theorem d_Li_isPiece_83 : decode b_Li_isPiece 83 = .ok (.aload_n 0, 1) := by decide +kernel
theorem d_Li_isPiece_84 : decode b_Li_isPiece 84 = .ok (.iload_n 1, 1) := by decide +kernel
theorem d_Li_isPiece_85 : decode b_Li_isPiece 85 = .ok (.invokevirtual 49, 3) := by decide +kernel
theorem d_Li_isPiece_88 : decode b_Li_isPiece 88 = .ok (.isub, 1) := by decide +kernel
theorem d_Li_isPiece_89 : decode b_Li_isPiece 89 = .ok (.iload_n 2, 1) := by decide +kernel
theorem d_Li_isPiece_90 : decode b_Li_isPiece 90 = .ok (.iload_n 1, 1) := by decide +kernel
theorem d_Li_isPiece_91 : decode b_Li_isPiece 91 = .ok (.isub, 1) := by decide +kernel
theorem d_Li_isPiece_92 : decode b_Li_isPiece 92 = .ok (.invokevirtual 56, 3) := by decide +kernel
theorem d_Li_isPiece_95 : decode b_Li_isPiece 95 = .ok (.iinc 2 1, 3) := by decide +kernel
theorem d_Li_isPiece_98 : decode b_Li_isPiece 98 = .ok (.goto (-32), 3) := by decide +kernel
theorem d_Li_isPiece_101 : decode b_Li_isPiece 101 = .ok (.aload_n 0, 1) := by decide +kernel
theorem d_Li_isPiece_102 : decode b_Li_isPiece 102 = .ok (.getfield 18, 3) := by decide +kernel
theorem d_Li_isPiece_105 : decode b_Li_isPiece 105 = .ok (.aload_n 0, 1) := by decide +kernel
theorem d_Li_isPiece_106 : decode b_Li_isPiece 106 = .ok (.getfield 22, 3) := by decide +kernel
theorem d_Li_isPiece_109 : decode b_Li_isPiece 109 = .ok (.invokevirtual 66, 3) := by decide +kernel
theorem d_Li_isPiece_112 : decode b_Li_isPiece 112 = .ok (.ireturn, 1) := by decide +kernel
