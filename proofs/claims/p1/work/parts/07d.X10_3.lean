theorem dX10_hits_5 : decode cX10_hits 5 = .ok (.aload_n 0, 1) := by decide +kernel
theorem dX10_hits_6 : decode cX10_hits 6 = .ok (.iload_n 1, 1) := by decide +kernel
theorem dX10_hits_7 : decode cX10_hits 7 = .ok (.invokevirtual 169, 3) := by decide +kernel
theorem dX10_hits_10 : decode cX10_hits 10 = .ok (.ifCond .eq 16, 3) := by decide +kernel
theorem dX10_hits_13 : decode cX10_hits 13 = .ok (.aload_n 0, 1) := by decide +kernel
theorem dX10_hits_14 : decode cX10_hits 14 = .ok (.aload_n 0, 1) := by decide +kernel
theorem dX10_hits_15 : decode cX10_hits 15 = .ok (.getfield 131, 3) := by decide +kernel
theorem dX10_hits_18 : decode cX10_hits 18 = .ok (.iload_n 1, 1) := by decide +kernel
theorem dX10_hits_19 : decode cX10_hits 19 = .ok (.aaload, 1) := by decide +kernel
theorem dX10_hits_20 : decode cX10_hits 20 = .ok (.invokevirtual 275, 3) := by decide +kernel
theorem dX10_hits_23 : decode cX10_hits 23 = .ok (.goto 8, 3) := by decide +kernel
theorem dX10_hits_26 : decode cX10_hits 26 = .ok (.aload_n 0, 1) := by decide +kernel
theorem dX10_hits_27 : decode cX10_hits 27 = .ok (.iconst 1, 1) := by decide +kernel
theorem dX10_hits_28 : decode cX10_hits 28 = .ok (.invokevirtual 176, 3) := by decide +kernel
theorem dX10_hits_31 : decode cX10_hits 31 = .ok (.ireturn, 1) := by decide +kernel
theorem dX10_ranked_0 : decode cX10_ranked 0 = .ok (.aload_n 0, 1) := by decide +kernel
theorem dX10_ranked_1 : decode cX10_ranked 1 = .ok (.iconst 0, 1) := by decide +kernel
theorem dX10_ranked_2 : decode cX10_ranked 2 = .ok (.putfield 163, 3) := by decide +kernel
theorem dX10_ranked_5 : decode cX10_ranked 5 = .ok (.iload_n 1, 1) := by decide +kernel
theorem dX10_ranked_6 : decode cX10_ranked 6 = .ok (.iconst 0, 1) := by decide +kernel
theorem dX10_ranked_7 : decode cX10_ranked 7 = .ok (.aload_n 0, 1) := by decide +kernel
theorem dX10_ranked_8 : decode cX10_ranked 8 = .ok (.getfield 166, 3) := by decide +kernel
theorem dX10_ranked_11 : decode cX10_ranked 11 = .ok (.iconst 1, 1) := by decide +kernel
theorem dX10_ranked_12 : decode cX10_ranked 12 = .ok (.isub, 1) := by decide +kernel
theorem dX10_ranked_13 : decode cX10_ranked 13 = .ok (.invokestatic 94, 3) := by decide +kernel
theorem dX10_ranked_16 : decode cX10_ranked 16 = .ok (.ifCond .eq 12, 3) := by decide +kernel
theorem dX10_ranked_19 : decode cX10_ranked 19 = .ok (.aload_n 0, 1) := by decide +kernel
theorem dX10_ranked_20 : decode cX10_ranked 20 = .ok (.invokevirtual 252, 3) := by decide +kernel
theorem dX10_ranked_23 : decode cX10_ranked 23 = .ok (.iload_n 1, 1) := by decide +kernel
theorem dX10_ranked_24 : decode cX10_ranked 24 = .ok (.iaload, 1) := by decide +kernel
theorem dX10_ranked_25 : decode cX10_ranked 25 = .ok (.goto 8, 3) := by decide +kernel
theorem dX10_ranked_28 : decode cX10_ranked 28 = .ok (.aload_n 0, 1) := by decide +kernel
theorem dX10_ranked_29 : decode cX10_ranked 29 = .ok (.iconst 1, 1) := by decide +kernel
theorem dX10_ranked_30 : decode cX10_ranked 30 = .ok (.invokevirtual 176, 3) := by decide +kernel
theorem dX10_ranked_33 : decode cX10_ranked 33 = .ok (.ireturn, 1) := by decide +kernel
theorem dX10_differentNow_0 : decode cX10_differentNow 0 = .ok (.iconst 0, 1) := by decide +kernel
theorem dX10_differentNow_1 : decode cX10_differentNow 1 = .ok (.istore_n 1, 1) := by decide +kernel
theorem dX10_differentNow_2 : decode cX10_differentNow 2 = .ok (.iconst 0, 1) := by decide +kernel
theorem dX10_differentNow_3 : decode cX10_differentNow 3 = .ok (.istore_n 2, 1) := by decide +kernel
theorem dX10_differentNow_4 : decode cX10_differentNow 4 = .ok (.iload_n 2, 1) := by decide +kernel
theorem dX10_differentNow_5 : decode cX10_differentNow 5 = .ok (.aload_n 0, 1) := by decide +kernel
theorem dX10_differentNow_6 : decode cX10_differentNow 6 = .ok (.getfield 166, 3) := by decide +kernel
theorem dX10_differentNow_9 : decode cX10_differentNow 9 = .ok (.if_icmp .ge 65, 3) := by decide +kernel
theorem dX10_differentNow_12 : decode cX10_differentNow 12 = .ok (.iconst 1, 1) := by decide +kernel
theorem dX10_differentNow_13 : decode cX10_differentNow 13 = .ok (.istore_n 3, 1) := by decide +kernel
theorem dX10_differentNow_14 : decode cX10_differentNow 14 = .ok (.iconst 0, 1) := by decide +kernel
theorem dX10_differentNow_15 : decode cX10_differentNow 15 = .ok (.istore 4, 2) := by decide +kernel
theorem dX10_differentNow_17 : decode cX10_differentNow 17 = .ok (.iload 4, 2) := by decide +kernel
theorem dX10_differentNow_19 : decode cX10_differentNow 19 = .ok (.iload_n 2, 1) := by decide +kernel
theorem dX10_differentNow_20 : decode cX10_differentNow 20 = .ok (.if_icmp .ge 36, 3) := by decide +kernel
theorem dX10_differentNow_23 : decode cX10_differentNow 23 = .ok (.iload_n 3, 1) := by decide +kernel
theorem dX10_differentNow_24 : decode cX10_differentNow 24 = .ok (.aload_n 0, 1) := by decide +kernel
theorem dX10_differentNow_25 : decode cX10_differentNow 25 = .ok (.getfield 131, 3) := by decide +kernel
theorem dX10_differentNow_28 : decode cX10_differentNow 28 = .ok (.iload 4, 2) := by decide +kernel
theorem dX10_differentNow_30 : decode cX10_differentNow 30 = .ok (.aaload, 1) := by decide +kernel
theorem dX10_differentNow_31 : decode cX10_differentNow 31 = .ok (.aload_n 0, 1) := by decide +kernel
theorem dX10_differentNow_32 : decode cX10_differentNow 32 = .ok (.getfield 131, 3) := by decide +kernel
theorem dX10_differentNow_35 : decode cX10_differentNow 35 = .ok (.iload_n 2, 1) := by decide +kernel
theorem dX10_differentNow_36 : decode cX10_differentNow 36 = .ok (.aaload, 1) := by decide +kernel
theorem dX10_differentNow_37 : decode cX10_differentNow 37 = .ok (.invokestatic 106, 3) := by decide +kernel
theorem dX10_differentNow_40 : decode cX10_differentNow 40 = .ok (.ifCond .ne 7, 3) := by decide +kernel
theorem dX10_differentNow_43 : decode cX10_differentNow 43 = .ok (.iconst 1, 1) := by decide +kernel
theorem dX10_differentNow_44 : decode cX10_differentNow 44 = .ok (.goto 4, 3) := by decide +kernel
theorem dX10_differentNow_47 : decode cX10_differentNow 47 = .ok (.iconst 0, 1) := by decide +kernel
theorem dX10_differentNow_48 : decode cX10_differentNow 48 = .ok (.iand, 1) := by decide +kernel
theorem dX10_differentNow_49 : decode cX10_differentNow 49 = .ok (.istore_n 3, 1) := by decide +kernel
theorem dX10_differentNow_50 : decode cX10_differentNow 50 = .ok (.iinc 4 1, 3) := by decide +kernel
theorem dX10_differentNow_53 : decode cX10_differentNow 53 = .ok (.goto (-36), 3) := by decide +kernel
theorem dX10_differentNow_56 : decode cX10_differentNow 56 = .ok (.iload_n 1, 1) := by decide +kernel
theorem dX10_differentNow_57 : decode cX10_differentNow 57 = .ok (.iload_n 3, 1) := by decide +kernel
theorem dX10_differentNow_58 : decode cX10_differentNow 58 = .ok (.ifCond .eq 7, 3) := by decide +kernel
theorem dX10_differentNow_61 : decode cX10_differentNow 61 = .ok (.iconst 1, 1) := by decide +kernel
theorem dX10_differentNow_62 : decode cX10_differentNow 62 = .ok (.goto 4, 3) := by decide +kernel
theorem dX10_differentNow_65 : decode cX10_differentNow 65 = .ok (.iconst 0, 1) := by decide +kernel
theorem dX10_differentNow_66 : decode cX10_differentNow 66 = .ok (.iadd, 1) := by decide +kernel
theorem dX10_differentNow_67 : decode cX10_differentNow 67 = .ok (.istore_n 1, 1) := by decide +kernel
theorem dX10_differentNow_68 : decode cX10_differentNow 68 = .ok (.iinc 2 1, 3) := by decide +kernel
theorem dX10_differentNow_71 : decode cX10_differentNow 71 = .ok (.goto (-67), 3) := by decide +kernel
theorem dX10_differentNow_74 : decode cX10_differentNow 74 = .ok (.iload_n 1, 1) := by decide +kernel
theorem dX10_differentNow_75 : decode cX10_differentNow 75 = .ok (.ireturn, 1) := by decide +kernel
theorem dX10_different_0 : decode cX10_different 0 = .ok (.aload_n 0, 1) := by decide +kernel
theorem dX10_different_1 : decode cX10_different 1 = .ok (.aload_n 0, 1) := by decide +kernel
theorem dX10_different_2 : decode cX10_different 2 = .ok (.invokevirtual 278, 3) := by decide +kernel
theorem dX10_different_5 : decode cX10_different 5 = .ok (.invokevirtual 272, 3) := by decide +kernel
theorem dX10_different_8 : decode cX10_different 8 = .ok (.ireturn, 1) := by decide +kernel
theorem dX10_alike_0 : decode cX10_alike 0 = .ok (.aload_n 0, 1) := by decide +kernel
theorem dX10_alike_1 : decode cX10_alike 1 = .ok (.iconst 0, 1) := by decide +kernel
theorem dX10_alike_2 : decode cX10_alike 2 = .ok (.putfield 163, 3) := by decide +kernel
theorem dX10_alike_5 : decode cX10_alike 5 = .ok (.aload_n 0, 1) := by decide +kernel
theorem dX10_alike_6 : decode cX10_alike 6 = .ok (.iload_n 1, 1) := by decide +kernel
theorem dX10_alike_7 : decode cX10_alike 7 = .ok (.invokevirtual 169, 3) := by decide +kernel
theorem dX10_alike_10 : decode cX10_alike 10 = .ok (.ifCond .eq 11, 3) := by decide +kernel
theorem dX10_alike_13 : decode cX10_alike 13 = .ok (.aload_n 0, 1) := by decide +kernel
theorem dX10_alike_14 : decode cX10_alike 14 = .ok (.iload_n 2, 1) := by decide +kernel
theorem dX10_alike_15 : decode cX10_alike 15 = .ok (.invokevirtual 169, 3) := by decide +kernel
theorem dX10_alike_18 : decode cX10_alike 18 = .ok (.ifCond .ne 9, 3) := by decide +kernel
theorem dX10_alike_21 : decode cX10_alike 21 = .ok (.aload_n 0, 1) := by decide +kernel
theorem dX10_alike_22 : decode cX10_alike 22 = .ok (.iconst 1, 1) := by decide +kernel
theorem dX10_alike_23 : decode cX10_alike 23 = .ok (.invokevirtual 176, 3) := by decide +kernel
theorem dX10_alike_26 : decode cX10_alike 26 = .ok (.ireturn, 1) := by decide +kernel
theorem dX10_alike_27 : decode cX10_alike 27 = .ok (.iconst 0, 1) := by decide +kernel
theorem dX10_alike_28 : decode cX10_alike 28 = .ok (.istore_n 3, 1) := by decide +kernel
theorem dX10_alike_29 : decode cX10_alike 29 = .ok (.iload_n 3, 1) := by decide +kernel
theorem dX10_alike_30 : decode cX10_alike 30 = .ok (.aload_n 0, 1) := by decide +kernel
theorem dX10_alike_31 : decode cX10_alike 31 = .ok (.getfield 131, 3) := by decide +kernel
theorem dX10_alike_34 : decode cX10_alike 34 = .ok (.iload_n 1, 1) := by decide +kernel
theorem dX10_alike_35 : decode cX10_alike 35 = .ok (.aaload, 1) := by decide +kernel
theorem dX10_alike_36 : decode cX10_alike 36 = .ok (.arraylength, 1) := by decide +kernel
theorem dX10_alike_37 : decode cX10_alike 37 = .ok (.aload_n 0, 1) := by decide +kernel
theorem dX10_alike_38 : decode cX10_alike 38 = .ok (.getfield 131, 3) := by decide +kernel
theorem dX10_alike_41 : decode cX10_alike 41 = .ok (.iload_n 2, 1) := by decide +kernel
theorem dX10_alike_42 : decode cX10_alike 42 = .ok (.aaload, 1) := by decide +kernel
theorem dX10_alike_43 : decode cX10_alike 43 = .ok (.arraylength, 1) := by decide +kernel
theorem dX10_alike_44 : decode cX10_alike 44 = .ok (.invokestatic 69, 3) := by decide +kernel
theorem dX10_alike_47 : decode cX10_alike 47 = .ok (.if_icmp .ge 28, 3) := by decide +kernel
theorem dX10_alike_50 : decode cX10_alike 50 = .ok (.aload_n 0, 1) := by decide +kernel
theorem dX10_alike_51 : decode cX10_alike 51 = .ok (.getfield 131, 3) := by decide +kernel
theorem dX10_alike_54 : decode cX10_alike 54 = .ok (.iload_n 1, 1) := by decide +kernel
theorem dX10_alike_55 : decode cX10_alike 55 = .ok (.aaload, 1) := by decide +kernel
theorem dX10_alike_56 : decode cX10_alike 56 = .ok (.iload_n 3, 1) := by decide +kernel
theorem dX10_alike_57 : decode cX10_alike 57 = .ok (.iaload, 1) := by decide +kernel
theorem dX10_alike_58 : decode cX10_alike 58 = .ok (.aload_n 0, 1) := by decide +kernel
theorem dX10_alike_59 : decode cX10_alike 59 = .ok (.getfield 131, 3) := by decide +kernel
theorem dX10_alike_62 : decode cX10_alike 62 = .ok (.iload_n 2, 1) := by decide +kernel
theorem dX10_alike_63 : decode cX10_alike 63 = .ok (.aaload, 1) := by decide +kernel
theorem dX10_alike_64 : decode cX10_alike 64 = .ok (.iload_n 3, 1) := by decide +kernel
theorem dX10_alike_65 : decode cX10_alike 65 = .ok (.iaload, 1) := by decide +kernel
theorem dX10_alike_66 : decode cX10_alike 66 = .ok (.if_icmp .ne 9, 3) := by decide +kernel
theorem dX10_alike_69 : decode cX10_alike 69 = .ok (.iinc 3 1, 3) := by decide +kernel
theorem dX10_alike_72 : decode cX10_alike 72 = .ok (.goto (-43), 3) := by decide +kernel
theorem dX10_alike_75 : decode cX10_alike 75 = .ok (.iload_n 3, 1) := by decide +kernel
theorem dX10_alike_76 : decode cX10_alike 76 = .ok (.ireturn, 1) := by decide +kernel
theorem dX10_meanSize_0 : decode cX10_meanSize 0 = .ok (.aload_n 0, 1) := by decide +kernel
theorem dX10_meanSize_1 : decode cX10_meanSize 1 = .ok (.iconst 0, 1) := by decide +kernel
theorem dX10_meanSize_2 : decode cX10_meanSize 2 = .ok (.putfield 163, 3) := by decide +kernel
theorem dX10_meanSize_5 : decode cX10_meanSize 5 = .ok (.iconst 0, 1) := by decide +kernel
theorem dX10_meanSize_6 : decode cX10_meanSize 6 = .ok (.istore_n 1, 1) := by decide +kernel
theorem dX10_meanSize_7 : decode cX10_meanSize 7 = .ok (.iconst 0, 1) := by decide +kernel
theorem dX10_meanSize_8 : decode cX10_meanSize 8 = .ok (.istore_n 2, 1) := by decide +kernel
theorem dX10_meanSize_9 : decode cX10_meanSize 9 = .ok (.iload_n 2, 1) := by decide +kernel
theorem dX10_meanSize_10 : decode cX10_meanSize 10 = .ok (.aload_n 0, 1) := by decide +kernel
theorem dX10_meanSize_11 : decode cX10_meanSize 11 = .ok (.getfield 166, 3) := by decide +kernel
theorem dX10_meanSize_14 : decode cX10_meanSize 14 = .ok (.if_icmp .ge 19, 3) := by decide +kernel
theorem dX10_meanSize_17 : decode cX10_meanSize 17 = .ok (.iload_n 1, 1) := by decide +kernel
theorem dX10_meanSize_18 : decode cX10_meanSize 18 = .ok (.aload_n 0, 1) := by decide +kernel
theorem dX10_meanSize_19 : decode cX10_meanSize 19 = .ok (.getfield 131, 3) := by decide +kernel
theorem dX10_meanSize_22 : decode cX10_meanSize 22 = .ok (.iload_n 2, 1) := by decide +kernel
theorem dX10_meanSize_23 : decode cX10_meanSize 23 = .ok (.aaload, 1) := by decide +kernel
theorem dX10_meanSize_24 : decode cX10_meanSize 24 = .ok (.arraylength, 1) := by decide +kernel
theorem dX10_meanSize_25 : decode cX10_meanSize 25 = .ok (.iadd, 1) := by decide +kernel
theorem dX10_meanSize_26 : decode cX10_meanSize 26 = .ok (.istore_n 1, 1) := by decide +kernel
theorem dX10_meanSize_27 : decode cX10_meanSize 27 = .ok (.iinc 2 1, 3) := by decide +kernel
theorem dX10_meanSize_30 : decode cX10_meanSize 30 = .ok (.goto (-21), 3) := by decide +kernel
theorem dX10_meanSize_33 : decode cX10_meanSize 33 = .ok (.aload_n 0, 1) := by decide +kernel
theorem dX10_meanSize_34 : decode cX10_meanSize 34 = .ok (.getfield 166, 3) := by decide +kernel
theorem dX10_meanSize_37 : decode cX10_meanSize 37 = .ok (.ifCond .ne 7, 3) := by decide +kernel
theorem dX10_meanSize_40 : decode cX10_meanSize 40 = .ok (.dconst 0, 1) := by decide +kernel
theorem dX10_meanSize_41 : decode cX10_meanSize 41 = .ok (.goto 11, 3) := by decide +kernel
theorem dX10_meanSize_44 : decode cX10_meanSize 44 = .ok (.iload_n 1, 1) := by decide +kernel
theorem dX10_meanSize_45 : decode cX10_meanSize 45 = .ok (.i2d, 1) := by decide +kernel
theorem dX10_meanSize_46 : decode cX10_meanSize 46 = .ok (.aload_n 0, 1) := by decide +kernel
theorem dX10_meanSize_47 : decode cX10_meanSize 47 = .ok (.getfield 166, 3) := by decide +kernel
theorem dX10_meanSize_50 : decode cX10_meanSize 50 = .ok (.i2d, 1) := by decide +kernel
theorem dX10_meanSize_51 : decode cX10_meanSize 51 = .ok (.ddiv, 1) := by decide +kernel
theorem dX10_meanSize_52 : decode cX10_meanSize 52 = .ok (.dreturn, 1) := by decide +kernel
theorem dX10_generations_0 : decode cX10_generations 0 = .ok (.aload_n 0, 1) := by decide +kernel
theorem dX10_generations_1 : decode cX10_generations 1 = .ok (.aload_n 0, 1) := by decide +kernel
theorem dX10_generations_2 : decode cX10_generations 2 = .ok (.getfield 263, 3) := by decide +kernel
theorem dX10_generations_5 : decode cX10_generations 5 = .ok (.invokevirtual 272, 3) := by decide +kernel
theorem dX10_generations_8 : decode cX10_generations 8 = .ok (.ireturn, 1) := by decide +kernel
theorem dX10_misses_0 : decode cX10_misses 0 = .ok (.aload_n 0, 1) := by decide +kernel
theorem dX10_misses_1 : decode cX10_misses 1 = .ok (.aload_n 0, 1) := by decide +kernel
theorem dX10_misses_2 : decode cX10_misses 2 = .ok (.getfield 260, 3) := by decide +kernel
theorem dX10_misses_5 : decode cX10_misses 5 = .ok (.invokevirtual 272, 3) := by decide +kernel
theorem dX10_misses_8 : decode cX10_misses 8 = .ok (.ireturn, 1) := by decide +kernel
theorem dX10_luck_0 : decode cX10_luck 0 = .ok (.aload_n 0, 1) := by decide +kernel
theorem dX10_luck_1 : decode cX10_luck 1 = .ok (.aload_n 0, 1) := by decide +kernel
theorem dX10_luck_2 : decode cX10_luck 2 = .ok (.getfield 220, 3) := by decide +kernel
theorem dX10_luck_5 : decode cX10_luck 5 = .ok (.invokevirtual 272, 3) := by decide +kernel
theorem dX10_luck_8 : decode cX10_luck 8 = .ok (.ireturn, 1) := by decide +kernel
theorem dX10_waiting_0 : decode cX10_waiting 0 = .ok (.aload_n 0, 1) := by decide +kernel
theorem dX10_waiting_1 : decode cX10_waiting 1 = .ok (.aload_n 0, 1) := by decide +kernel
theorem dX10_waiting_2 : decode cX10_waiting 2 = .ok (.getfield 223, 3) := by decide +kernel
theorem dX10_waiting_5 : decode cX10_waiting 5 = .ok (.invokevirtual 272, 3) := by decide +kernel
theorem dX10_waiting_8 : decode cX10_waiting 8 = .ok (.ireturn, 1) := by decide +kernel
theorem dX10_errorCrossed_0 : decode cX10_errorCrossed 0 = .ok (.aload_n 0, 1) := by decide +kernel
theorem dX10_errorCrossed_1 : decode cX10_errorCrossed 1 = .ok (.iconst 0, 1) := by decide +kernel
theorem dX10_errorCrossed_2 : decode cX10_errorCrossed 2 = .ok (.putfield 163, 3) := by decide +kernel
theorem dX10_errorCrossed_5 : decode cX10_errorCrossed 5 = .ok (.aload_n 0, 1) := by decide +kernel
theorem dX10_errorCrossed_6 : decode cX10_errorCrossed 6 = .ok (.iload_n 1, 1) := by decide +kernel
theorem dX10_errorCrossed_7 : decode cX10_errorCrossed 7 = .ok (.iload_n 2, 1) := by decide +kernel
theorem dX10_errorCrossed_8 : decode cX10_errorCrossed 8 = .ok (.invokevirtual 199, 3) := by decide +kernel
theorem dX10_errorCrossed_11 : decode cX10_errorCrossed 11 = .ok (.ifCond .eq 13, 3) := by decide +kernel
theorem dX10_errorCrossed_14 : decode cX10_errorCrossed 14 = .ok (.aload_n 0, 1) := by decide +kernel
theorem dX10_errorCrossed_15 : decode cX10_errorCrossed 15 = .ok (.iload_n 3, 1) := by decide +kernel
theorem dX10_errorCrossed_16 : decode cX10_errorCrossed 16 = .ok (.iload 4, 2) := by decide +kernel
theorem dX10_errorCrossed_18 : decode cX10_errorCrossed 18 = .ok (.invokevirtual 199, 3) := by decide +kernel
theorem dX10_errorCrossed_21 : decode cX10_errorCrossed 21 = .ok (.ifCond .ne 9, 3) := by decide +kernel
theorem dX10_errorCrossed_24 : decode cX10_errorCrossed 24 = .ok (.aload_n 0, 1) := by decide +kernel
theorem dX10_errorCrossed_25 : decode cX10_errorCrossed 25 = .ok (.iconst 1, 1) := by decide +kernel
theorem dX10_errorCrossed_26 : decode cX10_errorCrossed 26 = .ok (.invokevirtual 176, 3) := by decide +kernel
theorem dX10_errorCrossed_29 : decode cX10_errorCrossed 29 = .ok (.ireturn, 1) := by decide +kernel
theorem dX10_errorCrossed_30 : decode cX10_errorCrossed 30 = .ok (.aload_n 0, 1) := by decide +kernel
theorem dX10_errorCrossed_31 : decode cX10_errorCrossed 31 = .ok (.getfield 131, 3) := by decide +kernel
theorem dX10_errorCrossed_34 : decode cX10_errorCrossed 34 = .ok (.iload_n 1, 1) := by decide +kernel
theorem dX10_errorCrossed_35 : decode cX10_errorCrossed 35 = .ok (.aaload, 1) := by decide +kernel
theorem dX10_errorCrossed_36 : decode cX10_errorCrossed 36 = .ok (.iload_n 2, 1) := by decide +kernel
theorem dX10_errorCrossed_37 : decode cX10_errorCrossed 37 = .ok (.aload_n 0, 1) := by decide +kernel
theorem dX10_errorCrossed_38 : decode cX10_errorCrossed 38 = .ok (.getfield 131, 3) := by decide +kernel
theorem dX10_errorCrossed_41 : decode cX10_errorCrossed 41 = .ok (.iload_n 3, 1) := by decide +kernel
theorem dX10_errorCrossed_42 : decode cX10_errorCrossed 42 = .ok (.aaload, 1) := by decide +kernel
theorem dX10_errorCrossed_43 : decode cX10_errorCrossed 43 = .ok (.iload 4, 2) := by decide +kernel
theorem dX10_errorCrossed_45 : decode cX10_errorCrossed 45 = .ok (.invokestatic 202, 3) := by decide +kernel
theorem dX10_errorCrossed_48 : decode cX10_errorCrossed 48 = .ok (.astore 5, 2) := by decide +kernel
theorem dX10_errorCrossed_50 : decode cX10_errorCrossed 50 = .ok (.aload 5, 2) := by decide +kernel
theorem dX10_errorCrossed_52 : decode cX10_errorCrossed 52 = .ok (.ifnonnull 7, 3) := by decide +kernel
theorem dX10_errorCrossed_55 : decode cX10_errorCrossed 55 = .ok (.iconst (-1), 1) := by decide +kernel
theorem dX10_errorCrossed_56 : decode cX10_errorCrossed 56 = .ok (.goto 9, 3) := by decide +kernel
theorem dX10_errorCrossed_59 : decode cX10_errorCrossed 59 = .ok (.aload_n 0, 1) := by decide +kernel
theorem dX10_errorCrossed_60 : decode cX10_errorCrossed 60 = .ok (.aload 5, 2) := by decide +kernel
theorem dX10_errorCrossed_62 : decode cX10_errorCrossed 62 = .ok (.invokevirtual 229, 3) := by decide +kernel
theorem dX10_errorCrossed_65 : decode cX10_errorCrossed 65 = .ok (.ireturn, 1) := by decide +kernel
theorem dX10_bestHoist_0 : decode cX10_bestHoist 0 = .ok (.aload_n 0, 1) := by decide +kernel
theorem dX10_bestHoist_1 : decode cX10_bestHoist 1 = .ok (.iconst 0, 1) := by decide +kernel
theorem dX10_bestHoist_2 : decode cX10_bestHoist 2 = .ok (.putfield 163, 3) := by decide +kernel
theorem dX10_bestHoist_5 : decode cX10_bestHoist 5 = .ok (.aload_n 0, 1) := by decide +kernel
theorem dX10_bestHoist_6 : decode cX10_bestHoist 6 = .ok (.iload_n 1, 1) := by decide +kernel
theorem dX10_bestHoist_7 : decode cX10_bestHoist 7 = .ok (.invokevirtual 169, 3) := by decide +kernel
theorem dX10_bestHoist_10 : decode cX10_bestHoist 10 = .ok (.ifCond .ne 9, 3) := by decide +kernel
theorem dX10_bestHoist_13 : decode cX10_bestHoist 13 = .ok (.aload_n 0, 1) := by decide +kernel
theorem dX10_bestHoist_14 : decode cX10_bestHoist 14 = .ok (.iconst 1, 1) := by decide +kernel
theorem dX10_bestHoist_15 : decode cX10_bestHoist 15 = .ok (.invokevirtual 176, 3) := by decide +kernel
theorem dX10_bestHoist_18 : decode cX10_bestHoist 18 = .ok (.ireturn, 1) := by decide +kernel
theorem dX10_bestHoist_19 : decode cX10_bestHoist 19 = .ok (.iconst 0, 1) := by decide +kernel
theorem dX10_bestHoist_20 : decode cX10_bestHoist 20 = .ok (.istore_n 2, 1) := by decide +kernel
theorem dX10_bestHoist_21 : decode cX10_bestHoist 21 = .ok (.aload_n 0, 1) := by decide +kernel
theorem dX10_bestHoist_22 : decode cX10_bestHoist 22 = .ok (.getfield 131, 3) := by decide +kernel
theorem dX10_bestHoist_25 : decode cX10_bestHoist 25 = .ok (.iload_n 1, 1) := by decide +kernel
theorem dX10_bestHoist_26 : decode cX10_bestHoist 26 = .ok (.aaload, 1) := by decide +kernel
theorem dX10_bestHoist_27 : decode cX10_bestHoist 27 = .ok (.astore_n 3, 1) := by decide +kernel
theorem dX10_bestHoist_28 : decode cX10_bestHoist 28 = .ok (.iconst 1, 1) := by decide +kernel
theorem dX10_bestHoist_29 : decode cX10_bestHoist 29 = .ok (.istore 4, 2) := by decide +kernel
theorem dX10_bestHoist_31 : decode cX10_bestHoist 31 = .ok (.iload 4, 2) := by decide +kernel
theorem dX10_bestHoist_33 : decode cX10_bestHoist 33 = .ok (.aload_n 0, 1) := by decide +kernel
theorem dX10_bestHoist_34 : decode cX10_bestHoist 34 = .ok (.getfield 131, 3) := by decide +kernel
theorem dX10_bestHoist_37 : decode cX10_bestHoist 37 = .ok (.iload_n 1, 1) := by decide +kernel
theorem dX10_bestHoist_38 : decode cX10_bestHoist 38 = .ok (.aaload, 1) := by decide +kernel
theorem dX10_bestHoist_39 : decode cX10_bestHoist 39 = .ok (.arraylength, 1) := by decide +kernel
theorem dX10_bestHoist_40 : decode cX10_bestHoist 40 = .ok (.if_icmp .ge 68, 3) := by decide +kernel
theorem dX10_bestHoist_43 : decode cX10_bestHoist 43 = .ok (.aload_n 0, 1) := by decide +kernel
theorem dX10_bestHoist_44 : decode cX10_bestHoist 44 = .ok (.getfield 131, 3) := by decide +kernel
theorem dX10_bestHoist_47 : decode cX10_bestHoist 47 = .ok (.iload_n 1, 1) := by decide +kernel
theorem dX10_bestHoist_48 : decode cX10_bestHoist 48 = .ok (.aaload, 1) := by decide +kernel
theorem dX10_bestHoist_49 : decode cX10_bestHoist 49 = .ok (.iload 4, 2) := by decide +kernel
theorem dX10_bestHoist_51 : decode cX10_bestHoist 51 = .ok (.invokestatic 210, 3) := by decide +kernel
theorem dX10_bestHoist_54 : decode cX10_bestHoist 54 = .ok (.astore 5, 2) := by decide +kernel
theorem dX10_bestHoist_56 : decode cX10_bestHoist 56 = .ok (.aload 5, 2) := by decide +kernel
theorem dX10_bestHoist_58 : decode cX10_bestHoist 58 = .ok (.ifnonnull 6, 3) := by decide +kernel
theorem dX10_bestHoist_61 : decode cX10_bestHoist 61 = .ok (.goto 41, 3) := by decide +kernel
theorem dX10_bestHoist_64 : decode cX10_bestHoist 64 = .ok (.aload_n 0, 1) := by decide +kernel
theorem dX10_bestHoist_65 : decode cX10_bestHoist 65 = .ok (.aload 5, 2) := by decide +kernel
theorem dX10_bestHoist_67 : decode cX10_bestHoist 67 = .ok (.invokevirtual 229, 3) := by decide +kernel
theorem dX10_bestHoist_70 : decode cX10_bestHoist 70 = .ok (.aload_n 0, 1) := by decide +kernel
theorem dX10_bestHoist_71 : decode cX10_bestHoist 71 = .ok (.aload_n 3, 1) := by decide +kernel
theorem dX10_bestHoist_72 : decode cX10_bestHoist 72 = .ok (.invokevirtual 229, 3) := by decide +kernel
theorem dX10_bestHoist_75 : decode cX10_bestHoist 75 = .ok (.isub, 1) := by decide +kernel
theorem dX10_bestHoist_76 : decode cX10_bestHoist 76 = .ok (.istore 6, 2) := by decide +kernel
theorem dX10_bestHoist_78 : decode cX10_bestHoist 78 = .ok (.iload 6, 2) := by decide +kernel
theorem dX10_bestHoist_80 : decode cX10_bestHoist 80 = .ok (.ifCond .lt 16, 3) := by decide +kernel
theorem dX10_bestHoist_83 : decode cX10_bestHoist 83 = .ok (.iload 6, 2) := by decide +kernel
theorem dX10_bestHoist_85 : decode cX10_bestHoist 85 = .ok (.ifCond .ne 17, 3) := by decide +kernel
theorem dX10_bestHoist_88 : decode cX10_bestHoist 88 = .ok (.aload 5, 2) := by decide +kernel
theorem dX10_bestHoist_90 : decode cX10_bestHoist 90 = .ok (.arraylength, 1) := by decide +kernel
theorem dX10_bestHoist_91 : decode cX10_bestHoist 91 = .ok (.aload_n 3, 1) := by decide +kernel
theorem dX10_bestHoist_92 : decode cX10_bestHoist 92 = .ok (.arraylength, 1) := by decide +kernel
theorem dX10_bestHoist_93 : decode cX10_bestHoist 93 = .ok (.if_icmp .ge 9, 3) := by decide +kernel
theorem dX10_bestHoist_96 : decode cX10_bestHoist 96 = .ok (.iload 4, 2) := by decide +kernel
theorem dX10_bestHoist_98 : decode cX10_bestHoist 98 = .ok (.istore_n 2, 1) := by decide +kernel
theorem dX10_bestHoist_99 : decode cX10_bestHoist 99 = .ok (.aload 5, 2) := by decide +kernel
theorem dX10_bestHoist_101 : decode cX10_bestHoist 101 = .ok (.astore_n 3, 1) := by decide +kernel
theorem dX10_bestHoist_102 : decode cX10_bestHoist 102 = .ok (.iinc 4 1, 3) := by decide +kernel
theorem dX10_bestHoist_105 : decode cX10_bestHoist 105 = .ok (.goto (-74), 3) := by decide +kernel
theorem dX10_bestHoist_108 : decode cX10_bestHoist 108 = .ok (.iload_n 2, 1) := by decide +kernel
theorem dX10_bestHoist_109 : decode cX10_bestHoist 109 = .ok (.ireturn, 1) := by decide +kernel
theorem dX10_errorBred_0 : decode cX10_errorBred 0 = .ok (.aload_n 0, 1) := by decide +kernel
theorem dX10_errorBred_1 : decode cX10_errorBred 1 = .ok (.iconst 0, 1) := by decide +kernel
theorem dX10_errorBred_2 : decode cX10_errorBred 2 = .ok (.putfield 163, 3) := by decide +kernel
theorem dX10_errorBred_5 : decode cX10_errorBred 5 = .ok (.iload_n 1, 1) := by decide +kernel
theorem dX10_errorBred_6 : decode cX10_errorBred 6 = .ok (.iconst 1, 1) := by decide +kernel
theorem dX10_errorBred_7 : decode cX10_errorBred 7 = .ok (.bipush 10, 2) := by decide +kernel
theorem dX10_errorBred_9 : decode cX10_errorBred 9 = .ok (.invokestatic 94, 3) := by decide +kernel
theorem dX10_errorBred_12 : decode cX10_errorBred 12 = .ok (.ifCond .ne 9, 3) := by decide +kernel
theorem dX10_errorBred_15 : decode cX10_errorBred 15 = .ok (.aload_n 0, 1) := by decide +kernel
theorem dX10_errorBred_16 : decode cX10_errorBred 16 = .ok (.iconst 1, 1) := by decide +kernel
theorem dX10_errorBred_17 : decode cX10_errorBred 17 = .ok (.invokevirtual 176, 3) := by decide +kernel
theorem dX10_errorBred_20 : decode cX10_errorBred 20 = .ok (.ireturn, 1) := by decide +kernel
theorem dX10_errorBred_21 : decode cX10_errorBred 21 = .ok (.aload_n 0, 1) := by decide +kernel
theorem dX10_errorBred_22 : decode cX10_errorBred 22 = .ok (.getfield 166, 3) := by decide +kernel
theorem dX10_errorBred_25 : decode cX10_errorBred 25 = .ok (.ifCond .ne 9, 3) := by decide +kernel
theorem dX10_errorBred_28 : decode cX10_errorBred 28 = .ok (.aload_n 0, 1) := by decide +kernel
theorem dX10_errorBred_29 : decode cX10_errorBred 29 = .ok (.iconst 2, 1) := by decide +kernel
theorem dX10_errorBred_30 : decode cX10_errorBred 30 = .ok (.invokevirtual 176, 3) := by decide +kernel
theorem dX10_errorBred_33 : decode cX10_errorBred 33 = .ok (.ireturn, 1) := by decide +kernel
theorem dX10_errorBred_34 : decode cX10_errorBred 34 = .ok (.aload_n 0, 1) := by decide +kernel
theorem dX10_errorBred_35 : decode cX10_errorBred 35 = .ok (.getfield 131, 3) := by decide +kernel
theorem dX10_errorBred_38 : decode cX10_errorBred 38 = .ok (.astore_n 2, 1) := by decide +kernel
theorem dX10_errorBred_39 : decode cX10_errorBred 39 = .ok (.aload_n 0, 1) := by decide +kernel
theorem dX10_errorBred_40 : decode cX10_errorBred 40 = .ok (.getfield 145, 3) := by decide +kernel
theorem dX10_errorBred_43 : decode cX10_errorBred 43 = .ok (.astore_n 3, 1) := by decide +kernel
theorem dX10_errorBred_44 : decode cX10_errorBred 44 = .ok (.iconst 4, 1) := by decide +kernel
theorem dX10_errorBred_45 : decode cX10_errorBred 45 = .ok (.newarray .int, 2) := by decide +kernel
theorem dX10_errorBred_47 : decode cX10_errorBred 47 = .ok (.dup, 1) := by decide +kernel
theorem dX10_errorBred_48 : decode cX10_errorBred 48 = .ok (.iconst 0, 1) := by decide +kernel
theorem dX10_errorBred_49 : decode cX10_errorBred 49 = .ok (.aload_n 0, 1) := by decide +kernel
theorem dX10_errorBred_50 : decode cX10_errorBred 50 = .ok (.getfield 223, 3) := by decide +kernel
theorem dX10_errorBred_53 : decode cX10_errorBred 53 = .ok (.iastore, 1) := by decide +kernel
theorem dX10_errorBred_54 : decode cX10_errorBred 54 = .ok (.dup, 1) := by decide +kernel
theorem dX10_errorBred_55 : decode cX10_errorBred 55 = .ok (.iconst 1, 1) := by decide +kernel
theorem dX10_errorBred_56 : decode cX10_errorBred 56 = .ok (.aload_n 0, 1) := by decide +kernel
theorem dX10_errorBred_57 : decode cX10_errorBred 57 = .ok (.getfield 220, 3) := by decide +kernel
theorem dX10_errorBred_60 : decode cX10_errorBred 60 = .ok (.iastore, 1) := by decide +kernel
theorem dX10_errorBred_61 : decode cX10_errorBred 61 = .ok (.dup, 1) := by decide +kernel
theorem dX10_errorBred_62 : decode cX10_errorBred 62 = .ok (.iconst 2, 1) := by decide +kernel
theorem dX10_errorBred_63 : decode cX10_errorBred 63 = .ok (.aload_n 0, 1) := by decide +kernel
theorem dX10_errorBred_64 : decode cX10_errorBred 64 = .ok (.getfield 263, 3) := by decide +kernel
theorem dX10_errorBred_67 : decode cX10_errorBred 67 = .ok (.iastore, 1) := by decide +kernel
theorem dX10_errorBred_68 : decode cX10_errorBred 68 = .ok (.dup, 1) := by decide +kernel
theorem dX10_errorBred_69 : decode cX10_errorBred 69 = .ok (.iconst 3, 1) := by decide +kernel
theorem dX10_errorBred_70 : decode cX10_errorBred 70 = .ok (.aload_n 0, 1) := by decide +kernel
theorem dX10_errorBred_71 : decode cX10_errorBred 71 = .ok (.getfield 260, 3) := by decide +kernel
theorem dX10_errorBred_74 : decode cX10_errorBred 74 = .ok (.iastore, 1) := by decide +kernel
theorem dX10_errorBred_75 : decode cX10_errorBred 75 = .ok (.astore 4, 2) := by decide +kernel
theorem dX10_errorBred_77 : decode cX10_errorBred 77 = .ok (.aload_n 0, 1) := by decide +kernel
theorem dX10_errorBred_78 : decode cX10_errorBred 78 = .ok (.aload_n 0, 1) := by decide +kernel
theorem dX10_errorBred_79 : decode cX10_errorBred 79 = .ok (.getfield 145, 3) := by decide +kernel
theorem dX10_errorBred_82 : decode cX10_errorBred 82 = .ok (.iconst 0, 1) := by decide +kernel
theorem dX10_errorBred_83 : decode cX10_errorBred 83 = .ok (.bipush 40, 2) := by decide +kernel
theorem dX10_errorBred_85 : decode cX10_errorBred 85 = .ok (.invokestatic 65, 3) := by decide +kernel
theorem dX10_errorBred_88 : decode cX10_errorBred 88 = .ok (.putfield 145, 3) := by decide +kernel
theorem dX10_errorBred_91 : decode cX10_errorBred 91 = .ok (.aload_n 0, 1) := by decide +kernel
theorem dX10_errorBred_92 : decode cX10_errorBred 92 = .ok (.iload_n 1, 1) := by decide +kernel
theorem dX10_errorBred_93 : decode cX10_errorBred 93 = .ok (.invokevirtual 269, 3) := by decide +kernel
theorem dX10_errorBred_96 : decode cX10_errorBred 96 = .ok (.istore 5, 2) := by decide +kernel
theorem dX10_errorBred_98 : decode cX10_errorBred 98 = .ok (.aload_n 0, 1) := by decide +kernel
theorem dX10_errorBred_99 : decode cX10_errorBred 99 = .ok (.aload_n 2, 1) := by decide +kernel
theorem dX10_errorBred_100 : decode cX10_errorBred 100 = .ok (.putfield 131, 3) := by decide +kernel
theorem dX10_errorBred_103 : decode cX10_errorBred 103 = .ok (.aload_n 0, 1) := by decide +kernel
theorem dX10_errorBred_104 : decode cX10_errorBred 104 = .ok (.aload_n 3, 1) := by decide +kernel
theorem dX10_errorBred_105 : decode cX10_errorBred 105 = .ok (.putfield 145, 3) := by decide +kernel
theorem dX10_errorBred_108 : decode cX10_errorBred 108 = .ok (.aload_n 0, 1) := by decide +kernel
theorem dX10_errorBred_109 : decode cX10_errorBred 109 = .ok (.aload 4, 2) := by decide +kernel
theorem dX10_errorBred_111 : decode cX10_errorBred 111 = .ok (.iconst 0, 1) := by decide +kernel
theorem dX10_errorBred_112 : decode cX10_errorBred 112 = .ok (.iaload, 1) := by decide +kernel
theorem dX10_errorBred_113 : decode cX10_errorBred 113 = .ok (.putfield 223, 3) := by decide +kernel
theorem dX10_errorBred_116 : decode cX10_errorBred 116 = .ok (.aload_n 0, 1) := by decide +kernel
theorem dX10_errorBred_117 : decode cX10_errorBred 117 = .ok (.aload 4, 2) := by decide +kernel
theorem dX10_errorBred_119 : decode cX10_errorBred 119 = .ok (.iconst 1, 1) := by decide +kernel
theorem dX10_errorBred_120 : decode cX10_errorBred 120 = .ok (.iaload, 1) := by decide +kernel
theorem dX10_errorBred_121 : decode cX10_errorBred 121 = .ok (.putfield 220, 3) := by decide +kernel
theorem dX10_errorBred_124 : decode cX10_errorBred 124 = .ok (.aload_n 0, 1) := by decide +kernel
theorem dX10_errorBred_125 : decode cX10_errorBred 125 = .ok (.aload 4, 2) := by decide +kernel
theorem dX10_errorBred_127 : decode cX10_errorBred 127 = .ok (.iconst 2, 1) := by decide +kernel
theorem dX10_errorBred_128 : decode cX10_errorBred 128 = .ok (.iaload, 1) := by decide +kernel
theorem dX10_errorBred_129 : decode cX10_errorBred 129 = .ok (.putfield 263, 3) := by decide +kernel
theorem dX10_errorBred_132 : decode cX10_errorBred 132 = .ok (.aload_n 0, 1) := by decide +kernel
theorem dX10_errorBred_133 : decode cX10_errorBred 133 = .ok (.aload 4, 2) := by decide +kernel
theorem dX10_errorBred_135 : decode cX10_errorBred 135 = .ok (.iconst 3, 1) := by decide +kernel
theorem dX10_errorBred_136 : decode cX10_errorBred 136 = .ok (.iaload, 1) := by decide +kernel
theorem dX10_errorBred_137 : decode cX10_errorBred 137 = .ok (.putfield 260, 3) := by decide +kernel
theorem dX10_errorBred_140 : decode cX10_errorBred 140 = .ok (.iload 5, 2) := by decide +kernel
theorem dX10_errorBred_142 : decode cX10_errorBred 142 = .ok (.ireturn, 1) := by decide +kernel
theorem dX10_digest_0 : decode cX10_digest 0 = .ok (.aload_n 0, 1) := by decide +kernel
theorem dX10_digest_1 : decode cX10_digest 1 = .ok (.iconst 0, 1) := by decide +kernel
theorem dX10_digest_2 : decode cX10_digest 2 = .ok (.putfield 163, 3) := by decide +kernel
theorem dX10_digest_5 : decode cX10_digest 5 = .ok (.ldc2_w 281, 3) := by decide +kernel
theorem dX10_digest_8 : decode cX10_digest 8 = .ok (.aload_n 0, 1) := by decide +kernel
theorem dX10_digest_9 : decode cX10_digest 9 = .ok (.getfield 179, 3) := by decide +kernel
theorem dX10_digest_12 : decode cX10_digest 12 = .ok (.i2l, 1) := by decide +kernel
theorem dX10_digest_13 : decode cX10_digest 13 = .ok (.ladd, 1) := by decide +kernel
theorem dX10_digest_14 : decode cX10_digest 14 = .ok (.ldc2_w 283, 3) := by decide +kernel
theorem dX10_digest_17 : decode cX10_digest 17 = .ok (.lmul, 1) := by decide +kernel
theorem dX10_digest_18 : decode cX10_digest 18 = .ok (.aload_n 0, 1) := by decide +kernel
theorem dX10_digest_19 : decode cX10_digest 19 = .ok (.getfield 166, 3) := by decide +kernel
theorem dX10_digest_22 : decode cX10_digest 22 = .ok (.i2l, 1) := by decide +kernel
theorem dX10_digest_23 : decode cX10_digest 23 = .ok (.ladd, 1) := by decide +kernel
theorem dX10_digest_24 : decode cX10_digest 24 = .ok (.ldc2_w 283, 3) := by decide +kernel
theorem dX10_digest_27 : decode cX10_digest 27 = .ok (.lmul, 1) := by decide +kernel
theorem dX10_digest_28 : decode cX10_digest 28 = .ok (.aload_n 0, 1) := by decide +kernel
theorem dX10_digest_29 : decode cX10_digest 29 = .ok (.getfield 189, 3) := by decide +kernel
theorem dX10_digest_32 : decode cX10_digest 32 = .ok (.i2l, 1) := by decide +kernel
theorem dX10_digest_33 : decode cX10_digest 33 = .ok (.ladd, 1) := by decide +kernel
theorem dX10_digest_34 : decode cX10_digest 34 = .ok (.ldc2_w 283, 3) := by decide +kernel
theorem dX10_digest_37 : decode cX10_digest 37 = .ok (.lmul, 1) := by decide +kernel
theorem dX10_digest_38 : decode cX10_digest 38 = .ok (.aload_n 0, 1) := by decide +kernel
theorem dX10_digest_39 : decode cX10_digest 39 = .ok (.getfield 263, 3) := by decide +kernel
theorem dX10_digest_42 : decode cX10_digest 42 = .ok (.i2l, 1) := by decide +kernel
theorem dX10_digest_43 : decode cX10_digest 43 = .ok (.ladd, 1) := by decide +kernel
theorem dX10_digest_44 : decode cX10_digest 44 = .ok (.lstore_n 1, 1) := by decide +kernel
theorem dX10_digest_45 : decode cX10_digest 45 = .ok (.lload_n 1, 1) := by decide +kernel
theorem dX10_digest_46 : decode cX10_digest 46 = .ok (.ldc2_w 283, 3) := by decide +kernel
