theorem dX9_tell_8 : decode cX9_tell 8 = .ok (.ldc 214, 2) := by decide +kernel
theorem dX9_tell_10 : decode cX9_tell 10 = .ok (.invokespecial 124, 3) := by decide +kernel
theorem dX9_tell_13 : decode cX9_tell 13 = .ok (.athrow, 1) := by decide +kernel
theorem dX9_tell_14 : decode cX9_tell 14 = .ok (.aload_n 0, 1) := by decide +kernel
theorem dX9_tell_15 : decode cX9_tell 15 = .ok (.getfield 54, 3) := by decide +kernel
theorem dX9_tell_18 : decode cX9_tell 18 = .ok (.getfield 205, 3) := by decide +kernel
theorem dX9_tell_21 : decode cX9_tell 21 = .ok (.getfield 216, 3) := by decide +kernel
theorem dX9_tell_24 : decode cX9_tell 24 = .ok (.bipush 40, 2) := by decide +kernel
theorem dX9_tell_26 : decode cX9_tell 26 = .ok (.if_icmp .lt 13, 3) := by decide +kernel
theorem dX9_tell_29 : decode cX9_tell 29 = .ok (.new 76, 3) := by decide +kernel
theorem dX9_tell_32 : decode cX9_tell 32 = .ok (.dup, 1) := by decide +kernel
theorem dX9_tell_33 : decode cX9_tell 33 = .ok (.ldc 219, 2) := by decide +kernel
theorem dX9_tell_35 : decode cX9_tell 35 = .ok (.invokespecial 80, 3) := by decide +kernel
theorem dX9_tell_38 : decode cX9_tell 38 = .ok (.athrow, 1) := by decide +kernel
theorem dX9_tell_39 : decode cX9_tell 39 = .ok (.aload_n 0, 1) := by decide +kernel
theorem dX9_tell_40 : decode cX9_tell 40 = .ok (.getfield 54, 3) := by decide +kernel
theorem dX9_tell_43 : decode cX9_tell 43 = .ok (.getfield 205, 3) := by decide +kernel
theorem dX9_tell_46 : decode cX9_tell 46 = .ok (.iload_n 1, 1) := by decide +kernel
theorem dX9_tell_47 : decode cX9_tell 47 = .ok (.invokevirtual 221, 3) := by decide +kernel
theorem dX9_tell_50 : decode cX9_tell 50 = .ok (.aload_n 0, 1) := by decide +kernel
theorem dX9_tell_51 : decode cX9_tell 51 = .ok (.getfield 54, 3) := by decide +kernel
theorem dX9_tell_54 : decode cX9_tell 54 = .ok (.getfield 205, 3) := by decide +kernel
theorem dX9_tell_57 : decode cX9_tell 57 = .ok (.getfield 216, 3) := by decide +kernel
theorem dX9_tell_60 : decode cX9_tell 60 = .ok (.ireturn, 1) := by decide +kernel
theorem dX9_breed_0 : decode cX9_breed 0 = .ok (.aload_n 0, 1) := by decide +kernel
theorem dX9_breed_1 : decode cX9_breed 1 = .ok (.iload_n 1, 1) := by decide +kernel
theorem dX9_breed_2 : decode cX9_breed 2 = .ok (.invokevirtual 223, 3) := by decide +kernel
theorem dX9_breed_5 : decode cX9_breed 5 = .ok (.aload_n 0, 1) := by decide +kernel
theorem dX9_breed_6 : decode cX9_breed 6 = .ok (.getfield 33, 3) := by decide +kernel
theorem dX9_breed_9 : decode cX9_breed 9 = .ok (.iload_n 1, 1) := by decide +kernel
theorem dX9_breed_10 : decode cX9_breed 10 = .ok (.aload_n 0, 1) := by decide +kernel
theorem dX9_breed_11 : decode cX9_breed 11 = .ok (.getfield 54, 3) := by decide +kernel
theorem dX9_breed_14 : decode cX9_breed 14 = .ok (.aload_n 0, 1) := by decide +kernel
theorem dX9_breed_15 : decode cX9_breed 15 = .ok (.getfield 19, 3) := by decide +kernel
theorem dX9_breed_18 : decode cX9_breed 18 = .ok (.invokevirtual 226, 3) := by decide +kernel
theorem dX9_breed_21 : decode cX9_breed 21 = .ok (.ireturn, 1) := by decide +kernel
theorem dX9_sketched_0 : decode cX9_sketched 0 = .ok (.aload_n 0, 1) := by decide +kernel
theorem dX9_sketched_1 : decode cX9_sketched 1 = .ok (.getfield 10, 3) := by decide +kernel
theorem dX9_sketched_4 : decode cX9_sketched 4 = .ok (.getfield 90, 3) := by decide +kernel
theorem dX9_sketched_7 : decode cX9_sketched 7 = .ok (.getfield 93, 3) := by decide +kernel
theorem dX9_sketched_10 : decode cX9_sketched 10 = .ok (.ireturn, 1) := by decide +kernel
theorem dX9_trees_0 : decode cX9_trees 0 = .ok (.aload_n 0, 1) := by decide +kernel
theorem dX9_trees_1 : decode cX9_trees 1 = .ok (.getfield 54, 3) := by decide +kernel
theorem dX9_trees_4 : decode cX9_trees 4 = .ok (.getfield 99, 3) := by decide +kernel
theorem dX9_trees_7 : decode cX9_trees 7 = .ok (.ireturn, 1) := by decide +kernel
theorem dX9_cases_0 : decode cX9_cases 0 = .ok (.aload_n 0, 1) := by decide +kernel
theorem dX9_cases_1 : decode cX9_cases 1 = .ok (.getfield 19, 3) := by decide +kernel
theorem dX9_cases_4 : decode cX9_cases 4 = .ok (.getfield 125, 3) := by decide +kernel
theorem dX9_cases_7 : decode cX9_cases 7 = .ok (.ireturn, 1) := by decide +kernel
theorem dX9_size_0 : decode cX9_size 0 = .ok (.aload_n 0, 1) := by decide +kernel
theorem dX9_size_1 : decode cX9_size 1 = .ok (.iload_n 1, 1) := by decide +kernel
theorem dX9_size_2 : decode cX9_size 2 = .ok (.invokevirtual 108, 3) := by decide +kernel
theorem dX9_size_5 : decode cX9_size 5 = .ok (.getfield 93, 3) := by decide +kernel
theorem dX9_size_8 : decode cX9_size 8 = .ok (.ireturn, 1) := by decide +kernel
theorem dX9_depth_0 : decode cX9_depth 0 = .ok (.aload_n 0, 1) := by decide +kernel
theorem dX9_depth_1 : decode cX9_depth 1 = .ok (.iload_n 1, 1) := by decide +kernel
theorem dX9_depth_2 : decode cX9_depth 2 = .ok (.invokevirtual 108, 3) := by decide +kernel
theorem dX9_depth_5 : decode cX9_depth 5 = .ok (.getfield 230, 3) := by decide +kernel
theorem dX9_depth_8 : decode cX9_depth 8 = .ok (.ireturn, 1) := by decide +kernel
theorem dX9_codeAt_0 : decode cX9_codeAt 0 = .ok (.aload_n 0, 1) := by decide +kernel
theorem dX9_codeAt_1 : decode cX9_codeAt 1 = .ok (.iload_n 1, 1) := by decide +kernel
theorem dX9_codeAt_2 : decode cX9_codeAt 2 = .ok (.iload_n 2, 1) := by decide +kernel
theorem dX9_codeAt_3 : decode cX9_codeAt 3 = .ok (.invokevirtual 141, 3) := by decide +kernel
theorem dX9_codeAt_6 : decode cX9_codeAt 6 = .ok (.iload_n 2, 1) := by decide +kernel
theorem dX9_codeAt_7 : decode cX9_codeAt 7 = .ok (.invokevirtual 158, 3) := by decide +kernel
theorem dX9_codeAt_10 : decode cX9_codeAt 10 = .ok (.ireturn, 1) := by decide +kernel
theorem dX9_valueAt_0 : decode cX9_valueAt 0 = .ok (.aload_n 0, 1) := by decide +kernel
theorem dX9_valueAt_1 : decode cX9_valueAt 1 = .ok (.iload_n 1, 1) := by decide +kernel
theorem dX9_valueAt_2 : decode cX9_valueAt 2 = .ok (.iload_n 2, 1) := by decide +kernel
theorem dX9_valueAt_3 : decode cX9_valueAt 3 = .ok (.invokevirtual 141, 3) := by decide +kernel
theorem dX9_valueAt_6 : decode cX9_valueAt 6 = .ok (.iload_n 2, 1) := by decide +kernel
theorem dX9_valueAt_7 : decode cX9_valueAt 7 = .ok (.invokevirtual 233, 3) := by decide +kernel
theorem dX9_valueAt_10 : decode cX9_valueAt 10 = .ok (.ireturn, 1) := by decide +kernel
theorem dX9_sizeAt_0 : decode cX9_sizeAt 0 = .ok (.aload_n 0, 1) := by decide +kernel
theorem dX9_sizeAt_1 : decode cX9_sizeAt 1 = .ok (.iload_n 1, 1) := by decide +kernel
theorem dX9_sizeAt_2 : decode cX9_sizeAt 2 = .ok (.iload_n 2, 1) := by decide +kernel
theorem dX9_sizeAt_3 : decode cX9_sizeAt 3 = .ok (.invokevirtual 141, 3) := by decide +kernel
theorem dX9_sizeAt_6 : decode cX9_sizeAt 6 = .ok (.iload_n 2, 1) := by decide +kernel
theorem dX9_sizeAt_7 : decode cX9_sizeAt 7 = .ok (.invokevirtual 236, 3) := by decide +kernel
theorem dX9_sizeAt_10 : decode cX9_sizeAt 10 = .ok (.ireturn, 1) := by decide +kernel
theorem dX9_above_0 : decode cX9_above 0 = .ok (.aload_n 0, 1) := by decide +kernel
theorem dX9_above_1 : decode cX9_above 1 = .ok (.iload_n 1, 1) := by decide +kernel
theorem dX9_above_2 : decode cX9_above 2 = .ok (.iload_n 2, 1) := by decide +kernel
theorem dX9_above_3 : decode cX9_above 3 = .ok (.invokevirtual 141, 3) := by decide +kernel
theorem dX9_above_6 : decode cX9_above 6 = .ok (.iload_n 2, 1) := by decide +kernel
theorem dX9_above_7 : decode cX9_above 7 = .ok (.invokevirtual 239, 3) := by decide +kernel
theorem dX9_above_10 : decode cX9_above 10 = .ok (.ireturn, 1) := by decide +kernel
theorem dX9_gives_0 : decode cX9_gives 0 = .ok (.aload_n 0, 1) := by decide +kernel
theorem dX9_gives_1 : decode cX9_gives 1 = .ok (.iload_n 1, 1) := by decide +kernel
theorem dX9_gives_2 : decode cX9_gives 2 = .ok (.invokevirtual 108, 3) := by decide +kernel
theorem dX9_gives_5 : decode cX9_gives 5 = .ok (.astore 5, 2) := by decide +kernel
theorem dX9_gives_7 : decode cX9_gives 7 = .ok (.iload_n 2, 1) := by decide +kernel
theorem dX9_gives_8 : decode cX9_gives 8 = .ok (.iload_n 3, 1) := by decide +kernel
theorem dX9_gives_9 : decode cX9_gives 9 = .ok (.iload 4, 2) := by decide +kernel
theorem dX9_gives_11 : decode cX9_gives 11 = .ok (.invokestatic 116, 3) := by decide +kernel
theorem dX9_gives_14 : decode cX9_gives 14 = .ok (.aload_n 0, 1) := by decide +kernel
theorem dX9_gives_15 : decode cX9_gives 15 = .ok (.getfield 47, 3) := by decide +kernel
theorem dX9_gives_18 : decode cX9_gives 18 = .ok (.iload_n 2, 1) := by decide +kernel
theorem dX9_gives_19 : decode cX9_gives 19 = .ok (.iload_n 3, 1) := by decide +kernel
theorem dX9_gives_20 : decode cX9_gives 20 = .ok (.iload 4, 2) := by decide +kernel
theorem dX9_gives_22 : decode cX9_gives 22 = .ok (.invokevirtual 242, 3) := by decide +kernel
theorem dX9_gives_25 : decode cX9_gives 25 = .ok (.aload_n 0, 1) := by decide +kernel
theorem dX9_gives_26 : decode cX9_gives 26 = .ok (.getfield 47, 3) := by decide +kernel
theorem dX9_gives_29 : decode cX9_gives 29 = .ok (.aload 5, 2) := by decide +kernel
theorem dX9_gives_31 : decode cX9_gives 31 = .ok (.iconst 0, 1) := by decide +kernel
theorem dX9_gives_32 : decode cX9_gives 32 = .ok (.invokevirtual 245, 3) := by decide +kernel
theorem dX9_gives_35 : decode cX9_gives 35 = .ok (.ireturn, 1) := by decide +kernel
theorem dX9_error_0 : decode cX9_error 0 = .ok (.aload_n 0, 1) := by decide +kernel
theorem dX9_error_1 : decode cX9_error 1 = .ok (.getfield 19, 3) := by decide +kernel
theorem dX9_error_4 : decode cX9_error 4 = .ok (.aload_n 0, 1) := by decide +kernel
theorem dX9_error_5 : decode cX9_error 5 = .ok (.iload_n 1, 1) := by decide +kernel
theorem dX9_error_6 : decode cX9_error 6 = .ok (.invokevirtual 108, 3) := by decide +kernel
theorem dX9_error_9 : decode cX9_error 9 = .ok (.iconst 0, 1) := by decide +kernel
theorem dX9_error_10 : decode cX9_error 10 = .ok (.invokevirtual 249, 3) := by decide +kernel
theorem dX9_error_13 : decode cX9_error 13 = .ok (.ireturn, 1) := by decide +kernel
theorem dX9_merit_0 : decode cX9_merit 0 = .ok (.aload_n 0, 1) := by decide +kernel
theorem dX9_merit_1 : decode cX9_merit 1 = .ok (.getfield 19, 3) := by decide +kernel
theorem dX9_merit_4 : decode cX9_merit 4 = .ok (.aload_n 0, 1) := by decide +kernel
theorem dX9_merit_5 : decode cX9_merit 5 = .ok (.iload_n 1, 1) := by decide +kernel
theorem dX9_merit_6 : decode cX9_merit 6 = .ok (.invokevirtual 108, 3) := by decide +kernel
theorem dX9_merit_9 : decode cX9_merit 9 = .ok (.invokevirtual 252, 3) := by decide +kernel
theorem dX9_merit_12 : decode cX9_merit 12 = .ok (.ireturn, 1) := by decide +kernel
theorem dX9_hits_0 : decode cX9_hits 0 = .ok (.aload_n 0, 1) := by decide +kernel
theorem dX9_hits_1 : decode cX9_hits 1 = .ok (.getfield 19, 3) := by decide +kernel
theorem dX9_hits_4 : decode cX9_hits 4 = .ok (.aload_n 0, 1) := by decide +kernel
theorem dX9_hits_5 : decode cX9_hits 5 = .ok (.iload_n 1, 1) := by decide +kernel
theorem dX9_hits_6 : decode cX9_hits 6 = .ok (.invokevirtual 108, 3) := by decide +kernel
theorem dX9_hits_9 : decode cX9_hits 9 = .ok (.invokevirtual 256, 3) := by decide +kernel
theorem dX9_hits_12 : decode cX9_hits 12 = .ok (.ireturn, 1) := by decide +kernel
theorem dX9_ranked_0 : decode cX9_ranked 0 = .ok (.iload_n 1, 1) := by decide +kernel
theorem dX9_ranked_1 : decode cX9_ranked 1 = .ok (.ifCond .lt 14, 3) := by decide +kernel
theorem dX9_ranked_4 : decode cX9_ranked 4 = .ok (.iload_n 1, 1) := by decide +kernel
theorem dX9_ranked_5 : decode cX9_ranked 5 = .ok (.aload_n 0, 1) := by decide +kernel
theorem dX9_ranked_6 : decode cX9_ranked 6 = .ok (.getfield 54, 3) := by decide +kernel
theorem dX9_ranked_9 : decode cX9_ranked 9 = .ok (.getfield 99, 3) := by decide +kernel
theorem dX9_ranked_12 : decode cX9_ranked 12 = .ok (.if_icmp .lt 14, 3) := by decide +kernel
theorem dX9_ranked_15 : decode cX9_ranked 15 = .ok (.new 259, 3) := by decide +kernel
theorem dX9_ranked_18 : decode cX9_ranked 18 = .ok (.dup, 1) := by decide +kernel
theorem dX9_ranked_19 : decode cX9_ranked 19 = .ok (.ldc_w 261, 3) := by decide +kernel
theorem dX9_ranked_22 : decode cX9_ranked 22 = .ok (.invokespecial 263, 3) := by decide +kernel
theorem dX9_ranked_25 : decode cX9_ranked 25 = .ok (.athrow, 1) := by decide +kernel
theorem dX9_ranked_26 : decode cX9_ranked 26 = .ok (.aload_n 0, 1) := by decide +kernel
theorem dX9_ranked_27 : decode cX9_ranked 27 = .ok (.getfield 26, 3) := by decide +kernel
theorem dX9_ranked_30 : decode cX9_ranked 30 = .ok (.aload_n 0, 1) := by decide +kernel
theorem dX9_ranked_31 : decode cX9_ranked 31 = .ok (.getfield 54, 3) := by decide +kernel
theorem dX9_ranked_34 : decode cX9_ranked 34 = .ok (.aload_n 0, 1) := by decide +kernel
theorem dX9_ranked_35 : decode cX9_ranked 35 = .ok (.getfield 19, 3) := by decide +kernel
theorem dX9_ranked_38 : decode cX9_ranked 38 = .ok (.invokevirtual 264, 3) := by decide +kernel
theorem dX9_ranked_41 : decode cX9_ranked 41 = .ok (.aload_n 0, 1) := by decide +kernel
theorem dX9_ranked_42 : decode cX9_ranked 42 = .ok (.getfield 26, 3) := by decide +kernel
theorem dX9_ranked_45 : decode cX9_ranked 45 = .ok (.iload_n 1, 1) := by decide +kernel
theorem dX9_ranked_46 : decode cX9_ranked 46 = .ok (.invokevirtual 268, 3) := by decide +kernel
theorem dX9_ranked_49 : decode cX9_ranked 49 = .ok (.ireturn, 1) := by decide +kernel
theorem dX9_different_0 : decode cX9_different 0 = .ok (.iconst 0, 1) := by decide +kernel
theorem dX9_different_1 : decode cX9_different 1 = .ok (.istore_n 1, 1) := by decide +kernel
theorem dX9_different_2 : decode cX9_different 2 = .ok (.iconst 0, 1) := by decide +kernel
theorem dX9_different_3 : decode cX9_different 3 = .ok (.istore_n 2, 1) := by decide +kernel
theorem dX9_different_4 : decode cX9_different 4 = .ok (.iload_n 2, 1) := by decide +kernel
theorem dX9_different_5 : decode cX9_different 5 = .ok (.aload_n 0, 1) := by decide +kernel
theorem dX9_different_6 : decode cX9_different 6 = .ok (.getfield 54, 3) := by decide +kernel
theorem dX9_different_9 : decode cX9_different 9 = .ok (.getfield 99, 3) := by decide +kernel
theorem dX9_different_12 : decode cX9_different 12 = .ok (.if_icmp .ge 23, 3) := by decide +kernel
theorem dX9_different_15 : decode cX9_different 15 = .ok (.aload_n 0, 1) := by decide +kernel
theorem dX9_different_16 : decode cX9_different 16 = .ok (.getfield 54, 3) := by decide +kernel
theorem dX9_different_19 : decode cX9_different 19 = .ok (.iload_n 2, 1) := by decide +kernel
theorem dX9_different_20 : decode cX9_different 20 = .ok (.invokevirtual 271, 3) := by decide +kernel
theorem dX9_different_23 : decode cX9_different 23 = .ok (.ifCond .ne 6, 3) := by decide +kernel
theorem dX9_different_26 : decode cX9_different 26 = .ok (.iinc 1 1, 3) := by decide +kernel
theorem dX9_different_29 : decode cX9_different 29 = .ok (.iinc 2 1, 3) := by decide +kernel
theorem dX9_different_32 : decode cX9_different 32 = .ok (.goto (-28), 3) := by decide +kernel
theorem dX9_different_35 : decode cX9_different 35 = .ok (.iload_n 1, 1) := by decide +kernel
theorem dX9_different_36 : decode cX9_different 36 = .ok (.ireturn, 1) := by decide +kernel
theorem dX9_alike_0 : decode cX9_alike 0 = .ok (.aload_n 0, 1) := by decide +kernel
theorem dX9_alike_1 : decode cX9_alike 1 = .ok (.iload_n 1, 1) := by decide +kernel
theorem dX9_alike_2 : decode cX9_alike 2 = .ok (.invokevirtual 108, 3) := by decide +kernel
theorem dX9_alike_5 : decode cX9_alike 5 = .ok (.aload_n 0, 1) := by decide +kernel
theorem dX9_alike_6 : decode cX9_alike 6 = .ok (.iload_n 2, 1) := by decide +kernel
theorem dX9_alike_7 : decode cX9_alike 7 = .ok (.invokevirtual 108, 3) := by decide +kernel
theorem dX9_alike_10 : decode cX9_alike 10 = .ok (.invokevirtual 274, 3) := by decide +kernel
theorem dX9_alike_13 : decode cX9_alike 13 = .ok (.ireturn, 1) := by decide +kernel
theorem dX9_meanSize_0 : decode cX9_meanSize 0 = .ok (.aload_n 0, 1) := by decide +kernel
theorem dX9_meanSize_1 : decode cX9_meanSize 1 = .ok (.getfield 54, 3) := by decide +kernel
theorem dX9_meanSize_4 : decode cX9_meanSize 4 = .ok (.getfield 99, 3) := by decide +kernel
theorem dX9_meanSize_7 : decode cX9_meanSize 7 = .ok (.ifCond .ne 5, 3) := by decide +kernel
theorem dX9_meanSize_10 : decode cX9_meanSize 10 = .ok (.dconst 0, 1) := by decide +kernel
theorem dX9_meanSize_11 : decode cX9_meanSize 11 = .ok (.dreturn, 1) := by decide +kernel
theorem dX9_meanSize_12 : decode cX9_meanSize 12 = .ok (.iconst 0, 1) := by decide +kernel
theorem dX9_meanSize_13 : decode cX9_meanSize 13 = .ok (.istore_n 1, 1) := by decide +kernel
theorem dX9_meanSize_14 : decode cX9_meanSize 14 = .ok (.iconst 0, 1) := by decide +kernel
theorem dX9_meanSize_15 : decode cX9_meanSize 15 = .ok (.istore_n 2, 1) := by decide +kernel
theorem dX9_meanSize_16 : decode cX9_meanSize 16 = .ok (.iload_n 2, 1) := by decide +kernel
theorem dX9_meanSize_17 : decode cX9_meanSize 17 = .ok (.aload_n 0, 1) := by decide +kernel
theorem dX9_meanSize_18 : decode cX9_meanSize 18 = .ok (.getfield 54, 3) := by decide +kernel
theorem dX9_meanSize_21 : decode cX9_meanSize 21 = .ok (.getfield 99, 3) := by decide +kernel
theorem dX9_meanSize_24 : decode cX9_meanSize 24 = .ok (.if_icmp .ge 23, 3) := by decide +kernel
theorem dX9_meanSize_27 : decode cX9_meanSize 27 = .ok (.iload_n 1, 1) := by decide +kernel
theorem dX9_meanSize_28 : decode cX9_meanSize 28 = .ok (.aload_n 0, 1) := by decide +kernel
theorem dX9_meanSize_29 : decode cX9_meanSize 29 = .ok (.getfield 54, 3) := by decide +kernel
theorem dX9_meanSize_32 : decode cX9_meanSize 32 = .ok (.iload_n 2, 1) := by decide +kernel
theorem dX9_meanSize_33 : decode cX9_meanSize 33 = .ok (.invokevirtual 277, 3) := by decide +kernel
theorem dX9_meanSize_36 : decode cX9_meanSize 36 = .ok (.getfield 93, 3) := by decide +kernel
theorem dX9_meanSize_39 : decode cX9_meanSize 39 = .ok (.iadd, 1) := by decide +kernel
theorem dX9_meanSize_40 : decode cX9_meanSize 40 = .ok (.istore_n 1, 1) := by decide +kernel
theorem dX9_meanSize_41 : decode cX9_meanSize 41 = .ok (.iinc 2 1, 3) := by decide +kernel
theorem dX9_meanSize_44 : decode cX9_meanSize 44 = .ok (.goto (-28), 3) := by decide +kernel
theorem dX9_meanSize_47 : decode cX9_meanSize 47 = .ok (.iload_n 1, 1) := by decide +kernel
theorem dX9_meanSize_48 : decode cX9_meanSize 48 = .ok (.i2d, 1) := by decide +kernel
theorem dX9_meanSize_49 : decode cX9_meanSize 49 = .ok (.aload_n 0, 1) := by decide +kernel
theorem dX9_meanSize_50 : decode cX9_meanSize 50 = .ok (.getfield 54, 3) := by decide +kernel
theorem dX9_meanSize_53 : decode cX9_meanSize 53 = .ok (.getfield 99, 3) := by decide +kernel
theorem dX9_meanSize_56 : decode cX9_meanSize 56 = .ok (.i2d, 1) := by decide +kernel
theorem dX9_meanSize_57 : decode cX9_meanSize 57 = .ok (.ddiv, 1) := by decide +kernel
theorem dX9_meanSize_58 : decode cX9_meanSize 58 = .ok (.dreturn, 1) := by decide +kernel
theorem dX9_generations_0 : decode cX9_generations 0 = .ok (.aload_n 0, 1) := by decide +kernel
theorem dX9_generations_1 : decode cX9_generations 1 = .ok (.getfield 54, 3) := by decide +kernel
theorem dX9_generations_4 : decode cX9_generations 4 = .ok (.getfield 280, 3) := by decide +kernel
theorem dX9_generations_7 : decode cX9_generations 7 = .ok (.ireturn, 1) := by decide +kernel
theorem dX9_misses_0 : decode cX9_misses 0 = .ok (.aload_n 0, 1) := by decide +kernel
theorem dX9_misses_1 : decode cX9_misses 1 = .ok (.getfield 54, 3) := by decide +kernel
theorem dX9_misses_4 : decode cX9_misses 4 = .ok (.getfield 283, 3) := by decide +kernel
theorem dX9_misses_7 : decode cX9_misses 7 = .ok (.ireturn, 1) := by decide +kernel
theorem dX9_luck_0 : decode cX9_luck 0 = .ok (.aload_n 0, 1) := by decide +kernel
theorem dX9_luck_1 : decode cX9_luck 1 = .ok (.getfield 54, 3) := by decide +kernel
theorem dX9_luck_4 : decode cX9_luck 4 = .ok (.getfield 205, 3) := by decide +kernel
theorem dX9_luck_7 : decode cX9_luck 7 = .ok (.getfield 209, 3) := by decide +kernel
theorem dX9_luck_10 : decode cX9_luck 10 = .ok (.ireturn, 1) := by decide +kernel
theorem dX9_waiting_0 : decode cX9_waiting 0 = .ok (.aload_n 0, 1) := by decide +kernel
theorem dX9_waiting_1 : decode cX9_waiting 1 = .ok (.getfield 54, 3) := by decide +kernel
theorem dX9_waiting_4 : decode cX9_waiting 4 = .ok (.getfield 205, 3) := by decide +kernel
theorem dX9_waiting_7 : decode cX9_waiting 7 = .ok (.getfield 216, 3) := by decide +kernel
theorem dX9_waiting_10 : decode cX9_waiting 10 = .ok (.ireturn, 1) := by decide +kernel
theorem dX9_errorCrossed_0 : decode cX9_errorCrossed 0 = .ok (.aload_n 0, 1) := by decide +kernel
theorem dX9_errorCrossed_1 : decode cX9_errorCrossed 1 = .ok (.iload_n 1, 1) := by decide +kernel
theorem dX9_errorCrossed_2 : decode cX9_errorCrossed 2 = .ok (.iload_n 2, 1) := by decide +kernel
theorem dX9_errorCrossed_3 : decode cX9_errorCrossed 3 = .ok (.invokevirtual 141, 3) := by decide +kernel
theorem dX9_errorCrossed_6 : decode cX9_errorCrossed 6 = .ok (.astore 5, 2) := by decide +kernel
theorem dX9_errorCrossed_8 : decode cX9_errorCrossed 8 = .ok (.aload_n 0, 1) := by decide +kernel
theorem dX9_errorCrossed_9 : decode cX9_errorCrossed 9 = .ok (.iload_n 3, 1) := by decide +kernel
theorem dX9_errorCrossed_10 : decode cX9_errorCrossed 10 = .ok (.iload 4, 2) := by decide +kernel
theorem dX9_errorCrossed_12 : decode cX9_errorCrossed 12 = .ok (.invokevirtual 141, 3) := by decide +kernel
theorem dX9_errorCrossed_15 : decode cX9_errorCrossed 15 = .ok (.astore 6, 2) := by decide +kernel
theorem dX9_errorCrossed_17 : decode cX9_errorCrossed 17 = .ok (.aload_n 0, 1) := by decide +kernel
theorem dX9_errorCrossed_18 : decode cX9_errorCrossed 18 = .ok (.getfield 64, 3) := by decide +kernel
theorem dX9_errorCrossed_21 : decode cX9_errorCrossed 21 = .ok (.aload 5, 2) := by decide +kernel
theorem dX9_errorCrossed_23 : decode cX9_errorCrossed 23 = .ok (.iload_n 2, 1) := by decide +kernel
theorem dX9_errorCrossed_24 : decode cX9_errorCrossed 24 = .ok (.aload 6, 2) := by decide +kernel
theorem dX9_errorCrossed_26 : decode cX9_errorCrossed 26 = .ok (.iload 4, 2) := by decide +kernel
theorem dX9_errorCrossed_28 : decode cX9_errorCrossed 28 = .ok (.invokevirtual 145, 3) := by decide +kernel
theorem dX9_errorCrossed_31 : decode cX9_errorCrossed 31 = .ok (.ifCond .ne 5, 3) := by decide +kernel
theorem dX9_errorCrossed_34 : decode cX9_errorCrossed 34 = .ok (.iconst (-1), 1) := by decide +kernel
theorem dX9_errorCrossed_35 : decode cX9_errorCrossed 35 = .ok (.ireturn, 1) := by decide +kernel
theorem dX9_errorCrossed_36 : decode cX9_errorCrossed 36 = .ok (.aload_n 0, 1) := by decide +kernel
theorem dX9_errorCrossed_37 : decode cX9_errorCrossed 37 = .ok (.getfield 19, 3) := by decide +kernel
theorem dX9_errorCrossed_40 : decode cX9_errorCrossed 40 = .ok (.aload_n 0, 1) := by decide +kernel
theorem dX9_errorCrossed_41 : decode cX9_errorCrossed 41 = .ok (.getfield 64, 3) := by decide +kernel
theorem dX9_errorCrossed_44 : decode cX9_errorCrossed 44 = .ok (.iconst 0, 1) := by decide +kernel
theorem dX9_errorCrossed_45 : decode cX9_errorCrossed 45 = .ok (.invokevirtual 249, 3) := by decide +kernel
theorem dX9_errorCrossed_48 : decode cX9_errorCrossed 48 = .ok (.ireturn, 1) := by decide +kernel
theorem dX9_bestHoist_0 : decode cX9_bestHoist 0 = .ok (.aload_n 0, 1) := by decide +kernel
theorem dX9_bestHoist_1 : decode cX9_bestHoist 1 = .ok (.iload_n 1, 1) := by decide +kernel
theorem dX9_bestHoist_2 : decode cX9_bestHoist 2 = .ok (.invokevirtual 108, 3) := by decide +kernel
theorem dX9_bestHoist_5 : decode cX9_bestHoist 5 = .ok (.astore_n 2, 1) := by decide +kernel
theorem dX9_bestHoist_6 : decode cX9_bestHoist 6 = .ok (.iconst 0, 1) := by decide +kernel
theorem dX9_bestHoist_7 : decode cX9_bestHoist 7 = .ok (.istore_n 3, 1) := by decide +kernel
theorem dX9_bestHoist_8 : decode cX9_bestHoist 8 = .ok (.aload_n 0, 1) := by decide +kernel
theorem dX9_bestHoist_9 : decode cX9_bestHoist 9 = .ok (.getfield 19, 3) := by decide +kernel
theorem dX9_bestHoist_12 : decode cX9_bestHoist 12 = .ok (.aload_n 2, 1) := by decide +kernel
theorem dX9_bestHoist_13 : decode cX9_bestHoist 13 = .ok (.iconst 0, 1) := by decide +kernel
theorem dX9_bestHoist_14 : decode cX9_bestHoist 14 = .ok (.invokevirtual 249, 3) := by decide +kernel
theorem dX9_bestHoist_17 : decode cX9_bestHoist 17 = .ok (.istore 4, 2) := by decide +kernel
theorem dX9_bestHoist_19 : decode cX9_bestHoist 19 = .ok (.iconst 1, 1) := by decide +kernel
theorem dX9_bestHoist_20 : decode cX9_bestHoist 20 = .ok (.istore 5, 2) := by decide +kernel
theorem dX9_bestHoist_22 : decode cX9_bestHoist 22 = .ok (.iload 5, 2) := by decide +kernel
theorem dX9_bestHoist_24 : decode cX9_bestHoist 24 = .ok (.aload_n 2, 1) := by decide +kernel
theorem dX9_bestHoist_25 : decode cX9_bestHoist 25 = .ok (.getfield 93, 3) := by decide +kernel
theorem dX9_bestHoist_28 : decode cX9_bestHoist 28 = .ok (.if_icmp .ge 65, 3) := by decide +kernel
theorem dX9_bestHoist_31 : decode cX9_bestHoist 31 = .ok (.aload_n 2, 1) := by decide +kernel
theorem dX9_bestHoist_32 : decode cX9_bestHoist 32 = .ok (.iload 5, 2) := by decide +kernel
theorem dX9_bestHoist_34 : decode cX9_bestHoist 34 = .ok (.invokevirtual 152, 3) := by decide +kernel
theorem dX9_bestHoist_37 : decode cX9_bestHoist 37 = .ok (.ifCond .eq 50, 3) := by decide +kernel
theorem dX9_bestHoist_40 : decode cX9_bestHoist 40 = .ok (.aload_n 0, 1) := by decide +kernel
theorem dX9_bestHoist_41 : decode cX9_bestHoist 41 = .ok (.getfield 19, 3) := by decide +kernel
theorem dX9_bestHoist_44 : decode cX9_bestHoist 44 = .ok (.aload_n 2, 1) := by decide +kernel
theorem dX9_bestHoist_45 : decode cX9_bestHoist 45 = .ok (.iload 5, 2) := by decide +kernel
theorem dX9_bestHoist_47 : decode cX9_bestHoist 47 = .ok (.invokevirtual 249, 3) := by decide +kernel
theorem dX9_bestHoist_50 : decode cX9_bestHoist 50 = .ok (.istore 6, 2) := by decide +kernel
theorem dX9_bestHoist_52 : decode cX9_bestHoist 52 = .ok (.iload 6, 2) := by decide +kernel
theorem dX9_bestHoist_54 : decode cX9_bestHoist 54 = .ok (.iload 4, 2) := by decide +kernel
theorem dX9_bestHoist_56 : decode cX9_bestHoist 56 = .ok (.if_icmp .lt 24, 3) := by decide +kernel
theorem dX9_bestHoist_59 : decode cX9_bestHoist 59 = .ok (.iload 6, 2) := by decide +kernel
theorem dX9_bestHoist_61 : decode cX9_bestHoist 61 = .ok (.iload 4, 2) := by decide +kernel
theorem dX9_bestHoist_63 : decode cX9_bestHoist 63 = .ok (.if_icmp .ne 24, 3) := by decide +kernel
theorem dX9_bestHoist_66 : decode cX9_bestHoist 66 = .ok (.aload_n 2, 1) := by decide +kernel
theorem dX9_bestHoist_67 : decode cX9_bestHoist 67 = .ok (.iload 5, 2) := by decide +kernel
theorem dX9_bestHoist_69 : decode cX9_bestHoist 69 = .ok (.invokevirtual 236, 3) := by decide +kernel
theorem dX9_bestHoist_72 : decode cX9_bestHoist 72 = .ok (.aload_n 2, 1) := by decide +kernel
theorem dX9_bestHoist_73 : decode cX9_bestHoist 73 = .ok (.iload_n 3, 1) := by decide +kernel
theorem dX9_bestHoist_74 : decode cX9_bestHoist 74 = .ok (.invokevirtual 236, 3) := by decide +kernel
theorem dX9_bestHoist_77 : decode cX9_bestHoist 77 = .ok (.if_icmp .ge 10, 3) := by decide +kernel
theorem dX9_bestHoist_80 : decode cX9_bestHoist 80 = .ok (.iload 5, 2) := by decide +kernel
theorem dX9_bestHoist_82 : decode cX9_bestHoist 82 = .ok (.istore_n 3, 1) := by decide +kernel
theorem dX9_bestHoist_83 : decode cX9_bestHoist 83 = .ok (.iload 6, 2) := by decide +kernel
theorem dX9_bestHoist_85 : decode cX9_bestHoist 85 = .ok (.istore 4, 2) := by decide +kernel
theorem dX9_bestHoist_87 : decode cX9_bestHoist 87 = .ok (.iinc 5 1, 3) := by decide +kernel
theorem dX9_bestHoist_90 : decode cX9_bestHoist 90 = .ok (.goto (-68), 3) := by decide +kernel
theorem dX9_bestHoist_93 : decode cX9_bestHoist 93 = .ok (.iload_n 3, 1) := by decide +kernel
theorem dX9_bestHoist_94 : decode cX9_bestHoist 94 = .ok (.ireturn, 1) := by decide +kernel
theorem dX9_errorBred_0 : decode cX9_errorBred 0 = .ok (.aload_n 0, 1) := by decide +kernel
theorem dX9_errorBred_1 : decode cX9_errorBred 1 = .ok (.iload_n 1, 1) := by decide +kernel
theorem dX9_errorBred_2 : decode cX9_errorBred 2 = .ok (.invokevirtual 223, 3) := by decide +kernel
theorem dX9_errorBred_5 : decode cX9_errorBred 5 = .ok (.aload_n 0, 1) := by decide +kernel
theorem dX9_errorBred_6 : decode cX9_errorBred 6 = .ok (.getfield 58, 3) := by decide +kernel
theorem dX9_errorBred_9 : decode cX9_errorBred 9 = .ok (.aload_n 0, 1) := by decide +kernel
theorem dX9_errorBred_10 : decode cX9_errorBred 10 = .ok (.getfield 54, 3) := by decide +kernel
theorem dX9_errorBred_13 : decode cX9_errorBred 13 = .ok (.invokevirtual 286, 3) := by decide +kernel
theorem dX9_errorBred_16 : decode cX9_errorBred 16 = .ok (.aload_n 0, 1) := by decide +kernel
theorem dX9_errorBred_17 : decode cX9_errorBred 17 = .ok (.getfield 33, 3) := by decide +kernel
theorem dX9_errorBred_20 : decode cX9_errorBred 20 = .ok (.iload_n 1, 1) := by decide +kernel
theorem dX9_errorBred_21 : decode cX9_errorBred 21 = .ok (.aload_n 0, 1) := by decide +kernel
theorem dX9_errorBred_22 : decode cX9_errorBred 22 = .ok (.getfield 58, 3) := by decide +kernel
theorem dX9_errorBred_25 : decode cX9_errorBred 25 = .ok (.aload_n 0, 1) := by decide +kernel
theorem dX9_errorBred_26 : decode cX9_errorBred 26 = .ok (.getfield 19, 3) := by decide +kernel
theorem dX9_errorBred_29 : decode cX9_errorBred 29 = .ok (.invokevirtual 226, 3) := by decide +kernel
theorem dX9_errorBred_32 : decode cX9_errorBred 32 = .ok (.ireturn, 1) := by decide +kernel
theorem dX9_digest_0 : decode cX9_digest 0 = .ok (.ldc2_w 289, 3) := by decide +kernel
theorem dX9_digest_3 : decode cX9_digest 3 = .ok (.lstore_n 1, 1) := by decide +kernel
theorem dX9_digest_4 : decode cX9_digest 4 = .ok (.lload_n 1, 1) := by decide +kernel
theorem dX9_digest_5 : decode cX9_digest 5 = .ok (.ldc2_w 291, 3) := by decide +kernel
theorem dX9_digest_8 : decode cX9_digest 8 = .ok (.lmul, 1) := by decide +kernel
theorem dX9_digest_9 : decode cX9_digest 9 = .ok (.aload_n 0, 1) := by decide +kernel
theorem dX9_digest_10 : decode cX9_digest 10 = .ok (.getfield 10, 3) := by decide +kernel
theorem dX9_digest_13 : decode cX9_digest 13 = .ok (.getfield 90, 3) := by decide +kernel
theorem dX9_digest_16 : decode cX9_digest 16 = .ok (.getfield 93, 3) := by decide +kernel
theorem dX9_digest_19 : decode cX9_digest 19 = .ok (.i2l, 1) := by decide +kernel
theorem dX9_digest_20 : decode cX9_digest 20 = .ok (.ladd, 1) := by decide +kernel
theorem dX9_digest_21 : decode cX9_digest 21 = .ok (.lstore_n 1, 1) := by decide +kernel
theorem dX9_digest_22 : decode cX9_digest 22 = .ok (.lload_n 1, 1) := by decide +kernel
theorem dX9_digest_23 : decode cX9_digest 23 = .ok (.ldc2_w 291, 3) := by decide +kernel
theorem dX9_digest_26 : decode cX9_digest 26 = .ok (.lmul, 1) := by decide +kernel
theorem dX9_digest_27 : decode cX9_digest 27 = .ok (.aload_n 0, 1) := by decide +kernel
theorem dX9_digest_28 : decode cX9_digest 28 = .ok (.getfield 54, 3) := by decide +kernel
theorem dX9_digest_31 : decode cX9_digest 31 = .ok (.getfield 99, 3) := by decide +kernel
theorem dX9_digest_34 : decode cX9_digest 34 = .ok (.i2l, 1) := by decide +kernel
theorem dX9_digest_35 : decode cX9_digest 35 = .ok (.ladd, 1) := by decide +kernel
theorem dX9_digest_36 : decode cX9_digest 36 = .ok (.lstore_n 1, 1) := by decide +kernel
theorem dX9_digest_37 : decode cX9_digest 37 = .ok (.lload_n 1, 1) := by decide +kernel
theorem dX9_digest_38 : decode cX9_digest 38 = .ok (.ldc2_w 291, 3) := by decide +kernel
theorem dX9_digest_41 : decode cX9_digest 41 = .ok (.lmul, 1) := by decide +kernel
theorem dX9_digest_42 : decode cX9_digest 42 = .ok (.aload_n 0, 1) := by decide +kernel
theorem dX9_digest_43 : decode cX9_digest 43 = .ok (.getfield 19, 3) := by decide +kernel
theorem dX9_digest_46 : decode cX9_digest 46 = .ok (.getfield 125, 3) := by decide +kernel
theorem dX9_digest_49 : decode cX9_digest 49 = .ok (.i2l, 1) := by decide +kernel
theorem dX9_digest_50 : decode cX9_digest 50 = .ok (.ladd, 1) := by decide +kernel
theorem dX9_digest_51 : decode cX9_digest 51 = .ok (.lstore_n 1, 1) := by decide +kernel
theorem dX9_digest_52 : decode cX9_digest 52 = .ok (.lload_n 1, 1) := by decide +kernel
theorem dX9_digest_53 : decode cX9_digest 53 = .ok (.ldc2_w 291, 3) := by decide +kernel
theorem dX9_digest_56 : decode cX9_digest 56 = .ok (.lmul, 1) := by decide +kernel
theorem dX9_digest_57 : decode cX9_digest 57 = .ok (.aload_n 0, 1) := by decide +kernel
theorem dX9_digest_58 : decode cX9_digest 58 = .ok (.getfield 54, 3) := by decide +kernel
theorem dX9_digest_61 : decode cX9_digest 61 = .ok (.getfield 280, 3) := by decide +kernel
theorem dX9_digest_64 : decode cX9_digest 64 = .ok (.i2l, 1) := by decide +kernel
theorem dX9_digest_65 : decode cX9_digest 65 = .ok (.ladd, 1) := by decide +kernel
theorem dX9_digest_66 : decode cX9_digest 66 = .ok (.lstore_n 1, 1) := by decide +kernel
theorem dX9_digest_67 : decode cX9_digest 67 = .ok (.lload_n 1, 1) := by decide +kernel
theorem dX9_digest_68 : decode cX9_digest 68 = .ok (.ldc2_w 291, 3) := by decide +kernel
theorem dX9_digest_71 : decode cX9_digest 71 = .ok (.lmul, 1) := by decide +kernel
theorem dX9_digest_72 : decode cX9_digest 72 = .ok (.aload_n 0, 1) := by decide +kernel
theorem dX9_digest_73 : decode cX9_digest 73 = .ok (.getfield 54, 3) := by decide +kernel
theorem dX9_digest_76 : decode cX9_digest 76 = .ok (.getfield 283, 3) := by decide +kernel
theorem dX9_digest_79 : decode cX9_digest 79 = .ok (.i2l, 1) := by decide +kernel
theorem dX9_digest_80 : decode cX9_digest 80 = .ok (.ladd, 1) := by decide +kernel
theorem dX9_digest_81 : decode cX9_digest 81 = .ok (.lstore_n 1, 1) := by decide +kernel
theorem dX9_digest_82 : decode cX9_digest 82 = .ok (.lload_n 1, 1) := by decide +kernel
theorem dX9_digest_83 : decode cX9_digest 83 = .ok (.ldc2_w 291, 3) := by decide +kernel
theorem dX9_digest_86 : decode cX9_digest 86 = .ok (.lmul, 1) := by decide +kernel
theorem dX9_digest_87 : decode cX9_digest 87 = .ok (.aload_n 0, 1) := by decide +kernel
theorem dX9_digest_88 : decode cX9_digest 88 = .ok (.getfield 54, 3) := by decide +kernel
theorem dX9_digest_91 : decode cX9_digest 91 = .ok (.getfield 205, 3) := by decide +kernel
theorem dX9_digest_94 : decode cX9_digest 94 = .ok (.getfield 209, 3) := by decide +kernel
theorem dX9_digest_97 : decode cX9_digest 97 = .ok (.i2l, 1) := by decide +kernel
theorem dX9_digest_98 : decode cX9_digest 98 = .ok (.ladd, 1) := by decide +kernel
theorem dX9_digest_99 : decode cX9_digest 99 = .ok (.lstore_n 1, 1) := by decide +kernel
theorem dX9_digest_100 : decode cX9_digest 100 = .ok (.lload_n 1, 1) := by decide +kernel
theorem dX9_digest_101 : decode cX9_digest 101 = .ok (.ldc2_w 291, 3) := by decide +kernel
theorem dX9_digest_104 : decode cX9_digest 104 = .ok (.lmul, 1) := by decide +kernel
theorem dX9_digest_105 : decode cX9_digest 105 = .ok (.aload_n 0, 1) := by decide +kernel
theorem dX9_digest_106 : decode cX9_digest 106 = .ok (.getfield 54, 3) := by decide +kernel
theorem dX9_digest_109 : decode cX9_digest 109 = .ok (.getfield 205, 3) := by decide +kernel
theorem dX9_digest_112 : decode cX9_digest 112 = .ok (.getfield 216, 3) := by decide +kernel
theorem dX9_digest_115 : decode cX9_digest 115 = .ok (.i2l, 1) := by decide +kernel
theorem dX9_digest_116 : decode cX9_digest 116 = .ok (.ladd, 1) := by decide +kernel
theorem dX9_digest_117 : decode cX9_digest 117 = .ok (.lstore_n 1, 1) := by decide +kernel
theorem dX9_digest_118 : decode cX9_digest 118 = .ok (.lload_n 1, 1) := by decide +kernel
theorem dX9_digest_119 : decode cX9_digest 119 = .ok (.ldc2_w 291, 3) := by decide +kernel
theorem dX9_digest_122 : decode cX9_digest 122 = .ok (.lmul, 1) := by decide +kernel
theorem dX9_digest_123 : decode cX9_digest 123 = .ok (.aload_n 0, 1) := by decide +kernel
theorem dX9_digest_124 : decode cX9_digest 124 = .ok (.invokevirtual 293, 3) := by decide +kernel
theorem dX9_digest_127 : decode cX9_digest 127 = .ok (.i2l, 1) := by decide +kernel
theorem dX9_digest_128 : decode cX9_digest 128 = .ok (.ladd, 1) := by decide +kernel
theorem dX9_digest_129 : decode cX9_digest 129 = .ok (.lstore_n 1, 1) := by decide +kernel
