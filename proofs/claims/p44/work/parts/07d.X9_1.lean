theorem dX9_merit_9 : decode cX9_merit 9 = .ok (.invokevirtual 252, 3) := by decide +kernel
theorem dX9_merit_12 : decode cX9_merit 12 = .ok (.ireturn, 1) := by decide +kernel
theorem dX9_ranked_0 : decode cX9_ranked 0 = .ok (.iload_n 1, 1) := by decide +kernel
theorem dX9_ranked_1 : decode cX9_ranked 1 = .ok (.ifCond .lt 14, 3) := by decide +kernel
theorem dX9_ranked_4 : decode cX9_ranked 4 = .ok (.iload_n 1, 1) := by decide +kernel
theorem dX9_ranked_5 : decode cX9_ranked 5 = .ok (.aload_n 0, 1) := by decide +kernel
theorem dX9_ranked_6 : decode cX9_ranked 6 = .ok (.getfield 54, 3) := by decide +kernel
theorem dX9_ranked_9 : decode cX9_ranked 9 = .ok (.getfield 99, 3) := by decide +kernel
theorem dX9_ranked_12 : decode cX9_ranked 12 = .ok (.if_icmp .lt 14, 3) := by decide +kernel
theorem dX9_ranked_15 : decode cX9_ranked 15 = .ok (.new 259, 3) := by decide +kernel
theorem dX9_ranked_18 : decode cX9_ranked 18 = .ok (.dup, 1) := by decide +kernel
theorem dX9_ranked_19 : decode cX9_ranked 19 = .ok (.ldc_w 261, 3) := by decide +kernel
theorem dX9_ranked_22 : decode cX9_ranked 22 = .ok (.invokespecial 263, 3) := by decide +kernel
theorem dX9_ranked_25 : decode cX9_ranked 25 = .ok (.athrow, 1) := by decide +kernel
theorem dX9_ranked_26 : decode cX9_ranked 26 = .ok (.aload_n 0, 1) := by decide +kernel
theorem dX9_ranked_27 : decode cX9_ranked 27 = .ok (.getfield 26, 3) := by decide +kernel
theorem dX9_ranked_30 : decode cX9_ranked 30 = .ok (.aload_n 0, 1) := by decide +kernel
theorem dX9_ranked_31 : decode cX9_ranked 31 = .ok (.getfield 54, 3) := by decide +kernel
theorem dX9_ranked_34 : decode cX9_ranked 34 = .ok (.aload_n 0, 1) := by decide +kernel
theorem dX9_ranked_35 : decode cX9_ranked 35 = .ok (.getfield 19, 3) := by decide +kernel
theorem dX9_ranked_38 : decode cX9_ranked 38 = .ok (.invokevirtual 264, 3) := by decide +kernel
theorem dX9_ranked_41 : decode cX9_ranked 41 = .ok (.aload_n 0, 1) := by decide +kernel
theorem dX9_ranked_42 : decode cX9_ranked 42 = .ok (.getfield 26, 3) := by decide +kernel
theorem dX9_ranked_45 : decode cX9_ranked 45 = .ok (.iload_n 1, 1) := by decide +kernel
theorem dX9_ranked_46 : decode cX9_ranked 46 = .ok (.invokevirtual 268, 3) := by decide +kernel
theorem dX9_ranked_49 : decode cX9_ranked 49 = .ok (.ireturn, 1) := by decide +kernel
theorem dX9_different_0 : decode cX9_different 0 = .ok (.iconst 0, 1) := by decide +kernel
theorem dX9_different_1 : decode cX9_different 1 = .ok (.istore_n 1, 1) := by decide +kernel
theorem dX9_different_2 : decode cX9_different 2 = .ok (.iconst 0, 1) := by decide +kernel
theorem dX9_different_3 : decode cX9_different 3 = .ok (.istore_n 2, 1) := by decide +kernel
theorem dX9_different_4 : decode cX9_different 4 = .ok (.iload_n 2, 1) := by decide +kernel
theorem dX9_different_5 : decode cX9_different 5 = .ok (.aload_n 0, 1) := by decide +kernel
theorem dX9_different_6 : decode cX9_different 6 = .ok (.getfield 54, 3) := by decide +kernel
theorem dX9_different_9 : decode cX9_different 9 = .ok (.getfield 99, 3) := by decide +kernel
theorem dX9_different_12 : decode cX9_different 12 = .ok (.if_icmp .ge 23, 3) := by decide +kernel
theorem dX9_different_15 : decode cX9_different 15 = .ok (.aload_n 0, 1) := by decide +kernel
theorem dX9_different_16 : decode cX9_different 16 = .ok (.getfield 54, 3) := by decide +kernel
theorem dX9_different_19 : decode cX9_different 19 = .ok (.iload_n 2, 1) := by decide +kernel
theorem dX9_different_20 : decode cX9_different 20 = .ok (.invokevirtual 271, 3) := by decide +kernel
theorem dX9_different_23 : decode cX9_different 23 = .ok (.ifCond .ne 6, 3) := by decide +kernel
theorem dX9_different_26 : decode cX9_different 26 = .ok (.iinc 1 1, 3) := by decide +kernel
theorem dX9_different_29 : decode cX9_different 29 = .ok (.iinc 2 1, 3) := by decide +kernel
theorem dX9_different_32 : decode cX9_different 32 = .ok (.goto (-28), 3) := by decide +kernel
theorem dX9_different_35 : decode cX9_different 35 = .ok (.iload_n 1, 1) := by decide +kernel
theorem dX9_different_36 : decode cX9_different 36 = .ok (.ireturn, 1) := by decide +kernel
theorem dX9_alike_0 : decode cX9_alike 0 = .ok (.aload_n 0, 1) := by decide +kernel
theorem dX9_alike_1 : decode cX9_alike 1 = .ok (.iload_n 1, 1) := by decide +kernel
theorem dX9_alike_2 : decode cX9_alike 2 = .ok (.invokevirtual 108, 3) := by decide +kernel
theorem dX9_alike_5 : decode cX9_alike 5 = .ok (.aload_n 0, 1) := by decide +kernel
theorem dX9_alike_6 : decode cX9_alike 6 = .ok (.iload_n 2, 1) := by decide +kernel
theorem dX9_alike_7 : decode cX9_alike 7 = .ok (.invokevirtual 108, 3) := by decide +kernel
theorem dX9_alike_10 : decode cX9_alike 10 = .ok (.invokevirtual 274, 3) := by decide +kernel
theorem dX9_alike_13 : decode cX9_alike 13 = .ok (.ireturn, 1) := by decide +kernel
theorem dX9_errorCrossed_0 : decode cX9_errorCrossed 0 = .ok (.aload_n 0, 1) := by decide +kernel
theorem dX9_errorCrossed_1 : decode cX9_errorCrossed 1 = .ok (.iload_n 1, 1) := by decide +kernel
theorem dX9_errorCrossed_2 : decode cX9_errorCrossed 2 = .ok (.iload_n 2, 1) := by decide +kernel
theorem dX9_errorCrossed_3 : decode cX9_errorCrossed 3 = .ok (.invokevirtual 141, 3) := by decide +kernel
theorem dX9_errorCrossed_6 : decode cX9_errorCrossed 6 = .ok (.astore 5, 2) := by decide +kernel
theorem dX9_errorCrossed_8 : decode cX9_errorCrossed 8 = .ok (.aload_n 0, 1) := by decide +kernel
theorem dX9_errorCrossed_9 : decode cX9_errorCrossed 9 = .ok (.iload_n 3, 1) := by decide +kernel
theorem dX9_errorCrossed_10 : decode cX9_errorCrossed 10 = .ok (.iload 4, 2) := by decide +kernel
theorem dX9_errorCrossed_12 : decode cX9_errorCrossed 12 = .ok (.invokevirtual 141, 3) := by decide +kernel
theorem dX9_errorCrossed_15 : decode cX9_errorCrossed 15 = .ok (.astore 6, 2) := by decide +kernel
theorem dX9_errorCrossed_17 : decode cX9_errorCrossed 17 = .ok (.aload_n 0, 1) := by decide +kernel
theorem dX9_errorCrossed_18 : decode cX9_errorCrossed 18 = .ok (.getfield 64, 3) := by decide +kernel
theorem dX9_errorCrossed_21 : decode cX9_errorCrossed 21 = .ok (.aload 5, 2) := by decide +kernel
theorem dX9_errorCrossed_23 : decode cX9_errorCrossed 23 = .ok (.iload_n 2, 1) := by decide +kernel
theorem dX9_errorCrossed_24 : decode cX9_errorCrossed 24 = .ok (.aload 6, 2) := by decide +kernel
theorem dX9_errorCrossed_26 : decode cX9_errorCrossed 26 = .ok (.iload 4, 2) := by decide +kernel
theorem dX9_errorCrossed_28 : decode cX9_errorCrossed 28 = .ok (.invokevirtual 145, 3) := by decide +kernel
theorem dX9_errorCrossed_31 : decode cX9_errorCrossed 31 = .ok (.ifCond .ne 5, 3) := by decide +kernel
theorem dX9_errorCrossed_34 : decode cX9_errorCrossed 34 = .ok (.iconst (-1), 1) := by decide +kernel
theorem dX9_errorCrossed_35 : decode cX9_errorCrossed 35 = .ok (.ireturn, 1) := by decide +kernel
theorem dX9_errorCrossed_36 : decode cX9_errorCrossed 36 = .ok (.aload_n 0, 1) := by decide +kernel
theorem dX9_errorCrossed_37 : decode cX9_errorCrossed 37 = .ok (.getfield 19, 3) := by decide +kernel
theorem dX9_errorCrossed_40 : decode cX9_errorCrossed 40 = .ok (.aload_n 0, 1) := by decide +kernel
theorem dX9_errorCrossed_41 : decode cX9_errorCrossed 41 = .ok (.getfield 64, 3) := by decide +kernel
theorem dX9_errorCrossed_44 : decode cX9_errorCrossed 44 = .ok (.iconst 0, 1) := by decide +kernel
theorem dX9_errorCrossed_45 : decode cX9_errorCrossed 45 = .ok (.invokevirtual 249, 3) := by decide +kernel
theorem dX9_errorCrossed_48 : decode cX9_errorCrossed 48 = .ok (.ireturn, 1) := by decide +kernel
theorem dX9_bestHoist_0 : decode cX9_bestHoist 0 = .ok (.aload_n 0, 1) := by decide +kernel
theorem dX9_bestHoist_1 : decode cX9_bestHoist 1 = .ok (.iload_n 1, 1) := by decide +kernel
theorem dX9_bestHoist_2 : decode cX9_bestHoist 2 = .ok (.invokevirtual 108, 3) := by decide +kernel
theorem dX9_bestHoist_5 : decode cX9_bestHoist 5 = .ok (.astore_n 2, 1) := by decide +kernel
theorem dX9_bestHoist_6 : decode cX9_bestHoist 6 = .ok (.iconst 0, 1) := by decide +kernel
theorem dX9_bestHoist_7 : decode cX9_bestHoist 7 = .ok (.istore_n 3, 1) := by decide +kernel
theorem dX9_bestHoist_8 : decode cX9_bestHoist 8 = .ok (.aload_n 0, 1) := by decide +kernel
theorem dX9_bestHoist_9 : decode cX9_bestHoist 9 = .ok (.getfield 19, 3) := by decide +kernel
theorem dX9_bestHoist_12 : decode cX9_bestHoist 12 = .ok (.aload_n 2, 1) := by decide +kernel
theorem dX9_bestHoist_13 : decode cX9_bestHoist 13 = .ok (.iconst 0, 1) := by decide +kernel
theorem dX9_bestHoist_14 : decode cX9_bestHoist 14 = .ok (.invokevirtual 249, 3) := by decide +kernel
theorem dX9_bestHoist_17 : decode cX9_bestHoist 17 = .ok (.istore 4, 2) := by decide +kernel
theorem dX9_bestHoist_19 : decode cX9_bestHoist 19 = .ok (.iconst 1, 1) := by decide +kernel
theorem dX9_bestHoist_20 : decode cX9_bestHoist 20 = .ok (.istore 5, 2) := by decide +kernel
theorem dX9_bestHoist_22 : decode cX9_bestHoist 22 = .ok (.iload 5, 2) := by decide +kernel
theorem dX9_bestHoist_24 : decode cX9_bestHoist 24 = .ok (.aload_n 2, 1) := by decide +kernel
theorem dX9_bestHoist_25 : decode cX9_bestHoist 25 = .ok (.getfield 93, 3) := by decide +kernel
theorem dX9_bestHoist_28 : decode cX9_bestHoist 28 = .ok (.if_icmp .ge 65, 3) := by decide +kernel
theorem dX9_bestHoist_31 : decode cX9_bestHoist 31 = .ok (.aload_n 2, 1) := by decide +kernel
theorem dX9_bestHoist_32 : decode cX9_bestHoist 32 = .ok (.iload 5, 2) := by decide +kernel
theorem dX9_bestHoist_34 : decode cX9_bestHoist 34 = .ok (.invokevirtual 152, 3) := by decide +kernel
theorem dX9_bestHoist_37 : decode cX9_bestHoist 37 = .ok (.ifCond .eq 50, 3) := by decide +kernel
theorem dX9_bestHoist_40 : decode cX9_bestHoist 40 = .ok (.aload_n 0, 1) := by decide +kernel
theorem dX9_bestHoist_41 : decode cX9_bestHoist 41 = .ok (.getfield 19, 3) := by decide +kernel
theorem dX9_bestHoist_44 : decode cX9_bestHoist 44 = .ok (.aload_n 2, 1) := by decide +kernel
theorem dX9_bestHoist_45 : decode cX9_bestHoist 45 = .ok (.iload 5, 2) := by decide +kernel
theorem dX9_bestHoist_47 : decode cX9_bestHoist 47 = .ok (.invokevirtual 249, 3) := by decide +kernel
theorem dX9_bestHoist_50 : decode cX9_bestHoist 50 = .ok (.istore 6, 2) := by decide +kernel
theorem dX9_bestHoist_52 : decode cX9_bestHoist 52 = .ok (.iload 6, 2) := by decide +kernel
theorem dX9_bestHoist_54 : decode cX9_bestHoist 54 = .ok (.iload 4, 2) := by decide +kernel
theorem dX9_bestHoist_56 : decode cX9_bestHoist 56 = .ok (.if_icmp .lt 24, 3) := by decide +kernel
theorem dX9_bestHoist_59 : decode cX9_bestHoist 59 = .ok (.iload 6, 2) := by decide +kernel
theorem dX9_bestHoist_61 : decode cX9_bestHoist 61 = .ok (.iload 4, 2) := by decide +kernel
theorem dX9_bestHoist_63 : decode cX9_bestHoist 63 = .ok (.if_icmp .ne 24, 3) := by decide +kernel
theorem dX9_bestHoist_66 : decode cX9_bestHoist 66 = .ok (.aload_n 2, 1) := by decide +kernel
theorem dX9_bestHoist_67 : decode cX9_bestHoist 67 = .ok (.iload 5, 2) := by decide +kernel
theorem dX9_bestHoist_69 : decode cX9_bestHoist 69 = .ok (.invokevirtual 236, 3) := by decide +kernel
theorem dX9_bestHoist_72 : decode cX9_bestHoist 72 = .ok (.aload_n 2, 1) := by decide +kernel
theorem dX9_bestHoist_73 : decode cX9_bestHoist 73 = .ok (.iload_n 3, 1) := by decide +kernel
theorem dX9_bestHoist_74 : decode cX9_bestHoist 74 = .ok (.invokevirtual 236, 3) := by decide +kernel
theorem dX9_bestHoist_77 : decode cX9_bestHoist 77 = .ok (.if_icmp .ge 10, 3) := by decide +kernel
theorem dX9_bestHoist_80 : decode cX9_bestHoist 80 = .ok (.iload 5, 2) := by decide +kernel
theorem dX9_bestHoist_82 : decode cX9_bestHoist 82 = .ok (.istore_n 3, 1) := by decide +kernel
theorem dX9_bestHoist_83 : decode cX9_bestHoist 83 = .ok (.iload 6, 2) := by decide +kernel
theorem dX9_bestHoist_85 : decode cX9_bestHoist 85 = .ok (.istore 4, 2) := by decide +kernel
theorem dX9_bestHoist_87 : decode cX9_bestHoist 87 = .ok (.iinc 5 1, 3) := by decide +kernel
theorem dX9_bestHoist_90 : decode cX9_bestHoist 90 = .ok (.goto (-68), 3) := by decide +kernel
theorem dX9_bestHoist_93 : decode cX9_bestHoist 93 = .ok (.iload_n 3, 1) := by decide +kernel
theorem dX9_bestHoist_94 : decode cX9_bestHoist 94 = .ok (.ireturn, 1) := by decide +kernel
theorem dX9_errorBred_0 : decode cX9_errorBred 0 = .ok (.aload_n 0, 1) := by decide +kernel
theorem dX9_errorBred_1 : decode cX9_errorBred 1 = .ok (.iload_n 1, 1) := by decide +kernel
theorem dX9_errorBred_2 : decode cX9_errorBred 2 = .ok (.invokevirtual 223, 3) := by decide +kernel
theorem dX9_errorBred_5 : decode cX9_errorBred 5 = .ok (.aload_n 0, 1) := by decide +kernel
theorem dX9_errorBred_6 : decode cX9_errorBred 6 = .ok (.getfield 58, 3) := by decide +kernel
theorem dX9_errorBred_9 : decode cX9_errorBred 9 = .ok (.aload_n 0, 1) := by decide +kernel
theorem dX9_errorBred_10 : decode cX9_errorBred 10 = .ok (.getfield 54, 3) := by decide +kernel
theorem dX9_errorBred_13 : decode cX9_errorBred 13 = .ok (.invokevirtual 286, 3) := by decide +kernel
theorem dX9_errorBred_16 : decode cX9_errorBred 16 = .ok (.aload_n 0, 1) := by decide +kernel
theorem dX9_errorBred_17 : decode cX9_errorBred 17 = .ok (.getfield 33, 3) := by decide +kernel
theorem dX9_errorBred_20 : decode cX9_errorBred 20 = .ok (.iload_n 1, 1) := by decide +kernel
theorem dX9_errorBred_21 : decode cX9_errorBred 21 = .ok (.aload_n 0, 1) := by decide +kernel
theorem dX9_errorBred_22 : decode cX9_errorBred 22 = .ok (.getfield 58, 3) := by decide +kernel
theorem dX9_errorBred_25 : decode cX9_errorBred 25 = .ok (.aload_n 0, 1) := by decide +kernel
theorem dX9_errorBred_26 : decode cX9_errorBred 26 = .ok (.getfield 19, 3) := by decide +kernel
theorem dX9_errorBred_29 : decode cX9_errorBred 29 = .ok (.invokevirtual 226, 3) := by decide +kernel
theorem dX9_errorBred_32 : decode cX9_errorBred 32 = .ok (.ireturn, 1) := by decide +kernel
theorem dX9_digest_0 : decode cX9_digest 0 = .ok (.ldc2_w 289, 3) := by decide +kernel
theorem dX9_digest_3 : decode cX9_digest 3 = .ok (.lstore_n 1, 1) := by decide +kernel
theorem dX9_digest_4 : decode cX9_digest 4 = .ok (.lload_n 1, 1) := by decide +kernel
theorem dX9_digest_5 : decode cX9_digest 5 = .ok (.ldc2_w 291, 3) := by decide +kernel
theorem dX9_digest_8 : decode cX9_digest 8 = .ok (.lmul, 1) := by decide +kernel
theorem dX9_digest_9 : decode cX9_digest 9 = .ok (.aload_n 0, 1) := by decide +kernel
theorem dX9_digest_10 : decode cX9_digest 10 = .ok (.getfield 10, 3) := by decide +kernel
theorem dX9_digest_13 : decode cX9_digest 13 = .ok (.getfield 90, 3) := by decide +kernel
theorem dX9_digest_16 : decode cX9_digest 16 = .ok (.getfield 93, 3) := by decide +kernel
theorem dX9_digest_19 : decode cX9_digest 19 = .ok (.i2l, 1) := by decide +kernel
theorem dX9_digest_20 : decode cX9_digest 20 = .ok (.ladd, 1) := by decide +kernel
theorem dX9_digest_21 : decode cX9_digest 21 = .ok (.lstore_n 1, 1) := by decide +kernel
theorem dX9_digest_22 : decode cX9_digest 22 = .ok (.lload_n 1, 1) := by decide +kernel
theorem dX9_digest_23 : decode cX9_digest 23 = .ok (.ldc2_w 291, 3) := by decide +kernel
theorem dX9_digest_26 : decode cX9_digest 26 = .ok (.lmul, 1) := by decide +kernel
theorem dX9_digest_27 : decode cX9_digest 27 = .ok (.aload_n 0, 1) := by decide +kernel
theorem dX9_digest_28 : decode cX9_digest 28 = .ok (.getfield 54, 3) := by decide +kernel
theorem dX9_digest_31 : decode cX9_digest 31 = .ok (.getfield 99, 3) := by decide +kernel
theorem dX9_digest_34 : decode cX9_digest 34 = .ok (.i2l, 1) := by decide +kernel
theorem dX9_digest_35 : decode cX9_digest 35 = .ok (.ladd, 1) := by decide +kernel
theorem dX9_digest_36 : decode cX9_digest 36 = .ok (.lstore_n 1, 1) := by decide +kernel
theorem dX9_digest_37 : decode cX9_digest 37 = .ok (.lload_n 1, 1) := by decide +kernel
theorem dX9_digest_38 : decode cX9_digest 38 = .ok (.ldc2_w 291, 3) := by decide +kernel
theorem dX9_digest_41 : decode cX9_digest 41 = .ok (.lmul, 1) := by decide +kernel
theorem dX9_digest_42 : decode cX9_digest 42 = .ok (.aload_n 0, 1) := by decide +kernel
theorem dX9_digest_43 : decode cX9_digest 43 = .ok (.getfield 19, 3) := by decide +kernel
theorem dX9_digest_46 : decode cX9_digest 46 = .ok (.getfield 125, 3) := by decide +kernel
theorem dX9_digest_49 : decode cX9_digest 49 = .ok (.i2l, 1) := by decide +kernel
theorem dX9_digest_50 : decode cX9_digest 50 = .ok (.ladd, 1) := by decide +kernel
theorem dX9_digest_51 : decode cX9_digest 51 = .ok (.lstore_n 1, 1) := by decide +kernel
theorem dX9_digest_52 : decode cX9_digest 52 = .ok (.lload_n 1, 1) := by decide +kernel
theorem dX9_digest_53 : decode cX9_digest 53 = .ok (.ldc2_w 291, 3) := by decide +kernel
theorem dX9_digest_56 : decode cX9_digest 56 = .ok (.lmul, 1) := by decide +kernel
theorem dX9_digest_57 : decode cX9_digest 57 = .ok (.aload_n 0, 1) := by decide +kernel
theorem dX9_digest_58 : decode cX9_digest 58 = .ok (.getfield 54, 3) := by decide +kernel
theorem dX9_digest_61 : decode cX9_digest 61 = .ok (.getfield 280, 3) := by decide +kernel
theorem dX9_digest_64 : decode cX9_digest 64 = .ok (.i2l, 1) := by decide +kernel
theorem dX9_digest_65 : decode cX9_digest 65 = .ok (.ladd, 1) := by decide +kernel
theorem dX9_digest_66 : decode cX9_digest 66 = .ok (.lstore_n 1, 1) := by decide +kernel
theorem dX9_digest_67 : decode cX9_digest 67 = .ok (.lload_n 1, 1) := by decide +kernel
theorem dX9_digest_68 : decode cX9_digest 68 = .ok (.ldc2_w 291, 3) := by decide +kernel
theorem dX9_digest_71 : decode cX9_digest 71 = .ok (.lmul, 1) := by decide +kernel
theorem dX9_digest_72 : decode cX9_digest 72 = .ok (.aload_n 0, 1) := by decide +kernel
theorem dX9_digest_73 : decode cX9_digest 73 = .ok (.getfield 54, 3) := by decide +kernel
theorem dX9_digest_76 : decode cX9_digest 76 = .ok (.getfield 283, 3) := by decide +kernel
theorem dX9_digest_79 : decode cX9_digest 79 = .ok (.i2l, 1) := by decide +kernel
theorem dX9_digest_80 : decode cX9_digest 80 = .ok (.ladd, 1) := by decide +kernel
theorem dX9_digest_81 : decode cX9_digest 81 = .ok (.lstore_n 1, 1) := by decide +kernel
theorem dX9_digest_82 : decode cX9_digest 82 = .ok (.lload_n 1, 1) := by decide +kernel
theorem dX9_digest_83 : decode cX9_digest 83 = .ok (.ldc2_w 291, 3) := by decide +kernel
theorem dX9_digest_86 : decode cX9_digest 86 = .ok (.lmul, 1) := by decide +kernel
theorem dX9_digest_87 : decode cX9_digest 87 = .ok (.aload_n 0, 1) := by decide +kernel
theorem dX9_digest_88 : decode cX9_digest 88 = .ok (.getfield 54, 3) := by decide +kernel
theorem dX9_digest_91 : decode cX9_digest 91 = .ok (.getfield 205, 3) := by decide +kernel
theorem dX9_digest_94 : decode cX9_digest 94 = .ok (.getfield 209, 3) := by decide +kernel
theorem dX9_digest_97 : decode cX9_digest 97 = .ok (.i2l, 1) := by decide +kernel
theorem dX9_digest_98 : decode cX9_digest 98 = .ok (.ladd, 1) := by decide +kernel
theorem dX9_digest_99 : decode cX9_digest 99 = .ok (.lstore_n 1, 1) := by decide +kernel
theorem dX9_digest_100 : decode cX9_digest 100 = .ok (.lload_n 1, 1) := by decide +kernel
theorem dX9_digest_101 : decode cX9_digest 101 = .ok (.ldc2_w 291, 3) := by decide +kernel
theorem dX9_digest_104 : decode cX9_digest 104 = .ok (.lmul, 1) := by decide +kernel
theorem dX9_digest_105 : decode cX9_digest 105 = .ok (.aload_n 0, 1) := by decide +kernel
theorem dX9_digest_106 : decode cX9_digest 106 = .ok (.getfield 54, 3) := by decide +kernel
theorem dX9_digest_109 : decode cX9_digest 109 = .ok (.getfield 205, 3) := by decide +kernel
theorem dX9_digest_112 : decode cX9_digest 112 = .ok (.getfield 216, 3) := by decide +kernel
theorem dX9_digest_115 : decode cX9_digest 115 = .ok (.i2l, 1) := by decide +kernel
theorem dX9_digest_116 : decode cX9_digest 116 = .ok (.ladd, 1) := by decide +kernel
theorem dX9_digest_117 : decode cX9_digest 117 = .ok (.lstore_n 1, 1) := by decide +kernel
theorem dX9_digest_118 : decode cX9_digest 118 = .ok (.lload_n 1, 1) := by decide +kernel
theorem dX9_digest_119 : decode cX9_digest 119 = .ok (.ldc2_w 291, 3) := by decide +kernel
theorem dX9_digest_122 : decode cX9_digest 122 = .ok (.lmul, 1) := by decide +kernel
theorem dX9_digest_123 : decode cX9_digest 123 = .ok (.aload_n 0, 1) := by decide +kernel
theorem dX9_digest_124 : decode cX9_digest 124 = .ok (.invokevirtual 293, 3) := by decide +kernel
theorem dX9_digest_127 : decode cX9_digest 127 = .ok (.i2l, 1) := by decide +kernel
theorem dX9_digest_128 : decode cX9_digest 128 = .ok (.ladd, 1) := by decide +kernel
theorem dX9_digest_129 : decode cX9_digest 129 = .ok (.lstore_n 1, 1) := by decide +kernel
theorem dX9_digest_130 : decode cX9_digest 130 = .ok (.iconst 0, 1) := by decide +kernel
theorem dX9_digest_131 : decode cX9_digest 131 = .ok (.istore_n 3, 1) := by decide +kernel
theorem dX9_digest_132 : decode cX9_digest 132 = .ok (.iload_n 3, 1) := by decide +kernel
theorem dX9_digest_133 : decode cX9_digest 133 = .ok (.aload_n 0, 1) := by decide +kernel
theorem dX9_digest_134 : decode cX9_digest 134 = .ok (.getfield 54, 3) := by decide +kernel
theorem dX9_digest_137 : decode cX9_digest 137 = .ok (.getfield 99, 3) := by decide +kernel
theorem dX9_digest_140 : decode cX9_digest 140 = .ok (.if_icmp .ge 23, 3) := by decide +kernel
theorem dX9_digest_143 : decode cX9_digest 143 = .ok (.aload_n 0, 1) := by decide +kernel
theorem dX9_digest_144 : decode cX9_digest 144 = .ok (.lload_n 1, 1) := by decide +kernel
theorem dX9_digest_145 : decode cX9_digest 145 = .ok (.aload_n 0, 1) := by decide +kernel
theorem dX9_digest_146 : decode cX9_digest 146 = .ok (.getfield 54, 3) := by decide +kernel
theorem dX9_digest_149 : decode cX9_digest 149 = .ok (.iload_n 3, 1) := by decide +kernel
theorem dX9_digest_150 : decode cX9_digest 150 = .ok (.invokevirtual 277, 3) := by decide +kernel
theorem dX9_digest_153 : decode cX9_digest 153 = .ok (.invokevirtual 297, 3) := by decide +kernel
theorem dX9_digest_156 : decode cX9_digest 156 = .ok (.lstore_n 1, 1) := by decide +kernel
theorem dX9_digest_157 : decode cX9_digest 157 = .ok (.iinc 3 1, 3) := by decide +kernel
theorem dX9_digest_160 : decode cX9_digest 160 = .ok (.goto (-28), 3) := by decide +kernel
theorem dX9_digest_163 : decode cX9_digest 163 = .ok (.aload_n 0, 1) := by decide +kernel
theorem dX9_digest_164 : decode cX9_digest 164 = .ok (.getfield 26, 3) := by decide +kernel
theorem dX9_digest_167 : decode cX9_digest 167 = .ok (.aload_n 0, 1) := by decide +kernel
theorem dX9_digest_168 : decode cX9_digest 168 = .ok (.getfield 54, 3) := by decide +kernel
theorem dX9_digest_171 : decode cX9_digest 171 = .ok (.aload_n 0, 1) := by decide +kernel
theorem dX9_digest_172 : decode cX9_digest 172 = .ok (.getfield 19, 3) := by decide +kernel
theorem dX9_digest_175 : decode cX9_digest 175 = .ok (.invokevirtual 264, 3) := by decide +kernel
theorem dX9_digest_178 : decode cX9_digest 178 = .ok (.iconst 0, 1) := by decide +kernel
theorem dX9_digest_179 : decode cX9_digest 179 = .ok (.istore_n 3, 1) := by decide +kernel
theorem dX9_digest_180 : decode cX9_digest 180 = .ok (.iload_n 3, 1) := by decide +kernel
theorem dX9_digest_181 : decode cX9_digest 181 = .ok (.aload_n 0, 1) := by decide +kernel
theorem dX9_digest_182 : decode cX9_digest 182 = .ok (.getfield 54, 3) := by decide +kernel
theorem dX9_digest_185 : decode cX9_digest 185 = .ok (.getfield 99, 3) := by decide +kernel
theorem dX9_digest_188 : decode cX9_digest 188 = .ok (.if_icmp .ge 25, 3) := by decide +kernel
theorem dX9_digest_191 : decode cX9_digest 191 = .ok (.lload_n 1, 1) := by decide +kernel
theorem dX9_digest_192 : decode cX9_digest 192 = .ok (.ldc2_w 291, 3) := by decide +kernel
theorem dX9_digest_195 : decode cX9_digest 195 = .ok (.lmul, 1) := by decide +kernel
theorem dX9_digest_196 : decode cX9_digest 196 = .ok (.aload_n 0, 1) := by decide +kernel
theorem dX9_digest_197 : decode cX9_digest 197 = .ok (.getfield 26, 3) := by decide +kernel
theorem dX9_digest_200 : decode cX9_digest 200 = .ok (.iload_n 3, 1) := by decide +kernel
theorem dX9_digest_201 : decode cX9_digest 201 = .ok (.invokevirtual 268, 3) := by decide +kernel
theorem dX9_digest_204 : decode cX9_digest 204 = .ok (.i2l, 1) := by decide +kernel
theorem dX9_digest_205 : decode cX9_digest 205 = .ok (.ladd, 1) := by decide +kernel
theorem dX9_digest_206 : decode cX9_digest 206 = .ok (.lstore_n 1, 1) := by decide +kernel
theorem dX9_digest_207 : decode cX9_digest 207 = .ok (.iinc 3 1, 3) := by decide +kernel
theorem dX9_digest_210 : decode cX9_digest 210 = .ok (.goto (-30), 3) := by decide +kernel
theorem dX9_digest_213 : decode cX9_digest 213 = .ok (.lload_n 1, 1) := by decide +kernel
theorem dX9_digest_214 : decode cX9_digest 214 = .ok (.lreturn, 1) := by decide +kernel
theorem dX9_digestWith_0 : decode cX9_digestWith 0 = .ok (.lload_n 1, 1) := by decide +kernel
theorem dX9_digestWith_1 : decode cX9_digestWith 1 = .ok (.lstore 4, 2) := by decide +kernel
theorem dX9_digestWith_3 : decode cX9_digestWith 3 = .ok (.lload 4, 2) := by decide +kernel
theorem dX9_digestWith_5 : decode cX9_digestWith 5 = .ok (.ldc2_w 291, 3) := by decide +kernel
theorem dX9_digestWith_8 : decode cX9_digestWith 8 = .ok (.lmul, 1) := by decide +kernel
theorem dX9_digestWith_9 : decode cX9_digestWith 9 = .ok (.aload_n 3, 1) := by decide +kernel
theorem dX9_digestWith_10 : decode cX9_digestWith 10 = .ok (.getfield 93, 3) := by decide +kernel
theorem dX9_digestWith_13 : decode cX9_digestWith 13 = .ok (.i2l, 1) := by decide +kernel
theorem dX9_digestWith_14 : decode cX9_digestWith 14 = .ok (.ladd, 1) := by decide +kernel
theorem dX9_digestWith_15 : decode cX9_digestWith 15 = .ok (.lstore 4, 2) := by decide +kernel
theorem dX9_digestWith_17 : decode cX9_digestWith 17 = .ok (.lload 4, 2) := by decide +kernel
theorem dX9_digestWith_19 : decode cX9_digestWith 19 = .ok (.ldc2_w 291, 3) := by decide +kernel
theorem dX9_digestWith_22 : decode cX9_digestWith 22 = .ok (.lmul, 1) := by decide +kernel
theorem dX9_digestWith_23 : decode cX9_digestWith 23 = .ok (.aload_n 3, 1) := by decide +kernel
theorem dX9_digestWith_24 : decode cX9_digestWith 24 = .ok (.getfield 230, 3) := by decide +kernel
theorem dX9_digestWith_27 : decode cX9_digestWith 27 = .ok (.i2l, 1) := by decide +kernel
theorem dX9_digestWith_28 : decode cX9_digestWith 28 = .ok (.ladd, 1) := by decide +kernel
theorem dX9_digestWith_29 : decode cX9_digestWith 29 = .ok (.lstore 4, 2) := by decide +kernel
theorem dX9_digestWith_31 : decode cX9_digestWith 31 = .ok (.lload 4, 2) := by decide +kernel
theorem dX9_digestWith_33 : decode cX9_digestWith 33 = .ok (.ldc2_w 291, 3) := by decide +kernel
theorem dX9_digestWith_36 : decode cX9_digestWith 36 = .ok (.lmul, 1) := by decide +kernel
theorem dX9_digestWith_37 : decode cX9_digestWith 37 = .ok (.aload_n 0, 1) := by decide +kernel
theorem dX9_digestWith_38 : decode cX9_digestWith 38 = .ok (.getfield 19, 3) := by decide +kernel
theorem dX9_digestWith_41 : decode cX9_digestWith 41 = .ok (.aload_n 3, 1) := by decide +kernel
theorem dX9_digestWith_42 : decode cX9_digestWith 42 = .ok (.iconst 0, 1) := by decide +kernel
theorem dX9_digestWith_43 : decode cX9_digestWith 43 = .ok (.invokevirtual 249, 3) := by decide +kernel
theorem dX9_digestWith_46 : decode cX9_digestWith 46 = .ok (.i2l, 1) := by decide +kernel
theorem dX9_digestWith_47 : decode cX9_digestWith 47 = .ok (.ladd, 1) := by decide +kernel
theorem dX9_digestWith_48 : decode cX9_digestWith 48 = .ok (.lstore 4, 2) := by decide +kernel
theorem dX9_digestWith_50 : decode cX9_digestWith 50 = .ok (.lload 4, 2) := by decide +kernel
theorem dX9_digestWith_52 : decode cX9_digestWith 52 = .ok (.ldc2_w 291, 3) := by decide +kernel
theorem dX9_digestWith_55 : decode cX9_digestWith 55 = .ok (.lmul, 1) := by decide +kernel
theorem dX9_digestWith_56 : decode cX9_digestWith 56 = .ok (.aload_n 0, 1) := by decide +kernel
theorem dX9_digestWith_57 : decode cX9_digestWith 57 = .ok (.getfield 19, 3) := by decide +kernel
theorem dX9_digestWith_60 : decode cX9_digestWith 60 = .ok (.aload_n 3, 1) := by decide +kernel
theorem dX9_digestWith_61 : decode cX9_digestWith 61 = .ok (.invokevirtual 252, 3) := by decide +kernel
theorem dX9_digestWith_64 : decode cX9_digestWith 64 = .ok (.i2l, 1) := by decide +kernel
theorem dX9_digestWith_65 : decode cX9_digestWith 65 = .ok (.ladd, 1) := by decide +kernel
theorem dX9_digestWith_66 : decode cX9_digestWith 66 = .ok (.lstore 4, 2) := by decide +kernel
theorem dX9_digestWith_68 : decode cX9_digestWith 68 = .ok (.lload 4, 2) := by decide +kernel
theorem dX9_digestWith_70 : decode cX9_digestWith 70 = .ok (.ldc2_w 291, 3) := by decide +kernel
theorem dX9_digestWith_73 : decode cX9_digestWith 73 = .ok (.lmul, 1) := by decide +kernel
theorem dX9_digestWith_74 : decode cX9_digestWith 74 = .ok (.aload_n 0, 1) := by decide +kernel
theorem dX9_digestWith_75 : decode cX9_digestWith 75 = .ok (.getfield 19, 3) := by decide +kernel
theorem dX9_digestWith_78 : decode cX9_digestWith 78 = .ok (.aload_n 3, 1) := by decide +kernel
theorem dX9_digestWith_79 : decode cX9_digestWith 79 = .ok (.invokevirtual 256, 3) := by decide +kernel
theorem dX9_digestWith_82 : decode cX9_digestWith 82 = .ok (.i2l, 1) := by decide +kernel
theorem dX9_digestWith_83 : decode cX9_digestWith 83 = .ok (.ladd, 1) := by decide +kernel
theorem dX9_digestWith_84 : decode cX9_digestWith 84 = .ok (.lstore 4, 2) := by decide +kernel
theorem dX9_digestWith_86 : decode cX9_digestWith 86 = .ok (.iconst 0, 1) := by decide +kernel
theorem dX9_digestWith_87 : decode cX9_digestWith 87 = .ok (.istore 6, 2) := by decide +kernel
theorem dX9_digestWith_89 : decode cX9_digestWith 89 = .ok (.iload 6, 2) := by decide +kernel
theorem dX9_digestWith_91 : decode cX9_digestWith 91 = .ok (.aload_n 3, 1) := by decide +kernel
theorem dX9_digestWith_92 : decode cX9_digestWith 92 = .ok (.getfield 93, 3) := by decide +kernel
theorem dX9_digestWith_95 : decode cX9_digestWith 95 = .ok (.if_icmp .ge 41, 3) := by decide +kernel
theorem dX9_digestWith_98 : decode cX9_digestWith 98 = .ok (.lload 4, 2) := by decide +kernel
theorem dX9_digestWith_100 : decode cX9_digestWith 100 = .ok (.ldc2_w 291, 3) := by decide +kernel
theorem dX9_digestWith_103 : decode cX9_digestWith 103 = .ok (.lmul, 1) := by decide +kernel
theorem dX9_digestWith_104 : decode cX9_digestWith 104 = .ok (.aload_n 3, 1) := by decide +kernel
theorem dX9_digestWith_105 : decode cX9_digestWith 105 = .ok (.iload 6, 2) := by decide +kernel
theorem dX9_digestWith_107 : decode cX9_digestWith 107 = .ok (.invokevirtual 158, 3) := by decide +kernel
theorem dX9_digestWith_110 : decode cX9_digestWith 110 = .ok (.i2l, 1) := by decide +kernel
theorem dX9_digestWith_111 : decode cX9_digestWith 111 = .ok (.ladd, 1) := by decide +kernel
theorem dX9_digestWith_112 : decode cX9_digestWith 112 = .ok (.lstore 4, 2) := by decide +kernel
theorem dX9_digestWith_114 : decode cX9_digestWith 114 = .ok (.lload 4, 2) := by decide +kernel
theorem dX9_digestWith_116 : decode cX9_digestWith 116 = .ok (.ldc2_w 291, 3) := by decide +kernel
theorem dX9_digestWith_119 : decode cX9_digestWith 119 = .ok (.lmul, 1) := by decide +kernel
theorem dX9_digestWith_120 : decode cX9_digestWith 120 = .ok (.aload_n 3, 1) := by decide +kernel
theorem dX9_digestWith_121 : decode cX9_digestWith 121 = .ok (.iload 6, 2) := by decide +kernel
theorem dX9_digestWith_123 : decode cX9_digestWith 123 = .ok (.invokevirtual 233, 3) := by decide +kernel
theorem dX9_digestWith_126 : decode cX9_digestWith 126 = .ok (.i2l, 1) := by decide +kernel
theorem dX9_digestWith_127 : decode cX9_digestWith 127 = .ok (.ladd, 1) := by decide +kernel
theorem dX9_digestWith_128 : decode cX9_digestWith 128 = .ok (.lstore 4, 2) := by decide +kernel
theorem dX9_digestWith_130 : decode cX9_digestWith 130 = .ok (.iinc 6 1, 3) := by decide +kernel
theorem dX9_digestWith_133 : decode cX9_digestWith 133 = .ok (.goto (-44), 3) := by decide +kernel
theorem dX9_digestWith_136 : decode cX9_digestWith 136 = .ok (.lload 4, 2) := by decide +kernel
theorem dX9_digestWith_138 : decode cX9_digestWith 138 = .ok (.lreturn, 1) := by decide +kernel
theorem dX9_requireTree_0 : decode cX9_requireTree 0 = .ok (.iload_n 1, 1) := by decide +kernel
theorem dX9_requireTree_1 : decode cX9_requireTree 1 = .ok (.ifCond .lt 14, 3) := by decide +kernel
theorem dX9_requireTree_4 : decode cX9_requireTree 4 = .ok (.iload_n 1, 1) := by decide +kernel
theorem dX9_requireTree_5 : decode cX9_requireTree 5 = .ok (.aload_n 0, 1) := by decide +kernel
theorem dX9_requireTree_6 : decode cX9_requireTree 6 = .ok (.getfield 54, 3) := by decide +kernel
theorem dX9_requireTree_9 : decode cX9_requireTree 9 = .ok (.getfield 99, 3) := by decide +kernel
theorem dX9_requireTree_12 : decode cX9_requireTree 12 = .ok (.if_icmp .lt 14, 3) := by decide +kernel
theorem dX9_requireTree_15 : decode cX9_requireTree 15 = .ok (.new 259, 3) := by decide +kernel
theorem dX9_requireTree_18 : decode cX9_requireTree 18 = .ok (.dup, 1) := by decide +kernel
theorem dX9_requireTree_19 : decode cX9_requireTree 19 = .ok (.ldc_w 301, 3) := by decide +kernel
theorem dX9_requireTree_22 : decode cX9_requireTree 22 = .ok (.invokespecial 263, 3) := by decide +kernel
theorem dX9_requireTree_25 : decode cX9_requireTree 25 = .ok (.athrow, 1) := by decide +kernel
theorem dX9_requireTree_26 : decode cX9_requireTree 26 = .ok (.aload_n 0, 1) := by decide +kernel
theorem dX9_requireTree_27 : decode cX9_requireTree 27 = .ok (.getfield 54, 3) := by decide +kernel
theorem dX9_requireTree_30 : decode cX9_requireTree 30 = .ok (.iload_n 1, 1) := by decide +kernel
theorem dX9_requireTree_31 : decode cX9_requireTree 31 = .ok (.invokevirtual 277, 3) := by decide +kernel
theorem dX9_requireTree_34 : decode cX9_requireTree 34 = .ok (.areturn, 1) := by decide +kernel
theorem dX9_requirePlace_0 : decode cX9_requirePlace 0 = .ok (.aload_n 0, 1) := by decide +kernel
theorem dX9_requirePlace_1 : decode cX9_requirePlace 1 = .ok (.iload_n 1, 1) := by decide +kernel
theorem dX9_requirePlace_2 : decode cX9_requirePlace 2 = .ok (.invokevirtual 108, 3) := by decide +kernel
theorem dX9_requirePlace_5 : decode cX9_requirePlace 5 = .ok (.astore_n 3, 1) := by decide +kernel
theorem dX9_requirePlace_6 : decode cX9_requirePlace 6 = .ok (.iload_n 2, 1) := by decide +kernel
theorem dX9_requirePlace_7 : decode cX9_requirePlace 7 = .ok (.ifCond .lt 11, 3) := by decide +kernel
theorem dX9_requirePlace_10 : decode cX9_requirePlace 10 = .ok (.iload_n 2, 1) := by decide +kernel
theorem dX9_requirePlace_11 : decode cX9_requirePlace 11 = .ok (.aload_n 3, 1) := by decide +kernel
theorem dX9_requirePlace_12 : decode cX9_requirePlace 12 = .ok (.getfield 93, 3) := by decide +kernel
theorem dX9_requirePlace_15 : decode cX9_requirePlace 15 = .ok (.if_icmp .lt 14, 3) := by decide +kernel
theorem dX9_requirePlace_18 : decode cX9_requirePlace 18 = .ok (.new 259, 3) := by decide +kernel
theorem dX9_requirePlace_21 : decode cX9_requirePlace 21 = .ok (.dup, 1) := by decide +kernel
theorem dX9_requirePlace_22 : decode cX9_requirePlace 22 = .ok (.ldc_w 303, 3) := by decide +kernel
theorem dX9_requirePlace_25 : decode cX9_requirePlace 25 = .ok (.invokespecial 263, 3) := by decide +kernel
theorem dX9_requirePlace_28 : decode cX9_requirePlace 28 = .ok (.athrow, 1) := by decide +kernel
theorem dX9_requirePlace_29 : decode cX9_requirePlace 29 = .ok (.aload_n 3, 1) := by decide +kernel
theorem dX9_requirePlace_30 : decode cX9_requirePlace 30 = .ok (.areturn, 1) := by decide +kernel
theorem dX9_requireBreeding_0 : decode cX9_requireBreeding 0 = .ok (.iload_n 1, 1) := by decide +kernel
theorem dX9_requireBreeding_1 : decode cX9_requireBreeding 1 = .ok (.iconst 1, 1) := by decide +kernel
theorem dX9_requireBreeding_2 : decode cX9_requireBreeding 2 = .ok (.if_icmp .lt 9, 3) := by decide +kernel
theorem dX9_requireBreeding_5 : decode cX9_requireBreeding 5 = .ok (.iload_n 1, 1) := by decide +kernel
theorem dX9_requireBreeding_6 : decode cX9_requireBreeding 6 = .ok (.bipush 10, 2) := by decide +kernel
theorem dX9_requireBreeding_8 : decode cX9_requireBreeding 8 = .ok (.if_icmp .le 14, 3) := by decide +kernel
theorem dX9_requireBreeding_11 : decode cX9_requireBreeding 11 = .ok (.new 120, 3) := by decide +kernel
theorem dX9_requireBreeding_14 : decode cX9_requireBreeding 14 = .ok (.dup, 1) := by decide +kernel
theorem dX9_requireBreeding_15 : decode cX9_requireBreeding 15 = .ok (.ldc_w 305, 3) := by decide +kernel
theorem dX9_requireBreeding_18 : decode cX9_requireBreeding 18 = .ok (.invokespecial 124, 3) := by decide +kernel
theorem dX9_requireBreeding_21 : decode cX9_requireBreeding 21 = .ok (.athrow, 1) := by decide +kernel
theorem dX9_requireBreeding_22 : decode cX9_requireBreeding 22 = .ok (.aload_n 0, 1) := by decide +kernel
theorem dX9_requireBreeding_23 : decode cX9_requireBreeding 23 = .ok (.getfield 54, 3) := by decide +kernel
theorem dX9_requireBreeding_26 : decode cX9_requireBreeding 26 = .ok (.getfield 99, 3) := by decide +kernel
theorem dX9_requireBreeding_29 : decode cX9_requireBreeding 29 = .ok (.ifCond .ne 14, 3) := by decide +kernel
theorem dX9_requireBreeding_32 : decode cX9_requireBreeding 32 = .ok (.new 76, 3) := by decide +kernel
theorem dX9_requireBreeding_35 : decode cX9_requireBreeding 35 = .ok (.dup, 1) := by decide +kernel
theorem dX9_requireBreeding_36 : decode cX9_requireBreeding 36 = .ok (.ldc_w 307, 3) := by decide +kernel
theorem dX9_requireBreeding_39 : decode cX9_requireBreeding 39 = .ok (.invokespecial 80, 3) := by decide +kernel
theorem dX9_requireBreeding_42 : decode cX9_requireBreeding 42 = .ok (.athrow, 1) := by decide +kernel
theorem dX9_requireBreeding_43 : decode cX9_requireBreeding 43 = .ok (.return_, 1) := by decide +kernel
theorem dX9_requireNode_0 : decode cX9_requireNode 0 = .ok (.iload_n 0, 1) := by decide +kernel
